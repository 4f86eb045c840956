section
-- ===== PART A: goes FIRST, ahead of the names: the tables' words, and 'selects' of the private methods out of them =====
/-- a private method of a class that the tables say can be made, by its rows of tables_1 -/
def lw_okq (q : MethodName × Nat) : Prop := (q.1.cls ≠ "java/lang/invoke/MethodHandle" ∧ q.1.cls ≠ "java/lang/invoke/VarHandle") ∧ Cond.instantiable q.1.cls q.2 ∈ tables_1 ∧ Cond.privateMethod q.1 ∈ tables_1 ∧ Cond.instanceMethod q.1 ∈ tables_1
theorem lw_p0 : lw_okq (⟨"CrowdRoll", "settled", "(I)I"⟩, 7) := ⟨⟨by decide +kernel, by decide +kernel⟩, List.mem_of_getElem? (i := 13) (by decide +kernel), List.mem_of_getElem? (i := 529) (by decide +kernel), List.mem_of_getElem? (i := 530) (by decide +kernel)⟩
theorem lw_p1 : lw_okq (⟨"CrowdRoll", "refused", "(I)I"⟩, 7) := ⟨⟨by decide +kernel, by decide +kernel⟩, List.mem_of_getElem? (i := 13) (by decide +kernel), List.mem_of_getElem? (i := 533) (by decide +kernel), List.mem_of_getElem? (i := 534) (by decide +kernel)⟩
theorem lw_p2 : lw_okq (⟨"CrowdRollModel", "no", "(I)I"⟩, 16) := ⟨⟨by decide +kernel, by decide +kernel⟩, List.mem_of_getElem? (i := 816) (by decide +kernel), List.mem_of_getElem? (i := 880) (by decide +kernel), List.mem_of_getElem? (i := 881) (by decide +kernel)⟩
theorem lw_p3 : lw_okq (⟨"CrowdRollModel", "isMade", "(I)Z"⟩, 16) := ⟨⟨by decide +kernel, by decide +kernel⟩, List.mem_of_getElem? (i := 816) (by decide +kernel), List.mem_of_getElem? (i := 884) (by decide +kernel), List.mem_of_getElem? (i := 885) (by decide +kernel)⟩
theorem lw_p4 : lw_okq (⟨"CrowdRollModel", "of", "(II)I"⟩, 16) := ⟨⟨by decide +kernel, by decide +kernel⟩, List.mem_of_getElem? (i := 816) (by decide +kernel), List.mem_of_getElem? (i := 888) (by decide +kernel), List.mem_of_getElem? (i := 889) (by decide +kernel)⟩
theorem lw_p5 : lw_okq (⟨"CrowdRollModel", "isFull", "()Z"⟩, 16) := ⟨⟨by decide +kernel, by decide +kernel⟩, List.mem_of_getElem? (i := 816) (by decide +kernel), List.mem_of_getElem? (i := 892) (by decide +kernel), List.mem_of_getElem? (i := 893) (by decide +kernel)⟩
theorem lw_p6 : lw_okq (⟨"CrowdRollModel", "to", "(III)V"⟩, 16) := ⟨⟨by decide +kernel, by decide +kernel⟩, List.mem_of_getElem? (i := 816) (by decide +kernel), List.mem_of_getElem? (i := 899) (by decide +kernel), List.mem_of_getElem? (i := 900) (by decide +kernel)⟩
theorem lw_p7 : lw_okq (⟨"CrowdRollModel", "goesQuiet", "(I)V"⟩, 16) := ⟨⟨by decide +kernel, by decide +kernel⟩, List.mem_of_getElem? (i := 816) (by decide +kernel), List.mem_of_getElem? (i := 903) (by decide +kernel), List.mem_of_getElem? (i := 904) (by decide +kernel)⟩
theorem lw_p8 : lw_okq (⟨"CrowdRollModel", "writes", "(IIIII)V"⟩, 16) := ⟨⟨by decide +kernel, by decide +kernel⟩, List.mem_of_getElem? (i := 816) (by decide +kernel), List.mem_of_getElem? (i := 907) (by decide +kernel), List.mem_of_getElem? (i := 908) (by decide +kernel)⟩
theorem lw_p9 : lw_okq (⟨"CrowdRollModel", "did", "(I)I"⟩, 16) := ⟨⟨by decide +kernel, by decide +kernel⟩, List.mem_of_getElem? (i := 816) (by decide +kernel), List.mem_of_getElem? (i := 914) (by decide +kernel), List.mem_of_getElem? (i := 915) (by decide +kernel)⟩
theorem lw_p10 : lw_okq (⟨"CrowdRollModel", "send", "(IIII)I"⟩, 16) := ⟨⟨by decide +kernel, by decide +kernel⟩, List.mem_of_getElem? (i := 816) (by decide +kernel), List.mem_of_getElem? (i := 922) (by decide +kernel), List.mem_of_getElem? (i := 923) (by decide +kernel)⟩
theorem lw_p11 : lw_okq (⟨"CrowdRollModel", "kindOf", "(II)I"⟩, 16) := ⟨⟨by decide +kernel, by decide +kernel⟩, List.mem_of_getElem? (i := 816) (by decide +kernel), List.mem_of_getElem? (i := 926) (by decide +kernel), List.mem_of_getElem? (i := 927) (by decide +kernel)⟩
theorem lw_p12 : lw_okq (⟨"CrowdRollModel", "carry", "(II)V"⟩, 16) := ⟨⟨by decide +kernel, by decide +kernel⟩, List.mem_of_getElem? (i := 816) (by decide +kernel), List.mem_of_getElem? (i := 930) (by decide +kernel), List.mem_of_getElem? (i := 931) (by decide +kernel)⟩
theorem lw_p13 : lw_okq (⟨"CrowdRollModel", "ran", "(I)V"⟩, 16) := ⟨⟨by decide +kernel, by decide +kernel⟩, List.mem_of_getElem? (i := 816) (by decide +kernel), List.mem_of_getElem? (i := 935) (by decide +kernel), List.mem_of_getElem? (i := 936) (by decide +kernel)⟩
theorem lw_p14 : lw_okq (⟨"CrowdRollModel", "leastTold", "(I)I"⟩, 16) := ⟨⟨by decide +kernel, by decide +kernel⟩, List.mem_of_getElem? (i := 816) (by decide +kernel), List.mem_of_getElem? (i := 940) (by decide +kernel), List.mem_of_getElem? (i := 941) (by decide +kernel)⟩
theorem lw_p15 : lw_okq (⟨"CrowdRollModel", "why", "(II)I"⟩, 16) := ⟨⟨by decide +kernel, by decide +kernel⟩, List.mem_of_getElem? (i := 816) (by decide +kernel), List.mem_of_getElem? (i := 948) (by decide +kernel), List.mem_of_getElem? (i := 949) (by decide +kernel)⟩
def lw_privs_1 : List (MethodName × Nat) := [(⟨"CrowdRoll", "settled", "(I)I"⟩, 7), (⟨"CrowdRoll", "refused", "(I)I"⟩, 7), (⟨"CrowdRollModel", "no", "(I)I"⟩, 16), (⟨"CrowdRollModel", "isMade", "(I)Z"⟩, 16), (⟨"CrowdRollModel", "of", "(II)I"⟩, 16), (⟨"CrowdRollModel", "isFull", "()Z"⟩, 16), (⟨"CrowdRollModel", "to", "(III)V"⟩, 16), (⟨"CrowdRollModel", "goesQuiet", "(I)V"⟩, 16), (⟨"CrowdRollModel", "writes", "(IIIII)V"⟩, 16), (⟨"CrowdRollModel", "did", "(I)I"⟩, 16), (⟨"CrowdRollModel", "send", "(IIII)I"⟩, 16), (⟨"CrowdRollModel", "kindOf", "(II)I"⟩, 16), (⟨"CrowdRollModel", "carry", "(II)V"⟩, 16), (⟨"CrowdRollModel", "ran", "(I)V"⟩, 16), (⟨"CrowdRollModel", "leastTold", "(I)I"⟩, 16), (⟨"CrowdRollModel", "why", "(II)I"⟩, 16)]
theorem lw_r1 : ∀ q ∈ lw_privs_1, lw_okq q := List.forall_mem_cons.mpr ⟨lw_p0, List.forall_mem_cons.mpr ⟨lw_p1, List.forall_mem_cons.mpr ⟨lw_p2, List.forall_mem_cons.mpr ⟨lw_p3, List.forall_mem_cons.mpr ⟨lw_p4, List.forall_mem_cons.mpr ⟨lw_p5, List.forall_mem_cons.mpr ⟨lw_p6, List.forall_mem_cons.mpr ⟨lw_p7, List.forall_mem_cons.mpr ⟨lw_p8, List.forall_mem_cons.mpr ⟨lw_p9, List.forall_mem_cons.mpr ⟨lw_p10, List.forall_mem_cons.mpr ⟨lw_p11, List.forall_mem_cons.mpr ⟨lw_p12, List.forall_mem_cons.mpr ⟨lw_p13, List.forall_mem_cons.mpr ⟨lw_p14, List.forall_mem_cons.mpr ⟨lw_p15, fun _ h => absurd h List.not_mem_nil⟩⟩⟩⟩⟩⟩⟩⟩⟩⟩⟩⟩⟩⟩⟩⟩
theorem lw_p16 : lw_okq (⟨"CrowdRollModel", "sendsThree", "(IIII)I"⟩, 16) := ⟨⟨by decide +kernel, by decide +kernel⟩, List.mem_of_getElem? (i := 816) (by decide +kernel), List.mem_of_getElem? (i := 952) (by decide +kernel), List.mem_of_getElem? (i := 953) (by decide +kernel)⟩
theorem lw_p17 : lw_okq (⟨"CrowdRollModel", "gather", "(II)V"⟩, 16) := ⟨⟨by decide +kernel, by decide +kernel⟩, List.mem_of_getElem? (i := 816) (by decide +kernel), List.mem_of_getElem? (i := 956) (by decide +kernel), List.mem_of_getElem? (i := 957) (by decide +kernel)⟩
theorem lw_p18 : lw_okq (⟨"CrowdRollModel", "isAround", "(II)Z"⟩, 16) := ⟨⟨by decide +kernel, by decide +kernel⟩, List.mem_of_getElem? (i := 816) (by decide +kernel), List.mem_of_getElem? (i := 960) (by decide +kernel), List.mem_of_getElem? (i := 961) (by decide +kernel)⟩
theorem lw_p19 : lw_okq (⟨"CrowdRollModel", "draw", "(II)I"⟩, 16) := ⟨⟨by decide +kernel, by decide +kernel⟩, List.mem_of_getElem? (i := 816) (by decide +kernel), List.mem_of_getElem? (i := 964) (by decide +kernel), List.mem_of_getElem? (i := 965) (by decide +kernel)⟩
theorem lw_p20 : lw_okq (⟨"CrowdRollModel", "takesTurn", "(I)I"⟩, 16) := ⟨⟨by decide +kernel, by decide +kernel⟩, List.mem_of_getElem? (i := 816) (by decide +kernel), List.mem_of_getElem? (i := 974) (by decide +kernel), List.mem_of_getElem? (i := 975) (by decide +kernel)⟩
theorem lw_p21 : lw_okq (⟨"CrowdRollModel", "nextOf", "(I)I"⟩, 16) := ⟨⟨by decide +kernel, by decide +kernel⟩, List.mem_of_getElem? (i := 816) (by decide +kernel), List.mem_of_getElem? (i := 978) (by decide +kernel), List.mem_of_getElem? (i := 979) (by decide +kernel)⟩
theorem lw_p22 : lw_okq (⟨"CrowdRollModel", "stillThere", "(I)I"⟩, 16) := ⟨⟨by decide +kernel, by decide +kernel⟩, List.mem_of_getElem? (i := 816) (by decide +kernel), List.mem_of_getElem? (i := 982) (by decide +kernel), List.mem_of_getElem? (i := 983) (by decide +kernel)⟩
theorem lw_p23 : lw_okq (⟨"CrowdRollModel", "mix", "(I)V"⟩, 16) := ⟨⟨by decide +kernel, by decide +kernel⟩, List.mem_of_getElem? (i := 816) (by decide +kernel), List.mem_of_getElem? (i := 986) (by decide +kernel), List.mem_of_getElem? (i := 987) (by decide +kernel)⟩
theorem lw_p24 : lw_okq (⟨"CrowdRollModel", "whyLetter", "(I)I"⟩, 16) := ⟨⟨by decide +kernel, by decide +kernel⟩, List.mem_of_getElem? (i := 816) (by decide +kernel), List.mem_of_getElem? (i := 1002) (by decide +kernel), List.mem_of_getElem? (i := 1003) (by decide +kernel)⟩
theorem lw_p25 : lw_okq (⟨"CrowdRollModel", "isLetter", "(I)Z"⟩, 16) := ⟨⟨by decide +kernel, by decide +kernel⟩, List.mem_of_getElem? (i := 816) (by decide +kernel), List.mem_of_getElem? (i := 1006) (by decide +kernel), List.mem_of_getElem? (i := 1007) (by decide +kernel)⟩
theorem lw_p26 : lw_okq (⟨"CrowdRollModel", "letterOf", "(II)I"⟩, 16) := ⟨⟨by decide +kernel, by decide +kernel⟩, List.mem_of_getElem? (i := 816) (by decide +kernel), List.mem_of_getElem? (i := 1010) (by decide +kernel), List.mem_of_getElem? (i := 1011) (by decide +kernel)⟩
theorem lw_p27 : lw_okq (⟨"CrowdRollModel", "comes", "(I)I"⟩, 16) := ⟨⟨by decide +kernel, by decide +kernel⟩, List.mem_of_getElem? (i := 816) (by decide +kernel), List.mem_of_getElem? (i := 1014) (by decide +kernel), List.mem_of_getElem? (i := 1015) (by decide +kernel)⟩
theorem lw_p28 : lw_okq (⟨"CrowdRollModel", "takes", "(IIIII)V"⟩, 16) := ⟨⟨by decide +kernel, by decide +kernel⟩, List.mem_of_getElem? (i := 816) (by decide +kernel), List.mem_of_getElem? (i := 1018) (by decide +kernel), List.mem_of_getElem? (i := 1019) (by decide +kernel)⟩
theorem lw_p29 : lw_okq (⟨"CrowdRollModel", "answered", "(II)V"⟩, 16) := ⟨⟨by decide +kernel, by decide +kernel⟩, List.mem_of_getElem? (i := 816) (by decide +kernel), List.mem_of_getElem? (i := 1022) (by decide +kernel), List.mem_of_getElem? (i := 1023) (by decide +kernel)⟩
theorem lw_p30 : lw_okq (⟨"CrowdRollModel", "withState", "(I)I"⟩, 16) := ⟨⟨by decide +kernel, by decide +kernel⟩, List.mem_of_getElem? (i := 816) (by decide +kernel), List.mem_of_getElem? (i := 1030) (by decide +kernel), List.mem_of_getElem? (i := 1031) (by decide +kernel)⟩
theorem lw_p31 : lw_okq (⟨"CrowdRollModel", "links", "(III)I"⟩, 16) := ⟨⟨by decide +kernel, by decide +kernel⟩, List.mem_of_getElem? (i := 816) (by decide +kernel), List.mem_of_getElem? (i := 1042) (by decide +kernel), List.mem_of_getElem? (i := 1043) (by decide +kernel)⟩
def lw_privs_2 : List (MethodName × Nat) := [(⟨"CrowdRollModel", "sendsThree", "(IIII)I"⟩, 16), (⟨"CrowdRollModel", "gather", "(II)V"⟩, 16), (⟨"CrowdRollModel", "isAround", "(II)Z"⟩, 16), (⟨"CrowdRollModel", "draw", "(II)I"⟩, 16), (⟨"CrowdRollModel", "takesTurn", "(I)I"⟩, 16), (⟨"CrowdRollModel", "nextOf", "(I)I"⟩, 16), (⟨"CrowdRollModel", "stillThere", "(I)I"⟩, 16), (⟨"CrowdRollModel", "mix", "(I)V"⟩, 16), (⟨"CrowdRollModel", "whyLetter", "(I)I"⟩, 16), (⟨"CrowdRollModel", "isLetter", "(I)Z"⟩, 16), (⟨"CrowdRollModel", "letterOf", "(II)I"⟩, 16), (⟨"CrowdRollModel", "comes", "(I)I"⟩, 16), (⟨"CrowdRollModel", "takes", "(IIIII)V"⟩, 16), (⟨"CrowdRollModel", "answered", "(II)V"⟩, 16), (⟨"CrowdRollModel", "withState", "(I)I"⟩, 16), (⟨"CrowdRollModel", "links", "(III)I"⟩, 16)]
theorem lw_r2 : ∀ q ∈ lw_privs_2, lw_okq q := List.forall_mem_cons.mpr ⟨lw_p16, List.forall_mem_cons.mpr ⟨lw_p17, List.forall_mem_cons.mpr ⟨lw_p18, List.forall_mem_cons.mpr ⟨lw_p19, List.forall_mem_cons.mpr ⟨lw_p20, List.forall_mem_cons.mpr ⟨lw_p21, List.forall_mem_cons.mpr ⟨lw_p22, List.forall_mem_cons.mpr ⟨lw_p23, List.forall_mem_cons.mpr ⟨lw_p24, List.forall_mem_cons.mpr ⟨lw_p25, List.forall_mem_cons.mpr ⟨lw_p26, List.forall_mem_cons.mpr ⟨lw_p27, List.forall_mem_cons.mpr ⟨lw_p28, List.forall_mem_cons.mpr ⟨lw_p29, List.forall_mem_cons.mpr ⟨lw_p30, List.forall_mem_cons.mpr ⟨lw_p31, fun _ h => absurd h List.not_mem_nil⟩⟩⟩⟩⟩⟩⟩⟩⟩⟩⟩⟩⟩⟩⟩⟩
theorem lw_p32 : lw_okq (⟨"CrowdRollModel", "whyNews", "(II)I"⟩, 16) := ⟨⟨by decide +kernel, by decide +kernel⟩, List.mem_of_getElem? (i := 816) (by decide +kernel), List.mem_of_getElem? (i := 1081) (by decide +kernel), List.mem_of_getElem? (i := 1082) (by decide +kernel)⟩
theorem lw_p33 : lw_okq (⟨"CrowdRollModel", "isApart", "()Z"⟩, 16) := ⟨⟨by decide +kernel, by decide +kernel⟩, List.mem_of_getElem? (i := 816) (by decide +kernel), List.mem_of_getElem? (i := 1111) (by decide +kernel), List.mem_of_getElem? (i := 1112) (by decide +kernel)⟩
theorem lw_p34 : lw_okq (⟨"CrowdRollModel", "differ", "(III)Z"⟩, 16) := ⟨⟨by decide +kernel, by decide +kernel⟩, List.mem_of_getElem? (i := 816) (by decide +kernel), List.mem_of_getElem? (i := 1115) (by decide +kernel), List.mem_of_getElem? (i := 1116) (by decide +kernel)⟩
theorem lw_p35 : lw_okq (⟨"CrowdRollModel", "pieceOf", "(II)I"⟩, 16) := ⟨⟨by decide +kernel, by decide +kernel⟩, List.mem_of_getElem? (i := 816) (by decide +kernel), List.mem_of_getElem? (i := 1132) (by decide +kernel), List.mem_of_getElem? (i := 1133) (by decide +kernel)⟩
theorem lw_p36 : lw_okq (⟨"CrowdRollModel", "isStep", "(I)Z"⟩, 16) := ⟨⟨by decide +kernel, by decide +kernel⟩, List.mem_of_getElem? (i := 816) (by decide +kernel), List.mem_of_getElem? (i := 1140) (by decide +kernel), List.mem_of_getElem? (i := 1141) (by decide +kernel)⟩
theorem lw_p37 : lw_okq (⟨"CrowdRollModel", "stands", "(IIIII)Z"⟩, 16) := ⟨⟨by decide +kernel, by decide +kernel⟩, List.mem_of_getElem? (i := 816) (by decide +kernel), List.mem_of_getElem? (i := 1152) (by decide +kernel), List.mem_of_getElem? (i := 1153) (by decide +kernel)⟩
def lw_privs_3 : List (MethodName × Nat) := [(⟨"CrowdRollModel", "whyNews", "(II)I"⟩, 16), (⟨"CrowdRollModel", "isApart", "()Z"⟩, 16), (⟨"CrowdRollModel", "differ", "(III)Z"⟩, 16), (⟨"CrowdRollModel", "pieceOf", "(II)I"⟩, 16), (⟨"CrowdRollModel", "isStep", "(I)Z"⟩, 16), (⟨"CrowdRollModel", "stands", "(IIIII)Z"⟩, 16)]
theorem lw_r3 : ∀ q ∈ lw_privs_3, lw_okq q := List.forall_mem_cons.mpr ⟨lw_p32, List.forall_mem_cons.mpr ⟨lw_p33, List.forall_mem_cons.mpr ⟨lw_p34, List.forall_mem_cons.mpr ⟨lw_p35, List.forall_mem_cons.mpr ⟨lw_p36, List.forall_mem_cons.mpr ⟨lw_p37, fun _ h => absurd h List.not_mem_nil⟩⟩⟩⟩⟩⟩
def lw_privs : List (MethodName × Nat) := lw_privs_1 ++ (lw_privs_2 ++ (lw_privs_3))
def lw_tbl : List Cond := k2_sels lw_privs ++ tables_1
theorem lw_privs_ok : ∀ q ∈ lw_privs, lw_okq q := by
  show ∀ q ∈ lw_privs_1 ++ (lw_privs_2 ++ (lw_privs_3)), lw_okq q
  exact List.forall_mem_append.mpr ⟨lw_r1, List.forall_mem_append.mpr ⟨lw_r2, lw_r3⟩⟩
end
section
def RX0 : String := "CrowdRoll$Books"
def TX0 : u_T := fun k => match k with
  | 0 => ("CrowdRoll$Books", "letters", "LCrowdRoll$Rows;", true)
  | 1 => ("CrowdRoll$Books", "pieces", "LCrowdRoll$Rows;", true)
  | 2 => ("CrowdRoll$Books", "delivered", "I", false)
  | _ => ("CrowdRoll$Books", "lost", "I", false)
def tyX0 : Nat → FieldType := fun k => match k with
  | 0 => .object "CrowdRoll$Rows"
  | 1 => .object "CrowdRoll$Rows"
  | 2 => .int
  | _ => .int
abbrev wsX00 : List Cond := u_ws RX0 TX0 4
theorem nmX0 : ∀ a, a < 4 → ∀ b, b < 4 → a ≠ b → (TX0 a).2.1 ≠ (TX0 b).2.1 := by decide +kernel
theorem tyX0_ok : ∀ k, k < 4 → parseFieldDescriptor (TX0 k).2.2.1 = some (tyX0 k) := by decide +kernel
abbrev cX0_init : ByteArray := prog_2_method_1_code
def yX0_init : MethodName := ⟨RX0, "<init>", "()V"⟩
abbrev cX0_clear : ByteArray := prog_2_method_2_code
def yX0_clear : MethodName := ⟨RX0, "clear", "()V"⟩
abbrev cX0_hasRoom : ByteArray := prog_2_method_3_code
def yX0_hasRoom : MethodName := ⟨RX0, "hasRoom", "()Z"⟩
abbrev cX0_reserveForAct : ByteArray := prog_2_method_4_code
def yX0_reserveForAct : MethodName := ⟨RX0, "reserveForAct", "()V"⟩
abbrev cX0_sent : ByteArray := prog_2_method_5_code
def yX0_sent : MethodName := ⟨RX0, "sent", "()I"⟩
abbrev cX0_stillUnderWay : ByteArray := prog_2_method_6_code
def yX0_stillUnderWay : MethodName := ⟨RX0, "stillUnderWay", "()I"⟩
abbrev cX0_hasLetter : ByteArray := prog_2_method_7_code
def yX0_hasLetter : MethodName := ⟨RX0, "hasLetter", "(I)Z"⟩
abbrev cX0_ofLetter : ByteArray := prog_2_method_8_code
def yX0_ofLetter : MethodName := ⟨RX0, "ofLetter", "(II)I"⟩
abbrev cX0_ofPiece : ByteArray := prog_2_method_9_code
def yX0_ofPiece : MethodName := ⟨RX0, "ofPiece", "(III)I"⟩
abbrev cX0_nthUnderWay : ByteArray := prog_2_method_10_code
def yX0_nthUnderWay : MethodName := ⟨RX0, "nthUnderWay", "(I)I"⟩
abbrev cX0_open : ByteArray := prog_2_method_11_code
def yX0_open : MethodName := ⟨RX0, "open", "(IIIII)I"⟩
abbrev cX0_put : ByteArray := prog_2_method_12_code
def yX0_put : MethodName := ⟨RX0, "put", "(IIII)V"⟩
abbrev cX0_sendCopy : ByteArray := prog_2_method_13_code
def yX0_sendCopy : MethodName := ⟨RX0, "sendCopy", "(I)I"⟩
abbrev cX0_endAsDelivered : ByteArray := prog_2_method_14_code
def yX0_endAsDelivered : MethodName := ⟨RX0, "endAsDelivered", "(I)V"⟩
abbrev cX0_endAsLost : ByteArray := prog_2_method_15_code
def yX0_endAsLost : MethodName := ⟨RX0, "endAsLost", "(I)V"⟩
abbrev cX0_findPiece : ByteArray := prog_2_method_16_code
def yX0_findPiece : MethodName := ⟨RX0, "findPiece", "(II)I"⟩
abbrev cX0_reached : ByteArray := prog_2_method_17_code
def yX0_reached : MethodName := ⟨RX0, "reached", "(II)Z"⟩
abbrev cX0_become : ByteArray := prog_2_method_18_code
def yX0_become : MethodName := ⟨RX0, "become", "(LCrowdRoll$Books;)V"⟩
abbrev cX0_sameAs : ByteArray := prog_2_method_19_code
def yX0_sameAs : MethodName := ⟨RX0, "sameAs", "(LCrowdRoll$Books;)Z"⟩
def RX1 : String := "CrowdRoll$Member"
def TX1 : u_T := fun k => match k with
  | 0 => ("CrowdRoll$Member", "self", "I", true)
  | 1 => ("CrowdRoll$Member", "made", "Z", false)
  | 2 => ("CrowdRoll$Member", "standing", "I", false)
  | 3 => ("CrowdRoll$Member", "seed", "J", false)
  | 4 => ("CrowdRoll$Member", "term", "I", false)
  | 5 => ("CrowdRoll$Member", "turns", "I", false)
  | 6 => ("CrowdRoll$Member", "asked", "I", false)
  | 7 => ("CrowdRoll$Member", "bidFor", "I", false)
  | 8 => ("CrowdRoll$Member", "kinds", "[I", true)
  | 9 => ("CrowdRoll$Member", "terms", "[I", true)
  | 10 => ("CrowdRoll$Member", "told", "[I", true)
  | 11 => ("CrowdRoll$Member", "came", "[I", true)
  | 12 => ("CrowdRoll$Member", "brought", "[I", true)
  | 13 => ("CrowdRoll$Member", "round", "[I", true)
  | 14 => ("CrowdRoll$Member", "roundSize", "I", false)
  | _ => ("CrowdRoll$Member", "place", "I", false)
def tyX1 : Nat → FieldType := fun k => match k with
  | 0 => .int
  | 1 => .boolean
  | 2 => .int
  | 3 => .long
  | 4 => .int
  | 5 => .int
  | 6 => .int
  | 7 => .int
  | 8 => .array .int
  | 9 => .array .int
  | 10 => .array .int
  | 11 => .array .int
  | 12 => .array .int
  | 13 => .array .int
  | 14 => .int
  | _ => .int
abbrev wsX10 : List Cond := u_ws RX1 TX1 16
theorem nmX1 : ∀ a, a < 16 → ∀ b, b < 16 → a ≠ b → (TX1 a).2.1 ≠ (TX1 b).2.1 := by decide +kernel
theorem tyX1_ok : ∀ k, k < 16 → parseFieldDescriptor (TX1 k).2.2.1 = some (tyX1 k) := by decide +kernel
abbrev cX1_init : ByteArray := prog_3_method_1_code
def yX1_init : MethodName := ⟨RX1, "<init>", "(I)V"⟩
abbrev cX1_begin : ByteArray := prog_3_method_2_code
def yX1_begin : MethodName := ⟨RX1, "begin", "(J)V"⟩
abbrev cX1_forgetAll : ByteArray := prog_3_method_3_code
def yX1_forgetAll : MethodName := ⟨RX1, "forgetAll", "()V"⟩
abbrev cX1_stopAsking : ByteArray := prog_3_method_4_code
def yX1_stopAsking : MethodName := ⟨RX1, "stopAsking", "()V"⟩
abbrev cX1_say : ByteArray := prog_3_method_5_code
def yX1_say : MethodName := ⟨RX1, "say", "(III)V"⟩
abbrev cX1_enter : ByteArray := prog_3_method_6_code
def yX1_enter : MethodName := ⟨RX1, "enter", "(IIII)V"⟩
abbrev cX1_raiseTerm : ByteArray := prog_3_method_7_code
def yX1_raiseTerm : MethodName := ⟨RX1, "raiseTerm", "(I)V"⟩
abbrev cX1_takePiece : ByteArray := prog_3_method_8_code
def yX1_takePiece : MethodName := ⟨RX1, "takePiece", "(IIII)Z"⟩
abbrev cX1_isBeaten : ByteArray := prog_3_method_9_code
def yX1_isBeaten : MethodName := ⟨RX1, "isBeaten", "(III)Z"⟩
abbrev cX1_hasNews : ByteArray := prog_3_method_10_code
def yX1_hasNews : MethodName := ⟨RX1, "hasNews", "(I)Z"⟩
abbrev cX1_thinksLiving : ByteArray := prog_3_method_11_code
def yX1_thinksLiving : MethodName := ⟨RX1, "thinksLiving", "(I)Z"⟩
abbrev cX1_saysItself : ByteArray := prog_3_method_12_code
def yX1_saysItself : MethodName := ⟨RX1, "saysItself", "(III)Z"⟩
abbrev cX1_countKind : ByteArray := prog_3_method_13_code
def yX1_countKind : MethodName := ⟨RX1, "countKind", "(I)I"⟩
abbrev cX1_isAnswered : ByteArray := prog_3_method_14_code
def yX1_isAnswered : MethodName := ⟨RX1, "isAnswered", "(I)V"⟩
abbrev cX1_stirred : ByteArray := prog_3_method_15_code
def yX1_stirred : MethodName := ⟨RX1, "stirred", "(J)J"⟩
abbrev cX1_drawn : ByteArray := prog_3_method_16_code
def yX1_drawn : MethodName := ⟨RX1, "drawn", "(JI)I"⟩
abbrev cX1_draw : ByteArray := prog_3_method_17_code
def yX1_draw : MethodName := ⟨RX1, "draw", "(I)I"⟩
abbrev cX1_gatherLiving : ByteArray := prog_3_method_18_code
def yX1_gatherLiving : MethodName := ⟨RX1, "gatherLiving", "([II)I"⟩
abbrev cX1_shuffle : ByteArray := prog_3_method_19_code
def yX1_shuffle : MethodName := ⟨RX1, "shuffle", "([IIJ)J"⟩
abbrev cX1_makeRound : ByteArray := prog_3_method_20_code
def yX1_makeRound : MethodName := ⟨RX1, "makeRound", "()V"⟩
abbrev cX1_nextPlace : ByteArray := prog_3_method_21_code
def yX1_nextPlace : MethodName := ⟨RX1, "nextPlace", "()I"⟩
abbrev cX1_stepRound : ByteArray := prog_3_method_22_code
def yX1_stepRound : MethodName := ⟨RX1, "stepRound", "()I"⟩
abbrev cX1_wouldAsk : ByteArray := prog_3_method_23_code
def yX1_wouldAsk : MethodName := ⟨RX1, "wouldAsk", "([I)I"⟩
abbrev cX1_pickAll : ByteArray := prog_3_method_24_code
def yX1_pickAll : MethodName := ⟨RX1, "pickAll", "([I)I"⟩
abbrev cX1_pickFreshest : ByteArray := prog_3_method_25_code
def yX1_pickFreshest : MethodName := ⟨RX1, "pickFreshest", "([I)I"⟩
abbrev cX1_pickInOrder : ByteArray := prog_3_method_26_code
def yX1_pickInOrder : MethodName := ⟨RX1, "pickInOrder", "([III)I"⟩
abbrev cX1_become : ByteArray := prog_3_method_27_code
def yX1_become : MethodName := ⟨RX1, "become", "(LCrowdRoll$Member;)V"⟩
abbrev cX1_sameAs : ByteArray := prog_3_method_28_code
def yX1_sameAs : MethodName := ⟨RX1, "sameAs", "(LCrowdRoll$Member;)Z"⟩
abbrev cX1_differsIn : ByteArray := prog_3_method_29_code
def yX1_differsIn : MethodName := ⟨RX1, "differsIn", "(LCrowdRoll$Member;)I"⟩
def RX2 : String := "CrowdRoll$Refusals"
def TX2 : u_T := fun k => match k with
  | 0 => ("CrowdRoll$Refusals", "counts", "[I", true)
  | _ => ("CrowdRoll$Refusals", "latest", "I", false)
def tyX2 : Nat → FieldType := fun k => match k with
  | 0 => .array .int
  | _ => .int
abbrev wsX20 : List Cond := u_ws RX2 TX2 2
theorem nmX2 : ∀ a, a < 2 → ∀ b, b < 2 → a ≠ b → (TX2 a).2.1 ≠ (TX2 b).2.1 := by decide +kernel
theorem tyX2_ok : ∀ k, k < 2 → parseFieldDescriptor (TX2 k).2.2.1 = some (tyX2 k) := by decide +kernel
abbrev cX2_init : ByteArray := prog_4_method_1_code
def yX2_init : MethodName := ⟨RX2, "<init>", "()V"⟩
abbrev cX2_keep : ByteArray := prog_4_method_2_code
def yX2_keep : MethodName := ⟨RX2, "keep", "(I)V"⟩
abbrev cX2_throwLatest : ByteArray := prog_4_method_3_code
def yX2_throwLatest : MethodName := ⟨RX2, "throwLatest", "()I"⟩
def RX3 : String := "CrowdRoll$Rows"
def TX3 : u_T := fun k => match k with
  | 0 => ("CrowdRoll$Rows", "width", "I", true)
  | 1 => ("CrowdRoll$Rows", "most", "I", true)
  | 2 => ("CrowdRoll$Rows", "cells", "[I", false)
  | _ => ("CrowdRoll$Rows", "size", "I", false)
def tyX3 : Nat → FieldType := fun k => match k with
  | 0 => .int
  | 1 => .int
  | 2 => .array .int
  | _ => .int
abbrev wsX30 : List Cond := u_ws RX3 TX3 4
theorem nmX3 : ∀ a, a < 4 → ∀ b, b < 4 → a ≠ b → (TX3 a).2.1 ≠ (TX3 b).2.1 := by decide +kernel
theorem tyX3_ok : ∀ k, k < 4 → parseFieldDescriptor (TX3 k).2.2.1 = some (tyX3 k) := by decide +kernel
abbrev cX3_init : ByteArray := prog_5_method_1_code
def yX3_init : MethodName := ⟨RX3, "<init>", "(II)V"⟩
abbrev cX3_reserve : ByteArray := prog_5_method_2_code
def yX3_reserve : MethodName := ⟨RX3, "reserve", "(I)V"⟩
abbrev cX3_add : ByteArray := prog_5_method_3_code
def yX3_add : MethodName := ⟨RX3, "add", "()I"⟩
abbrev cX3_get : ByteArray := prog_5_method_4_code
def yX3_get : MethodName := ⟨RX3, "get", "(II)I"⟩
abbrev cX3_set : ByteArray := prog_5_method_5_code
def yX3_set : MethodName := ⟨RX3, "set", "(III)V"⟩
abbrev cX3_become : ByteArray := prog_5_method_6_code
def yX3_become : MethodName := ⟨RX3, "become", "(LCrowdRoll$Rows;)V"⟩
abbrev cX3_sameAs : ByteArray := prog_5_method_7_code
def yX3_sameAs : MethodName := ⟨RX3, "sameAs", "(LCrowdRoll$Rows;)Z"⟩
def RX4 : String := "CrowdRoll$Way"
def TX4 : u_T := fun k => match k with
  | 0 => ("CrowdRoll$Way", "steps", "[I", false)
  | _ => ("CrowdRoll$Way", "size", "I", false)
def tyX4 : Nat → FieldType := fun k => match k with
  | 0 => .array .int
  | _ => .int
abbrev wsX40 : List Cond := u_ws RX4 TX4 2
theorem nmX4 : ∀ a, a < 2 → ∀ b, b < 2 → a ≠ b → (TX4 a).2.1 ≠ (TX4 b).2.1 := by decide +kernel
theorem tyX4_ok : ∀ k, k < 2 → parseFieldDescriptor (TX4 k).2.2.1 = some (tyX4 k) := by decide +kernel
abbrev cX4_init : ByteArray := prog_6_method_1_code
def yX4_init : MethodName := ⟨RX4, "<init>", "()V"⟩
abbrev cX4_follow : ByteArray := prog_6_method_2_code
def yX4_follow : MethodName := ⟨RX4, "follow", "(LCrowdRoll$Books;II)V"⟩
abbrev cX4_add : ByteArray := prog_6_method_3_code
def yX4_add : MethodName := ⟨RX4, "add", "(I)V"⟩
abbrev cX4_stands : ByteArray := prog_6_method_4_code
def yX4_stands : MethodName := ⟨RX4, "stands", "(LCrowdRoll$Books;IIII)Z"⟩
def RX5 : String := "CrowdRoll$World"
def TX5 : u_T := fun k => match k with
  | 0 => ("CrowdRoll$World", "members", "[LCrowdRoll$Member;", true)
  | 1 => ("CrowdRoll$World", "made", "I", false)
  | 2 => ("CrowdRoll$World", "cuts", "[J", true)
  | 3 => ("CrowdRoll$World", "books", "LCrowdRoll$Books;", true)
  | 4 => ("CrowdRoll$World", "acts", "LCrowdRoll$Rows;", true)
  | 5 => ("CrowdRoll$World", "traces", "[I", true)
  | 6 => ("CrowdRoll$World", "picks", "[I", true)
  | _ => ("CrowdRoll$World", "drawRow", "[I", true)
def tyX5 : Nat → FieldType := fun k => match k with
  | 0 => .array (.object "CrowdRoll$Member")
  | 1 => .int
  | 2 => .array .long
  | 3 => .object "CrowdRoll$Books"
  | 4 => .object "CrowdRoll$Rows"
  | 5 => .array .int
  | 6 => .array .int
  | _ => .array .int
abbrev wsX50 : List Cond := u_ws RX5 TX5 8
theorem nmX5 : ∀ a, a < 8 → ∀ b, b < 8 → a ≠ b → (TX5 a).2.1 ≠ (TX5 b).2.1 := by decide +kernel
theorem tyX5_ok : ∀ k, k < 8 → parseFieldDescriptor (TX5 k).2.2.1 = some (tyX5 k) := by decide +kernel
abbrev cX5_init : ByteArray := prog_7_method_1_code
def yX5_init : MethodName := ⟨RX5, "<init>", "()V"⟩
abbrev cX5_clear : ByteArray := prog_7_method_2_code
def yX5_clear : MethodName := ⟨RX5, "clear", "()V"⟩
abbrev cX5_memberAt : ByteArray := prog_7_method_3_code
def yX5_memberAt : MethodName := ⟨RX5, "memberAt", "(I)LCrowdRoll$Member;"⟩
abbrev cX5_seat : ByteArray := prog_7_method_4_code
def yX5_seat : MethodName := ⟨RX5, "seat", "(I)LCrowdRoll$Member;"⟩
abbrev cX5_upAt : ByteArray := prog_7_method_5_code
def yX5_upAt : MethodName := ⟨RX5, "upAt", "(I)LCrowdRoll$Member;"⟩
abbrev cX5_whyNoMember : ByteArray := prog_7_method_6_code
def yX5_whyNoMember : MethodName := ⟨RX5, "whyNoMember", "(I)I"⟩
abbrev cX5_whyNoNews : ByteArray := prog_7_method_7_code
def yX5_whyNoNews : MethodName := ⟨RX5, "whyNoNews", "(II)I"⟩
abbrev cX5_perform : ByteArray := prog_7_method_8_code
def yX5_perform : MethodName := ⟨RX5, "perform", "(IIIJ)I"⟩
abbrev cX5_keepAct : ByteArray := prog_7_method_9_code
def yX5_keepAct : MethodName := ⟨RX5, "keepAct", "(IIIJ)V"⟩
abbrev cX5_whyRefused : ByteArray := prog_7_method_10_code
def yX5_whyRefused : MethodName := ⟨RX5, "whyRefused", "(III)I"⟩
abbrev cX5_isBeyond : ByteArray := prog_7_method_11_code
def yX5_isBeyond : MethodName := ⟨RX5, "isBeyond", "(III)Z"⟩
abbrev cX5_isMissing : ByteArray := prog_7_method_12_code
def yX5_isMissing : MethodName := ⟨RX5, "isMissing", "(III)Z"⟩
abbrev cX5_isDown : ByteArray := prog_7_method_13_code
def yX5_isDown : MethodName := ⟨RX5, "isDown", "(II)Z"⟩
abbrev cX5_isNotAsTold : ByteArray := prog_7_method_14_code
def yX5_isNotAsTold : MethodName := ⟨RX5, "isNotAsTold", "(III)Z"⟩
abbrev cX5_makeMember : ByteArray := prog_7_method_15_code
def yX5_makeMember : MethodName := ⟨RX5, "makeMember", "(IJ)I"⟩
abbrev cX5_goAway : ByteArray := prog_7_method_16_code
def yX5_goAway : MethodName := ⟨RX5, "goAway", "(LCrowdRoll$Member;)I"⟩
abbrev cX5_fallDown : ByteArray := prog_7_method_17_code
def yX5_fallDown : MethodName := ⟨RX5, "fallDown", "(LCrowdRoll$Member;)I"⟩
abbrev cX5_riseUp : ByteArray := prog_7_method_18_code
def yX5_riseUp : MethodName := ⟨RX5, "riseUp", "(LCrowdRoll$Member;)I"⟩
abbrev cX5_takeTurn : ByteArray := prog_7_method_19_code
def yX5_takeTurn : MethodName := ⟨RX5, "takeTurn", "(LCrowdRoll$Member;)I"⟩
abbrev cX5_endOldDoubts : ByteArray := prog_7_method_20_code
def yX5_endOldDoubts : MethodName := ⟨RX5, "endOldDoubts", "(LCrowdRoll$Member;)V"⟩
abbrev cX5_doubtUnanswered : ByteArray := prog_7_method_21_code
def yX5_doubtUnanswered : MethodName := ⟨RX5, "doubtUnanswered", "(LCrowdRoll$Member;)V"⟩
abbrev cX5_askNext : ByteArray := prog_7_method_22_code
def yX5_askNext : MethodName := ⟨RX5, "askNext", "(LCrowdRoll$Member;)I"⟩
abbrev cX5_sendDrawn : ByteArray := prog_7_method_23_code
def yX5_sendDrawn : MethodName := ⟨RX5, "sendDrawn", "(LCrowdRoll$Member;II)I"⟩
abbrev cX5_send : ByteArray := prog_7_method_24_code
def yX5_send : MethodName := ⟨RX5, "send", "(LCrowdRoll$Member;III)I"⟩
abbrev cX5_bring : ByteArray := prog_7_method_25_code
def yX5_bring : MethodName := ⟨RX5, "bring", "(I)I"⟩
abbrev cX5_takeNews : ByteArray := prog_7_method_26_code
def yX5_takeNews : MethodName := ⟨RX5, "takeNews", "(LCrowdRoll$Member;I)V"⟩
abbrev cX5_respond : ByteArray := prog_7_method_27_code
def yX5_respond : MethodName := ⟨RX5, "respond", "(LCrowdRoll$Member;I)I"⟩
abbrev cX5_isCut : ByteArray := prog_7_method_28_code
def yX5_isCut : MethodName := ⟨RX5, "isCut", "(II)Z"⟩
abbrev cX5_setLink : ByteArray := prog_7_method_29_code
def yX5_setLink : MethodName := ⟨RX5, "setLink", "(IIZ)I"⟩
abbrev cX5_tally : ByteArray := prog_7_method_30_code
def yX5_tally : MethodName := ⟨RX5, "tally", "(I)V"⟩
abbrev cX5_firstUp : ByteArray := prog_7_method_31_code
def yX5_firstUp : MethodName := ⟨RX5, "firstUp", "()LCrowdRoll$Member;"⟩
abbrev cX5_firstApart : ByteArray := prog_7_method_32_code
def yX5_firstApart : MethodName := ⟨RX5, "firstApart", "(I)I"⟩
abbrev cX5_countUpWith : ByteArray := prog_7_method_33_code
def yX5_countUpWith : MethodName := ⟨RX5, "countUpWith", "(II)I"⟩
abbrev cX5_become : ByteArray := prog_7_method_34_code
def yX5_become : MethodName := ⟨RX5, "become", "(LCrowdRoll$World;)V"⟩
abbrev cX5_sameAs : ByteArray := prog_7_method_35_code
def yX5_sameAs : MethodName := ⟨RX5, "sameAs", "(LCrowdRoll$World;)Z"⟩
def RX6 : String := "CrowdRoll"
def TX6 : u_T := fun k => match k with
  | 0 => ("CrowdRoll", "world", "LCrowdRoll$World;", true)
  | 1 => ("CrowdRoll", "refusals", "LCrowdRoll$Refusals;", true)
  | 2 => ("CrowdRoll", "lastWay", "LCrowdRoll$Way;", true)
  | 3 => ("CrowdRoll", "numbers", "[I", true)
  | 4 => ("CrowdRoll", "spareRow", "[I", true)
  | 5 => ("CrowdRoll", "kept", "LCrowdRoll$World;", false)
  | _ => ("CrowdRoll", "beside", "LCrowdRoll$World;", false)
def tyX6 : Nat → FieldType := fun k => match k with
  | 0 => .object "CrowdRoll$World"
  | 1 => .object "CrowdRoll$Refusals"
  | 2 => .object "CrowdRoll$Way"
  | 3 => .array .int
  | 4 => .array .int
  | 5 => .object "CrowdRoll$World"
  | _ => .object "CrowdRoll$World"
abbrev wsX60 : List Cond := u_ws RX6 TX6 7
theorem nmX6 : ∀ a, a < 7 → ∀ b, b < 7 → a ≠ b → (TX6 a).2.1 ≠ (TX6 b).2.1 := by decide +kernel
theorem tyX6_ok : ∀ k, k < 7 → parseFieldDescriptor (TX6 k).2.2.1 = some (tyX6 k) := by decide +kernel
abbrev cX6_init : ByteArray := prog_1_method_1_code
def yX6_init : MethodName := ⟨RX6, "<init>", "()V"⟩
abbrev cX6_member : ByteArray := prog_1_method_2_code
def yX6_member : MethodName := ⟨RX6, "member", "(IJ)I"⟩
abbrev cX6_join : ByteArray := prog_1_method_3_code
def yX6_join : MethodName := ⟨RX6, "join", "(II)I"⟩
abbrev cX6_leave : ByteArray := prog_1_method_4_code
def yX6_leave : MethodName := ⟨RX6, "leave", "(I)I"⟩
abbrev cX6_turn : ByteArray := prog_1_method_5_code
def yX6_turn : MethodName := ⟨RX6, "turn", "(I)I"⟩
abbrev cX6_fall : ByteArray := prog_1_method_6_code
def yX6_fall : MethodName := ⟨RX6, "fall", "(I)I"⟩
abbrev cX6_rise : ByteArray := prog_1_method_7_code
def yX6_rise : MethodName := ⟨RX6, "rise", "(I)I"⟩
abbrev cX6_deliver : ByteArray := prog_1_method_8_code
def yX6_deliver : MethodName := ⟨RX6, "deliver", "(I)I"⟩
abbrev cX6_lose : ByteArray := prog_1_method_9_code
def yX6_lose : MethodName := ⟨RX6, "lose", "(I)I"⟩
abbrev cX6_twice : ByteArray := prog_1_method_10_code
def yX6_twice : MethodName := ⟨RX6, "twice", "(I)I"⟩
abbrev cX6_cut : ByteArray := prog_1_method_11_code
def yX6_cut : MethodName := ⟨RX6, "cut", "(II)I"⟩
abbrev cX6_heal : ByteArray := prog_1_method_12_code
def yX6_heal : MethodName := ⟨RX6, "heal", "(II)I"⟩
abbrev cX6_letters : ByteArray := prog_1_method_13_code
def yX6_letters : MethodName := ⟨RX6, "letters", "(I)I"⟩
abbrev cX6_underWay : ByteArray := prog_1_method_14_code
def yX6_underWay : MethodName := ⟨RX6, "underWay", "(I)I"⟩
abbrev cX6_letter : ByteArray := prog_1_method_15_code
def yX6_letter : MethodName := ⟨RX6, "letter", "(II)I"⟩
abbrev cX6_carries : ByteArray := prog_1_method_16_code
def yX6_carries : MethodName := ⟨RX6, "carries", "(III)I"⟩
abbrev cX6_state : ByteArray := prog_1_method_17_code
def yX6_state : MethodName := ⟨RX6, "state", "(II)I"⟩
abbrev cX6_news : ByteArray := prog_1_method_18_code
def yX6_news : MethodName := ⟨RX6, "news", "(III)I"⟩
abbrev cX6_as : ByteArray := prog_1_method_19_code
def yX6_as : MethodName := ⟨RX6, "as", "(III)I"⟩
abbrev cX6_round : ByteArray := prog_1_method_20_code
def yX6_round : MethodName := ⟨RX6, "round", "(II)I"⟩
abbrev cX6_next : ByteArray := prog_1_method_21_code
def yX6_next : MethodName := ⟨RX6, "next", "(I)I"⟩
abbrev cX6_copy : ByteArray := prog_1_method_22_code
def yX6_copy : MethodName := ⟨RX6, "copy", "(IIII)I"⟩
abbrev cX6_table : ByteArray := prog_1_method_23_code
def yX6_table : MethodName := ⟨RX6, "table", "(I)I"⟩
abbrev cX6_agree : ByteArray := prog_1_method_24_code
def yX6_agree : MethodName := ⟨RX6, "agree", "()I"⟩
abbrev cX6_apart : ByteArray := prog_1_method_25_code
def yX6_apart : MethodName := ⟨RX6, "apart", "(I)I"⟩
abbrev cX6_count : ByteArray := prog_1_method_26_code
def yX6_count : MethodName := ⟨RX6, "count", "(II)I"⟩
abbrev cX6_way : ByteArray := prog_1_method_27_code
def yX6_way : MethodName := ⟨RX6, "way", "(II)I"⟩
abbrev cX6_wayAt : ByteArray := prog_1_method_28_code
def yX6_wayAt : MethodName := ⟨RX6, "wayAt", "(I)I"⟩
abbrev cX6_forge : ByteArray := prog_1_method_29_code
def yX6_forge : MethodName := ⟨RX6, "forge", "(II)I"⟩
abbrev cX6_check : ByteArray := prog_1_method_30_code
def yX6_check : MethodName := ⟨RX6, "check", "(IIII)I"⟩
abbrev cX6_replay : ByteArray := prog_1_method_31_code
def yX6_replay : MethodName := ⟨RX6, "replay", "()I"⟩
abbrev cX6_image : ByteArray := prog_1_method_32_code
def yX6_image : MethodName := ⟨RX6, "image", "()I"⟩
abbrev cX6_back : ByteArray := prog_1_method_33_code
def yX6_back : MethodName := ⟨RX6, "back", "()I"⟩
abbrev cX6_trace : ByteArray := prog_1_method_34_code
def yX6_trace : MethodName := ⟨RX6, "trace", "(I)I"⟩
abbrev cX6_again : ByteArray := prog_1_method_35_code
def yX6_again : MethodName := ⟨RX6, "again", "()I"⟩
abbrev cX6_status : ByteArray := prog_1_method_36_code
def yX6_status : MethodName := ⟨RX6, "status", "(I)I"⟩
abbrev cX6_settled : ByteArray := prog_1_method_37_code
def yX6_settled : MethodName := ⟨RX6, "settled", "(I)I"⟩
abbrev cX6_refused : ByteArray := prog_1_method_38_code
def yX6_refused : MethodName := ⟨RX6, "refused", "(I)I"⟩
abbrev cX6_isMember : ByteArray := prog_1_method_39_code
def yX6_isMember : MethodName := ⟨RX6, "isMember", "(I)Z"⟩
abbrev cX6_sameNumbers : ByteArray := prog_1_method_40_code
def yX6_sameNumbers : MethodName := ⟨RX6, "sameNumbers", "([I[II)Z"⟩
def RX7 : String := "CrowdRollModel"
def TX7 : u_T := fun k => match k with
  | 0 => ("CrowdRollModel", "s", "[I", true)
  | 1 => ("CrowdRollModel", "kept", "[I", true)
  | 2 => ("CrowdRollModel", "seeds", "[J", true)
  | 3 => ("CrowdRollModel", "keptSeeds", "[J", true)
  | 4 => ("CrowdRollModel", "hasImage", "Z", false)
  | 5 => ("CrowdRollModel", "table", "[I", true)
  | 6 => ("CrowdRollModel", "way", "[I", true)
  | 7 => ("CrowdRollModel", "refused", "[I", true)
  | 8 => ("CrowdRollModel", "row", "[I", true)
  | 9 => ("CrowdRollModel", "wayMany", "I", false)
  | 10 => ("CrowdRollModel", "latest", "I", false)
  | 11 => ("CrowdRollModel", "rowSize", "I", false)
  | 12 => ("CrowdRollModel", "taken", "[Z", true)
  | 13 => ("CrowdRollModel", "apartA", "I", false)
  | 14 => ("CrowdRollModel", "apartB", "I", false)
  | _ => ("CrowdRollModel", "apartX", "I", false)
def tyX7 : Nat → FieldType := fun k => match k with
  | 0 => .array .int
  | 1 => .array .int
  | 2 => .array .long
  | 3 => .array .long
  | 4 => .boolean
  | 5 => .array .int
  | 6 => .array .int
  | 7 => .array .int
  | 8 => .array .int
  | 9 => .int
  | 10 => .int
  | 11 => .int
  | 12 => .array .boolean
  | 13 => .int
  | 14 => .int
  | _ => .int
abbrev wsX70 : List Cond := u_ws RX7 TX7 16
theorem nmX7 : ∀ a, a < 16 → ∀ b, b < 16 → a ≠ b → (TX7 a).2.1 ≠ (TX7 b).2.1 := by decide +kernel
theorem tyX7_ok : ∀ k, k < 16 → parseFieldDescriptor (TX7 k).2.2.1 = some (tyX7 k) := by decide +kernel
abbrev cX7_init : ByteArray := prog_9_method_1_code
def yX7_init : MethodName := ⟨RX7, "<init>", "()V"⟩
abbrev cX7_isIn : ByteArray := prog_9_method_2_code
def yX7_isIn : MethodName := ⟨RX7, "isIn", "(JJJ)Z"⟩
abbrev cX7_no : ByteArray := prog_9_method_3_code
def yX7_no : MethodName := ⟨RX7, "no", "(I)I"⟩
abbrev cX7_of : ByteArray := prog_9_method_4_code
def yX7_of : MethodName := ⟨RX7, "of", "(II)I"⟩
abbrev cX7_to : ByteArray := prog_9_method_5_code
def yX7_to : MethodName := ⟨RX7, "to", "(III)V"⟩
abbrev cX7_newsAt : ByteArray := prog_9_method_6_code
def yX7_newsAt : MethodName := ⟨RX7, "newsAt", "(II)I"⟩
abbrev cX7_kindOf : ByteArray := prog_9_method_7_code
def yX7_kindOf : MethodName := ⟨RX7, "kindOf", "(II)I"⟩
abbrev cX7_isMember : ByteArray := prog_9_method_8_code
def yX7_isMember : MethodName := ⟨RX7, "isMember", "(I)Z"⟩
abbrev cX7_isMade : ByteArray := prog_9_method_9_code
def yX7_isMade : MethodName := ⟨RX7, "isMade", "(I)Z"⟩
abbrev cX7_isLetter : ByteArray := prog_9_method_10_code
def yX7_isLetter : MethodName := ⟨RX7, "isLetter", "(I)Z"⟩
abbrev cX7_letterOf : ByteArray := prog_9_method_11_code
def yX7_letterOf : MethodName := ⟨RX7, "letterOf", "(II)I"⟩
abbrev cX7_isFull : ByteArray := prog_9_method_12_code
def yX7_isFull : MethodName := ⟨RX7, "isFull", "()Z"⟩
abbrev cX7_ran : ByteArray := prog_9_method_13_code
def yX7_ran : MethodName := ⟨RX7, "ran", "(I)V"⟩
abbrev cX7_draw : ByteArray := prog_9_method_14_code
def yX7_draw : MethodName := ⟨RX7, "draw", "(II)I"⟩
abbrev cX7_writes : ByteArray := prog_9_method_15_code
def yX7_writes : MethodName := ⟨RX7, "writes", "(IIIII)V"⟩
abbrev cX7_takes : ByteArray := prog_9_method_16_code
def yX7_takes : MethodName := ⟨RX7, "takes", "(IIIII)V"⟩
abbrev cX7_carry : ByteArray := prog_9_method_17_code
def yX7_carry : MethodName := ⟨RX7, "carry", "(II)V"⟩
abbrev cX7_leastTold : ByteArray := prog_9_method_18_code
def yX7_leastTold : MethodName := ⟨RX7, "leastTold", "(I)I"⟩
abbrev cX7_send : ByteArray := prog_9_method_19_code
def yX7_send : MethodName := ⟨RX7, "send", "(IIII)I"⟩
abbrev cX7_answered : ByteArray := prog_9_method_20_code
def yX7_answered : MethodName := ⟨RX7, "answered", "(II)V"⟩
abbrev cX7_comes : ByteArray := prog_9_method_21_code
def yX7_comes : MethodName := ⟨RX7, "comes", "(I)I"⟩
abbrev cX7_isAround : ByteArray := prog_9_method_22_code
def yX7_isAround : MethodName := ⟨RX7, "isAround", "(II)Z"⟩
abbrev cX7_gather : ByteArray := prog_9_method_23_code
def yX7_gather : MethodName := ⟨RX7, "gather", "(II)V"⟩
abbrev cX7_mix : ByteArray := prog_9_method_24_code
def yX7_mix : MethodName := ⟨RX7, "mix", "(I)V"⟩
abbrev cX7_stillThere : ByteArray := prog_9_method_25_code
def yX7_stillThere : MethodName := ⟨RX7, "stillThere", "(I)I"⟩
abbrev cX7_nextOf : ByteArray := prog_9_method_26_code
def yX7_nextOf : MethodName := ⟨RX7, "nextOf", "(I)I"⟩
abbrev cX7_sendsThree : ByteArray := prog_9_method_27_code
def yX7_sendsThree : MethodName := ⟨RX7, "sendsThree", "(IIII)I"⟩
abbrev cX7_takesTurn : ByteArray := prog_9_method_28_code
def yX7_takesTurn : MethodName := ⟨RX7, "takesTurn", "(I)I"⟩
abbrev cX7_why : ByteArray := prog_9_method_29_code
def yX7_why : MethodName := ⟨RX7, "why", "(II)I"⟩
abbrev cX7_did : ByteArray := prog_9_method_30_code
def yX7_did : MethodName := ⟨RX7, "did", "(I)I"⟩
abbrev cX7_goesQuiet : ByteArray := prog_9_method_31_code
def yX7_goesQuiet : MethodName := ⟨RX7, "goesQuiet", "(I)V"⟩
abbrev cX7_member : ByteArray := prog_9_method_32_code
def yX7_member : MethodName := ⟨RX7, "member", "(IJ)I"⟩
abbrev cX7_join : ByteArray := prog_9_method_33_code
def yX7_join : MethodName := ⟨RX7, "join", "(II)I"⟩
abbrev cX7_leave : ByteArray := prog_9_method_34_code
def yX7_leave : MethodName := ⟨RX7, "leave", "(I)I"⟩
abbrev cX7_turn : ByteArray := prog_9_method_35_code
def yX7_turn : MethodName := ⟨RX7, "turn", "(I)I"⟩
abbrev cX7_fall : ByteArray := prog_9_method_36_code
def yX7_fall : MethodName := ⟨RX7, "fall", "(I)I"⟩
abbrev cX7_rise : ByteArray := prog_9_method_37_code
def yX7_rise : MethodName := ⟨RX7, "rise", "(I)I"⟩
abbrev cX7_whyLetter : ByteArray := prog_9_method_38_code
def yX7_whyLetter : MethodName := ⟨RX7, "whyLetter", "(I)I"⟩
abbrev cX7_deliver : ByteArray := prog_9_method_39_code
def yX7_deliver : MethodName := ⟨RX7, "deliver", "(I)I"⟩
abbrev cX7_withState : ByteArray := prog_9_method_40_code
def yX7_withState : MethodName := ⟨RX7, "withState", "(I)I"⟩
abbrev cX7_lose : ByteArray := prog_9_method_41_code
def yX7_lose : MethodName := ⟨RX7, "lose", "(I)I"⟩
abbrev cX7_twice : ByteArray := prog_9_method_42_code
def yX7_twice : MethodName := ⟨RX7, "twice", "(I)I"⟩
abbrev cX7_links : ByteArray := prog_9_method_43_code
def yX7_links : MethodName := ⟨RX7, "links", "(III)I"⟩
abbrev cX7_cut : ByteArray := prog_9_method_44_code
def yX7_cut : MethodName := ⟨RX7, "cut", "(II)I"⟩
abbrev cX7_heal : ByteArray := prog_9_method_45_code
def yX7_heal : MethodName := ⟨RX7, "heal", "(II)I"⟩
abbrev cX7_letters : ByteArray := prog_9_method_46_code
def yX7_letters : MethodName := ⟨RX7, "letters", "(I)I"⟩
abbrev cX7_underWay : ByteArray := prog_9_method_47_code
def yX7_underWay : MethodName := ⟨RX7, "underWay", "(I)I"⟩
abbrev cX7_letter : ByteArray := prog_9_method_48_code
def yX7_letter : MethodName := ⟨RX7, "letter", "(II)I"⟩
abbrev cX7_carries : ByteArray := prog_9_method_49_code
def yX7_carries : MethodName := ⟨RX7, "carries", "(III)I"⟩
abbrev cX7_state : ByteArray := prog_9_method_50_code
def yX7_state : MethodName := ⟨RX7, "state", "(II)I"⟩
abbrev cX7_whyNews : ByteArray := prog_9_method_51_code
def yX7_whyNews : MethodName := ⟨RX7, "whyNews", "(II)I"⟩
abbrev cX7_news : ByteArray := prog_9_method_52_code
def yX7_news : MethodName := ⟨RX7, "news", "(III)I"⟩
abbrev cX7_as : ByteArray := prog_9_method_53_code
def yX7_as : MethodName := ⟨RX7, "as", "(III)I"⟩
abbrev cX7_round : ByteArray := prog_9_method_54_code
def yX7_round : MethodName := ⟨RX7, "round", "(II)I"⟩
abbrev cX7_next : ByteArray := prog_9_method_55_code
def yX7_next : MethodName := ⟨RX7, "next", "(I)I"⟩
abbrev cX7_copy : ByteArray := prog_9_method_56_code
def yX7_copy : MethodName := ⟨RX7, "copy", "(IIII)I"⟩
abbrev cX7_table : ByteArray := prog_9_method_57_code
def yX7_table : MethodName := ⟨RX7, "table", "(I)I"⟩
abbrev cX7_differ : ByteArray := prog_9_method_58_code
def yX7_differ : MethodName := ⟨RX7, "differ", "(III)Z"⟩
abbrev cX7_isApart : ByteArray := prog_9_method_59_code
def yX7_isApart : MethodName := ⟨RX7, "isApart", "()Z"⟩
abbrev cX7_agree : ByteArray := prog_9_method_60_code
def yX7_agree : MethodName := ⟨RX7, "agree", "()I"⟩
abbrev cX7_apart : ByteArray := prog_9_method_61_code
def yX7_apart : MethodName := ⟨RX7, "apart", "(I)I"⟩
abbrev cX7_count : ByteArray := prog_9_method_62_code
def yX7_count : MethodName := ⟨RX7, "count", "(II)I"⟩
abbrev cX7_pieceOf : ByteArray := prog_9_method_63_code
def yX7_pieceOf : MethodName := ⟨RX7, "pieceOf", "(II)I"⟩
abbrev cX7_way : ByteArray := prog_9_method_64_code
def yX7_way : MethodName := ⟨RX7, "way", "(II)I"⟩
abbrev cX7_isStep : ByteArray := prog_9_method_65_code
def yX7_isStep : MethodName := ⟨RX7, "isStep", "(I)Z"⟩
abbrev cX7_wayAt : ByteArray := prog_9_method_66_code
def yX7_wayAt : MethodName := ⟨RX7, "wayAt", "(I)I"⟩
abbrev cX7_forge : ByteArray := prog_9_method_67_code
def yX7_forge : MethodName := ⟨RX7, "forge", "(II)I"⟩
abbrev cX7_stands : ByteArray := prog_9_method_68_code
def yX7_stands : MethodName := ⟨RX7, "stands", "(IIIII)Z"⟩
abbrev cX7_check : ByteArray := prog_9_method_69_code
def yX7_check : MethodName := ⟨RX7, "check", "(IIII)I"⟩
abbrev cX7_replay : ByteArray := prog_9_method_70_code
def yX7_replay : MethodName := ⟨RX7, "replay", "()I"⟩
abbrev cX7_image : ByteArray := prog_9_method_71_code
def yX7_image : MethodName := ⟨RX7, "image", "()I"⟩
abbrev cX7_back : ByteArray := prog_9_method_72_code
def yX7_back : MethodName := ⟨RX7, "back", "()I"⟩
abbrev cX7_trace : ByteArray := prog_9_method_73_code
def yX7_trace : MethodName := ⟨RX7, "trace", "(I)I"⟩
abbrev cX7_again : ByteArray := prog_9_method_74_code
def yX7_again : MethodName := ⟨RX7, "again", "()I"⟩
abbrev cX7_status : ByteArray := prog_9_method_75_code
def yX7_status : MethodName := ⟨RX7, "status", "(I)I"⟩
def RJx8e188 : String := "java/lang/Cloneable"
def TJx8e188 : u_T := fun k => match k with
  | _ => ("", "", "", false)
def tyJx8e188 : Nat → FieldType := fun k => match k with
  | _ => .int
abbrev wsJx8e1880 : List Cond := u_ws RJx8e188 TJx8e188 0
theorem nmJx8e188 : ∀ a, a < 0 → ∀ b, b < 0 → a ≠ b → (TJx8e188 a).2.1 ≠ (TJx8e188 b).2.1 := by decide +kernel
theorem tyJx8e188_ok : ∀ k, k < 0 → parseFieldDescriptor (TJx8e188 k).2.2.1 = some (tyJx8e188 k) := by decide +kernel
def RJ9 : String := "java/lang/Math"
def TJ9 : u_T := fun k => match k with
  | _ => ("", "", "", false)
def tyJ9 : Nat → FieldType := fun k => match k with
  | _ => .int
abbrev wsJ90 : List Cond := u_ws RJ9 TJ9 0
theorem nmJ9 : ∀ a, a < 0 → ∀ b, b < 0 → a ≠ b → (TJ9 a).2.1 ≠ (TJ9 b).2.1 := by decide +kernel
theorem tyJ9_ok : ∀ k, k < 0 → parseFieldDescriptor (TJ9 k).2.2.1 = some (tyJ9 k) := by decide +kernel
abbrev cJ9_max_7cf53 : ByteArray := prog_11_method_65_code
def yJ9_max_7cf53 : MethodName := ⟨RJ9, "max", "(II)I"⟩
abbrev cJ9_min_7cf53 : ByteArray := prog_11_method_69_code
def yJ9_min_7cf53 : MethodName := ⟨RJ9, "min", "(II)I"⟩
def RJ10 : String := "java/lang/System"
def TJ10 : u_T := fun k => match k with
  | _ => ("", "", "", false)
def tyJ10 : Nat → FieldType := fun k => match k with
  | _ => .int
abbrev wsJ100 : List Cond := u_ws RJ10 TJ10 0
theorem nmJ10 : ∀ a, a < 0 → ∀ b, b < 0 → a ≠ b → (TJ10 a).2.1 ≠ (TJ10 b).2.1 := by decide +kernel
theorem tyJ10_ok : ∀ k, k < 0 → parseFieldDescriptor (TJ10 k).2.2.1 = some (tyJ10 k) := by decide +kernel
def RJ7 : String := "java/util/Arrays"
def TJ7 : u_T := fun k => match k with
  | _ => ("", "", "", false)
def tyJ7 : Nat → FieldType := fun k => match k with
  | _ => .int
abbrev wsJ70 : List Cond := u_ws RJ7 TJ7 0
theorem nmJ7 : ∀ a, a < 0 → ∀ b, b < 0 → a ≠ b → (TJ7 a).2.1 ≠ (TJ7 b).2.1 := by decide +kernel
theorem tyJ7_ok : ∀ k, k < 0 → parseFieldDescriptor (TJ7 k).2.2.1 = some (tyJ7 k) := by decide +kernel
abbrev cJ7_fill_d0a16 : ByteArray := prog_13_method_101_code
def yJ7_fill_d0a16 : MethodName := ⟨RJ7, "fill", "([JJ)V"⟩
abbrev cJ7_fill_53178 : ByteArray := prog_13_method_103_code
def yJ7_fill_53178 : MethodName := ⟨RJ7, "fill", "([II)V"⟩
abbrev cJ7_copyOf_59c91 : ByteArray := prog_13_method_123_code
def yJ7_copyOf_59c91 : MethodName := ⟨RJ7, "copyOf", "([II)[I"⟩
def RL : String := "CrowdRollLaw"
abbrev cL_law : ByteArray := code
def yL_law : MethodName := ⟨RL, "law", "([I)Z"⟩

abbrev vwCl : List vw_C := [(RX0, TX0, 4), (RX1, TX1, 16), (RX2, TX2, 2), (RX3, TX3, 4), (RX4, TX4, 2), (RX5, TX5, 8), (RX6, TX6, 7), (RX7, TX7, 16)]
end
section
theorem dX0_init_0 : decode cX0_init 0 = .ok (.aload_n 0, 1) := by decide +kernel
theorem dX0_init_1 : decode cX0_init 1 = .ok (.invokespecial 3, 3) := by decide +kernel
theorem dX0_init_4 : decode cX0_init 4 = .ok (.aload_n 0, 1) := by decide +kernel
theorem dX0_init_5 : decode cX0_init 5 = .ok (.new 9, 3) := by decide +kernel
theorem dX0_init_8 : decode cX0_init 8 = .ok (.dup, 1) := by decide +kernel
theorem dX0_init_9 : decode cX0_init 9 = .ok (.bipush 8, 2) := by decide +kernel
theorem dX0_init_11 : decode cX0_init 11 = .ok (.sipush 1200, 3) := by decide +kernel
theorem dX0_init_14 : decode cX0_init 14 = .ok (.invokespecial 11, 3) := by decide +kernel
theorem dX0_init_17 : decode cX0_init 17 = .ok (.putfield 14, 3) := by decide +kernel
theorem dX0_init_20 : decode cX0_init 20 = .ok (.aload_n 0, 1) := by decide +kernel
theorem dX0_init_21 : decode cX0_init 21 = .ok (.new 9, 3) := by decide +kernel
theorem dX0_init_24 : decode cX0_init 24 = .ok (.dup, 1) := by decide +kernel
theorem dX0_init_25 : decode cX0_init 25 = .ok (.iconst 4, 1) := by decide +kernel
theorem dX0_init_26 : decode cX0_init 26 = .ok (.sipush 20000, 3) := by decide +kernel
theorem dX0_init_29 : decode cX0_init 29 = .ok (.invokespecial 11, 3) := by decide +kernel
theorem dX0_init_32 : decode cX0_init 32 = .ok (.putfield 20, 3) := by decide +kernel
theorem dX0_init_35 : decode cX0_init 35 = .ok (.aload_n 0, 1) := by decide +kernel
theorem dX0_init_36 : decode cX0_init 36 = .ok (.iconst 0, 1) := by decide +kernel
theorem dX0_init_37 : decode cX0_init 37 = .ok (.putfield 23, 3) := by decide +kernel
theorem dX0_init_40 : decode cX0_init 40 = .ok (.aload_n 0, 1) := by decide +kernel
theorem dX0_init_41 : decode cX0_init 41 = .ok (.iconst 0, 1) := by decide +kernel
theorem dX0_init_42 : decode cX0_init 42 = .ok (.putfield 27, 3) := by decide +kernel
theorem dX0_init_45 : decode cX0_init 45 = .ok (.return_, 1) := by decide +kernel
theorem dX0_clear_0 : decode cX0_clear 0 = .ok (.aload_n 0, 1) := by decide +kernel
theorem dX0_clear_1 : decode cX0_clear 1 = .ok (.getfield 14, 3) := by decide +kernel
theorem dX0_clear_4 : decode cX0_clear 4 = .ok (.iconst 0, 1) := by decide +kernel
theorem dX0_clear_5 : decode cX0_clear 5 = .ok (.putfield 30, 3) := by decide +kernel
theorem dX0_clear_8 : decode cX0_clear 8 = .ok (.aload_n 0, 1) := by decide +kernel
theorem dX0_clear_9 : decode cX0_clear 9 = .ok (.getfield 20, 3) := by decide +kernel
theorem dX0_clear_12 : decode cX0_clear 12 = .ok (.iconst 0, 1) := by decide +kernel
theorem dX0_clear_13 : decode cX0_clear 13 = .ok (.putfield 30, 3) := by decide +kernel
theorem dX0_clear_16 : decode cX0_clear 16 = .ok (.aload_n 0, 1) := by decide +kernel
theorem dX0_clear_17 : decode cX0_clear 17 = .ok (.iconst 0, 1) := by decide +kernel
theorem dX0_clear_18 : decode cX0_clear 18 = .ok (.putfield 23, 3) := by decide +kernel
theorem dX0_clear_21 : decode cX0_clear 21 = .ok (.aload_n 0, 1) := by decide +kernel
theorem dX0_clear_22 : decode cX0_clear 22 = .ok (.iconst 0, 1) := by decide +kernel
theorem dX0_clear_23 : decode cX0_clear 23 = .ok (.putfield 27, 3) := by decide +kernel
theorem dX0_clear_26 : decode cX0_clear 26 = .ok (.return_, 1) := by decide +kernel
theorem dX0_hasRoom_0 : decode cX0_hasRoom 0 = .ok (.sipush 1200, 3) := by decide +kernel
theorem dX0_hasRoom_3 : decode cX0_hasRoom 3 = .ok (.aload_n 0, 1) := by decide +kernel
theorem dX0_hasRoom_4 : decode cX0_hasRoom 4 = .ok (.getfield 14, 3) := by decide +kernel
theorem dX0_hasRoom_7 : decode cX0_hasRoom 7 = .ok (.getfield 30, 3) := by decide +kernel
theorem dX0_hasRoom_10 : decode cX0_hasRoom 10 = .ok (.isub, 1) := by decide +kernel
theorem dX0_hasRoom_11 : decode cX0_hasRoom 11 = .ok (.iconst 4, 1) := by decide +kernel
theorem dX0_hasRoom_12 : decode cX0_hasRoom 12 = .ok (.if_icmp .lt 24, 3) := by decide +kernel
theorem dX0_hasRoom_15 : decode cX0_hasRoom 15 = .ok (.sipush 20000, 3) := by decide +kernel
theorem dX0_hasRoom_18 : decode cX0_hasRoom 18 = .ok (.aload_n 0, 1) := by decide +kernel
theorem dX0_hasRoom_19 : decode cX0_hasRoom 19 = .ok (.getfield 20, 3) := by decide +kernel
theorem dX0_hasRoom_22 : decode cX0_hasRoom 22 = .ok (.getfield 30, 3) := by decide +kernel
theorem dX0_hasRoom_25 : decode cX0_hasRoom 25 = .ok (.isub, 1) := by decide +kernel
theorem dX0_hasRoom_26 : decode cX0_hasRoom 26 = .ok (.sipush 200, 3) := by decide +kernel
theorem dX0_hasRoom_29 : decode cX0_hasRoom 29 = .ok (.if_icmp .lt 7, 3) := by decide +kernel
theorem dX0_hasRoom_32 : decode cX0_hasRoom 32 = .ok (.iconst 1, 1) := by decide +kernel
theorem dX0_hasRoom_33 : decode cX0_hasRoom 33 = .ok (.goto 4, 3) := by decide +kernel
theorem dX0_hasRoom_36 : decode cX0_hasRoom 36 = .ok (.iconst 0, 1) := by decide +kernel
theorem dX0_hasRoom_37 : decode cX0_hasRoom 37 = .ok (.ireturn, 1) := by decide +kernel
theorem dX0_reserveForAct_0 : decode cX0_reserveForAct 0 = .ok (.aload_n 0, 1) := by decide +kernel
theorem dX0_reserveForAct_1 : decode cX0_reserveForAct 1 = .ok (.getfield 14, 3) := by decide +kernel
theorem dX0_reserveForAct_4 : decode cX0_reserveForAct 4 = .ok (.aload_n 0, 1) := by decide +kernel
theorem dX0_reserveForAct_5 : decode cX0_reserveForAct 5 = .ok (.getfield 14, 3) := by decide +kernel
theorem dX0_reserveForAct_8 : decode cX0_reserveForAct 8 = .ok (.getfield 30, 3) := by decide +kernel
theorem dX0_reserveForAct_11 : decode cX0_reserveForAct 11 = .ok (.iconst 4, 1) := by decide +kernel
theorem dX0_reserveForAct_12 : decode cX0_reserveForAct 12 = .ok (.iadd, 1) := by decide +kernel
theorem dX0_reserveForAct_13 : decode cX0_reserveForAct 13 = .ok (.invokevirtual 33, 3) := by decide +kernel
theorem dX0_reserveForAct_16 : decode cX0_reserveForAct 16 = .ok (.aload_n 0, 1) := by decide +kernel
theorem dX0_reserveForAct_17 : decode cX0_reserveForAct 17 = .ok (.getfield 20, 3) := by decide +kernel
theorem dX0_reserveForAct_20 : decode cX0_reserveForAct 20 = .ok (.aload_n 0, 1) := by decide +kernel
theorem dX0_reserveForAct_21 : decode cX0_reserveForAct 21 = .ok (.getfield 20, 3) := by decide +kernel
theorem dX0_reserveForAct_24 : decode cX0_reserveForAct 24 = .ok (.getfield 30, 3) := by decide +kernel
theorem dX0_reserveForAct_27 : decode cX0_reserveForAct 27 = .ok (.sipush 200, 3) := by decide +kernel
theorem dX0_reserveForAct_30 : decode cX0_reserveForAct 30 = .ok (.iadd, 1) := by decide +kernel
theorem dX0_reserveForAct_31 : decode cX0_reserveForAct 31 = .ok (.invokevirtual 33, 3) := by decide +kernel
theorem dX0_reserveForAct_34 : decode cX0_reserveForAct 34 = .ok (.return_, 1) := by decide +kernel
theorem dX0_sent_0 : decode cX0_sent 0 = .ok (.aload_n 0, 1) := by decide +kernel
theorem dX0_sent_1 : decode cX0_sent 1 = .ok (.getfield 14, 3) := by decide +kernel
theorem dX0_sent_4 : decode cX0_sent 4 = .ok (.getfield 30, 3) := by decide +kernel
theorem dX0_sent_7 : decode cX0_sent 7 = .ok (.ireturn, 1) := by decide +kernel
theorem dX0_stillUnderWay_0 : decode cX0_stillUnderWay 0 = .ok (.aload_n 0, 1) := by decide +kernel
theorem dX0_stillUnderWay_1 : decode cX0_stillUnderWay 1 = .ok (.getfield 14, 3) := by decide +kernel
theorem dX0_stillUnderWay_4 : decode cX0_stillUnderWay 4 = .ok (.getfield 30, 3) := by decide +kernel
theorem dX0_stillUnderWay_7 : decode cX0_stillUnderWay 7 = .ok (.aload_n 0, 1) := by decide +kernel
theorem dX0_stillUnderWay_8 : decode cX0_stillUnderWay 8 = .ok (.getfield 23, 3) := by decide +kernel
theorem dX0_stillUnderWay_11 : decode cX0_stillUnderWay 11 = .ok (.isub, 1) := by decide +kernel
theorem dX0_stillUnderWay_12 : decode cX0_stillUnderWay 12 = .ok (.aload_n 0, 1) := by decide +kernel
theorem dX0_stillUnderWay_13 : decode cX0_stillUnderWay 13 = .ok (.getfield 27, 3) := by decide +kernel
theorem dX0_stillUnderWay_16 : decode cX0_stillUnderWay 16 = .ok (.isub, 1) := by decide +kernel
theorem dX0_stillUnderWay_17 : decode cX0_stillUnderWay 17 = .ok (.ireturn, 1) := by decide +kernel
theorem dX0_hasLetter_0 : decode cX0_hasLetter 0 = .ok (.iload_n 1, 1) := by decide +kernel
theorem dX0_hasLetter_1 : decode cX0_hasLetter 1 = .ok (.ifCond .lt 18, 3) := by decide +kernel
theorem dX0_hasLetter_4 : decode cX0_hasLetter 4 = .ok (.iload_n 1, 1) := by decide +kernel
theorem dX0_hasLetter_5 : decode cX0_hasLetter 5 = .ok (.aload_n 0, 1) := by decide +kernel
theorem dX0_hasLetter_6 : decode cX0_hasLetter 6 = .ok (.getfield 14, 3) := by decide +kernel
theorem dX0_hasLetter_9 : decode cX0_hasLetter 9 = .ok (.getfield 30, 3) := by decide +kernel
theorem dX0_hasLetter_12 : decode cX0_hasLetter 12 = .ok (.if_icmp .ge 7, 3) := by decide +kernel
theorem dX0_hasLetter_15 : decode cX0_hasLetter 15 = .ok (.iconst 1, 1) := by decide +kernel
theorem dX0_hasLetter_16 : decode cX0_hasLetter 16 = .ok (.goto 4, 3) := by decide +kernel
theorem dX0_hasLetter_19 : decode cX0_hasLetter 19 = .ok (.iconst 0, 1) := by decide +kernel
theorem dX0_hasLetter_20 : decode cX0_hasLetter 20 = .ok (.ireturn, 1) := by decide +kernel
theorem dX0_ofLetter_0 : decode cX0_ofLetter 0 = .ok (.aload_n 0, 1) := by decide +kernel
theorem dX0_ofLetter_1 : decode cX0_ofLetter 1 = .ok (.getfield 14, 3) := by decide +kernel
theorem dX0_ofLetter_4 : decode cX0_ofLetter 4 = .ok (.iload_n 1, 1) := by decide +kernel
theorem dX0_ofLetter_5 : decode cX0_ofLetter 5 = .ok (.iload_n 2, 1) := by decide +kernel
theorem dX0_ofLetter_6 : decode cX0_ofLetter 6 = .ok (.invokevirtual 37, 3) := by decide +kernel
theorem dX0_ofLetter_9 : decode cX0_ofLetter 9 = .ok (.ireturn, 1) := by decide +kernel
theorem dX0_ofPiece_0 : decode cX0_ofPiece 0 = .ok (.iload_n 2, 1) := by decide +kernel
theorem dX0_ofPiece_1 : decode cX0_ofPiece 1 = .ok (.ifCond .lt 16, 3) := by decide +kernel
theorem dX0_ofPiece_4 : decode cX0_ofPiece 4 = .ok (.iload_n 2, 1) := by decide +kernel
theorem dX0_ofPiece_5 : decode cX0_ofPiece 5 = .ok (.aload_n 0, 1) := by decide +kernel
theorem dX0_ofPiece_6 : decode cX0_ofPiece 6 = .ok (.getfield 14, 3) := by decide +kernel
theorem dX0_ofPiece_9 : decode cX0_ofPiece 9 = .ok (.iload_n 1, 1) := by decide +kernel
theorem dX0_ofPiece_10 : decode cX0_ofPiece 10 = .ok (.iconst 4, 1) := by decide +kernel
theorem dX0_ofPiece_11 : decode cX0_ofPiece 11 = .ok (.invokevirtual 37, 3) := by decide +kernel
theorem dX0_ofPiece_14 : decode cX0_ofPiece 14 = .ok (.if_icmp .lt 5, 3) := by decide +kernel
theorem dX0_ofPiece_17 : decode cX0_ofPiece 17 = .ok (.iconst (-1), 1) := by decide +kernel
theorem dX0_ofPiece_18 : decode cX0_ofPiece 18 = .ok (.ireturn, 1) := by decide +kernel
theorem dX0_ofPiece_19 : decode cX0_ofPiece 19 = .ok (.aload_n 0, 1) := by decide +kernel
theorem dX0_ofPiece_20 : decode cX0_ofPiece 20 = .ok (.getfield 20, 3) := by decide +kernel
theorem dX0_ofPiece_23 : decode cX0_ofPiece 23 = .ok (.aload_n 0, 1) := by decide +kernel
theorem dX0_ofPiece_24 : decode cX0_ofPiece 24 = .ok (.getfield 14, 3) := by decide +kernel
theorem dX0_ofPiece_27 : decode cX0_ofPiece 27 = .ok (.iload_n 1, 1) := by decide +kernel
theorem dX0_ofPiece_28 : decode cX0_ofPiece 28 = .ok (.bipush 7, 2) := by decide +kernel
theorem dX0_ofPiece_30 : decode cX0_ofPiece 30 = .ok (.invokevirtual 37, 3) := by decide +kernel
theorem dX0_ofPiece_33 : decode cX0_ofPiece 33 = .ok (.iload_n 2, 1) := by decide +kernel
theorem dX0_ofPiece_34 : decode cX0_ofPiece 34 = .ok (.iadd, 1) := by decide +kernel
theorem dX0_ofPiece_35 : decode cX0_ofPiece 35 = .ok (.iload_n 3, 1) := by decide +kernel
theorem dX0_ofPiece_36 : decode cX0_ofPiece 36 = .ok (.invokevirtual 37, 3) := by decide +kernel
theorem dX0_ofPiece_39 : decode cX0_ofPiece 39 = .ok (.ireturn, 1) := by decide +kernel
theorem dX0_nthUnderWay_0 : decode cX0_nthUnderWay 0 = .ok (.iconst 0, 1) := by decide +kernel
theorem dX0_nthUnderWay_1 : decode cX0_nthUnderWay 1 = .ok (.istore_n 2, 1) := by decide +kernel
theorem dX0_nthUnderWay_2 : decode cX0_nthUnderWay 2 = .ok (.iconst 0, 1) := by decide +kernel
theorem dX0_nthUnderWay_3 : decode cX0_nthUnderWay 3 = .ok (.istore_n 3, 1) := by decide +kernel
theorem dX0_nthUnderWay_4 : decode cX0_nthUnderWay 4 = .ok (.iload_n 3, 1) := by decide +kernel
theorem dX0_nthUnderWay_5 : decode cX0_nthUnderWay 5 = .ok (.aload_n 0, 1) := by decide +kernel
theorem dX0_nthUnderWay_6 : decode cX0_nthUnderWay 6 = .ok (.getfield 14, 3) := by decide +kernel
theorem dX0_nthUnderWay_9 : decode cX0_nthUnderWay 9 = .ok (.getfield 30, 3) := by decide +kernel
theorem dX0_nthUnderWay_12 : decode cX0_nthUnderWay 12 = .ok (.if_icmp .ge 31, 3) := by decide +kernel
theorem dX0_nthUnderWay_15 : decode cX0_nthUnderWay 15 = .ok (.aload_n 0, 1) := by decide +kernel
theorem dX0_nthUnderWay_16 : decode cX0_nthUnderWay 16 = .ok (.getfield 14, 3) := by decide +kernel
theorem dX0_nthUnderWay_19 : decode cX0_nthUnderWay 19 = .ok (.iload_n 3, 1) := by decide +kernel
theorem dX0_nthUnderWay_20 : decode cX0_nthUnderWay 20 = .ok (.iconst 5, 1) := by decide +kernel
theorem dX0_nthUnderWay_21 : decode cX0_nthUnderWay 21 = .ok (.invokevirtual 37, 3) := by decide +kernel
theorem dX0_nthUnderWay_24 : decode cX0_nthUnderWay 24 = .ok (.ifCond .ne 13, 3) := by decide +kernel
theorem dX0_nthUnderWay_27 : decode cX0_nthUnderWay 27 = .ok (.iload_n 2, 1) := by decide +kernel
theorem dX0_nthUnderWay_28 : decode cX0_nthUnderWay 28 = .ok (.iload_n 1, 1) := by decide +kernel
theorem dX0_nthUnderWay_29 : decode cX0_nthUnderWay 29 = .ok (.if_icmp .ne 5, 3) := by decide +kernel
theorem dX0_nthUnderWay_32 : decode cX0_nthUnderWay 32 = .ok (.iload_n 3, 1) := by decide +kernel
theorem dX0_nthUnderWay_33 : decode cX0_nthUnderWay 33 = .ok (.ireturn, 1) := by decide +kernel
theorem dX0_nthUnderWay_34 : decode cX0_nthUnderWay 34 = .ok (.iinc 2 1, 3) := by decide +kernel
theorem dX0_nthUnderWay_37 : decode cX0_nthUnderWay 37 = .ok (.iinc 3 1, 3) := by decide +kernel
theorem dX0_nthUnderWay_40 : decode cX0_nthUnderWay 40 = .ok (.goto (-36), 3) := by decide +kernel
theorem dX0_nthUnderWay_43 : decode cX0_nthUnderWay 43 = .ok (.iconst (-1), 1) := by decide +kernel
theorem dX0_nthUnderWay_44 : decode cX0_nthUnderWay 44 = .ok (.ireturn, 1) := by decide +kernel
theorem dX0_open_0 : decode cX0_open 0 = .ok (.aload_n 0, 1) := by decide +kernel
theorem dX0_open_1 : decode cX0_open 1 = .ok (.getfield 14, 3) := by decide +kernel
theorem dX0_open_4 : decode cX0_open 4 = .ok (.invokevirtual 41, 3) := by decide +kernel
theorem dX0_open_7 : decode cX0_open 7 = .ok (.istore 6, 2) := by decide +kernel
theorem dX0_open_9 : decode cX0_open 9 = .ok (.aload_n 0, 1) := by decide +kernel
theorem dX0_open_10 : decode cX0_open 10 = .ok (.getfield 14, 3) := by decide +kernel
theorem dX0_open_13 : decode cX0_open 13 = .ok (.iload 6, 2) := by decide +kernel
theorem dX0_open_15 : decode cX0_open 15 = .ok (.iconst 0, 1) := by decide +kernel
theorem dX0_open_16 : decode cX0_open 16 = .ok (.iload_n 1, 1) := by decide +kernel
theorem dX0_open_17 : decode cX0_open 17 = .ok (.invokevirtual 45, 3) := by decide +kernel
theorem dX0_open_20 : decode cX0_open 20 = .ok (.aload_n 0, 1) := by decide +kernel
theorem dX0_open_21 : decode cX0_open 21 = .ok (.getfield 14, 3) := by decide +kernel
theorem dX0_open_24 : decode cX0_open 24 = .ok (.iload 6, 2) := by decide +kernel
theorem dX0_open_26 : decode cX0_open 26 = .ok (.iconst 1, 1) := by decide +kernel
theorem dX0_open_27 : decode cX0_open 27 = .ok (.iload_n 2, 1) := by decide +kernel
theorem dX0_open_28 : decode cX0_open 28 = .ok (.invokevirtual 45, 3) := by decide +kernel
theorem dX0_open_31 : decode cX0_open 31 = .ok (.aload_n 0, 1) := by decide +kernel
theorem dX0_open_32 : decode cX0_open 32 = .ok (.getfield 14, 3) := by decide +kernel
theorem dX0_open_35 : decode cX0_open 35 = .ok (.iload 6, 2) := by decide +kernel
theorem dX0_open_37 : decode cX0_open 37 = .ok (.iconst 2, 1) := by decide +kernel
theorem dX0_open_38 : decode cX0_open 38 = .ok (.iload_n 3, 1) := by decide +kernel
theorem dX0_open_39 : decode cX0_open 39 = .ok (.invokevirtual 45, 3) := by decide +kernel
theorem dX0_open_42 : decode cX0_open 42 = .ok (.aload_n 0, 1) := by decide +kernel
theorem dX0_open_43 : decode cX0_open 43 = .ok (.getfield 14, 3) := by decide +kernel
theorem dX0_open_46 : decode cX0_open 46 = .ok (.iload 6, 2) := by decide +kernel
theorem dX0_open_48 : decode cX0_open 48 = .ok (.iconst 3, 1) := by decide +kernel
theorem dX0_open_49 : decode cX0_open 49 = .ok (.iload 4, 2) := by decide +kernel
theorem dX0_open_51 : decode cX0_open 51 = .ok (.invokevirtual 45, 3) := by decide +kernel
theorem dX0_open_54 : decode cX0_open 54 = .ok (.aload_n 0, 1) := by decide +kernel
theorem dX0_open_55 : decode cX0_open 55 = .ok (.getfield 14, 3) := by decide +kernel
theorem dX0_open_58 : decode cX0_open 58 = .ok (.iload 6, 2) := by decide +kernel
theorem dX0_open_60 : decode cX0_open 60 = .ok (.bipush 6, 2) := by decide +kernel
theorem dX0_open_62 : decode cX0_open 62 = .ok (.iload 5, 2) := by decide +kernel
theorem dX0_open_64 : decode cX0_open 64 = .ok (.invokevirtual 45, 3) := by decide +kernel
theorem dX0_open_67 : decode cX0_open 67 = .ok (.aload_n 0, 1) := by decide +kernel
theorem dX0_open_68 : decode cX0_open 68 = .ok (.getfield 14, 3) := by decide +kernel
theorem dX0_open_71 : decode cX0_open 71 = .ok (.iload 6, 2) := by decide +kernel
theorem dX0_open_73 : decode cX0_open 73 = .ok (.bipush 7, 2) := by decide +kernel
theorem dX0_open_75 : decode cX0_open 75 = .ok (.aload_n 0, 1) := by decide +kernel
theorem dX0_open_76 : decode cX0_open 76 = .ok (.getfield 20, 3) := by decide +kernel
theorem dX0_open_79 : decode cX0_open 79 = .ok (.getfield 30, 3) := by decide +kernel
theorem dX0_open_82 : decode cX0_open 82 = .ok (.invokevirtual 45, 3) := by decide +kernel
theorem dX0_open_85 : decode cX0_open 85 = .ok (.iload 6, 2) := by decide +kernel
theorem dX0_open_87 : decode cX0_open 87 = .ok (.ireturn, 1) := by decide +kernel
theorem dX0_put_0 : decode cX0_put 0 = .ok (.aload_n 0, 1) := by decide +kernel
theorem dX0_put_1 : decode cX0_put 1 = .ok (.getfield 20, 3) := by decide +kernel
theorem dX0_put_4 : decode cX0_put 4 = .ok (.invokevirtual 41, 3) := by decide +kernel
theorem dX0_put_7 : decode cX0_put 7 = .ok (.istore 5, 2) := by decide +kernel
theorem dX0_put_9 : decode cX0_put 9 = .ok (.aload_n 0, 1) := by decide +kernel
theorem dX0_put_10 : decode cX0_put 10 = .ok (.getfield 14, 3) := by decide +kernel
theorem dX0_put_13 : decode cX0_put 13 = .ok (.getfield 30, 3) := by decide +kernel
theorem dX0_put_16 : decode cX0_put 16 = .ok (.iconst 1, 1) := by decide +kernel
theorem dX0_put_17 : decode cX0_put 17 = .ok (.isub, 1) := by decide +kernel
theorem dX0_put_18 : decode cX0_put 18 = .ok (.istore 6, 2) := by decide +kernel
theorem dX0_put_20 : decode cX0_put 20 = .ok (.iload 5, 2) := by decide +kernel
theorem dX0_put_22 : decode cX0_put 22 = .ok (.iconst (-1), 1) := by decide +kernel
theorem dX0_put_23 : decode cX0_put 23 = .ok (.if_icmp .eq 8, 3) := by decide +kernel
theorem dX0_put_26 : decode cX0_put 26 = .ok (.iload 6, 2) := by decide +kernel
theorem dX0_put_28 : decode cX0_put 28 = .ok (.ifCond .ge 4, 3) := by decide +kernel
theorem dX0_put_31 : decode cX0_put 31 = .ok (.return_, 1) := by decide +kernel
theorem dX0_put_32 : decode cX0_put 32 = .ok (.aload_n 0, 1) := by decide +kernel
theorem dX0_put_33 : decode cX0_put 33 = .ok (.getfield 20, 3) := by decide +kernel
theorem dX0_put_36 : decode cX0_put 36 = .ok (.iload 5, 2) := by decide +kernel
theorem dX0_put_38 : decode cX0_put 38 = .ok (.iconst 0, 1) := by decide +kernel
theorem dX0_put_39 : decode cX0_put 39 = .ok (.iload_n 1, 1) := by decide +kernel
theorem dX0_put_40 : decode cX0_put 40 = .ok (.invokevirtual 45, 3) := by decide +kernel
theorem dX0_put_43 : decode cX0_put 43 = .ok (.aload_n 0, 1) := by decide +kernel
theorem dX0_put_44 : decode cX0_put 44 = .ok (.getfield 20, 3) := by decide +kernel
theorem dX0_put_47 : decode cX0_put 47 = .ok (.iload 5, 2) := by decide +kernel
theorem dX0_put_49 : decode cX0_put 49 = .ok (.iconst 1, 1) := by decide +kernel
theorem dX0_put_50 : decode cX0_put 50 = .ok (.iload_n 2, 1) := by decide +kernel
theorem dX0_put_51 : decode cX0_put 51 = .ok (.invokevirtual 45, 3) := by decide +kernel
theorem dX0_put_54 : decode cX0_put 54 = .ok (.aload_n 0, 1) := by decide +kernel
theorem dX0_put_55 : decode cX0_put 55 = .ok (.getfield 20, 3) := by decide +kernel
theorem dX0_put_58 : decode cX0_put 58 = .ok (.iload 5, 2) := by decide +kernel
theorem dX0_put_60 : decode cX0_put 60 = .ok (.iconst 2, 1) := by decide +kernel
theorem dX0_put_61 : decode cX0_put 61 = .ok (.iload_n 3, 1) := by decide +kernel
theorem dX0_put_62 : decode cX0_put 62 = .ok (.invokevirtual 45, 3) := by decide +kernel
theorem dX0_put_65 : decode cX0_put 65 = .ok (.aload_n 0, 1) := by decide +kernel
theorem dX0_put_66 : decode cX0_put 66 = .ok (.getfield 20, 3) := by decide +kernel
theorem dX0_put_69 : decode cX0_put 69 = .ok (.iload 5, 2) := by decide +kernel
theorem dX0_put_71 : decode cX0_put 71 = .ok (.iconst 3, 1) := by decide +kernel
theorem dX0_put_72 : decode cX0_put 72 = .ok (.iload 4, 2) := by decide +kernel
theorem dX0_put_74 : decode cX0_put 74 = .ok (.invokevirtual 45, 3) := by decide +kernel
theorem dX0_put_77 : decode cX0_put 77 = .ok (.aload_n 0, 1) := by decide +kernel
theorem dX0_put_78 : decode cX0_put 78 = .ok (.getfield 14, 3) := by decide +kernel
theorem dX0_put_81 : decode cX0_put 81 = .ok (.iload 6, 2) := by decide +kernel
theorem dX0_put_83 : decode cX0_put 83 = .ok (.iconst 4, 1) := by decide +kernel
theorem dX0_put_84 : decode cX0_put 84 = .ok (.aload_n 0, 1) := by decide +kernel
theorem dX0_put_85 : decode cX0_put 85 = .ok (.getfield 14, 3) := by decide +kernel
theorem dX0_put_88 : decode cX0_put 88 = .ok (.iload 6, 2) := by decide +kernel
theorem dX0_put_90 : decode cX0_put 90 = .ok (.iconst 4, 1) := by decide +kernel
theorem dX0_put_91 : decode cX0_put 91 = .ok (.invokevirtual 37, 3) := by decide +kernel
theorem dX0_put_94 : decode cX0_put 94 = .ok (.iconst 1, 1) := by decide +kernel
theorem dX0_put_95 : decode cX0_put 95 = .ok (.iadd, 1) := by decide +kernel
theorem dX0_put_96 : decode cX0_put 96 = .ok (.invokevirtual 45, 3) := by decide +kernel
theorem dX0_put_99 : decode cX0_put 99 = .ok (.return_, 1) := by decide +kernel
theorem dX0_sendCopy_0 : decode cX0_sendCopy 0 = .ok (.aload_n 0, 1) := by decide +kernel
theorem dX0_sendCopy_1 : decode cX0_sendCopy 1 = .ok (.aload_n 0, 1) := by decide +kernel
theorem dX0_sendCopy_2 : decode cX0_sendCopy 2 = .ok (.iload_n 1, 1) := by decide +kernel
theorem dX0_sendCopy_3 : decode cX0_sendCopy 3 = .ok (.iconst 0, 1) := by decide +kernel
theorem dX0_sendCopy_4 : decode cX0_sendCopy 4 = .ok (.invokevirtual 49, 3) := by decide +kernel
theorem dX0_sendCopy_7 : decode cX0_sendCopy 7 = .ok (.aload_n 0, 1) := by decide +kernel
theorem dX0_sendCopy_8 : decode cX0_sendCopy 8 = .ok (.iload_n 1, 1) := by decide +kernel
theorem dX0_sendCopy_9 : decode cX0_sendCopy 9 = .ok (.iconst 1, 1) := by decide +kernel
theorem dX0_sendCopy_10 : decode cX0_sendCopy 10 = .ok (.invokevirtual 49, 3) := by decide +kernel
theorem dX0_sendCopy_13 : decode cX0_sendCopy 13 = .ok (.aload_n 0, 1) := by decide +kernel
theorem dX0_sendCopy_14 : decode cX0_sendCopy 14 = .ok (.iload_n 1, 1) := by decide +kernel
theorem dX0_sendCopy_15 : decode cX0_sendCopy 15 = .ok (.iconst 2, 1) := by decide +kernel
theorem dX0_sendCopy_16 : decode cX0_sendCopy 16 = .ok (.invokevirtual 49, 3) := by decide +kernel
theorem dX0_sendCopy_19 : decode cX0_sendCopy 19 = .ok (.aload_n 0, 1) := by decide +kernel
theorem dX0_sendCopy_20 : decode cX0_sendCopy 20 = .ok (.iload_n 1, 1) := by decide +kernel
theorem dX0_sendCopy_21 : decode cX0_sendCopy 21 = .ok (.iconst 3, 1) := by decide +kernel
theorem dX0_sendCopy_22 : decode cX0_sendCopy 22 = .ok (.invokevirtual 49, 3) := by decide +kernel
theorem dX0_sendCopy_25 : decode cX0_sendCopy 25 = .ok (.iload_n 1, 1) := by decide +kernel
theorem dX0_sendCopy_26 : decode cX0_sendCopy 26 = .ok (.invokevirtual 52, 3) := by decide +kernel
theorem dX0_sendCopy_29 : decode cX0_sendCopy 29 = .ok (.istore_n 2, 1) := by decide +kernel
theorem dX0_sendCopy_30 : decode cX0_sendCopy 30 = .ok (.aload_n 0, 1) := by decide +kernel
theorem dX0_sendCopy_31 : decode cX0_sendCopy 31 = .ok (.iload_n 1, 1) := by decide +kernel
theorem dX0_sendCopy_32 : decode cX0_sendCopy 32 = .ok (.iconst 4, 1) := by decide +kernel
theorem dX0_sendCopy_33 : decode cX0_sendCopy 33 = .ok (.invokevirtual 49, 3) := by decide +kernel
theorem dX0_sendCopy_36 : decode cX0_sendCopy 36 = .ok (.istore_n 3, 1) := by decide +kernel
theorem dX0_sendCopy_37 : decode cX0_sendCopy 37 = .ok (.iconst 0, 1) := by decide +kernel
theorem dX0_sendCopy_38 : decode cX0_sendCopy 38 = .ok (.istore 4, 2) := by decide +kernel
theorem dX0_sendCopy_40 : decode cX0_sendCopy 40 = .ok (.iload 4, 2) := by decide +kernel
theorem dX0_sendCopy_42 : decode cX0_sendCopy 42 = .ok (.iload_n 3, 1) := by decide +kernel
theorem dX0_sendCopy_43 : decode cX0_sendCopy 43 = .ok (.if_icmp .ge 45, 3) := by decide +kernel
theorem dX0_sendCopy_46 : decode cX0_sendCopy 46 = .ok (.aload_n 0, 1) := by decide +kernel
theorem dX0_sendCopy_47 : decode cX0_sendCopy 47 = .ok (.aload_n 0, 1) := by decide +kernel
theorem dX0_sendCopy_48 : decode cX0_sendCopy 48 = .ok (.iload_n 1, 1) := by decide +kernel
theorem dX0_sendCopy_49 : decode cX0_sendCopy 49 = .ok (.iload 4, 2) := by decide +kernel
theorem dX0_sendCopy_51 : decode cX0_sendCopy 51 = .ok (.iconst 0, 1) := by decide +kernel
theorem dX0_sendCopy_52 : decode cX0_sendCopy 52 = .ok (.invokevirtual 56, 3) := by decide +kernel
theorem dX0_sendCopy_55 : decode cX0_sendCopy 55 = .ok (.aload_n 0, 1) := by decide +kernel
theorem dX0_sendCopy_56 : decode cX0_sendCopy 56 = .ok (.iload_n 1, 1) := by decide +kernel
theorem dX0_sendCopy_57 : decode cX0_sendCopy 57 = .ok (.iload 4, 2) := by decide +kernel
theorem dX0_sendCopy_59 : decode cX0_sendCopy 59 = .ok (.iconst 1, 1) := by decide +kernel
theorem dX0_sendCopy_60 : decode cX0_sendCopy 60 = .ok (.invokevirtual 56, 3) := by decide +kernel
theorem dX0_sendCopy_63 : decode cX0_sendCopy 63 = .ok (.aload_n 0, 1) := by decide +kernel
theorem dX0_sendCopy_64 : decode cX0_sendCopy 64 = .ok (.iload_n 1, 1) := by decide +kernel
theorem dX0_sendCopy_65 : decode cX0_sendCopy 65 = .ok (.iload 4, 2) := by decide +kernel
theorem dX0_sendCopy_67 : decode cX0_sendCopy 67 = .ok (.iconst 2, 1) := by decide +kernel
theorem dX0_sendCopy_68 : decode cX0_sendCopy 68 = .ok (.invokevirtual 56, 3) := by decide +kernel
theorem dX0_sendCopy_71 : decode cX0_sendCopy 71 = .ok (.aload_n 0, 1) := by decide +kernel
theorem dX0_sendCopy_72 : decode cX0_sendCopy 72 = .ok (.iload_n 1, 1) := by decide +kernel
theorem dX0_sendCopy_73 : decode cX0_sendCopy 73 = .ok (.iload 4, 2) := by decide +kernel
theorem dX0_sendCopy_75 : decode cX0_sendCopy 75 = .ok (.iconst 3, 1) := by decide +kernel
theorem dX0_sendCopy_76 : decode cX0_sendCopy 76 = .ok (.invokevirtual 56, 3) := by decide +kernel
theorem dX0_sendCopy_79 : decode cX0_sendCopy 79 = .ok (.invokevirtual 60, 3) := by decide +kernel
theorem dX0_sendCopy_82 : decode cX0_sendCopy 82 = .ok (.iinc 4 1, 3) := by decide +kernel
theorem dX0_sendCopy_85 : decode cX0_sendCopy 85 = .ok (.goto (-45), 3) := by decide +kernel
theorem dX0_sendCopy_88 : decode cX0_sendCopy 88 = .ok (.iload_n 2, 1) := by decide +kernel
theorem dX0_sendCopy_89 : decode cX0_sendCopy 89 = .ok (.ireturn, 1) := by decide +kernel
theorem dX0_endAsDelivered_0 : decode cX0_endAsDelivered 0 = .ok (.aload_n 0, 1) := by decide +kernel
theorem dX0_endAsDelivered_1 : decode cX0_endAsDelivered 1 = .ok (.getfield 14, 3) := by decide +kernel
theorem dX0_endAsDelivered_4 : decode cX0_endAsDelivered 4 = .ok (.iload_n 1, 1) := by decide +kernel
theorem dX0_endAsDelivered_5 : decode cX0_endAsDelivered 5 = .ok (.iconst 5, 1) := by decide +kernel
theorem dX0_endAsDelivered_6 : decode cX0_endAsDelivered 6 = .ok (.iconst 1, 1) := by decide +kernel
theorem dX0_endAsDelivered_7 : decode cX0_endAsDelivered 7 = .ok (.invokevirtual 45, 3) := by decide +kernel
theorem dX0_endAsDelivered_10 : decode cX0_endAsDelivered 10 = .ok (.aload_n 0, 1) := by decide +kernel
theorem dX0_endAsDelivered_11 : decode cX0_endAsDelivered 11 = .ok (.dup, 1) := by decide +kernel
theorem dX0_endAsDelivered_12 : decode cX0_endAsDelivered 12 = .ok (.getfield 23, 3) := by decide +kernel
theorem dX0_endAsDelivered_15 : decode cX0_endAsDelivered 15 = .ok (.iconst 1, 1) := by decide +kernel
theorem dX0_endAsDelivered_16 : decode cX0_endAsDelivered 16 = .ok (.iadd, 1) := by decide +kernel
theorem dX0_endAsDelivered_17 : decode cX0_endAsDelivered 17 = .ok (.putfield 23, 3) := by decide +kernel
theorem dX0_endAsDelivered_20 : decode cX0_endAsDelivered 20 = .ok (.return_, 1) := by decide +kernel
theorem dX0_endAsLost_0 : decode cX0_endAsLost 0 = .ok (.aload_n 0, 1) := by decide +kernel
theorem dX0_endAsLost_1 : decode cX0_endAsLost 1 = .ok (.getfield 14, 3) := by decide +kernel
theorem dX0_endAsLost_4 : decode cX0_endAsLost 4 = .ok (.iload_n 1, 1) := by decide +kernel
theorem dX0_endAsLost_5 : decode cX0_endAsLost 5 = .ok (.iconst 5, 1) := by decide +kernel
theorem dX0_endAsLost_6 : decode cX0_endAsLost 6 = .ok (.iconst 2, 1) := by decide +kernel
theorem dX0_endAsLost_7 : decode cX0_endAsLost 7 = .ok (.invokevirtual 45, 3) := by decide +kernel
theorem dX0_endAsLost_10 : decode cX0_endAsLost 10 = .ok (.aload_n 0, 1) := by decide +kernel
theorem dX0_endAsLost_11 : decode cX0_endAsLost 11 = .ok (.dup, 1) := by decide +kernel
theorem dX0_endAsLost_12 : decode cX0_endAsLost 12 = .ok (.getfield 27, 3) := by decide +kernel
theorem dX0_endAsLost_15 : decode cX0_endAsLost 15 = .ok (.iconst 1, 1) := by decide +kernel
theorem dX0_endAsLost_16 : decode cX0_endAsLost 16 = .ok (.iadd, 1) := by decide +kernel
theorem dX0_endAsLost_17 : decode cX0_endAsLost 17 = .ok (.putfield 27, 3) := by decide +kernel
theorem dX0_endAsLost_20 : decode cX0_endAsLost 20 = .ok (.return_, 1) := by decide +kernel
theorem dX0_findPiece_0 : decode cX0_findPiece 0 = .ok (.aload_n 0, 1) := by decide +kernel
theorem dX0_findPiece_1 : decode cX0_findPiece 1 = .ok (.iload_n 1, 1) := by decide +kernel
theorem dX0_findPiece_2 : decode cX0_findPiece 2 = .ok (.iconst 4, 1) := by decide +kernel
theorem dX0_findPiece_3 : decode cX0_findPiece 3 = .ok (.invokevirtual 49, 3) := by decide +kernel
theorem dX0_findPiece_6 : decode cX0_findPiece 6 = .ok (.istore_n 3, 1) := by decide +kernel
theorem dX0_findPiece_7 : decode cX0_findPiece 7 = .ok (.iconst 0, 1) := by decide +kernel
theorem dX0_findPiece_8 : decode cX0_findPiece 8 = .ok (.istore 4, 2) := by decide +kernel
theorem dX0_findPiece_10 : decode cX0_findPiece 10 = .ok (.iload 4, 2) := by decide +kernel
theorem dX0_findPiece_12 : decode cX0_findPiece 12 = .ok (.iload_n 3, 1) := by decide +kernel
theorem dX0_findPiece_13 : decode cX0_findPiece 13 = .ok (.if_icmp .ge 24, 3) := by decide +kernel
theorem dX0_findPiece_16 : decode cX0_findPiece 16 = .ok (.aload_n 0, 1) := by decide +kernel
theorem dX0_findPiece_17 : decode cX0_findPiece 17 = .ok (.iload_n 1, 1) := by decide +kernel
theorem dX0_findPiece_18 : decode cX0_findPiece 18 = .ok (.iload 4, 2) := by decide +kernel
theorem dX0_findPiece_20 : decode cX0_findPiece 20 = .ok (.iconst 0, 1) := by decide +kernel
theorem dX0_findPiece_21 : decode cX0_findPiece 21 = .ok (.invokevirtual 56, 3) := by decide +kernel
theorem dX0_findPiece_24 : decode cX0_findPiece 24 = .ok (.iload_n 2, 1) := by decide +kernel
theorem dX0_findPiece_25 : decode cX0_findPiece 25 = .ok (.if_icmp .ne 6, 3) := by decide +kernel
theorem dX0_findPiece_28 : decode cX0_findPiece 28 = .ok (.iload 4, 2) := by decide +kernel
theorem dX0_findPiece_30 : decode cX0_findPiece 30 = .ok (.ireturn, 1) := by decide +kernel
theorem dX0_findPiece_31 : decode cX0_findPiece 31 = .ok (.iinc 4 1, 3) := by decide +kernel
theorem dX0_findPiece_34 : decode cX0_findPiece 34 = .ok (.goto (-24), 3) := by decide +kernel
theorem dX0_findPiece_37 : decode cX0_findPiece 37 = .ok (.iconst (-1), 1) := by decide +kernel
theorem dX0_findPiece_38 : decode cX0_findPiece 38 = .ok (.ireturn, 1) := by decide +kernel
theorem dX0_reached_0 : decode cX0_reached 0 = .ok (.aload_n 0, 1) := by decide +kernel
theorem dX0_reached_1 : decode cX0_reached 1 = .ok (.iload_n 1, 1) := by decide +kernel
theorem dX0_reached_2 : decode cX0_reached 2 = .ok (.invokevirtual 64, 3) := by decide +kernel
theorem dX0_reached_5 : decode cX0_reached 5 = .ok (.ifCond .eq 27, 3) := by decide +kernel
theorem dX0_reached_8 : decode cX0_reached 8 = .ok (.aload_n 0, 1) := by decide +kernel
theorem dX0_reached_9 : decode cX0_reached 9 = .ok (.iload_n 1, 1) := by decide +kernel
theorem dX0_reached_10 : decode cX0_reached 10 = .ok (.iconst 5, 1) := by decide +kernel
theorem dX0_reached_11 : decode cX0_reached 11 = .ok (.invokevirtual 49, 3) := by decide +kernel
theorem dX0_reached_14 : decode cX0_reached 14 = .ok (.iconst 1, 1) := by decide +kernel
theorem dX0_reached_15 : decode cX0_reached 15 = .ok (.if_icmp .ne 17, 3) := by decide +kernel
theorem dX0_reached_18 : decode cX0_reached 18 = .ok (.aload_n 0, 1) := by decide +kernel
theorem dX0_reached_19 : decode cX0_reached 19 = .ok (.iload_n 1, 1) := by decide +kernel
theorem dX0_reached_20 : decode cX0_reached 20 = .ok (.iconst 2, 1) := by decide +kernel
theorem dX0_reached_21 : decode cX0_reached 21 = .ok (.invokevirtual 49, 3) := by decide +kernel
theorem dX0_reached_24 : decode cX0_reached 24 = .ok (.iload_n 2, 1) := by decide +kernel
theorem dX0_reached_25 : decode cX0_reached 25 = .ok (.if_icmp .ne 7, 3) := by decide +kernel
theorem dX0_reached_28 : decode cX0_reached 28 = .ok (.iconst 1, 1) := by decide +kernel
theorem dX0_reached_29 : decode cX0_reached 29 = .ok (.goto 4, 3) := by decide +kernel
theorem dX0_reached_32 : decode cX0_reached 32 = .ok (.iconst 0, 1) := by decide +kernel
theorem dX0_reached_33 : decode cX0_reached 33 = .ok (.ireturn, 1) := by decide +kernel
theorem dX0_become_0 : decode cX0_become 0 = .ok (.aload_n 0, 1) := by decide +kernel
theorem dX0_become_1 : decode cX0_become 1 = .ok (.getfield 14, 3) := by decide +kernel
theorem dX0_become_4 : decode cX0_become 4 = .ok (.aload_n 1, 1) := by decide +kernel
theorem dX0_become_5 : decode cX0_become 5 = .ok (.getfield 14, 3) := by decide +kernel
theorem dX0_become_8 : decode cX0_become 8 = .ok (.invokevirtual 68, 3) := by decide +kernel
theorem dX0_become_11 : decode cX0_become 11 = .ok (.aload_n 0, 1) := by decide +kernel
theorem dX0_become_12 : decode cX0_become 12 = .ok (.getfield 20, 3) := by decide +kernel
theorem dX0_become_15 : decode cX0_become 15 = .ok (.aload_n 1, 1) := by decide +kernel
theorem dX0_become_16 : decode cX0_become 16 = .ok (.getfield 20, 3) := by decide +kernel
theorem dX0_become_19 : decode cX0_become 19 = .ok (.invokevirtual 68, 3) := by decide +kernel
theorem dX0_become_22 : decode cX0_become 22 = .ok (.aload_n 0, 1) := by decide +kernel
theorem dX0_become_23 : decode cX0_become 23 = .ok (.aload_n 1, 1) := by decide +kernel
theorem dX0_become_24 : decode cX0_become 24 = .ok (.getfield 23, 3) := by decide +kernel
theorem dX0_become_27 : decode cX0_become 27 = .ok (.putfield 23, 3) := by decide +kernel
theorem dX0_become_30 : decode cX0_become 30 = .ok (.aload_n 0, 1) := by decide +kernel
theorem dX0_become_31 : decode cX0_become 31 = .ok (.aload_n 1, 1) := by decide +kernel
theorem dX0_become_32 : decode cX0_become 32 = .ok (.getfield 27, 3) := by decide +kernel
theorem dX0_become_35 : decode cX0_become 35 = .ok (.putfield 27, 3) := by decide +kernel
theorem dX0_become_38 : decode cX0_become 38 = .ok (.return_, 1) := by decide +kernel
theorem dX0_sameAs_0 : decode cX0_sameAs 0 = .ok (.aload_n 0, 1) := by decide +kernel
theorem dX0_sameAs_1 : decode cX0_sameAs 1 = .ok (.getfield 23, 3) := by decide +kernel
theorem dX0_sameAs_4 : decode cX0_sameAs 4 = .ok (.aload_n 1, 1) := by decide +kernel
theorem dX0_sameAs_5 : decode cX0_sameAs 5 = .ok (.getfield 23, 3) := by decide +kernel
theorem dX0_sameAs_8 : decode cX0_sameAs 8 = .ok (.if_icmp .ne 46, 3) := by decide +kernel
theorem dX0_sameAs_11 : decode cX0_sameAs 11 = .ok (.aload_n 0, 1) := by decide +kernel
theorem dX0_sameAs_12 : decode cX0_sameAs 12 = .ok (.getfield 27, 3) := by decide +kernel
theorem dX0_sameAs_15 : decode cX0_sameAs 15 = .ok (.aload_n 1, 1) := by decide +kernel
theorem dX0_sameAs_16 : decode cX0_sameAs 16 = .ok (.getfield 27, 3) := by decide +kernel
theorem dX0_sameAs_19 : decode cX0_sameAs 19 = .ok (.if_icmp .ne 35, 3) := by decide +kernel
theorem dX0_sameAs_22 : decode cX0_sameAs 22 = .ok (.aload_n 0, 1) := by decide +kernel
theorem dX0_sameAs_23 : decode cX0_sameAs 23 = .ok (.getfield 14, 3) := by decide +kernel
theorem dX0_sameAs_26 : decode cX0_sameAs 26 = .ok (.aload_n 1, 1) := by decide +kernel
theorem dX0_sameAs_27 : decode cX0_sameAs 27 = .ok (.getfield 14, 3) := by decide +kernel
theorem dX0_sameAs_30 : decode cX0_sameAs 30 = .ok (.invokevirtual 72, 3) := by decide +kernel
theorem dX0_sameAs_33 : decode cX0_sameAs 33 = .ok (.ifCond .eq 21, 3) := by decide +kernel
theorem dX0_sameAs_36 : decode cX0_sameAs 36 = .ok (.aload_n 0, 1) := by decide +kernel
theorem dX0_sameAs_37 : decode cX0_sameAs 37 = .ok (.getfield 20, 3) := by decide +kernel
theorem dX0_sameAs_40 : decode cX0_sameAs 40 = .ok (.aload_n 1, 1) := by decide +kernel
theorem dX0_sameAs_41 : decode cX0_sameAs 41 = .ok (.getfield 20, 3) := by decide +kernel
theorem dX0_sameAs_44 : decode cX0_sameAs 44 = .ok (.invokevirtual 72, 3) := by decide +kernel
theorem dX0_sameAs_47 : decode cX0_sameAs 47 = .ok (.ifCond .eq 7, 3) := by decide +kernel
theorem dX0_sameAs_50 : decode cX0_sameAs 50 = .ok (.iconst 1, 1) := by decide +kernel
theorem dX0_sameAs_51 : decode cX0_sameAs 51 = .ok (.goto 4, 3) := by decide +kernel
theorem dX0_sameAs_54 : decode cX0_sameAs 54 = .ok (.iconst 0, 1) := by decide +kernel
theorem dX0_sameAs_55 : decode cX0_sameAs 55 = .ok (.ireturn, 1) := by decide +kernel
theorem dX1_init_0 : decode cX1_init 0 = .ok (.aload_n 0, 1) := by decide +kernel
theorem dX1_init_1 : decode cX1_init 1 = .ok (.invokespecial 3, 3) := by decide +kernel
theorem dX1_init_4 : decode cX1_init 4 = .ok (.aload_n 0, 1) := by decide +kernel
theorem dX1_init_5 : decode cX1_init 5 = .ok (.iload_n 1, 1) := by decide +kernel
theorem dX1_init_6 : decode cX1_init 6 = .ok (.putfield 9, 3) := by decide +kernel
theorem dX1_init_9 : decode cX1_init 9 = .ok (.aload_n 0, 1) := by decide +kernel
theorem dX1_init_10 : decode cX1_init 10 = .ok (.iconst 0, 1) := by decide +kernel
theorem dX1_init_11 : decode cX1_init 11 = .ok (.putfield 15, 3) := by decide +kernel
theorem dX1_init_14 : decode cX1_init 14 = .ok (.aload_n 0, 1) := by decide +kernel
theorem dX1_init_15 : decode cX1_init 15 = .ok (.bipush 64, 2) := by decide +kernel
theorem dX1_init_17 : decode cX1_init 17 = .ok (.newarray .int, 2) := by decide +kernel
theorem dX1_init_19 : decode cX1_init 19 = .ok (.putfield 19, 3) := by decide +kernel
theorem dX1_init_22 : decode cX1_init 22 = .ok (.aload_n 0, 1) := by decide +kernel
theorem dX1_init_23 : decode cX1_init 23 = .ok (.bipush 64, 2) := by decide +kernel
theorem dX1_init_25 : decode cX1_init 25 = .ok (.newarray .int, 2) := by decide +kernel
theorem dX1_init_27 : decode cX1_init 27 = .ok (.putfield 23, 3) := by decide +kernel
theorem dX1_init_30 : decode cX1_init 30 = .ok (.aload_n 0, 1) := by decide +kernel
theorem dX1_init_31 : decode cX1_init 31 = .ok (.bipush 64, 2) := by decide +kernel
theorem dX1_init_33 : decode cX1_init 33 = .ok (.newarray .int, 2) := by decide +kernel
theorem dX1_init_35 : decode cX1_init 35 = .ok (.putfield 26, 3) := by decide +kernel
theorem dX1_init_38 : decode cX1_init 38 = .ok (.aload_n 0, 1) := by decide +kernel
theorem dX1_init_39 : decode cX1_init 39 = .ok (.bipush 64, 2) := by decide +kernel
theorem dX1_init_41 : decode cX1_init 41 = .ok (.newarray .int, 2) := by decide +kernel
theorem dX1_init_43 : decode cX1_init 43 = .ok (.putfield 29, 3) := by decide +kernel
theorem dX1_init_46 : decode cX1_init 46 = .ok (.aload_n 0, 1) := by decide +kernel
theorem dX1_init_47 : decode cX1_init 47 = .ok (.bipush 64, 2) := by decide +kernel
theorem dX1_init_49 : decode cX1_init 49 = .ok (.newarray .int, 2) := by decide +kernel
theorem dX1_init_51 : decode cX1_init 51 = .ok (.putfield 32, 3) := by decide +kernel
theorem dX1_init_54 : decode cX1_init 54 = .ok (.aload_n 0, 1) := by decide +kernel
theorem dX1_init_55 : decode cX1_init 55 = .ok (.bipush 64, 2) := by decide +kernel
theorem dX1_init_57 : decode cX1_init 57 = .ok (.newarray .int, 2) := by decide +kernel
theorem dX1_init_59 : decode cX1_init 59 = .ok (.putfield 35, 3) := by decide +kernel
theorem dX1_init_62 : decode cX1_init 62 = .ok (.return_, 1) := by decide +kernel
theorem dX1_begin_0 : decode cX1_begin 0 = .ok (.aload_n 0, 1) := by decide +kernel
theorem dX1_begin_1 : decode cX1_begin 1 = .ok (.iconst 1, 1) := by decide +kernel
theorem dX1_begin_2 : decode cX1_begin 2 = .ok (.putfield 15, 3) := by decide +kernel
theorem dX1_begin_5 : decode cX1_begin 5 = .ok (.aload_n 0, 1) := by decide +kernel
theorem dX1_begin_6 : decode cX1_begin 6 = .ok (.iconst 0, 1) := by decide +kernel
theorem dX1_begin_7 : decode cX1_begin 7 = .ok (.putfield 38, 3) := by decide +kernel
theorem dX1_begin_10 : decode cX1_begin 10 = .ok (.aload_n 0, 1) := by decide +kernel
theorem dX1_begin_11 : decode cX1_begin 11 = .ok (.lload_n 1, 1) := by decide +kernel
theorem dX1_begin_12 : decode cX1_begin 12 = .ok (.putfield 41, 3) := by decide +kernel
theorem dX1_begin_15 : decode cX1_begin 15 = .ok (.aload_n 0, 1) := by decide +kernel
theorem dX1_begin_16 : decode cX1_begin 16 = .ok (.iconst 1, 1) := by decide +kernel
theorem dX1_begin_17 : decode cX1_begin 17 = .ok (.putfield 45, 3) := by decide +kernel
theorem dX1_begin_20 : decode cX1_begin 20 = .ok (.aload_n 0, 1) := by decide +kernel
theorem dX1_begin_21 : decode cX1_begin 21 = .ok (.iconst 0, 1) := by decide +kernel
theorem dX1_begin_22 : decode cX1_begin 22 = .ok (.putfield 48, 3) := by decide +kernel
theorem dX1_begin_25 : decode cX1_begin 25 = .ok (.aload_n 0, 1) := by decide +kernel
theorem dX1_begin_26 : decode cX1_begin 26 = .ok (.invokevirtual 51, 3) := by decide +kernel
theorem dX1_begin_29 : decode cX1_begin 29 = .ok (.return_, 1) := by decide +kernel
theorem dX1_forgetAll_0 : decode cX1_forgetAll 0 = .ok (.aload_n 0, 1) := by decide +kernel
theorem dX1_forgetAll_1 : decode cX1_forgetAll 1 = .ok (.getfield 19, 3) := by decide +kernel
theorem dX1_forgetAll_4 : decode cX1_forgetAll 4 = .ok (.iconst 0, 1) := by decide +kernel
theorem dX1_forgetAll_5 : decode cX1_forgetAll 5 = .ok (.invokestatic 54, 3) := by decide +kernel
theorem dX1_forgetAll_8 : decode cX1_forgetAll 8 = .ok (.aload_n 0, 1) := by decide +kernel
theorem dX1_forgetAll_9 : decode cX1_forgetAll 9 = .ok (.getfield 23, 3) := by decide +kernel
theorem dX1_forgetAll_12 : decode cX1_forgetAll 12 = .ok (.iconst 0, 1) := by decide +kernel
theorem dX1_forgetAll_13 : decode cX1_forgetAll 13 = .ok (.invokestatic 54, 3) := by decide +kernel
theorem dX1_forgetAll_16 : decode cX1_forgetAll 16 = .ok (.aload_n 0, 1) := by decide +kernel
theorem dX1_forgetAll_17 : decode cX1_forgetAll 17 = .ok (.getfield 26, 3) := by decide +kernel
theorem dX1_forgetAll_20 : decode cX1_forgetAll 20 = .ok (.iconst 0, 1) := by decide +kernel
theorem dX1_forgetAll_21 : decode cX1_forgetAll 21 = .ok (.invokestatic 54, 3) := by decide +kernel
theorem dX1_forgetAll_24 : decode cX1_forgetAll 24 = .ok (.aload_n 0, 1) := by decide +kernel
theorem dX1_forgetAll_25 : decode cX1_forgetAll 25 = .ok (.getfield 29, 3) := by decide +kernel
theorem dX1_forgetAll_28 : decode cX1_forgetAll 28 = .ok (.iconst 0, 1) := by decide +kernel
theorem dX1_forgetAll_29 : decode cX1_forgetAll 29 = .ok (.invokestatic 54, 3) := by decide +kernel
theorem dX1_forgetAll_32 : decode cX1_forgetAll 32 = .ok (.aload_n 0, 1) := by decide +kernel
theorem dX1_forgetAll_33 : decode cX1_forgetAll 33 = .ok (.getfield 32, 3) := by decide +kernel
theorem dX1_forgetAll_36 : decode cX1_forgetAll 36 = .ok (.iconst 0, 1) := by decide +kernel
theorem dX1_forgetAll_37 : decode cX1_forgetAll 37 = .ok (.invokestatic 54, 3) := by decide +kernel
theorem dX1_forgetAll_40 : decode cX1_forgetAll 40 = .ok (.aload_n 0, 1) := by decide +kernel
theorem dX1_forgetAll_41 : decode cX1_forgetAll 41 = .ok (.invokevirtual 60, 3) := by decide +kernel
theorem dX1_forgetAll_44 : decode cX1_forgetAll 44 = .ok (.aload_n 0, 1) := by decide +kernel
theorem dX1_forgetAll_45 : decode cX1_forgetAll 45 = .ok (.aload_n 0, 1) := by decide +kernel
theorem dX1_forgetAll_46 : decode cX1_forgetAll 46 = .ok (.getfield 9, 3) := by decide +kernel
theorem dX1_forgetAll_49 : decode cX1_forgetAll 49 = .ok (.iconst 1, 1) := by decide +kernel
theorem dX1_forgetAll_50 : decode cX1_forgetAll 50 = .ok (.aload_n 0, 1) := by decide +kernel
theorem dX1_forgetAll_51 : decode cX1_forgetAll 51 = .ok (.getfield 45, 3) := by decide +kernel
theorem dX1_forgetAll_54 : decode cX1_forgetAll 54 = .ok (.invokevirtual 63, 3) := by decide +kernel
theorem dX1_forgetAll_57 : decode cX1_forgetAll 57 = .ok (.return_, 1) := by decide +kernel
theorem dX1_stopAsking_0 : decode cX1_stopAsking 0 = .ok (.aload_n 0, 1) := by decide +kernel
theorem dX1_stopAsking_1 : decode cX1_stopAsking 1 = .ok (.iconst (-1), 1) := by decide +kernel
theorem dX1_stopAsking_2 : decode cX1_stopAsking 2 = .ok (.putfield 67, 3) := by decide +kernel
theorem dX1_stopAsking_5 : decode cX1_stopAsking 5 = .ok (.aload_n 0, 1) := by decide +kernel
theorem dX1_stopAsking_6 : decode cX1_stopAsking 6 = .ok (.iconst (-1), 1) := by decide +kernel
theorem dX1_stopAsking_7 : decode cX1_stopAsking 7 = .ok (.putfield 70, 3) := by decide +kernel
theorem dX1_stopAsking_10 : decode cX1_stopAsking 10 = .ok (.aload_n 0, 1) := by decide +kernel
theorem dX1_stopAsking_11 : decode cX1_stopAsking 11 = .ok (.iconst 0, 1) := by decide +kernel
theorem dX1_stopAsking_12 : decode cX1_stopAsking 12 = .ok (.putfield 73, 3) := by decide +kernel
theorem dX1_stopAsking_15 : decode cX1_stopAsking 15 = .ok (.aload_n 0, 1) := by decide +kernel
theorem dX1_stopAsking_16 : decode cX1_stopAsking 16 = .ok (.iconst 0, 1) := by decide +kernel
theorem dX1_stopAsking_17 : decode cX1_stopAsking 17 = .ok (.putfield 76, 3) := by decide +kernel
theorem dX1_stopAsking_20 : decode cX1_stopAsking 20 = .ok (.return_, 1) := by decide +kernel
theorem dX1_say_0 : decode cX1_say 0 = .ok (.aload_n 0, 1) := by decide +kernel
theorem dX1_say_1 : decode cX1_say 1 = .ok (.iload_n 1, 1) := by decide +kernel
theorem dX1_say_2 : decode cX1_say 2 = .ok (.iload_n 2, 1) := by decide +kernel
theorem dX1_say_3 : decode cX1_say 3 = .ok (.iload_n 3, 1) := by decide +kernel
theorem dX1_say_4 : decode cX1_say 4 = .ok (.iconst (-1), 1) := by decide +kernel
theorem dX1_say_5 : decode cX1_say 5 = .ok (.invokevirtual 79, 3) := by decide +kernel
theorem dX1_say_8 : decode cX1_say 8 = .ok (.return_, 1) := by decide +kernel
theorem dX1_enter_0 : decode cX1_enter 0 = .ok (.iload_n 1, 1) := by decide +kernel
theorem dX1_enter_1 : decode cX1_enter 1 = .ok (.ifCond .lt 48, 3) := by decide +kernel
theorem dX1_enter_4 : decode cX1_enter 4 = .ok (.iload_n 1, 1) := by decide +kernel
theorem dX1_enter_5 : decode cX1_enter 5 = .ok (.bipush 64, 2) := by decide +kernel
theorem dX1_enter_7 : decode cX1_enter 7 = .ok (.if_icmp .ge 42, 3) := by decide +kernel
theorem dX1_enter_10 : decode cX1_enter 10 = .ok (.aload_n 0, 1) := by decide +kernel
theorem dX1_enter_11 : decode cX1_enter 11 = .ok (.getfield 19, 3) := by decide +kernel
theorem dX1_enter_14 : decode cX1_enter 14 = .ok (.iload_n 1, 1) := by decide +kernel
theorem dX1_enter_15 : decode cX1_enter 15 = .ok (.iload_n 2, 1) := by decide +kernel
theorem dX1_enter_16 : decode cX1_enter 16 = .ok (.iastore, 1) := by decide +kernel
theorem dX1_enter_17 : decode cX1_enter 17 = .ok (.aload_n 0, 1) := by decide +kernel
theorem dX1_enter_18 : decode cX1_enter 18 = .ok (.getfield 23, 3) := by decide +kernel
theorem dX1_enter_21 : decode cX1_enter 21 = .ok (.iload_n 1, 1) := by decide +kernel
theorem dX1_enter_22 : decode cX1_enter 22 = .ok (.iload_n 3, 1) := by decide +kernel
theorem dX1_enter_23 : decode cX1_enter 23 = .ok (.iastore, 1) := by decide +kernel
theorem dX1_enter_24 : decode cX1_enter 24 = .ok (.aload_n 0, 1) := by decide +kernel
theorem dX1_enter_25 : decode cX1_enter 25 = .ok (.getfield 26, 3) := by decide +kernel
theorem dX1_enter_28 : decode cX1_enter 28 = .ok (.iload_n 1, 1) := by decide +kernel
theorem dX1_enter_29 : decode cX1_enter 29 = .ok (.iconst 0, 1) := by decide +kernel
theorem dX1_enter_30 : decode cX1_enter 30 = .ok (.iastore, 1) := by decide +kernel
theorem dX1_enter_31 : decode cX1_enter 31 = .ok (.aload_n 0, 1) := by decide +kernel
theorem dX1_enter_32 : decode cX1_enter 32 = .ok (.getfield 29, 3) := by decide +kernel
theorem dX1_enter_35 : decode cX1_enter 35 = .ok (.iload_n 1, 1) := by decide +kernel
theorem dX1_enter_36 : decode cX1_enter 36 = .ok (.aload_n 0, 1) := by decide +kernel
theorem dX1_enter_37 : decode cX1_enter 37 = .ok (.getfield 48, 3) := by decide +kernel
theorem dX1_enter_40 : decode cX1_enter 40 = .ok (.iastore, 1) := by decide +kernel
theorem dX1_enter_41 : decode cX1_enter 41 = .ok (.aload_n 0, 1) := by decide +kernel
theorem dX1_enter_42 : decode cX1_enter 42 = .ok (.getfield 32, 3) := by decide +kernel
theorem dX1_enter_45 : decode cX1_enter 45 = .ok (.iload_n 1, 1) := by decide +kernel
theorem dX1_enter_46 : decode cX1_enter 46 = .ok (.iload 4, 2) := by decide +kernel
theorem dX1_enter_48 : decode cX1_enter 48 = .ok (.iastore, 1) := by decide +kernel
theorem dX1_enter_49 : decode cX1_enter 49 = .ok (.return_, 1) := by decide +kernel
theorem dX1_raiseTerm_0 : decode cX1_raiseTerm 0 = .ok (.aload_n 0, 1) := by decide +kernel
theorem dX1_raiseTerm_1 : decode cX1_raiseTerm 1 = .ok (.iload_n 1, 1) := by decide +kernel
theorem dX1_raiseTerm_2 : decode cX1_raiseTerm 2 = .ok (.putfield 45, 3) := by decide +kernel
theorem dX1_raiseTerm_5 : decode cX1_raiseTerm 5 = .ok (.aload_n 0, 1) := by decide +kernel
theorem dX1_raiseTerm_6 : decode cX1_raiseTerm 6 = .ok (.aload_n 0, 1) := by decide +kernel
theorem dX1_raiseTerm_7 : decode cX1_raiseTerm 7 = .ok (.getfield 9, 3) := by decide +kernel
theorem dX1_raiseTerm_10 : decode cX1_raiseTerm 10 = .ok (.iconst 1, 1) := by decide +kernel
theorem dX1_raiseTerm_11 : decode cX1_raiseTerm 11 = .ok (.iload_n 1, 1) := by decide +kernel
theorem dX1_raiseTerm_12 : decode cX1_raiseTerm 12 = .ok (.iconst (-1), 1) := by decide +kernel
theorem dX1_raiseTerm_13 : decode cX1_raiseTerm 13 = .ok (.invokevirtual 79, 3) := by decide +kernel
theorem dX1_raiseTerm_16 : decode cX1_raiseTerm 16 = .ok (.return_, 1) := by decide +kernel
theorem dX1_takePiece_0 : decode cX1_takePiece 0 = .ok (.iload_n 1, 1) := by decide +kernel
theorem dX1_takePiece_1 : decode cX1_takePiece 1 = .ok (.aload_n 0, 1) := by decide +kernel
theorem dX1_takePiece_2 : decode cX1_takePiece 2 = .ok (.getfield 9, 3) := by decide +kernel
theorem dX1_takePiece_5 : decode cX1_takePiece 5 = .ok (.if_icmp .ne 38, 3) := by decide +kernel
theorem dX1_takePiece_8 : decode cX1_takePiece 8 = .ok (.iload_n 2, 1) := by decide +kernel
theorem dX1_takePiece_9 : decode cX1_takePiece 9 = .ok (.iconst 1, 1) := by decide +kernel
theorem dX1_takePiece_10 : decode cX1_takePiece 10 = .ok (.if_icmp .eq 15, 3) := by decide +kernel
theorem dX1_takePiece_13 : decode cX1_takePiece 13 = .ok (.iload_n 3, 1) := by decide +kernel
theorem dX1_takePiece_14 : decode cX1_takePiece 14 = .ok (.aload_n 0, 1) := by decide +kernel
theorem dX1_takePiece_15 : decode cX1_takePiece 15 = .ok (.getfield 45, 3) := by decide +kernel
theorem dX1_takePiece_18 : decode cX1_takePiece 18 = .ok (.if_icmp .lt 7, 3) := by decide +kernel
theorem dX1_takePiece_21 : decode cX1_takePiece 21 = .ok (.iconst 1, 1) := by decide +kernel
theorem dX1_takePiece_22 : decode cX1_takePiece 22 = .ok (.goto 4, 3) := by decide +kernel
theorem dX1_takePiece_25 : decode cX1_takePiece 25 = .ok (.iconst 0, 1) := by decide +kernel
theorem dX1_takePiece_26 : decode cX1_takePiece 26 = .ok (.istore 5, 2) := by decide +kernel
theorem dX1_takePiece_28 : decode cX1_takePiece 28 = .ok (.iload 5, 2) := by decide +kernel
theorem dX1_takePiece_30 : decode cX1_takePiece 30 = .ok (.ifCond .eq 10, 3) := by decide +kernel
theorem dX1_takePiece_33 : decode cX1_takePiece 33 = .ok (.aload_n 0, 1) := by decide +kernel
theorem dX1_takePiece_34 : decode cX1_takePiece 34 = .ok (.iload_n 3, 1) := by decide +kernel
theorem dX1_takePiece_35 : decode cX1_takePiece 35 = .ok (.iconst 1, 1) := by decide +kernel
theorem dX1_takePiece_36 : decode cX1_takePiece 36 = .ok (.iadd, 1) := by decide +kernel
theorem dX1_takePiece_37 : decode cX1_takePiece 37 = .ok (.invokevirtual 83, 3) := by decide +kernel
theorem dX1_takePiece_40 : decode cX1_takePiece 40 = .ok (.iload 5, 2) := by decide +kernel
theorem dX1_takePiece_42 : decode cX1_takePiece 42 = .ok (.ireturn, 1) := by decide +kernel
theorem dX1_takePiece_43 : decode cX1_takePiece 43 = .ok (.iload_n 1, 1) := by decide +kernel
theorem dX1_takePiece_44 : decode cX1_takePiece 44 = .ok (.invokestatic 87, 3) := by decide +kernel
theorem dX1_takePiece_47 : decode cX1_takePiece 47 = .ok (.ifCond .eq 22, 3) := by decide +kernel
theorem dX1_takePiece_50 : decode cX1_takePiece 50 = .ok (.aload_n 0, 1) := by decide +kernel
theorem dX1_takePiece_51 : decode cX1_takePiece 51 = .ok (.iload_n 1, 1) := by decide +kernel
theorem dX1_takePiece_52 : decode cX1_takePiece 52 = .ok (.iload_n 2, 1) := by decide +kernel
theorem dX1_takePiece_53 : decode cX1_takePiece 53 = .ok (.iload_n 3, 1) := by decide +kernel
theorem dX1_takePiece_54 : decode cX1_takePiece 54 = .ok (.invokevirtual 91, 3) := by decide +kernel
theorem dX1_takePiece_57 : decode cX1_takePiece 57 = .ok (.ifCond .eq 12, 3) := by decide +kernel
theorem dX1_takePiece_60 : decode cX1_takePiece 60 = .ok (.aload_n 0, 1) := by decide +kernel
theorem dX1_takePiece_61 : decode cX1_takePiece 61 = .ok (.iload_n 1, 1) := by decide +kernel
theorem dX1_takePiece_62 : decode cX1_takePiece 62 = .ok (.iload_n 2, 1) := by decide +kernel
theorem dX1_takePiece_63 : decode cX1_takePiece 63 = .ok (.iload_n 3, 1) := by decide +kernel
theorem dX1_takePiece_64 : decode cX1_takePiece 64 = .ok (.iload 4, 2) := by decide +kernel
theorem dX1_takePiece_66 : decode cX1_takePiece 66 = .ok (.invokevirtual 79, 3) := by decide +kernel
theorem dX1_takePiece_69 : decode cX1_takePiece 69 = .ok (.iconst 0, 1) := by decide +kernel
theorem dX1_takePiece_70 : decode cX1_takePiece 70 = .ok (.ireturn, 1) := by decide +kernel
theorem dX1_isBeaten_0 : decode cX1_isBeaten 0 = .ok (.aload_n 0, 1) := by decide +kernel
theorem dX1_isBeaten_1 : decode cX1_isBeaten 1 = .ok (.getfield 19, 3) := by decide +kernel
theorem dX1_isBeaten_4 : decode cX1_isBeaten 4 = .ok (.iload_n 1, 1) := by decide +kernel
theorem dX1_isBeaten_5 : decode cX1_isBeaten 5 = .ok (.iaload, 1) := by decide +kernel
theorem dX1_isBeaten_6 : decode cX1_isBeaten 6 = .ok (.ifCond .eq 33, 3) := by decide +kernel
theorem dX1_isBeaten_9 : decode cX1_isBeaten 9 = .ok (.iload_n 3, 1) := by decide +kernel
theorem dX1_isBeaten_10 : decode cX1_isBeaten 10 = .ok (.aload_n 0, 1) := by decide +kernel
theorem dX1_isBeaten_11 : decode cX1_isBeaten 11 = .ok (.getfield 23, 3) := by decide +kernel
theorem dX1_isBeaten_14 : decode cX1_isBeaten 14 = .ok (.iload_n 1, 1) := by decide +kernel
theorem dX1_isBeaten_15 : decode cX1_isBeaten 15 = .ok (.iaload, 1) := by decide +kernel
theorem dX1_isBeaten_16 : decode cX1_isBeaten 16 = .ok (.if_icmp .gt 23, 3) := by decide +kernel
theorem dX1_isBeaten_19 : decode cX1_isBeaten 19 = .ok (.iload_n 3, 1) := by decide +kernel
theorem dX1_isBeaten_20 : decode cX1_isBeaten 20 = .ok (.aload_n 0, 1) := by decide +kernel
theorem dX1_isBeaten_21 : decode cX1_isBeaten 21 = .ok (.getfield 23, 3) := by decide +kernel
theorem dX1_isBeaten_24 : decode cX1_isBeaten 24 = .ok (.iload_n 1, 1) := by decide +kernel
theorem dX1_isBeaten_25 : decode cX1_isBeaten 25 = .ok (.iaload, 1) := by decide +kernel
theorem dX1_isBeaten_26 : decode cX1_isBeaten 26 = .ok (.if_icmp .ne 17, 3) := by decide +kernel
theorem dX1_isBeaten_29 : decode cX1_isBeaten 29 = .ok (.iload_n 2, 1) := by decide +kernel
theorem dX1_isBeaten_30 : decode cX1_isBeaten 30 = .ok (.aload_n 0, 1) := by decide +kernel
theorem dX1_isBeaten_31 : decode cX1_isBeaten 31 = .ok (.getfield 19, 3) := by decide +kernel
theorem dX1_isBeaten_34 : decode cX1_isBeaten 34 = .ok (.iload_n 1, 1) := by decide +kernel
theorem dX1_isBeaten_35 : decode cX1_isBeaten 35 = .ok (.iaload, 1) := by decide +kernel
theorem dX1_isBeaten_36 : decode cX1_isBeaten 36 = .ok (.if_icmp .le 7, 3) := by decide +kernel
theorem dX1_isBeaten_39 : decode cX1_isBeaten 39 = .ok (.iconst 1, 1) := by decide +kernel
theorem dX1_isBeaten_40 : decode cX1_isBeaten 40 = .ok (.goto 4, 3) := by decide +kernel
theorem dX1_isBeaten_43 : decode cX1_isBeaten 43 = .ok (.iconst 0, 1) := by decide +kernel
theorem dX1_isBeaten_44 : decode cX1_isBeaten 44 = .ok (.ireturn, 1) := by decide +kernel
theorem dX1_hasNews_0 : decode cX1_hasNews 0 = .ok (.iload_n 1, 1) := by decide +kernel
theorem dX1_hasNews_1 : decode cX1_hasNews 1 = .ok (.invokestatic 87, 3) := by decide +kernel
theorem dX1_hasNews_4 : decode cX1_hasNews 4 = .ok (.ifCond .eq 16, 3) := by decide +kernel
theorem dX1_hasNews_7 : decode cX1_hasNews 7 = .ok (.aload_n 0, 1) := by decide +kernel
theorem dX1_hasNews_8 : decode cX1_hasNews 8 = .ok (.getfield 19, 3) := by decide +kernel
theorem dX1_hasNews_11 : decode cX1_hasNews 11 = .ok (.iload_n 1, 1) := by decide +kernel
theorem dX1_hasNews_12 : decode cX1_hasNews 12 = .ok (.iaload, 1) := by decide +kernel
theorem dX1_hasNews_13 : decode cX1_hasNews 13 = .ok (.ifCond .eq 7, 3) := by decide +kernel
theorem dX1_hasNews_16 : decode cX1_hasNews 16 = .ok (.iconst 1, 1) := by decide +kernel
theorem dX1_hasNews_17 : decode cX1_hasNews 17 = .ok (.goto 4, 3) := by decide +kernel
theorem dX1_hasNews_20 : decode cX1_hasNews 20 = .ok (.iconst 0, 1) := by decide +kernel
theorem dX1_hasNews_21 : decode cX1_hasNews 21 = .ok (.ireturn, 1) := by decide +kernel
theorem dX1_thinksLiving_0 : decode cX1_thinksLiving 0 = .ok (.iload_n 1, 1) := by decide +kernel
theorem dX1_thinksLiving_1 : decode cX1_thinksLiving 1 = .ok (.ifCond .lt 33, 3) := by decide +kernel
theorem dX1_thinksLiving_4 : decode cX1_thinksLiving 4 = .ok (.iload_n 1, 1) := by decide +kernel
theorem dX1_thinksLiving_5 : decode cX1_thinksLiving 5 = .ok (.bipush 64, 2) := by decide +kernel
theorem dX1_thinksLiving_7 : decode cX1_thinksLiving 7 = .ok (.if_icmp .ge 27, 3) := by decide +kernel
theorem dX1_thinksLiving_10 : decode cX1_thinksLiving 10 = .ok (.aload_n 0, 1) := by decide +kernel
theorem dX1_thinksLiving_11 : decode cX1_thinksLiving 11 = .ok (.getfield 19, 3) := by decide +kernel
theorem dX1_thinksLiving_14 : decode cX1_thinksLiving 14 = .ok (.iload_n 1, 1) := by decide +kernel
theorem dX1_thinksLiving_15 : decode cX1_thinksLiving 15 = .ok (.iaload, 1) := by decide +kernel
theorem dX1_thinksLiving_16 : decode cX1_thinksLiving 16 = .ok (.iconst 1, 1) := by decide +kernel
theorem dX1_thinksLiving_17 : decode cX1_thinksLiving 17 = .ok (.if_icmp .eq 13, 3) := by decide +kernel
theorem dX1_thinksLiving_20 : decode cX1_thinksLiving 20 = .ok (.aload_n 0, 1) := by decide +kernel
theorem dX1_thinksLiving_21 : decode cX1_thinksLiving 21 = .ok (.getfield 19, 3) := by decide +kernel
theorem dX1_thinksLiving_24 : decode cX1_thinksLiving 24 = .ok (.iload_n 1, 1) := by decide +kernel
theorem dX1_thinksLiving_25 : decode cX1_thinksLiving 25 = .ok (.iaload, 1) := by decide +kernel
theorem dX1_thinksLiving_26 : decode cX1_thinksLiving 26 = .ok (.iconst 2, 1) := by decide +kernel
theorem dX1_thinksLiving_27 : decode cX1_thinksLiving 27 = .ok (.if_icmp .ne 7, 3) := by decide +kernel
theorem dX1_thinksLiving_30 : decode cX1_thinksLiving 30 = .ok (.iconst 1, 1) := by decide +kernel
theorem dX1_thinksLiving_31 : decode cX1_thinksLiving 31 = .ok (.goto 4, 3) := by decide +kernel
theorem dX1_thinksLiving_34 : decode cX1_thinksLiving 34 = .ok (.iconst 0, 1) := by decide +kernel
theorem dX1_thinksLiving_35 : decode cX1_thinksLiving 35 = .ok (.ireturn, 1) := by decide +kernel
theorem dX1_saysItself_0 : decode cX1_saysItself 0 = .ok (.aload_n 0, 1) := by decide +kernel
theorem dX1_saysItself_1 : decode cX1_saysItself 1 = .ok (.iload_n 1, 1) := by decide +kernel
theorem dX1_saysItself_2 : decode cX1_saysItself 2 = .ok (.invokevirtual 95, 3) := by decide +kernel
theorem dX1_saysItself_5 : decode cX1_saysItself 5 = .ok (.ifCond .eq 37, 3) := by decide +kernel
theorem dX1_saysItself_8 : decode cX1_saysItself 8 = .ok (.aload_n 0, 1) := by decide +kernel
theorem dX1_saysItself_9 : decode cX1_saysItself 9 = .ok (.getfield 19, 3) := by decide +kernel
theorem dX1_saysItself_12 : decode cX1_saysItself 12 = .ok (.iload_n 1, 1) := by decide +kernel
theorem dX1_saysItself_13 : decode cX1_saysItself 13 = .ok (.iaload, 1) := by decide +kernel
theorem dX1_saysItself_14 : decode cX1_saysItself 14 = .ok (.iload_n 2, 1) := by decide +kernel
theorem dX1_saysItself_15 : decode cX1_saysItself 15 = .ok (.if_icmp .ne 27, 3) := by decide +kernel
theorem dX1_saysItself_18 : decode cX1_saysItself 18 = .ok (.aload_n 0, 1) := by decide +kernel
theorem dX1_saysItself_19 : decode cX1_saysItself 19 = .ok (.getfield 23, 3) := by decide +kernel
theorem dX1_saysItself_22 : decode cX1_saysItself 22 = .ok (.iload_n 1, 1) := by decide +kernel
theorem dX1_saysItself_23 : decode cX1_saysItself 23 = .ok (.iaload, 1) := by decide +kernel
theorem dX1_saysItself_24 : decode cX1_saysItself 24 = .ok (.iload_n 3, 1) := by decide +kernel
theorem dX1_saysItself_25 : decode cX1_saysItself 25 = .ok (.if_icmp .ne 17, 3) := by decide +kernel
theorem dX1_saysItself_28 : decode cX1_saysItself 28 = .ok (.aload_n 0, 1) := by decide +kernel
theorem dX1_saysItself_29 : decode cX1_saysItself 29 = .ok (.getfield 32, 3) := by decide +kernel
theorem dX1_saysItself_32 : decode cX1_saysItself 32 = .ok (.iload_n 1, 1) := by decide +kernel
theorem dX1_saysItself_33 : decode cX1_saysItself 33 = .ok (.iaload, 1) := by decide +kernel
theorem dX1_saysItself_34 : decode cX1_saysItself 34 = .ok (.iconst (-1), 1) := by decide +kernel
theorem dX1_saysItself_35 : decode cX1_saysItself 35 = .ok (.if_icmp .ne 7, 3) := by decide +kernel
theorem dX1_saysItself_38 : decode cX1_saysItself 38 = .ok (.iconst 1, 1) := by decide +kernel
theorem dX1_saysItself_39 : decode cX1_saysItself 39 = .ok (.goto 4, 3) := by decide +kernel
theorem dX1_saysItself_42 : decode cX1_saysItself 42 = .ok (.iconst 0, 1) := by decide +kernel
theorem dX1_saysItself_43 : decode cX1_saysItself 43 = .ok (.ireturn, 1) := by decide +kernel
theorem dX1_countKind_0 : decode cX1_countKind 0 = .ok (.iconst 0, 1) := by decide +kernel
theorem dX1_countKind_1 : decode cX1_countKind 1 = .ok (.istore_n 2, 1) := by decide +kernel
theorem dX1_countKind_2 : decode cX1_countKind 2 = .ok (.iconst 0, 1) := by decide +kernel
theorem dX1_countKind_3 : decode cX1_countKind 3 = .ok (.istore_n 3, 1) := by decide +kernel
theorem dX1_countKind_4 : decode cX1_countKind 4 = .ok (.iload_n 3, 1) := by decide +kernel
theorem dX1_countKind_5 : decode cX1_countKind 5 = .ok (.bipush 64, 2) := by decide +kernel
theorem dX1_countKind_7 : decode cX1_countKind 7 = .ok (.if_icmp .ge 22, 3) := by decide +kernel
theorem dX1_countKind_10 : decode cX1_countKind 10 = .ok (.aload_n 0, 1) := by decide +kernel
theorem dX1_countKind_11 : decode cX1_countKind 11 = .ok (.getfield 19, 3) := by decide +kernel
theorem dX1_countKind_14 : decode cX1_countKind 14 = .ok (.iload_n 3, 1) := by decide +kernel
theorem dX1_countKind_15 : decode cX1_countKind 15 = .ok (.iaload, 1) := by decide +kernel
theorem dX1_countKind_16 : decode cX1_countKind 16 = .ok (.iload_n 1, 1) := by decide +kernel
theorem dX1_countKind_17 : decode cX1_countKind 17 = .ok (.if_icmp .ne 6, 3) := by decide +kernel
theorem dX1_countKind_20 : decode cX1_countKind 20 = .ok (.iinc 2 1, 3) := by decide +kernel
theorem dX1_countKind_23 : decode cX1_countKind 23 = .ok (.iinc 3 1, 3) := by decide +kernel
theorem dX1_countKind_26 : decode cX1_countKind 26 = .ok (.goto (-22), 3) := by decide +kernel
theorem dX1_countKind_29 : decode cX1_countKind 29 = .ok (.iload_n 2, 1) := by decide +kernel
theorem dX1_countKind_30 : decode cX1_countKind 30 = .ok (.ireturn, 1) := by decide +kernel
theorem dX1_isAnswered_0 : decode cX1_isAnswered 0 = .ok (.aload_n 0, 1) := by decide +kernel
theorem dX1_isAnswered_1 : decode cX1_isAnswered 1 = .ok (.getfield 67, 3) := by decide +kernel
theorem dX1_isAnswered_4 : decode cX1_isAnswered 4 = .ok (.iload_n 1, 1) := by decide +kernel
theorem dX1_isAnswered_5 : decode cX1_isAnswered 5 = .ok (.if_icmp .ne 8, 3) := by decide +kernel
theorem dX1_isAnswered_8 : decode cX1_isAnswered 8 = .ok (.aload_n 0, 1) := by decide +kernel
theorem dX1_isAnswered_9 : decode cX1_isAnswered 9 = .ok (.iconst (-1), 1) := by decide +kernel
theorem dX1_isAnswered_10 : decode cX1_isAnswered 10 = .ok (.putfield 67, 3) := by decide +kernel
theorem dX1_isAnswered_13 : decode cX1_isAnswered 13 = .ok (.aload_n 0, 1) := by decide +kernel
theorem dX1_isAnswered_14 : decode cX1_isAnswered 14 = .ok (.getfield 70, 3) := by decide +kernel
theorem dX1_isAnswered_17 : decode cX1_isAnswered 17 = .ok (.iload_n 1, 1) := by decide +kernel
theorem dX1_isAnswered_18 : decode cX1_isAnswered 18 = .ok (.if_icmp .ne 8, 3) := by decide +kernel
theorem dX1_isAnswered_21 : decode cX1_isAnswered 21 = .ok (.aload_n 0, 1) := by decide +kernel
theorem dX1_isAnswered_22 : decode cX1_isAnswered 22 = .ok (.iconst (-1), 1) := by decide +kernel
theorem dX1_isAnswered_23 : decode cX1_isAnswered 23 = .ok (.putfield 70, 3) := by decide +kernel
theorem dX1_isAnswered_26 : decode cX1_isAnswered 26 = .ok (.return_, 1) := by decide +kernel
theorem dX1_stirred_0 : decode cX1_stirred 0 = .ok (.lload_n 0, 1) := by decide +kernel
theorem dX1_stirred_1 : decode cX1_stirred 1 = .ok (.ldc2_w 98, 3) := by decide +kernel
theorem dX1_stirred_4 : decode cX1_stirred 4 = .ok (.lmul, 1) := by decide +kernel
theorem dX1_stirred_5 : decode cX1_stirred 5 = .ok (.ldc2_w 100, 3) := by decide +kernel
theorem dX1_stirred_8 : decode cX1_stirred 8 = .ok (.ladd, 1) := by decide +kernel
theorem dX1_stirred_9 : decode cX1_stirred 9 = .ok (.lreturn, 1) := by decide +kernel
theorem dX1_drawn_0 : decode cX1_drawn 0 = .ok (.iload_n 2, 1) := by decide +kernel
theorem dX1_drawn_1 : decode cX1_drawn 1 = .ok (.iconst 1, 1) := by decide +kernel
theorem dX1_drawn_2 : decode cX1_drawn 2 = .ok (.if_icmp .ge 7, 3) := by decide +kernel
theorem dX1_drawn_5 : decode cX1_drawn 5 = .ok (.iconst 0, 1) := by decide +kernel
theorem dX1_drawn_6 : decode cX1_drawn 6 = .ok (.goto 11, 3) := by decide +kernel
theorem dX1_drawn_9 : decode cX1_drawn 9 = .ok (.lload_n 0, 1) := by decide +kernel
theorem dX1_drawn_10 : decode cX1_drawn 10 = .ok (.bipush 33, 2) := by decide +kernel
theorem dX1_drawn_12 : decode cX1_drawn 12 = .ok (.lushr, 1) := by decide +kernel
theorem dX1_drawn_13 : decode cX1_drawn 13 = .ok (.iload_n 2, 1) := by decide +kernel
theorem dX1_drawn_14 : decode cX1_drawn 14 = .ok (.i2l, 1) := by decide +kernel
theorem dX1_drawn_15 : decode cX1_drawn 15 = .ok (.lrem, 1) := by decide +kernel
theorem dX1_drawn_16 : decode cX1_drawn 16 = .ok (.l2i, 1) := by decide +kernel
theorem dX1_drawn_17 : decode cX1_drawn 17 = .ok (.ireturn, 1) := by decide +kernel
theorem dX1_draw_0 : decode cX1_draw 0 = .ok (.aload_n 0, 1) := by decide +kernel
theorem dX1_draw_1 : decode cX1_draw 1 = .ok (.aload_n 0, 1) := by decide +kernel
theorem dX1_draw_2 : decode cX1_draw 2 = .ok (.getfield 41, 3) := by decide +kernel
theorem dX1_draw_5 : decode cX1_draw 5 = .ok (.invokestatic 102, 3) := by decide +kernel
theorem dX1_draw_8 : decode cX1_draw 8 = .ok (.putfield 41, 3) := by decide +kernel
theorem dX1_draw_11 : decode cX1_draw 11 = .ok (.aload_n 0, 1) := by decide +kernel
theorem dX1_draw_12 : decode cX1_draw 12 = .ok (.getfield 41, 3) := by decide +kernel
theorem dX1_draw_15 : decode cX1_draw 15 = .ok (.iload_n 1, 1) := by decide +kernel
theorem dX1_draw_16 : decode cX1_draw 16 = .ok (.invokestatic 106, 3) := by decide +kernel
theorem dX1_draw_19 : decode cX1_draw 19 = .ok (.ireturn, 1) := by decide +kernel
theorem dX1_gatherLiving_0 : decode cX1_gatherLiving 0 = .ok (.iconst 0, 1) := by decide +kernel
theorem dX1_gatherLiving_1 : decode cX1_gatherLiving 1 = .ok (.istore_n 3, 1) := by decide +kernel
theorem dX1_gatherLiving_2 : decode cX1_gatherLiving 2 = .ok (.iconst 0, 1) := by decide +kernel
theorem dX1_gatherLiving_3 : decode cX1_gatherLiving 3 = .ok (.istore 4, 2) := by decide +kernel
theorem dX1_gatherLiving_5 : decode cX1_gatherLiving 5 = .ok (.iload 4, 2) := by decide +kernel
theorem dX1_gatherLiving_7 : decode cX1_gatherLiving 7 = .ok (.bipush 64, 2) := by decide +kernel
theorem dX1_gatherLiving_9 : decode cX1_gatherLiving 9 = .ok (.if_icmp .ge 47, 3) := by decide +kernel
theorem dX1_gatherLiving_12 : decode cX1_gatherLiving 12 = .ok (.iload 4, 2) := by decide +kernel
theorem dX1_gatherLiving_14 : decode cX1_gatherLiving 14 = .ok (.aload_n 0, 1) := by decide +kernel
theorem dX1_gatherLiving_15 : decode cX1_gatherLiving 15 = .ok (.getfield 9, 3) := by decide +kernel
theorem dX1_gatherLiving_18 : decode cX1_gatherLiving 18 = .ok (.if_icmp .eq 32, 3) := by decide +kernel
theorem dX1_gatherLiving_21 : decode cX1_gatherLiving 21 = .ok (.iload 4, 2) := by decide +kernel
theorem dX1_gatherLiving_23 : decode cX1_gatherLiving 23 = .ok (.iload_n 2, 1) := by decide +kernel
theorem dX1_gatherLiving_24 : decode cX1_gatherLiving 24 = .ok (.if_icmp .eq 26, 3) := by decide +kernel
theorem dX1_gatherLiving_27 : decode cX1_gatherLiving 27 = .ok (.aload_n 0, 1) := by decide +kernel
theorem dX1_gatherLiving_28 : decode cX1_gatherLiving 28 = .ok (.iload 4, 2) := by decide +kernel
theorem dX1_gatherLiving_30 : decode cX1_gatherLiving 30 = .ok (.invokevirtual 110, 3) := by decide +kernel
theorem dX1_gatherLiving_33 : decode cX1_gatherLiving 33 = .ok (.ifCond .eq 17, 3) := by decide +kernel
theorem dX1_gatherLiving_36 : decode cX1_gatherLiving 36 = .ok (.iload_n 3, 1) := by decide +kernel
theorem dX1_gatherLiving_37 : decode cX1_gatherLiving 37 = .ok (.aload_n 1, 1) := by decide +kernel
theorem dX1_gatherLiving_38 : decode cX1_gatherLiving 38 = .ok (.arraylength, 1) := by decide +kernel
theorem dX1_gatherLiving_39 : decode cX1_gatherLiving 39 = .ok (.if_icmp .ge 11, 3) := by decide +kernel
theorem dX1_gatherLiving_42 : decode cX1_gatherLiving 42 = .ok (.aload_n 1, 1) := by decide +kernel
theorem dX1_gatherLiving_43 : decode cX1_gatherLiving 43 = .ok (.iload_n 3, 1) := by decide +kernel
theorem dX1_gatherLiving_44 : decode cX1_gatherLiving 44 = .ok (.iload 4, 2) := by decide +kernel
theorem dX1_gatherLiving_46 : decode cX1_gatherLiving 46 = .ok (.iastore, 1) := by decide +kernel
theorem dX1_gatherLiving_47 : decode cX1_gatherLiving 47 = .ok (.iinc 3 1, 3) := by decide +kernel
theorem dX1_gatherLiving_50 : decode cX1_gatherLiving 50 = .ok (.iinc 4 1, 3) := by decide +kernel
theorem dX1_gatherLiving_53 : decode cX1_gatherLiving 53 = .ok (.goto (-48), 3) := by decide +kernel
theorem dX1_gatherLiving_56 : decode cX1_gatherLiving 56 = .ok (.iload_n 3, 1) := by decide +kernel
theorem dX1_gatherLiving_57 : decode cX1_gatherLiving 57 = .ok (.ireturn, 1) := by decide +kernel
theorem dX1_shuffle_0 : decode cX1_shuffle 0 = .ok (.lload_n 2, 1) := by decide +kernel
theorem dX1_shuffle_1 : decode cX1_shuffle 1 = .ok (.lstore 4, 2) := by decide +kernel
theorem dX1_shuffle_3 : decode cX1_shuffle 3 = .ok (.iload_n 1, 1) := by decide +kernel
theorem dX1_shuffle_4 : decode cX1_shuffle 4 = .ok (.aload_n 0, 1) := by decide +kernel
theorem dX1_shuffle_5 : decode cX1_shuffle 5 = .ok (.arraylength, 1) := by decide +kernel
theorem dX1_shuffle_6 : decode cX1_shuffle 6 = .ok (.invokestatic 113, 3) := by decide +kernel
theorem dX1_shuffle_9 : decode cX1_shuffle 9 = .ok (.iconst 1, 1) := by decide +kernel
theorem dX1_shuffle_10 : decode cX1_shuffle 10 = .ok (.isub, 1) := by decide +kernel
theorem dX1_shuffle_11 : decode cX1_shuffle 11 = .ok (.istore 6, 2) := by decide +kernel
theorem dX1_shuffle_13 : decode cX1_shuffle 13 = .ok (.iload 6, 2) := by decide +kernel
theorem dX1_shuffle_15 : decode cX1_shuffle 15 = .ok (.iconst 1, 1) := by decide +kernel
theorem dX1_shuffle_16 : decode cX1_shuffle 16 = .ok (.if_icmp .lt 47, 3) := by decide +kernel
theorem dX1_shuffle_19 : decode cX1_shuffle 19 = .ok (.lload 4, 2) := by decide +kernel
theorem dX1_shuffle_21 : decode cX1_shuffle 21 = .ok (.invokestatic 102, 3) := by decide +kernel
theorem dX1_shuffle_24 : decode cX1_shuffle 24 = .ok (.lstore 4, 2) := by decide +kernel
theorem dX1_shuffle_26 : decode cX1_shuffle 26 = .ok (.lload 4, 2) := by decide +kernel
theorem dX1_shuffle_28 : decode cX1_shuffle 28 = .ok (.iload 6, 2) := by decide +kernel
theorem dX1_shuffle_30 : decode cX1_shuffle 30 = .ok (.iconst 1, 1) := by decide +kernel
theorem dX1_shuffle_31 : decode cX1_shuffle 31 = .ok (.iadd, 1) := by decide +kernel
theorem dX1_shuffle_32 : decode cX1_shuffle 32 = .ok (.invokestatic 106, 3) := by decide +kernel
theorem dX1_shuffle_35 : decode cX1_shuffle 35 = .ok (.istore 7, 2) := by decide +kernel
theorem dX1_shuffle_37 : decode cX1_shuffle 37 = .ok (.aload_n 0, 1) := by decide +kernel
theorem dX1_shuffle_38 : decode cX1_shuffle 38 = .ok (.iload 6, 2) := by decide +kernel
theorem dX1_shuffle_40 : decode cX1_shuffle 40 = .ok (.iaload, 1) := by decide +kernel
theorem dX1_shuffle_41 : decode cX1_shuffle 41 = .ok (.istore 8, 2) := by decide +kernel
theorem dX1_shuffle_43 : decode cX1_shuffle 43 = .ok (.aload_n 0, 1) := by decide +kernel
theorem dX1_shuffle_44 : decode cX1_shuffle 44 = .ok (.iload 6, 2) := by decide +kernel
theorem dX1_shuffle_46 : decode cX1_shuffle 46 = .ok (.aload_n 0, 1) := by decide +kernel
theorem dX1_shuffle_47 : decode cX1_shuffle 47 = .ok (.iload 7, 2) := by decide +kernel
theorem dX1_shuffle_49 : decode cX1_shuffle 49 = .ok (.iaload, 1) := by decide +kernel
theorem dX1_shuffle_50 : decode cX1_shuffle 50 = .ok (.iastore, 1) := by decide +kernel
theorem dX1_shuffle_51 : decode cX1_shuffle 51 = .ok (.aload_n 0, 1) := by decide +kernel
theorem dX1_shuffle_52 : decode cX1_shuffle 52 = .ok (.iload 7, 2) := by decide +kernel
theorem dX1_shuffle_54 : decode cX1_shuffle 54 = .ok (.iload 8, 2) := by decide +kernel
theorem dX1_shuffle_56 : decode cX1_shuffle 56 = .ok (.iastore, 1) := by decide +kernel
theorem dX1_shuffle_57 : decode cX1_shuffle 57 = .ok (.iinc 6 (-1), 3) := by decide +kernel
theorem dX1_shuffle_60 : decode cX1_shuffle 60 = .ok (.goto (-47), 3) := by decide +kernel
theorem dX1_shuffle_63 : decode cX1_shuffle 63 = .ok (.lload 4, 2) := by decide +kernel
theorem dX1_shuffle_65 : decode cX1_shuffle 65 = .ok (.lreturn, 1) := by decide +kernel
theorem dX1_makeRound_0 : decode cX1_makeRound 0 = .ok (.aload_n 0, 1) := by decide +kernel
theorem dX1_makeRound_1 : decode cX1_makeRound 1 = .ok (.aload_n 0, 1) := by decide +kernel
theorem dX1_makeRound_2 : decode cX1_makeRound 2 = .ok (.aload_n 0, 1) := by decide +kernel
theorem dX1_makeRound_3 : decode cX1_makeRound 3 = .ok (.getfield 35, 3) := by decide +kernel
theorem dX1_makeRound_6 : decode cX1_makeRound 6 = .ok (.iconst (-1), 1) := by decide +kernel
theorem dX1_makeRound_7 : decode cX1_makeRound 7 = .ok (.invokevirtual 119, 3) := by decide +kernel
theorem dX1_makeRound_10 : decode cX1_makeRound 10 = .ok (.putfield 73, 3) := by decide +kernel
theorem dX1_makeRound_13 : decode cX1_makeRound 13 = .ok (.aload_n 0, 1) := by decide +kernel
theorem dX1_makeRound_14 : decode cX1_makeRound 14 = .ok (.aload_n 0, 1) := by decide +kernel
theorem dX1_makeRound_15 : decode cX1_makeRound 15 = .ok (.getfield 35, 3) := by decide +kernel
theorem dX1_makeRound_18 : decode cX1_makeRound 18 = .ok (.aload_n 0, 1) := by decide +kernel
theorem dX1_makeRound_19 : decode cX1_makeRound 19 = .ok (.getfield 73, 3) := by decide +kernel
theorem dX1_makeRound_22 : decode cX1_makeRound 22 = .ok (.aload_n 0, 1) := by decide +kernel
theorem dX1_makeRound_23 : decode cX1_makeRound 23 = .ok (.getfield 41, 3) := by decide +kernel
theorem dX1_makeRound_26 : decode cX1_makeRound 26 = .ok (.invokestatic 123, 3) := by decide +kernel
theorem dX1_makeRound_29 : decode cX1_makeRound 29 = .ok (.putfield 41, 3) := by decide +kernel
theorem dX1_makeRound_32 : decode cX1_makeRound 32 = .ok (.aload_n 0, 1) := by decide +kernel
theorem dX1_makeRound_33 : decode cX1_makeRound 33 = .ok (.iconst 0, 1) := by decide +kernel
theorem dX1_makeRound_34 : decode cX1_makeRound 34 = .ok (.putfield 76, 3) := by decide +kernel
theorem dX1_makeRound_37 : decode cX1_makeRound 37 = .ok (.return_, 1) := by decide +kernel
theorem dX1_nextPlace_0 : decode cX1_nextPlace 0 = .ok (.aload_n 0, 1) := by decide +kernel
theorem dX1_nextPlace_1 : decode cX1_nextPlace 1 = .ok (.getfield 76, 3) := by decide +kernel
theorem dX1_nextPlace_4 : decode cX1_nextPlace 4 = .ok (.istore_n 1, 1) := by decide +kernel
theorem dX1_nextPlace_5 : decode cX1_nextPlace 5 = .ok (.iload_n 1, 1) := by decide +kernel
theorem dX1_nextPlace_6 : decode cX1_nextPlace 6 = .ok (.aload_n 0, 1) := by decide +kernel
theorem dX1_nextPlace_7 : decode cX1_nextPlace 7 = .ok (.getfield 73, 3) := by decide +kernel
theorem dX1_nextPlace_10 : decode cX1_nextPlace 10 = .ok (.if_icmp .ge 30, 3) := by decide +kernel
theorem dX1_nextPlace_13 : decode cX1_nextPlace 13 = .ok (.iload_n 1, 1) := by decide +kernel
theorem dX1_nextPlace_14 : decode cX1_nextPlace 14 = .ok (.bipush 64, 2) := by decide +kernel
theorem dX1_nextPlace_16 : decode cX1_nextPlace 16 = .ok (.if_icmp .ge 24, 3) := by decide +kernel
theorem dX1_nextPlace_19 : decode cX1_nextPlace 19 = .ok (.aload_n 0, 1) := by decide +kernel
theorem dX1_nextPlace_20 : decode cX1_nextPlace 20 = .ok (.aload_n 0, 1) := by decide +kernel
theorem dX1_nextPlace_21 : decode cX1_nextPlace 21 = .ok (.getfield 35, 3) := by decide +kernel
theorem dX1_nextPlace_24 : decode cX1_nextPlace 24 = .ok (.iload_n 1, 1) := by decide +kernel
theorem dX1_nextPlace_25 : decode cX1_nextPlace 25 = .ok (.iaload, 1) := by decide +kernel
theorem dX1_nextPlace_26 : decode cX1_nextPlace 26 = .ok (.invokevirtual 110, 3) := by decide +kernel
theorem dX1_nextPlace_29 : decode cX1_nextPlace 29 = .ok (.ifCond .eq 5, 3) := by decide +kernel
theorem dX1_nextPlace_32 : decode cX1_nextPlace 32 = .ok (.iload_n 1, 1) := by decide +kernel
theorem dX1_nextPlace_33 : decode cX1_nextPlace 33 = .ok (.ireturn, 1) := by decide +kernel
theorem dX1_nextPlace_34 : decode cX1_nextPlace 34 = .ok (.iinc 1 1, 3) := by decide +kernel
theorem dX1_nextPlace_37 : decode cX1_nextPlace 37 = .ok (.goto (-32), 3) := by decide +kernel
theorem dX1_nextPlace_40 : decode cX1_nextPlace 40 = .ok (.iconst (-1), 1) := by decide +kernel
theorem dX1_nextPlace_41 : decode cX1_nextPlace 41 = .ok (.ireturn, 1) := by decide +kernel
theorem dX1_stepRound_0 : decode cX1_stepRound 0 = .ok (.aload_n 0, 1) := by decide +kernel
theorem dX1_stepRound_1 : decode cX1_stepRound 1 = .ok (.invokevirtual 127, 3) := by decide +kernel
theorem dX1_stepRound_4 : decode cX1_stepRound 4 = .ok (.istore_n 1, 1) := by decide +kernel
theorem dX1_stepRound_5 : decode cX1_stepRound 5 = .ok (.iload_n 1, 1) := by decide +kernel
theorem dX1_stepRound_6 : decode cX1_stepRound 6 = .ok (.iconst (-1), 1) := by decide +kernel
theorem dX1_stepRound_7 : decode cX1_stepRound 7 = .ok (.if_icmp .ne 5, 3) := by decide +kernel
theorem dX1_stepRound_10 : decode cX1_stepRound 10 = .ok (.iconst (-1), 1) := by decide +kernel
theorem dX1_stepRound_11 : decode cX1_stepRound 11 = .ok (.ireturn, 1) := by decide +kernel
theorem dX1_stepRound_12 : decode cX1_stepRound 12 = .ok (.aload_n 0, 1) := by decide +kernel
theorem dX1_stepRound_13 : decode cX1_stepRound 13 = .ok (.iload_n 1, 1) := by decide +kernel
theorem dX1_stepRound_14 : decode cX1_stepRound 14 = .ok (.iconst 1, 1) := by decide +kernel
theorem dX1_stepRound_15 : decode cX1_stepRound 15 = .ok (.iadd, 1) := by decide +kernel
theorem dX1_stepRound_16 : decode cX1_stepRound 16 = .ok (.putfield 76, 3) := by decide +kernel
theorem dX1_stepRound_19 : decode cX1_stepRound 19 = .ok (.aload_n 0, 1) := by decide +kernel
theorem dX1_stepRound_20 : decode cX1_stepRound 20 = .ok (.getfield 35, 3) := by decide +kernel
theorem dX1_stepRound_23 : decode cX1_stepRound 23 = .ok (.iload_n 1, 1) := by decide +kernel
theorem dX1_stepRound_24 : decode cX1_stepRound 24 = .ok (.iaload, 1) := by decide +kernel
theorem dX1_stepRound_25 : decode cX1_stepRound 25 = .ok (.ireturn, 1) := by decide +kernel
theorem dX1_wouldAsk_0 : decode cX1_wouldAsk 0 = .ok (.aload_n 0, 1) := by decide +kernel
theorem dX1_wouldAsk_1 : decode cX1_wouldAsk 1 = .ok (.invokevirtual 127, 3) := by decide +kernel
theorem dX1_wouldAsk_4 : decode cX1_wouldAsk 4 = .ok (.istore_n 2, 1) := by decide +kernel
theorem dX1_wouldAsk_5 : decode cX1_wouldAsk 5 = .ok (.iload_n 2, 1) := by decide +kernel
theorem dX1_wouldAsk_6 : decode cX1_wouldAsk 6 = .ok (.iconst (-1), 1) := by decide +kernel
theorem dX1_wouldAsk_7 : decode cX1_wouldAsk 7 = .ok (.if_icmp .eq 10, 3) := by decide +kernel
theorem dX1_wouldAsk_10 : decode cX1_wouldAsk 10 = .ok (.aload_n 0, 1) := by decide +kernel
theorem dX1_wouldAsk_11 : decode cX1_wouldAsk 11 = .ok (.getfield 35, 3) := by decide +kernel
theorem dX1_wouldAsk_14 : decode cX1_wouldAsk 14 = .ok (.iload_n 2, 1) := by decide +kernel
theorem dX1_wouldAsk_15 : decode cX1_wouldAsk 15 = .ok (.iaload, 1) := by decide +kernel
theorem dX1_wouldAsk_16 : decode cX1_wouldAsk 16 = .ok (.ireturn, 1) := by decide +kernel
theorem dX1_wouldAsk_17 : decode cX1_wouldAsk 17 = .ok (.aload_n 0, 1) := by decide +kernel
theorem dX1_wouldAsk_18 : decode cX1_wouldAsk 18 = .ok (.aload_n 1, 1) := by decide +kernel
theorem dX1_wouldAsk_19 : decode cX1_wouldAsk 19 = .ok (.iconst (-1), 1) := by decide +kernel
theorem dX1_wouldAsk_20 : decode cX1_wouldAsk 20 = .ok (.invokevirtual 119, 3) := by decide +kernel
theorem dX1_wouldAsk_23 : decode cX1_wouldAsk 23 = .ok (.istore_n 3, 1) := by decide +kernel
theorem dX1_wouldAsk_24 : decode cX1_wouldAsk 24 = .ok (.aload_n 1, 1) := by decide +kernel
theorem dX1_wouldAsk_25 : decode cX1_wouldAsk 25 = .ok (.iload_n 3, 1) := by decide +kernel
theorem dX1_wouldAsk_26 : decode cX1_wouldAsk 26 = .ok (.aload_n 0, 1) := by decide +kernel
theorem dX1_wouldAsk_27 : decode cX1_wouldAsk 27 = .ok (.getfield 41, 3) := by decide +kernel
theorem dX1_wouldAsk_30 : decode cX1_wouldAsk 30 = .ok (.invokestatic 123, 3) := by decide +kernel
theorem dX1_wouldAsk_33 : decode cX1_wouldAsk 33 = .ok (.pop2, 1) := by decide +kernel
theorem dX1_wouldAsk_34 : decode cX1_wouldAsk 34 = .ok (.iload_n 3, 1) := by decide +kernel
theorem dX1_wouldAsk_35 : decode cX1_wouldAsk 35 = .ok (.ifCond .le 14, 3) := by decide +kernel
theorem dX1_wouldAsk_38 : decode cX1_wouldAsk 38 = .ok (.aload_n 1, 1) := by decide +kernel
theorem dX1_wouldAsk_39 : decode cX1_wouldAsk 39 = .ok (.arraylength, 1) := by decide +kernel
theorem dX1_wouldAsk_40 : decode cX1_wouldAsk 40 = .ok (.ifCond .le 9, 3) := by decide +kernel
theorem dX1_wouldAsk_43 : decode cX1_wouldAsk 43 = .ok (.aload_n 1, 1) := by decide +kernel
theorem dX1_wouldAsk_44 : decode cX1_wouldAsk 44 = .ok (.iconst 0, 1) := by decide +kernel
theorem dX1_wouldAsk_45 : decode cX1_wouldAsk 45 = .ok (.iaload, 1) := by decide +kernel
theorem dX1_wouldAsk_46 : decode cX1_wouldAsk 46 = .ok (.goto 4, 3) := by decide +kernel
theorem dX1_wouldAsk_49 : decode cX1_wouldAsk 49 = .ok (.iconst (-1), 1) := by decide +kernel
theorem dX1_wouldAsk_50 : decode cX1_wouldAsk 50 = .ok (.ireturn, 1) := by decide +kernel
theorem dX1_pickAll_0 : decode cX1_pickAll 0 = .ok (.iconst 0, 1) := by decide +kernel
theorem dX1_pickAll_1 : decode cX1_pickAll 1 = .ok (.istore_n 2, 1) := by decide +kernel
theorem dX1_pickAll_2 : decode cX1_pickAll 2 = .ok (.iconst 0, 1) := by decide +kernel
theorem dX1_pickAll_3 : decode cX1_pickAll 3 = .ok (.istore_n 3, 1) := by decide +kernel
theorem dX1_pickAll_4 : decode cX1_pickAll 4 = .ok (.iload_n 3, 1) := by decide +kernel
theorem dX1_pickAll_5 : decode cX1_pickAll 5 = .ok (.bipush 64, 2) := by decide +kernel
theorem dX1_pickAll_7 : decode cX1_pickAll 7 = .ok (.if_icmp .ge 31, 3) := by decide +kernel
theorem dX1_pickAll_10 : decode cX1_pickAll 10 = .ok (.aload_n 0, 1) := by decide +kernel
theorem dX1_pickAll_11 : decode cX1_pickAll 11 = .ok (.getfield 19, 3) := by decide +kernel
theorem dX1_pickAll_14 : decode cX1_pickAll 14 = .ok (.iload_n 3, 1) := by decide +kernel
theorem dX1_pickAll_15 : decode cX1_pickAll 15 = .ok (.iaload, 1) := by decide +kernel
theorem dX1_pickAll_16 : decode cX1_pickAll 16 = .ok (.ifCond .eq 16, 3) := by decide +kernel
theorem dX1_pickAll_19 : decode cX1_pickAll 19 = .ok (.iload_n 2, 1) := by decide +kernel
theorem dX1_pickAll_20 : decode cX1_pickAll 20 = .ok (.aload_n 1, 1) := by decide +kernel
theorem dX1_pickAll_21 : decode cX1_pickAll 21 = .ok (.arraylength, 1) := by decide +kernel
theorem dX1_pickAll_22 : decode cX1_pickAll 22 = .ok (.if_icmp .ge 10, 3) := by decide +kernel
theorem dX1_pickAll_25 : decode cX1_pickAll 25 = .ok (.aload_n 1, 1) := by decide +kernel
theorem dX1_pickAll_26 : decode cX1_pickAll 26 = .ok (.iload_n 2, 1) := by decide +kernel
theorem dX1_pickAll_27 : decode cX1_pickAll 27 = .ok (.iload_n 3, 1) := by decide +kernel
theorem dX1_pickAll_28 : decode cX1_pickAll 28 = .ok (.iastore, 1) := by decide +kernel
theorem dX1_pickAll_29 : decode cX1_pickAll 29 = .ok (.iinc 2 1, 3) := by decide +kernel
theorem dX1_pickAll_32 : decode cX1_pickAll 32 = .ok (.iinc 3 1, 3) := by decide +kernel
theorem dX1_pickAll_35 : decode cX1_pickAll 35 = .ok (.goto (-31), 3) := by decide +kernel
theorem dX1_pickAll_38 : decode cX1_pickAll 38 = .ok (.iload_n 2, 1) := by decide +kernel
theorem dX1_pickAll_39 : decode cX1_pickAll 39 = .ok (.ireturn, 1) := by decide +kernel
theorem dX1_pickFreshest_0 : decode cX1_pickFreshest 0 = .ok (.iconst 0, 1) := by decide +kernel
theorem dX1_pickFreshest_1 : decode cX1_pickFreshest 1 = .ok (.istore_n 2, 1) := by decide +kernel
theorem dX1_pickFreshest_2 : decode cX1_pickFreshest 2 = .ok (.iconst 0, 1) := by decide +kernel
theorem dX1_pickFreshest_3 : decode cX1_pickFreshest 3 = .ok (.istore_n 3, 1) := by decide +kernel
theorem dX1_pickFreshest_4 : decode cX1_pickFreshest 4 = .ok (.iload_n 3, 1) := by decide +kernel
theorem dX1_pickFreshest_5 : decode cX1_pickFreshest 5 = .ok (.bipush 64, 2) := by decide +kernel
theorem dX1_pickFreshest_7 : decode cX1_pickFreshest 7 = .ok (.if_icmp .ge 37, 3) := by decide +kernel
theorem dX1_pickFreshest_10 : decode cX1_pickFreshest 10 = .ok (.aload_n 0, 1) := by decide +kernel
theorem dX1_pickFreshest_11 : decode cX1_pickFreshest 11 = .ok (.getfield 19, 3) := by decide +kernel
theorem dX1_pickFreshest_14 : decode cX1_pickFreshest 14 = .ok (.iload_n 3, 1) := by decide +kernel
theorem dX1_pickFreshest_15 : decode cX1_pickFreshest 15 = .ok (.iaload, 1) := by decide +kernel
theorem dX1_pickFreshest_16 : decode cX1_pickFreshest 16 = .ok (.ifCond .eq 22, 3) := by decide +kernel
theorem dX1_pickFreshest_19 : decode cX1_pickFreshest 19 = .ok (.aload_n 0, 1) := by decide +kernel
theorem dX1_pickFreshest_20 : decode cX1_pickFreshest 20 = .ok (.getfield 26, 3) := by decide +kernel
theorem dX1_pickFreshest_23 : decode cX1_pickFreshest 23 = .ok (.iload_n 3, 1) := by decide +kernel
theorem dX1_pickFreshest_24 : decode cX1_pickFreshest 24 = .ok (.iaload, 1) := by decide +kernel
theorem dX1_pickFreshest_25 : decode cX1_pickFreshest 25 = .ok (.bipush 8, 2) := by decide +kernel
theorem dX1_pickFreshest_27 : decode cX1_pickFreshest 27 = .ok (.if_icmp .ge 11, 3) := by decide +kernel
theorem dX1_pickFreshest_30 : decode cX1_pickFreshest 30 = .ok (.aload_n 0, 1) := by decide +kernel
theorem dX1_pickFreshest_31 : decode cX1_pickFreshest 31 = .ok (.aload_n 1, 1) := by decide +kernel
theorem dX1_pickFreshest_32 : decode cX1_pickFreshest 32 = .ok (.iload_n 2, 1) := by decide +kernel
theorem dX1_pickFreshest_33 : decode cX1_pickFreshest 33 = .ok (.iload_n 3, 1) := by decide +kernel
theorem dX1_pickFreshest_34 : decode cX1_pickFreshest 34 = .ok (.invokevirtual 131, 3) := by decide +kernel
theorem dX1_pickFreshest_37 : decode cX1_pickFreshest 37 = .ok (.istore_n 2, 1) := by decide +kernel
theorem dX1_pickFreshest_38 : decode cX1_pickFreshest 38 = .ok (.iinc 3 1, 3) := by decide +kernel
theorem dX1_pickFreshest_41 : decode cX1_pickFreshest 41 = .ok (.goto (-37), 3) := by decide +kernel
theorem dX1_pickFreshest_44 : decode cX1_pickFreshest 44 = .ok (.iload_n 2, 1) := by decide +kernel
theorem dX1_pickFreshest_45 : decode cX1_pickFreshest 45 = .ok (.ireturn, 1) := by decide +kernel
theorem dX1_pickInOrder_0 : decode cX1_pickInOrder 0 = .ok (.iload_n 2, 1) := by decide +kernel
theorem dX1_pickInOrder_1 : decode cX1_pickInOrder 1 = .ok (.istore 4, 2) := by decide +kernel
theorem dX1_pickInOrder_3 : decode cX1_pickInOrder 3 = .ok (.iload 4, 2) := by decide +kernel
theorem dX1_pickInOrder_5 : decode cX1_pickInOrder 5 = .ok (.ifCond .le 29, 3) := by decide +kernel
theorem dX1_pickInOrder_8 : decode cX1_pickInOrder 8 = .ok (.aload_n 0, 1) := by decide +kernel
theorem dX1_pickInOrder_9 : decode cX1_pickInOrder 9 = .ok (.getfield 26, 3) := by decide +kernel
theorem dX1_pickInOrder_12 : decode cX1_pickInOrder 12 = .ok (.aload_n 1, 1) := by decide +kernel
theorem dX1_pickInOrder_13 : decode cX1_pickInOrder 13 = .ok (.iload 4, 2) := by decide +kernel
theorem dX1_pickInOrder_15 : decode cX1_pickInOrder 15 = .ok (.iconst 1, 1) := by decide +kernel
theorem dX1_pickInOrder_16 : decode cX1_pickInOrder 16 = .ok (.isub, 1) := by decide +kernel
theorem dX1_pickInOrder_17 : decode cX1_pickInOrder 17 = .ok (.iaload, 1) := by decide +kernel
theorem dX1_pickInOrder_18 : decode cX1_pickInOrder 18 = .ok (.iaload, 1) := by decide +kernel
theorem dX1_pickInOrder_19 : decode cX1_pickInOrder 19 = .ok (.aload_n 0, 1) := by decide +kernel
theorem dX1_pickInOrder_20 : decode cX1_pickInOrder 20 = .ok (.getfield 26, 3) := by decide +kernel
theorem dX1_pickInOrder_23 : decode cX1_pickInOrder 23 = .ok (.iload_n 3, 1) := by decide +kernel
theorem dX1_pickInOrder_24 : decode cX1_pickInOrder 24 = .ok (.iaload, 1) := by decide +kernel
theorem dX1_pickInOrder_25 : decode cX1_pickInOrder 25 = .ok (.if_icmp .le 9, 3) := by decide +kernel
theorem dX1_pickInOrder_28 : decode cX1_pickInOrder 28 = .ok (.iinc 4 (-1), 3) := by decide +kernel
theorem dX1_pickInOrder_31 : decode cX1_pickInOrder 31 = .ok (.goto (-28), 3) := by decide +kernel
theorem dX1_pickInOrder_34 : decode cX1_pickInOrder 34 = .ok (.iload 4, 2) := by decide +kernel
theorem dX1_pickInOrder_36 : decode cX1_pickInOrder 36 = .ok (.bipush 6, 2) := by decide +kernel
theorem dX1_pickInOrder_38 : decode cX1_pickInOrder 38 = .ok (.if_icmp .lt 5, 3) := by decide +kernel
theorem dX1_pickInOrder_41 : decode cX1_pickInOrder 41 = .ok (.iload_n 2, 1) := by decide +kernel
theorem dX1_pickInOrder_42 : decode cX1_pickInOrder 42 = .ok (.ireturn, 1) := by decide +kernel
theorem dX1_pickInOrder_43 : decode cX1_pickInOrder 43 = .ok (.iload_n 2, 1) := by decide +kernel
theorem dX1_pickInOrder_44 : decode cX1_pickInOrder 44 = .ok (.bipush 6, 2) := by decide +kernel
theorem dX1_pickInOrder_46 : decode cX1_pickInOrder 46 = .ok (.if_icmp .ge 7, 3) := by decide +kernel
theorem dX1_pickInOrder_49 : decode cX1_pickInOrder 49 = .ok (.iload_n 2, 1) := by decide +kernel
theorem dX1_pickInOrder_50 : decode cX1_pickInOrder 50 = .ok (.goto 4, 3) := by decide +kernel
theorem dX1_pickInOrder_53 : decode cX1_pickInOrder 53 = .ok (.iconst 5, 1) := by decide +kernel
theorem dX1_pickInOrder_54 : decode cX1_pickInOrder 54 = .ok (.istore 5, 2) := by decide +kernel
theorem dX1_pickInOrder_56 : decode cX1_pickInOrder 56 = .ok (.iload 5, 2) := by decide +kernel
theorem dX1_pickInOrder_58 : decode cX1_pickInOrder 58 = .ok (.istore 6, 2) := by decide +kernel
theorem dX1_pickInOrder_60 : decode cX1_pickInOrder 60 = .ok (.iload 6, 2) := by decide +kernel
theorem dX1_pickInOrder_62 : decode cX1_pickInOrder 62 = .ok (.iload 4, 2) := by decide +kernel
theorem dX1_pickInOrder_64 : decode cX1_pickInOrder 64 = .ok (.if_icmp .le 19, 3) := by decide +kernel
theorem dX1_pickInOrder_67 : decode cX1_pickInOrder 67 = .ok (.aload_n 1, 1) := by decide +kernel
theorem dX1_pickInOrder_68 : decode cX1_pickInOrder 68 = .ok (.iload 6, 2) := by decide +kernel
theorem dX1_pickInOrder_70 : decode cX1_pickInOrder 70 = .ok (.aload_n 1, 1) := by decide +kernel
theorem dX1_pickInOrder_71 : decode cX1_pickInOrder 71 = .ok (.iload 6, 2) := by decide +kernel
theorem dX1_pickInOrder_73 : decode cX1_pickInOrder 73 = .ok (.iconst 1, 1) := by decide +kernel
theorem dX1_pickInOrder_74 : decode cX1_pickInOrder 74 = .ok (.isub, 1) := by decide +kernel
theorem dX1_pickInOrder_75 : decode cX1_pickInOrder 75 = .ok (.iaload, 1) := by decide +kernel
theorem dX1_pickInOrder_76 : decode cX1_pickInOrder 76 = .ok (.iastore, 1) := by decide +kernel
theorem dX1_pickInOrder_77 : decode cX1_pickInOrder 77 = .ok (.iinc 6 (-1), 3) := by decide +kernel
theorem dX1_pickInOrder_80 : decode cX1_pickInOrder 80 = .ok (.goto (-20), 3) := by decide +kernel
theorem dX1_pickInOrder_83 : decode cX1_pickInOrder 83 = .ok (.aload_n 1, 1) := by decide +kernel
theorem dX1_pickInOrder_84 : decode cX1_pickInOrder 84 = .ok (.iload 4, 2) := by decide +kernel
theorem dX1_pickInOrder_86 : decode cX1_pickInOrder 86 = .ok (.iload_n 3, 1) := by decide +kernel
theorem dX1_pickInOrder_87 : decode cX1_pickInOrder 87 = .ok (.iastore, 1) := by decide +kernel
theorem dX1_pickInOrder_88 : decode cX1_pickInOrder 88 = .ok (.iload 5, 2) := by decide +kernel
theorem dX1_pickInOrder_90 : decode cX1_pickInOrder 90 = .ok (.iconst 1, 1) := by decide +kernel
theorem dX1_pickInOrder_91 : decode cX1_pickInOrder 91 = .ok (.iadd, 1) := by decide +kernel
theorem dX1_pickInOrder_92 : decode cX1_pickInOrder 92 = .ok (.ireturn, 1) := by decide +kernel
theorem dX1_become_0 : decode cX1_become 0 = .ok (.aload_n 0, 1) := by decide +kernel
theorem dX1_become_1 : decode cX1_become 1 = .ok (.aload_n 1, 1) := by decide +kernel
theorem dX1_become_2 : decode cX1_become 2 = .ok (.getfield 15, 3) := by decide +kernel
theorem dX1_become_5 : decode cX1_become 5 = .ok (.putfield 15, 3) := by decide +kernel
theorem dX1_become_8 : decode cX1_become 8 = .ok (.aload_n 0, 1) := by decide +kernel
theorem dX1_become_9 : decode cX1_become 9 = .ok (.aload_n 1, 1) := by decide +kernel
theorem dX1_become_10 : decode cX1_become 10 = .ok (.getfield 38, 3) := by decide +kernel
theorem dX1_become_13 : decode cX1_become 13 = .ok (.putfield 38, 3) := by decide +kernel
theorem dX1_become_16 : decode cX1_become 16 = .ok (.aload_n 0, 1) := by decide +kernel
theorem dX1_become_17 : decode cX1_become 17 = .ok (.aload_n 1, 1) := by decide +kernel
theorem dX1_become_18 : decode cX1_become 18 = .ok (.getfield 41, 3) := by decide +kernel
theorem dX1_become_21 : decode cX1_become 21 = .ok (.putfield 41, 3) := by decide +kernel
theorem dX1_become_24 : decode cX1_become 24 = .ok (.aload_n 0, 1) := by decide +kernel
theorem dX1_become_25 : decode cX1_become 25 = .ok (.aload_n 1, 1) := by decide +kernel
theorem dX1_become_26 : decode cX1_become 26 = .ok (.getfield 45, 3) := by decide +kernel
theorem dX1_become_29 : decode cX1_become 29 = .ok (.putfield 45, 3) := by decide +kernel
theorem dX1_become_32 : decode cX1_become 32 = .ok (.aload_n 0, 1) := by decide +kernel
theorem dX1_become_33 : decode cX1_become 33 = .ok (.aload_n 1, 1) := by decide +kernel
theorem dX1_become_34 : decode cX1_become 34 = .ok (.getfield 48, 3) := by decide +kernel
theorem dX1_become_37 : decode cX1_become 37 = .ok (.putfield 48, 3) := by decide +kernel
theorem dX1_become_40 : decode cX1_become 40 = .ok (.aload_n 0, 1) := by decide +kernel
theorem dX1_become_41 : decode cX1_become 41 = .ok (.aload_n 1, 1) := by decide +kernel
theorem dX1_become_42 : decode cX1_become 42 = .ok (.getfield 67, 3) := by decide +kernel
theorem dX1_become_45 : decode cX1_become 45 = .ok (.putfield 67, 3) := by decide +kernel
theorem dX1_become_48 : decode cX1_become 48 = .ok (.aload_n 0, 1) := by decide +kernel
theorem dX1_become_49 : decode cX1_become 49 = .ok (.aload_n 1, 1) := by decide +kernel
theorem dX1_become_50 : decode cX1_become 50 = .ok (.getfield 70, 3) := by decide +kernel
theorem dX1_become_53 : decode cX1_become 53 = .ok (.putfield 70, 3) := by decide +kernel
theorem dX1_become_56 : decode cX1_become 56 = .ok (.aload_n 1, 1) := by decide +kernel
theorem dX1_become_57 : decode cX1_become 57 = .ok (.getfield 19, 3) := by decide +kernel
theorem dX1_become_60 : decode cX1_become 60 = .ok (.iconst 0, 1) := by decide +kernel
theorem dX1_become_61 : decode cX1_become 61 = .ok (.aload_n 0, 1) := by decide +kernel
theorem dX1_become_62 : decode cX1_become 62 = .ok (.getfield 19, 3) := by decide +kernel
theorem dX1_become_65 : decode cX1_become 65 = .ok (.iconst 0, 1) := by decide +kernel
theorem dX1_become_66 : decode cX1_become 66 = .ok (.bipush 64, 2) := by decide +kernel
theorem dX1_become_68 : decode cX1_become 68 = .ok (.invokestatic 135, 3) := by decide +kernel
theorem dX1_become_71 : decode cX1_become 71 = .ok (.aload_n 1, 1) := by decide +kernel
theorem dX1_become_72 : decode cX1_become 72 = .ok (.getfield 23, 3) := by decide +kernel
theorem dX1_become_75 : decode cX1_become 75 = .ok (.iconst 0, 1) := by decide +kernel
theorem dX1_become_76 : decode cX1_become 76 = .ok (.aload_n 0, 1) := by decide +kernel
theorem dX1_become_77 : decode cX1_become 77 = .ok (.getfield 23, 3) := by decide +kernel
theorem dX1_become_80 : decode cX1_become 80 = .ok (.iconst 0, 1) := by decide +kernel
theorem dX1_become_81 : decode cX1_become 81 = .ok (.bipush 64, 2) := by decide +kernel
theorem dX1_become_83 : decode cX1_become 83 = .ok (.invokestatic 135, 3) := by decide +kernel
theorem dX1_become_86 : decode cX1_become 86 = .ok (.aload_n 1, 1) := by decide +kernel
theorem dX1_become_87 : decode cX1_become 87 = .ok (.getfield 26, 3) := by decide +kernel
theorem dX1_become_90 : decode cX1_become 90 = .ok (.iconst 0, 1) := by decide +kernel
theorem dX1_become_91 : decode cX1_become 91 = .ok (.aload_n 0, 1) := by decide +kernel
theorem dX1_become_92 : decode cX1_become 92 = .ok (.getfield 26, 3) := by decide +kernel
theorem dX1_become_95 : decode cX1_become 95 = .ok (.iconst 0, 1) := by decide +kernel
theorem dX1_become_96 : decode cX1_become 96 = .ok (.bipush 64, 2) := by decide +kernel
theorem dX1_become_98 : decode cX1_become 98 = .ok (.invokestatic 135, 3) := by decide +kernel
theorem dX1_become_101 : decode cX1_become 101 = .ok (.aload_n 1, 1) := by decide +kernel
theorem dX1_become_102 : decode cX1_become 102 = .ok (.getfield 29, 3) := by decide +kernel
theorem dX1_become_105 : decode cX1_become 105 = .ok (.iconst 0, 1) := by decide +kernel
theorem dX1_become_106 : decode cX1_become 106 = .ok (.aload_n 0, 1) := by decide +kernel
theorem dX1_become_107 : decode cX1_become 107 = .ok (.getfield 29, 3) := by decide +kernel
theorem dX1_become_110 : decode cX1_become 110 = .ok (.iconst 0, 1) := by decide +kernel
theorem dX1_become_111 : decode cX1_become 111 = .ok (.bipush 64, 2) := by decide +kernel
theorem dX1_become_113 : decode cX1_become 113 = .ok (.invokestatic 135, 3) := by decide +kernel
theorem dX1_become_116 : decode cX1_become 116 = .ok (.aload_n 1, 1) := by decide +kernel
theorem dX1_become_117 : decode cX1_become 117 = .ok (.getfield 32, 3) := by decide +kernel
theorem dX1_become_120 : decode cX1_become 120 = .ok (.iconst 0, 1) := by decide +kernel
theorem dX1_become_121 : decode cX1_become 121 = .ok (.aload_n 0, 1) := by decide +kernel
theorem dX1_become_122 : decode cX1_become 122 = .ok (.getfield 32, 3) := by decide +kernel
theorem dX1_become_125 : decode cX1_become 125 = .ok (.iconst 0, 1) := by decide +kernel
theorem dX1_become_126 : decode cX1_become 126 = .ok (.bipush 64, 2) := by decide +kernel
theorem dX1_become_128 : decode cX1_become 128 = .ok (.invokestatic 135, 3) := by decide +kernel
theorem dX1_become_131 : decode cX1_become 131 = .ok (.aload_n 1, 1) := by decide +kernel
theorem dX1_become_132 : decode cX1_become 132 = .ok (.getfield 35, 3) := by decide +kernel
theorem dX1_become_135 : decode cX1_become 135 = .ok (.iconst 0, 1) := by decide +kernel
theorem dX1_become_136 : decode cX1_become 136 = .ok (.aload_n 0, 1) := by decide +kernel
theorem dX1_become_137 : decode cX1_become 137 = .ok (.getfield 35, 3) := by decide +kernel
theorem dX1_become_140 : decode cX1_become 140 = .ok (.iconst 0, 1) := by decide +kernel
theorem dX1_become_141 : decode cX1_become 141 = .ok (.bipush 64, 2) := by decide +kernel
theorem dX1_become_143 : decode cX1_become 143 = .ok (.invokestatic 135, 3) := by decide +kernel
theorem dX1_become_146 : decode cX1_become 146 = .ok (.aload_n 0, 1) := by decide +kernel
theorem dX1_become_147 : decode cX1_become 147 = .ok (.aload_n 1, 1) := by decide +kernel
theorem dX1_become_148 : decode cX1_become 148 = .ok (.getfield 73, 3) := by decide +kernel
theorem dX1_become_151 : decode cX1_become 151 = .ok (.putfield 73, 3) := by decide +kernel
theorem dX1_become_154 : decode cX1_become 154 = .ok (.aload_n 0, 1) := by decide +kernel
theorem dX1_become_155 : decode cX1_become 155 = .ok (.aload_n 1, 1) := by decide +kernel
theorem dX1_become_156 : decode cX1_become 156 = .ok (.getfield 76, 3) := by decide +kernel
theorem dX1_become_159 : decode cX1_become 159 = .ok (.putfield 76, 3) := by decide +kernel
theorem dX1_become_162 : decode cX1_become 162 = .ok (.return_, 1) := by decide +kernel
theorem dX1_sameAs_0 : decode cX1_sameAs 0 = .ok (.aload_n 0, 1) := by decide +kernel
theorem dX1_sameAs_1 : decode cX1_sameAs 1 = .ok (.getfield 38, 3) := by decide +kernel
theorem dX1_sameAs_4 : decode cX1_sameAs 4 = .ok (.aload_n 1, 1) := by decide +kernel
theorem dX1_sameAs_5 : decode cX1_sameAs 5 = .ok (.getfield 38, 3) := by decide +kernel
theorem dX1_sameAs_8 : decode cX1_sameAs 8 = .ok (.if_icmp .ne 183, 3) := by decide +kernel
theorem dX1_sameAs_11 : decode cX1_sameAs 11 = .ok (.aload_n 0, 1) := by decide +kernel
theorem dX1_sameAs_12 : decode cX1_sameAs 12 = .ok (.getfield 41, 3) := by decide +kernel
theorem dX1_sameAs_15 : decode cX1_sameAs 15 = .ok (.aload_n 1, 1) := by decide +kernel
theorem dX1_sameAs_16 : decode cX1_sameAs 16 = .ok (.getfield 41, 3) := by decide +kernel
theorem dX1_sameAs_19 : decode cX1_sameAs 19 = .ok (.lcmp, 1) := by decide +kernel
theorem dX1_sameAs_20 : decode cX1_sameAs 20 = .ok (.ifCond .ne 171, 3) := by decide +kernel
theorem dX1_sameAs_23 : decode cX1_sameAs 23 = .ok (.aload_n 0, 1) := by decide +kernel
theorem dX1_sameAs_24 : decode cX1_sameAs 24 = .ok (.getfield 45, 3) := by decide +kernel
theorem dX1_sameAs_27 : decode cX1_sameAs 27 = .ok (.aload_n 1, 1) := by decide +kernel
theorem dX1_sameAs_28 : decode cX1_sameAs 28 = .ok (.getfield 45, 3) := by decide +kernel
theorem dX1_sameAs_31 : decode cX1_sameAs 31 = .ok (.if_icmp .ne 160, 3) := by decide +kernel
theorem dX1_sameAs_34 : decode cX1_sameAs 34 = .ok (.aload_n 0, 1) := by decide +kernel
theorem dX1_sameAs_35 : decode cX1_sameAs 35 = .ok (.getfield 48, 3) := by decide +kernel
theorem dX1_sameAs_38 : decode cX1_sameAs 38 = .ok (.aload_n 1, 1) := by decide +kernel
theorem dX1_sameAs_39 : decode cX1_sameAs 39 = .ok (.getfield 48, 3) := by decide +kernel
theorem dX1_sameAs_42 : decode cX1_sameAs 42 = .ok (.if_icmp .ne 149, 3) := by decide +kernel
theorem dX1_sameAs_45 : decode cX1_sameAs 45 = .ok (.aload_n 0, 1) := by decide +kernel
theorem dX1_sameAs_46 : decode cX1_sameAs 46 = .ok (.getfield 67, 3) := by decide +kernel
theorem dX1_sameAs_49 : decode cX1_sameAs 49 = .ok (.aload_n 1, 1) := by decide +kernel
theorem dX1_sameAs_50 : decode cX1_sameAs 50 = .ok (.getfield 67, 3) := by decide +kernel
theorem dX1_sameAs_53 : decode cX1_sameAs 53 = .ok (.if_icmp .ne 138, 3) := by decide +kernel
theorem dX1_sameAs_56 : decode cX1_sameAs 56 = .ok (.aload_n 0, 1) := by decide +kernel
theorem dX1_sameAs_57 : decode cX1_sameAs 57 = .ok (.getfield 70, 3) := by decide +kernel
theorem dX1_sameAs_60 : decode cX1_sameAs 60 = .ok (.aload_n 1, 1) := by decide +kernel
theorem dX1_sameAs_61 : decode cX1_sameAs 61 = .ok (.getfield 70, 3) := by decide +kernel
theorem dX1_sameAs_64 : decode cX1_sameAs 64 = .ok (.if_icmp .ne 127, 3) := by decide +kernel
theorem dX1_sameAs_67 : decode cX1_sameAs 67 = .ok (.aload_n 0, 1) := by decide +kernel
theorem dX1_sameAs_68 : decode cX1_sameAs 68 = .ok (.getfield 73, 3) := by decide +kernel
theorem dX1_sameAs_71 : decode cX1_sameAs 71 = .ok (.aload_n 1, 1) := by decide +kernel
theorem dX1_sameAs_72 : decode cX1_sameAs 72 = .ok (.getfield 73, 3) := by decide +kernel
theorem dX1_sameAs_75 : decode cX1_sameAs 75 = .ok (.if_icmp .ne 116, 3) := by decide +kernel
theorem dX1_sameAs_78 : decode cX1_sameAs 78 = .ok (.aload_n 0, 1) := by decide +kernel
theorem dX1_sameAs_79 : decode cX1_sameAs 79 = .ok (.getfield 76, 3) := by decide +kernel
theorem dX1_sameAs_82 : decode cX1_sameAs 82 = .ok (.aload_n 1, 1) := by decide +kernel
theorem dX1_sameAs_83 : decode cX1_sameAs 83 = .ok (.getfield 76, 3) := by decide +kernel
theorem dX1_sameAs_86 : decode cX1_sameAs 86 = .ok (.if_icmp .ne 105, 3) := by decide +kernel
theorem dX1_sameAs_89 : decode cX1_sameAs 89 = .ok (.aload_n 0, 1) := by decide +kernel
theorem dX1_sameAs_90 : decode cX1_sameAs 90 = .ok (.getfield 35, 3) := by decide +kernel
theorem dX1_sameAs_93 : decode cX1_sameAs 93 = .ok (.aload_n 1, 1) := by decide +kernel
theorem dX1_sameAs_94 : decode cX1_sameAs 94 = .ok (.getfield 35, 3) := by decide +kernel
theorem dX1_sameAs_97 : decode cX1_sameAs 97 = .ok (.aload_n 0, 1) := by decide +kernel
theorem dX1_sameAs_98 : decode cX1_sameAs 98 = .ok (.getfield 73, 3) := by decide +kernel
theorem dX1_sameAs_101 : decode cX1_sameAs 101 = .ok (.invokestatic 141, 3) := by decide +kernel
theorem dX1_sameAs_104 : decode cX1_sameAs 104 = .ok (.ifCond .eq 87, 3) := by decide +kernel
theorem dX1_sameAs_107 : decode cX1_sameAs 107 = .ok (.aload_n 0, 1) := by decide +kernel
theorem dX1_sameAs_108 : decode cX1_sameAs 108 = .ok (.getfield 19, 3) := by decide +kernel
theorem dX1_sameAs_111 : decode cX1_sameAs 111 = .ok (.aload_n 1, 1) := by decide +kernel
theorem dX1_sameAs_112 : decode cX1_sameAs 112 = .ok (.getfield 19, 3) := by decide +kernel
theorem dX1_sameAs_115 : decode cX1_sameAs 115 = .ok (.bipush 64, 2) := by decide +kernel
theorem dX1_sameAs_117 : decode cX1_sameAs 117 = .ok (.invokestatic 141, 3) := by decide +kernel
theorem dX1_sameAs_120 : decode cX1_sameAs 120 = .ok (.ifCond .eq 71, 3) := by decide +kernel
theorem dX1_sameAs_123 : decode cX1_sameAs 123 = .ok (.aload_n 0, 1) := by decide +kernel
theorem dX1_sameAs_124 : decode cX1_sameAs 124 = .ok (.getfield 23, 3) := by decide +kernel
theorem dX1_sameAs_127 : decode cX1_sameAs 127 = .ok (.aload_n 1, 1) := by decide +kernel
theorem dX1_sameAs_128 : decode cX1_sameAs 128 = .ok (.getfield 23, 3) := by decide +kernel
theorem dX1_sameAs_131 : decode cX1_sameAs 131 = .ok (.bipush 64, 2) := by decide +kernel
theorem dX1_sameAs_133 : decode cX1_sameAs 133 = .ok (.invokestatic 141, 3) := by decide +kernel
theorem dX1_sameAs_136 : decode cX1_sameAs 136 = .ok (.ifCond .eq 55, 3) := by decide +kernel
theorem dX1_sameAs_139 : decode cX1_sameAs 139 = .ok (.aload_n 0, 1) := by decide +kernel
theorem dX1_sameAs_140 : decode cX1_sameAs 140 = .ok (.getfield 26, 3) := by decide +kernel
theorem dX1_sameAs_143 : decode cX1_sameAs 143 = .ok (.aload_n 1, 1) := by decide +kernel
theorem dX1_sameAs_144 : decode cX1_sameAs 144 = .ok (.getfield 26, 3) := by decide +kernel
theorem dX1_sameAs_147 : decode cX1_sameAs 147 = .ok (.bipush 64, 2) := by decide +kernel
theorem dX1_sameAs_149 : decode cX1_sameAs 149 = .ok (.invokestatic 141, 3) := by decide +kernel
theorem dX1_sameAs_152 : decode cX1_sameAs 152 = .ok (.ifCond .eq 39, 3) := by decide +kernel
theorem dX1_sameAs_155 : decode cX1_sameAs 155 = .ok (.aload_n 0, 1) := by decide +kernel
theorem dX1_sameAs_156 : decode cX1_sameAs 156 = .ok (.getfield 29, 3) := by decide +kernel
theorem dX1_sameAs_159 : decode cX1_sameAs 159 = .ok (.aload_n 1, 1) := by decide +kernel
theorem dX1_sameAs_160 : decode cX1_sameAs 160 = .ok (.getfield 29, 3) := by decide +kernel
theorem dX1_sameAs_163 : decode cX1_sameAs 163 = .ok (.bipush 64, 2) := by decide +kernel
theorem dX1_sameAs_165 : decode cX1_sameAs 165 = .ok (.invokestatic 141, 3) := by decide +kernel
theorem dX1_sameAs_168 : decode cX1_sameAs 168 = .ok (.ifCond .eq 23, 3) := by decide +kernel
theorem dX1_sameAs_171 : decode cX1_sameAs 171 = .ok (.aload_n 0, 1) := by decide +kernel
theorem dX1_sameAs_172 : decode cX1_sameAs 172 = .ok (.getfield 32, 3) := by decide +kernel
theorem dX1_sameAs_175 : decode cX1_sameAs 175 = .ok (.aload_n 1, 1) := by decide +kernel
theorem dX1_sameAs_176 : decode cX1_sameAs 176 = .ok (.getfield 32, 3) := by decide +kernel
theorem dX1_sameAs_179 : decode cX1_sameAs 179 = .ok (.bipush 64, 2) := by decide +kernel
theorem dX1_sameAs_181 : decode cX1_sameAs 181 = .ok (.invokestatic 141, 3) := by decide +kernel
theorem dX1_sameAs_184 : decode cX1_sameAs 184 = .ok (.ifCond .eq 7, 3) := by decide +kernel
theorem dX1_sameAs_187 : decode cX1_sameAs 187 = .ok (.iconst 1, 1) := by decide +kernel
theorem dX1_sameAs_188 : decode cX1_sameAs 188 = .ok (.goto 4, 3) := by decide +kernel
theorem dX1_sameAs_191 : decode cX1_sameAs 191 = .ok (.iconst 0, 1) := by decide +kernel
theorem dX1_sameAs_192 : decode cX1_sameAs 192 = .ok (.ireturn, 1) := by decide +kernel
theorem dX1_differsIn_0 : decode cX1_differsIn 0 = .ok (.iconst 0, 1) := by decide +kernel
theorem dX1_differsIn_1 : decode cX1_differsIn 1 = .ok (.istore_n 2, 1) := by decide +kernel
theorem dX1_differsIn_2 : decode cX1_differsIn 2 = .ok (.iload_n 2, 1) := by decide +kernel
theorem dX1_differsIn_3 : decode cX1_differsIn 3 = .ok (.bipush 64, 2) := by decide +kernel
theorem dX1_differsIn_5 : decode cX1_differsIn 5 = .ok (.if_icmp .ge 41, 3) := by decide +kernel
theorem dX1_differsIn_8 : decode cX1_differsIn 8 = .ok (.aload_n 0, 1) := by decide +kernel
theorem dX1_differsIn_9 : decode cX1_differsIn 9 = .ok (.getfield 19, 3) := by decide +kernel
theorem dX1_differsIn_12 : decode cX1_differsIn 12 = .ok (.iload_n 2, 1) := by decide +kernel
theorem dX1_differsIn_13 : decode cX1_differsIn 13 = .ok (.iaload, 1) := by decide +kernel
theorem dX1_differsIn_14 : decode cX1_differsIn 14 = .ok (.aload_n 1, 1) := by decide +kernel
theorem dX1_differsIn_15 : decode cX1_differsIn 15 = .ok (.getfield 19, 3) := by decide +kernel
theorem dX1_differsIn_18 : decode cX1_differsIn 18 = .ok (.iload_n 2, 1) := by decide +kernel
theorem dX1_differsIn_19 : decode cX1_differsIn 19 = .ok (.iaload, 1) := by decide +kernel
theorem dX1_differsIn_20 : decode cX1_differsIn 20 = .ok (.if_icmp .ne 18, 3) := by decide +kernel
theorem dX1_differsIn_23 : decode cX1_differsIn 23 = .ok (.aload_n 0, 1) := by decide +kernel
theorem dX1_differsIn_24 : decode cX1_differsIn 24 = .ok (.getfield 23, 3) := by decide +kernel
theorem dX1_differsIn_27 : decode cX1_differsIn 27 = .ok (.iload_n 2, 1) := by decide +kernel
theorem dX1_differsIn_28 : decode cX1_differsIn 28 = .ok (.iaload, 1) := by decide +kernel
theorem dX1_differsIn_29 : decode cX1_differsIn 29 = .ok (.aload_n 1, 1) := by decide +kernel
theorem dX1_differsIn_30 : decode cX1_differsIn 30 = .ok (.getfield 23, 3) := by decide +kernel
theorem dX1_differsIn_33 : decode cX1_differsIn 33 = .ok (.iload_n 2, 1) := by decide +kernel
theorem dX1_differsIn_34 : decode cX1_differsIn 34 = .ok (.iaload, 1) := by decide +kernel
theorem dX1_differsIn_35 : decode cX1_differsIn 35 = .ok (.if_icmp .eq 5, 3) := by decide +kernel
theorem dX1_differsIn_38 : decode cX1_differsIn 38 = .ok (.iload_n 2, 1) := by decide +kernel
theorem dX1_differsIn_39 : decode cX1_differsIn 39 = .ok (.ireturn, 1) := by decide +kernel
theorem dX1_differsIn_40 : decode cX1_differsIn 40 = .ok (.iinc 2 1, 3) := by decide +kernel
theorem dX1_differsIn_43 : decode cX1_differsIn 43 = .ok (.goto (-41), 3) := by decide +kernel
theorem dX1_differsIn_46 : decode cX1_differsIn 46 = .ok (.iconst (-1), 1) := by decide +kernel
theorem dX1_differsIn_47 : decode cX1_differsIn 47 = .ok (.ireturn, 1) := by decide +kernel
theorem dX2_init_0 : decode cX2_init 0 = .ok (.aload_n 0, 1) := by decide +kernel
theorem dX2_init_1 : decode cX2_init 1 = .ok (.invokespecial 3, 3) := by decide +kernel
theorem dX2_init_4 : decode cX2_init 4 = .ok (.aload_n 0, 1) := by decide +kernel
theorem dX2_init_5 : decode cX2_init 5 = .ok (.bipush 11, 2) := by decide +kernel
theorem dX2_init_7 : decode cX2_init 7 = .ok (.newarray .int, 2) := by decide +kernel
theorem dX2_init_9 : decode cX2_init 9 = .ok (.putfield 9, 3) := by decide +kernel
theorem dX2_init_12 : decode cX2_init 12 = .ok (.aload_n 0, 1) := by decide +kernel
theorem dX2_init_13 : decode cX2_init 13 = .ok (.bipush (-7), 2) := by decide +kernel
theorem dX2_init_15 : decode cX2_init 15 = .ok (.putfield 15, 3) := by decide +kernel
theorem dX2_init_18 : decode cX2_init 18 = .ok (.return_, 1) := by decide +kernel
theorem dX2_keep_0 : decode cX2_keep 0 = .ok (.iload_n 1, 1) := by decide +kernel
theorem dX2_keep_1 : decode cX2_keep 1 = .ok (.bipush (-2), 2) := by decide +kernel
theorem dX2_keep_3 : decode cX2_keep 3 = .ok (.if_icmp .gt 25, 3) := by decide +kernel
theorem dX2_keep_6 : decode cX2_keep 6 = .ok (.iload_n 1, 1) := by decide +kernel
theorem dX2_keep_7 : decode cX2_keep 7 = .ok (.bipush (-10), 2) := by decide +kernel
theorem dX2_keep_9 : decode cX2_keep 9 = .ok (.if_icmp .lt 19, 3) := by decide +kernel
theorem dX2_keep_12 : decode cX2_keep 12 = .ok (.aload_n 0, 1) := by decide +kernel
theorem dX2_keep_13 : decode cX2_keep 13 = .ok (.getfield 9, 3) := by decide +kernel
theorem dX2_keep_16 : decode cX2_keep 16 = .ok (.iload_n 1, 1) := by decide +kernel
theorem dX2_keep_17 : decode cX2_keep 17 = .ok (.ineg, 1) := by decide +kernel
theorem dX2_keep_18 : decode cX2_keep 18 = .ok (.dup2, 1) := by decide +kernel
theorem dX2_keep_19 : decode cX2_keep 19 = .ok (.iaload, 1) := by decide +kernel
theorem dX2_keep_20 : decode cX2_keep 20 = .ok (.iconst 1, 1) := by decide +kernel
theorem dX2_keep_21 : decode cX2_keep 21 = .ok (.iadd, 1) := by decide +kernel
theorem dX2_keep_22 : decode cX2_keep 22 = .ok (.iastore, 1) := by decide +kernel
theorem dX2_keep_23 : decode cX2_keep 23 = .ok (.aload_n 0, 1) := by decide +kernel
theorem dX2_keep_24 : decode cX2_keep 24 = .ok (.iload_n 1, 1) := by decide +kernel
theorem dX2_keep_25 : decode cX2_keep 25 = .ok (.putfield 15, 3) := by decide +kernel
theorem dX2_keep_28 : decode cX2_keep 28 = .ok (.return_, 1) := by decide +kernel
theorem dX2_throwLatest_0 : decode cX2_throwLatest 0 = .ok (.aload_n 0, 1) := by decide +kernel
theorem dX2_throwLatest_1 : decode cX2_throwLatest 1 = .ok (.getfield 15, 3) := by decide +kernel
theorem dX2_throwLatest_4 : decode cX2_throwLatest 4 = .ok (.istore_n 1, 1) := by decide +kernel
theorem dX2_throwLatest_5 : decode cX2_throwLatest 5 = .ok (.aload_n 0, 1) := by decide +kernel
theorem dX2_throwLatest_6 : decode cX2_throwLatest 6 = .ok (.bipush (-7), 2) := by decide +kernel
theorem dX2_throwLatest_8 : decode cX2_throwLatest 8 = .ok (.putfield 15, 3) := by decide +kernel
theorem dX2_throwLatest_11 : decode cX2_throwLatest 11 = .ok (.iload_n 1, 1) := by decide +kernel
theorem dX2_throwLatest_12 : decode cX2_throwLatest 12 = .ok (.ireturn, 1) := by decide +kernel
theorem dX3_init_0 : decode cX3_init 0 = .ok (.aload_n 0, 1) := by decide +kernel
theorem dX3_init_1 : decode cX3_init 1 = .ok (.invokespecial 3, 3) := by decide +kernel
theorem dX3_init_4 : decode cX3_init 4 = .ok (.aload_n 0, 1) := by decide +kernel
theorem dX3_init_5 : decode cX3_init 5 = .ok (.iconst 1, 1) := by decide +kernel
theorem dX3_init_6 : decode cX3_init 6 = .ok (.iload_n 1, 1) := by decide +kernel
theorem dX3_init_7 : decode cX3_init 7 = .ok (.invokestatic 9, 3) := by decide +kernel
theorem dX3_init_10 : decode cX3_init 10 = .ok (.putfield 15, 3) := by decide +kernel
theorem dX3_init_13 : decode cX3_init 13 = .ok (.aload_n 0, 1) := by decide +kernel
theorem dX3_init_14 : decode cX3_init 14 = .ok (.bipush 16, 2) := by decide +kernel
theorem dX3_init_16 : decode cX3_init 16 = .ok (.iload_n 2, 1) := by decide +kernel
theorem dX3_init_17 : decode cX3_init 17 = .ok (.invokestatic 9, 3) := by decide +kernel
theorem dX3_init_20 : decode cX3_init 20 = .ok (.putfield 21, 3) := by decide +kernel
theorem dX3_init_23 : decode cX3_init 23 = .ok (.aload_n 0, 1) := by decide +kernel
theorem dX3_init_24 : decode cX3_init 24 = .ok (.aload_n 0, 1) := by decide +kernel
theorem dX3_init_25 : decode cX3_init 25 = .ok (.getfield 15, 3) := by decide +kernel
theorem dX3_init_28 : decode cX3_init 28 = .ok (.bipush 16, 2) := by decide +kernel
theorem dX3_init_30 : decode cX3_init 30 = .ok (.imul, 1) := by decide +kernel
theorem dX3_init_31 : decode cX3_init 31 = .ok (.newarray .int, 2) := by decide +kernel
theorem dX3_init_33 : decode cX3_init 33 = .ok (.putfield 24, 3) := by decide +kernel
theorem dX3_init_36 : decode cX3_init 36 = .ok (.aload_n 0, 1) := by decide +kernel
theorem dX3_init_37 : decode cX3_init 37 = .ok (.iconst 0, 1) := by decide +kernel
theorem dX3_init_38 : decode cX3_init 38 = .ok (.putfield 28, 3) := by decide +kernel
theorem dX3_init_41 : decode cX3_init 41 = .ok (.return_, 1) := by decide +kernel
theorem dX3_reserve_0 : decode cX3_reserve 0 = .ok (.iload_n 1, 1) := by decide +kernel
theorem dX3_reserve_1 : decode cX3_reserve 1 = .ok (.aload_n 0, 1) := by decide +kernel
theorem dX3_reserve_2 : decode cX3_reserve 2 = .ok (.getfield 21, 3) := by decide +kernel
theorem dX3_reserve_5 : decode cX3_reserve 5 = .ok (.invokestatic 31, 3) := by decide +kernel
theorem dX3_reserve_8 : decode cX3_reserve 8 = .ok (.aload_n 0, 1) := by decide +kernel
theorem dX3_reserve_9 : decode cX3_reserve 9 = .ok (.getfield 15, 3) := by decide +kernel
theorem dX3_reserve_12 : decode cX3_reserve 12 = .ok (.imul, 1) := by decide +kernel
theorem dX3_reserve_13 : decode cX3_reserve 13 = .ok (.istore_n 2, 1) := by decide +kernel
theorem dX3_reserve_14 : decode cX3_reserve 14 = .ok (.iload_n 2, 1) := by decide +kernel
theorem dX3_reserve_15 : decode cX3_reserve 15 = .ok (.aload_n 0, 1) := by decide +kernel
theorem dX3_reserve_16 : decode cX3_reserve 16 = .ok (.getfield 24, 3) := by decide +kernel
theorem dX3_reserve_19 : decode cX3_reserve 19 = .ok (.arraylength, 1) := by decide +kernel
theorem dX3_reserve_20 : decode cX3_reserve 20 = .ok (.if_icmp .le 39, 3) := by decide +kernel
theorem dX3_reserve_23 : decode cX3_reserve 23 = .ok (.iconst 2, 1) := by decide +kernel
theorem dX3_reserve_24 : decode cX3_reserve 24 = .ok (.aload_n 0, 1) := by decide +kernel
theorem dX3_reserve_25 : decode cX3_reserve 25 = .ok (.getfield 24, 3) := by decide +kernel
theorem dX3_reserve_28 : decode cX3_reserve 28 = .ok (.arraylength, 1) := by decide +kernel
theorem dX3_reserve_29 : decode cX3_reserve 29 = .ok (.imul, 1) := by decide +kernel
theorem dX3_reserve_30 : decode cX3_reserve 30 = .ok (.aload_n 0, 1) := by decide +kernel
theorem dX3_reserve_31 : decode cX3_reserve 31 = .ok (.getfield 21, 3) := by decide +kernel
theorem dX3_reserve_34 : decode cX3_reserve 34 = .ok (.aload_n 0, 1) := by decide +kernel
theorem dX3_reserve_35 : decode cX3_reserve 35 = .ok (.getfield 15, 3) := by decide +kernel
theorem dX3_reserve_38 : decode cX3_reserve 38 = .ok (.imul, 1) := by decide +kernel
theorem dX3_reserve_39 : decode cX3_reserve 39 = .ok (.invokestatic 31, 3) := by decide +kernel
theorem dX3_reserve_42 : decode cX3_reserve 42 = .ok (.istore_n 3, 1) := by decide +kernel
theorem dX3_reserve_43 : decode cX3_reserve 43 = .ok (.aload_n 0, 1) := by decide +kernel
theorem dX3_reserve_44 : decode cX3_reserve 44 = .ok (.aload_n 0, 1) := by decide +kernel
theorem dX3_reserve_45 : decode cX3_reserve 45 = .ok (.getfield 24, 3) := by decide +kernel
theorem dX3_reserve_48 : decode cX3_reserve 48 = .ok (.iload_n 2, 1) := by decide +kernel
theorem dX3_reserve_49 : decode cX3_reserve 49 = .ok (.iload_n 3, 1) := by decide +kernel
theorem dX3_reserve_50 : decode cX3_reserve 50 = .ok (.invokestatic 9, 3) := by decide +kernel
theorem dX3_reserve_53 : decode cX3_reserve 53 = .ok (.invokestatic 34, 3) := by decide +kernel
theorem dX3_reserve_56 : decode cX3_reserve 56 = .ok (.putfield 24, 3) := by decide +kernel
theorem dX3_reserve_59 : decode cX3_reserve 59 = .ok (.return_, 1) := by decide +kernel
theorem dX3_add_0 : decode cX3_add 0 = .ok (.aload_n 0, 1) := by decide +kernel
theorem dX3_add_1 : decode cX3_add 1 = .ok (.getfield 28, 3) := by decide +kernel
theorem dX3_add_4 : decode cX3_add 4 = .ok (.aload_n 0, 1) := by decide +kernel
theorem dX3_add_5 : decode cX3_add 5 = .ok (.getfield 15, 3) := by decide +kernel
theorem dX3_add_8 : decode cX3_add 8 = .ok (.imul, 1) := by decide +kernel
theorem dX3_add_9 : decode cX3_add 9 = .ok (.istore_n 1, 1) := by decide +kernel
theorem dX3_add_10 : decode cX3_add 10 = .ok (.iload_n 1, 1) := by decide +kernel
theorem dX3_add_11 : decode cX3_add 11 = .ok (.aload_n 0, 1) := by decide +kernel
theorem dX3_add_12 : decode cX3_add 12 = .ok (.getfield 15, 3) := by decide +kernel
theorem dX3_add_15 : decode cX3_add 15 = .ok (.iadd, 1) := by decide +kernel
theorem dX3_add_16 : decode cX3_add 16 = .ok (.aload_n 0, 1) := by decide +kernel
theorem dX3_add_17 : decode cX3_add 17 = .ok (.getfield 24, 3) := by decide +kernel
theorem dX3_add_20 : decode cX3_add 20 = .ok (.arraylength, 1) := by decide +kernel
theorem dX3_add_21 : decode cX3_add 21 = .ok (.if_icmp .le 5, 3) := by decide +kernel
theorem dX3_add_24 : decode cX3_add 24 = .ok (.iconst (-1), 1) := by decide +kernel
theorem dX3_add_25 : decode cX3_add 25 = .ok (.ireturn, 1) := by decide +kernel
theorem dX3_add_26 : decode cX3_add 26 = .ok (.iload_n 1, 1) := by decide +kernel
theorem dX3_add_27 : decode cX3_add 27 = .ok (.istore_n 2, 1) := by decide +kernel
theorem dX3_add_28 : decode cX3_add 28 = .ok (.iload_n 2, 1) := by decide +kernel
theorem dX3_add_29 : decode cX3_add 29 = .ok (.iload_n 1, 1) := by decide +kernel
theorem dX3_add_30 : decode cX3_add 30 = .ok (.aload_n 0, 1) := by decide +kernel
theorem dX3_add_31 : decode cX3_add 31 = .ok (.getfield 15, 3) := by decide +kernel
theorem dX3_add_34 : decode cX3_add 34 = .ok (.iadd, 1) := by decide +kernel
theorem dX3_add_35 : decode cX3_add 35 = .ok (.if_icmp .ge 16, 3) := by decide +kernel
theorem dX3_add_38 : decode cX3_add 38 = .ok (.aload_n 0, 1) := by decide +kernel
theorem dX3_add_39 : decode cX3_add 39 = .ok (.getfield 24, 3) := by decide +kernel
theorem dX3_add_42 : decode cX3_add 42 = .ok (.iload_n 2, 1) := by decide +kernel
theorem dX3_add_43 : decode cX3_add 43 = .ok (.iconst 0, 1) := by decide +kernel
theorem dX3_add_44 : decode cX3_add 44 = .ok (.iastore, 1) := by decide +kernel
theorem dX3_add_45 : decode cX3_add 45 = .ok (.iinc 2 1, 3) := by decide +kernel
theorem dX3_add_48 : decode cX3_add 48 = .ok (.goto (-20), 3) := by decide +kernel
theorem dX3_add_51 : decode cX3_add 51 = .ok (.aload_n 0, 1) := by decide +kernel
theorem dX3_add_52 : decode cX3_add 52 = .ok (.dup, 1) := by decide +kernel
theorem dX3_add_53 : decode cX3_add 53 = .ok (.getfield 28, 3) := by decide +kernel
theorem dX3_add_56 : decode cX3_add 56 = .ok (.iconst 1, 1) := by decide +kernel
theorem dX3_add_57 : decode cX3_add 57 = .ok (.iadd, 1) := by decide +kernel
theorem dX3_add_58 : decode cX3_add 58 = .ok (.putfield 28, 3) := by decide +kernel
theorem dX3_add_61 : decode cX3_add 61 = .ok (.aload_n 0, 1) := by decide +kernel
theorem dX3_add_62 : decode cX3_add 62 = .ok (.getfield 28, 3) := by decide +kernel
theorem dX3_add_65 : decode cX3_add 65 = .ok (.iconst 1, 1) := by decide +kernel
theorem dX3_add_66 : decode cX3_add 66 = .ok (.isub, 1) := by decide +kernel
theorem dX3_add_67 : decode cX3_add 67 = .ok (.ireturn, 1) := by decide +kernel
theorem dX3_get_0 : decode cX3_get 0 = .ok (.iload_n 1, 1) := by decide +kernel
theorem dX3_get_1 : decode cX3_get 1 = .ok (.ifCond .lt 23, 3) := by decide +kernel
theorem dX3_get_4 : decode cX3_get 4 = .ok (.iload_n 1, 1) := by decide +kernel
theorem dX3_get_5 : decode cX3_get 5 = .ok (.aload_n 0, 1) := by decide +kernel
theorem dX3_get_6 : decode cX3_get 6 = .ok (.getfield 28, 3) := by decide +kernel
theorem dX3_get_9 : decode cX3_get 9 = .ok (.if_icmp .ge 15, 3) := by decide +kernel
theorem dX3_get_12 : decode cX3_get 12 = .ok (.iload_n 2, 1) := by decide +kernel
theorem dX3_get_13 : decode cX3_get 13 = .ok (.ifCond .lt 11, 3) := by decide +kernel
theorem dX3_get_16 : decode cX3_get 16 = .ok (.iload_n 2, 1) := by decide +kernel
theorem dX3_get_17 : decode cX3_get 17 = .ok (.aload_n 0, 1) := by decide +kernel
theorem dX3_get_18 : decode cX3_get 18 = .ok (.getfield 15, 3) := by decide +kernel
theorem dX3_get_21 : decode cX3_get 21 = .ok (.if_icmp .lt 5, 3) := by decide +kernel
theorem dX3_get_24 : decode cX3_get 24 = .ok (.iconst (-1), 1) := by decide +kernel
theorem dX3_get_25 : decode cX3_get 25 = .ok (.ireturn, 1) := by decide +kernel
theorem dX3_get_26 : decode cX3_get 26 = .ok (.aload_n 0, 1) := by decide +kernel
theorem dX3_get_27 : decode cX3_get 27 = .ok (.getfield 24, 3) := by decide +kernel
theorem dX3_get_30 : decode cX3_get 30 = .ok (.iload_n 1, 1) := by decide +kernel
theorem dX3_get_31 : decode cX3_get 31 = .ok (.aload_n 0, 1) := by decide +kernel
theorem dX3_get_32 : decode cX3_get 32 = .ok (.getfield 15, 3) := by decide +kernel
theorem dX3_get_35 : decode cX3_get 35 = .ok (.imul, 1) := by decide +kernel
theorem dX3_get_36 : decode cX3_get 36 = .ok (.iload_n 2, 1) := by decide +kernel
theorem dX3_get_37 : decode cX3_get 37 = .ok (.iadd, 1) := by decide +kernel
theorem dX3_get_38 : decode cX3_get 38 = .ok (.iaload, 1) := by decide +kernel
theorem dX3_get_39 : decode cX3_get 39 = .ok (.ireturn, 1) := by decide +kernel
theorem dX3_set_0 : decode cX3_set 0 = .ok (.iload_n 1, 1) := by decide +kernel
theorem dX3_set_1 : decode cX3_set 1 = .ok (.ifCond .lt 37, 3) := by decide +kernel
theorem dX3_set_4 : decode cX3_set 4 = .ok (.iload_n 1, 1) := by decide +kernel
theorem dX3_set_5 : decode cX3_set 5 = .ok (.aload_n 0, 1) := by decide +kernel
theorem dX3_set_6 : decode cX3_set 6 = .ok (.getfield 28, 3) := by decide +kernel
theorem dX3_set_9 : decode cX3_set 9 = .ok (.if_icmp .ge 29, 3) := by decide +kernel
theorem dX3_set_12 : decode cX3_set 12 = .ok (.iload_n 2, 1) := by decide +kernel
theorem dX3_set_13 : decode cX3_set 13 = .ok (.ifCond .lt 25, 3) := by decide +kernel
theorem dX3_set_16 : decode cX3_set 16 = .ok (.iload_n 2, 1) := by decide +kernel
theorem dX3_set_17 : decode cX3_set 17 = .ok (.aload_n 0, 1) := by decide +kernel
theorem dX3_set_18 : decode cX3_set 18 = .ok (.getfield 15, 3) := by decide +kernel
theorem dX3_set_21 : decode cX3_set 21 = .ok (.if_icmp .ge 17, 3) := by decide +kernel
theorem dX3_set_24 : decode cX3_set 24 = .ok (.aload_n 0, 1) := by decide +kernel
theorem dX3_set_25 : decode cX3_set 25 = .ok (.getfield 24, 3) := by decide +kernel
theorem dX3_set_28 : decode cX3_set 28 = .ok (.iload_n 1, 1) := by decide +kernel
theorem dX3_set_29 : decode cX3_set 29 = .ok (.aload_n 0, 1) := by decide +kernel
theorem dX3_set_30 : decode cX3_set 30 = .ok (.getfield 15, 3) := by decide +kernel
theorem dX3_set_33 : decode cX3_set 33 = .ok (.imul, 1) := by decide +kernel
theorem dX3_set_34 : decode cX3_set 34 = .ok (.iload_n 2, 1) := by decide +kernel
theorem dX3_set_35 : decode cX3_set 35 = .ok (.iadd, 1) := by decide +kernel
theorem dX3_set_36 : decode cX3_set 36 = .ok (.iload_n 3, 1) := by decide +kernel
theorem dX3_set_37 : decode cX3_set 37 = .ok (.iastore, 1) := by decide +kernel
theorem dX3_set_38 : decode cX3_set 38 = .ok (.return_, 1) := by decide +kernel
theorem dX3_become_0 : decode cX3_become 0 = .ok (.aload_n 0, 1) := by decide +kernel
theorem dX3_become_1 : decode cX3_become 1 = .ok (.aload_n 1, 1) := by decide +kernel
theorem dX3_become_2 : decode cX3_become 2 = .ok (.getfield 28, 3) := by decide +kernel
theorem dX3_become_5 : decode cX3_become 5 = .ok (.invokevirtual 40, 3) := by decide +kernel
theorem dX3_become_8 : decode cX3_become 8 = .ok (.aload_n 1, 1) := by decide +kernel
theorem dX3_become_9 : decode cX3_become 9 = .ok (.getfield 28, 3) := by decide +kernel
theorem dX3_become_12 : decode cX3_become 12 = .ok (.aload_n 1, 1) := by decide +kernel
theorem dX3_become_13 : decode cX3_become 13 = .ok (.getfield 15, 3) := by decide +kernel
theorem dX3_become_16 : decode cX3_become 16 = .ok (.imul, 1) := by decide +kernel
theorem dX3_become_17 : decode cX3_become 17 = .ok (.istore_n 2, 1) := by decide +kernel
theorem dX3_become_18 : decode cX3_become 18 = .ok (.aload_n 1, 1) := by decide +kernel
theorem dX3_become_19 : decode cX3_become 19 = .ok (.getfield 15, 3) := by decide +kernel
theorem dX3_become_22 : decode cX3_become 22 = .ok (.aload_n 0, 1) := by decide +kernel
theorem dX3_become_23 : decode cX3_become 23 = .ok (.getfield 15, 3) := by decide +kernel
theorem dX3_become_26 : decode cX3_become 26 = .ok (.if_icmp .ne 34, 3) := by decide +kernel
theorem dX3_become_29 : decode cX3_become 29 = .ok (.iload_n 2, 1) := by decide +kernel
theorem dX3_become_30 : decode cX3_become 30 = .ok (.aload_n 0, 1) := by decide +kernel
theorem dX3_become_31 : decode cX3_become 31 = .ok (.getfield 24, 3) := by decide +kernel
theorem dX3_become_34 : decode cX3_become 34 = .ok (.arraylength, 1) := by decide +kernel
theorem dX3_become_35 : decode cX3_become 35 = .ok (.if_icmp .gt 25, 3) := by decide +kernel
theorem dX3_become_38 : decode cX3_become 38 = .ok (.aload_n 1, 1) := by decide +kernel
theorem dX3_become_39 : decode cX3_become 39 = .ok (.getfield 24, 3) := by decide +kernel
theorem dX3_become_42 : decode cX3_become 42 = .ok (.iconst 0, 1) := by decide +kernel
theorem dX3_become_43 : decode cX3_become 43 = .ok (.aload_n 0, 1) := by decide +kernel
theorem dX3_become_44 : decode cX3_become 44 = .ok (.getfield 24, 3) := by decide +kernel
theorem dX3_become_47 : decode cX3_become 47 = .ok (.iconst 0, 1) := by decide +kernel
theorem dX3_become_48 : decode cX3_become 48 = .ok (.iload_n 2, 1) := by decide +kernel
theorem dX3_become_49 : decode cX3_become 49 = .ok (.invokestatic 44, 3) := by decide +kernel
theorem dX3_become_52 : decode cX3_become 52 = .ok (.aload_n 0, 1) := by decide +kernel
theorem dX3_become_53 : decode cX3_become 53 = .ok (.aload_n 1, 1) := by decide +kernel
theorem dX3_become_54 : decode cX3_become 54 = .ok (.getfield 28, 3) := by decide +kernel
theorem dX3_become_57 : decode cX3_become 57 = .ok (.putfield 28, 3) := by decide +kernel
theorem dX3_become_60 : decode cX3_become 60 = .ok (.return_, 1) := by decide +kernel
theorem dX3_sameAs_0 : decode cX3_sameAs 0 = .ok (.aload_n 0, 1) := by decide +kernel
theorem dX3_sameAs_1 : decode cX3_sameAs 1 = .ok (.getfield 28, 3) := by decide +kernel
theorem dX3_sameAs_4 : decode cX3_sameAs 4 = .ok (.aload_n 1, 1) := by decide +kernel
theorem dX3_sameAs_5 : decode cX3_sameAs 5 = .ok (.getfield 28, 3) := by decide +kernel
theorem dX3_sameAs_8 : decode cX3_sameAs 8 = .ok (.if_icmp .ne 41, 3) := by decide +kernel
theorem dX3_sameAs_11 : decode cX3_sameAs 11 = .ok (.aload_n 0, 1) := by decide +kernel
theorem dX3_sameAs_12 : decode cX3_sameAs 12 = .ok (.getfield 15, 3) := by decide +kernel
theorem dX3_sameAs_15 : decode cX3_sameAs 15 = .ok (.aload_n 1, 1) := by decide +kernel
theorem dX3_sameAs_16 : decode cX3_sameAs 16 = .ok (.getfield 15, 3) := by decide +kernel
theorem dX3_sameAs_19 : decode cX3_sameAs 19 = .ok (.if_icmp .ne 30, 3) := by decide +kernel
theorem dX3_sameAs_22 : decode cX3_sameAs 22 = .ok (.aload_n 0, 1) := by decide +kernel
theorem dX3_sameAs_23 : decode cX3_sameAs 23 = .ok (.getfield 24, 3) := by decide +kernel
theorem dX3_sameAs_26 : decode cX3_sameAs 26 = .ok (.aload_n 1, 1) := by decide +kernel
theorem dX3_sameAs_27 : decode cX3_sameAs 27 = .ok (.getfield 24, 3) := by decide +kernel
theorem dX3_sameAs_30 : decode cX3_sameAs 30 = .ok (.aload_n 0, 1) := by decide +kernel
theorem dX3_sameAs_31 : decode cX3_sameAs 31 = .ok (.getfield 28, 3) := by decide +kernel
theorem dX3_sameAs_34 : decode cX3_sameAs 34 = .ok (.aload_n 0, 1) := by decide +kernel
theorem dX3_sameAs_35 : decode cX3_sameAs 35 = .ok (.getfield 15, 3) := by decide +kernel
theorem dX3_sameAs_38 : decode cX3_sameAs 38 = .ok (.imul, 1) := by decide +kernel
theorem dX3_sameAs_39 : decode cX3_sameAs 39 = .ok (.invokestatic 50, 3) := by decide +kernel
theorem dX3_sameAs_42 : decode cX3_sameAs 42 = .ok (.ifCond .eq 7, 3) := by decide +kernel
theorem dX3_sameAs_45 : decode cX3_sameAs 45 = .ok (.iconst 1, 1) := by decide +kernel
theorem dX3_sameAs_46 : decode cX3_sameAs 46 = .ok (.goto 4, 3) := by decide +kernel
theorem dX3_sameAs_49 : decode cX3_sameAs 49 = .ok (.iconst 0, 1) := by decide +kernel
theorem dX3_sameAs_50 : decode cX3_sameAs 50 = .ok (.ireturn, 1) := by decide +kernel
theorem dX4_init_0 : decode cX4_init 0 = .ok (.aload_n 0, 1) := by decide +kernel
theorem dX4_init_1 : decode cX4_init 1 = .ok (.invokespecial 3, 3) := by decide +kernel
theorem dX4_init_4 : decode cX4_init 4 = .ok (.aload_n 0, 1) := by decide +kernel
theorem dX4_init_5 : decode cX4_init 5 = .ok (.bipush 16, 2) := by decide +kernel
theorem dX4_init_7 : decode cX4_init 7 = .ok (.newarray .int, 2) := by decide +kernel
theorem dX4_init_9 : decode cX4_init 9 = .ok (.putfield 9, 3) := by decide +kernel
theorem dX4_init_12 : decode cX4_init 12 = .ok (.aload_n 0, 1) := by decide +kernel
theorem dX4_init_13 : decode cX4_init 13 = .ok (.iconst 0, 1) := by decide +kernel
theorem dX4_init_14 : decode cX4_init 14 = .ok (.putfield 15, 3) := by decide +kernel
theorem dX4_init_17 : decode cX4_init 17 = .ok (.return_, 1) := by decide +kernel
theorem dX4_follow_0 : decode cX4_follow 0 = .ok (.aload_n 0, 1) := by decide +kernel
theorem dX4_follow_1 : decode cX4_follow 1 = .ok (.iconst 0, 1) := by decide +kernel
theorem dX4_follow_2 : decode cX4_follow 2 = .ok (.putfield 15, 3) := by decide +kernel
theorem dX4_follow_5 : decode cX4_follow 5 = .ok (.iload_n 2, 1) := by decide +kernel
theorem dX4_follow_6 : decode cX4_follow 6 = .ok (.istore 4, 2) := by decide +kernel
theorem dX4_follow_8 : decode cX4_follow 8 = .ok (.iconst 0, 1) := by decide +kernel
theorem dX4_follow_9 : decode cX4_follow 9 = .ok (.istore 5, 2) := by decide +kernel
theorem dX4_follow_11 : decode cX4_follow 11 = .ok (.iload 5, 2) := by decide +kernel
theorem dX4_follow_13 : decode cX4_follow 13 = .ok (.sipush 1200, 3) := by decide +kernel
theorem dX4_follow_16 : decode cX4_follow 16 = .ok (.if_icmp .ge 40, 3) := by decide +kernel
theorem dX4_follow_19 : decode cX4_follow 19 = .ok (.aload_n 1, 1) := by decide +kernel
theorem dX4_follow_20 : decode cX4_follow 20 = .ok (.iload 4, 2) := by decide +kernel
theorem dX4_follow_22 : decode cX4_follow 22 = .ok (.invokevirtual 19, 3) := by decide +kernel
theorem dX4_follow_25 : decode cX4_follow 25 = .ok (.ifCond .eq 31, 3) := by decide +kernel
theorem dX4_follow_28 : decode cX4_follow 28 = .ok (.aload_n 0, 1) := by decide +kernel
theorem dX4_follow_29 : decode cX4_follow 29 = .ok (.iload 4, 2) := by decide +kernel
theorem dX4_follow_31 : decode cX4_follow 31 = .ok (.invokevirtual 25, 3) := by decide +kernel
theorem dX4_follow_34 : decode cX4_follow 34 = .ok (.aload_n 1, 1) := by decide +kernel
theorem dX4_follow_35 : decode cX4_follow 35 = .ok (.iload 4, 2) := by decide +kernel
theorem dX4_follow_37 : decode cX4_follow 37 = .ok (.aload_n 1, 1) := by decide +kernel
theorem dX4_follow_38 : decode cX4_follow 38 = .ok (.iload 4, 2) := by decide +kernel
theorem dX4_follow_40 : decode cX4_follow 40 = .ok (.iload_n 3, 1) := by decide +kernel
theorem dX4_follow_41 : decode cX4_follow 41 = .ok (.invokevirtual 29, 3) := by decide +kernel
theorem dX4_follow_44 : decode cX4_follow 44 = .ok (.iconst 3, 1) := by decide +kernel
theorem dX4_follow_45 : decode cX4_follow 45 = .ok (.invokevirtual 33, 3) := by decide +kernel
theorem dX4_follow_48 : decode cX4_follow 48 = .ok (.istore 4, 2) := by decide +kernel
theorem dX4_follow_50 : decode cX4_follow 50 = .ok (.iinc 5 1, 3) := by decide +kernel
theorem dX4_follow_53 : decode cX4_follow 53 = .ok (.goto (-42), 3) := by decide +kernel
theorem dX4_follow_56 : decode cX4_follow 56 = .ok (.return_, 1) := by decide +kernel
theorem dX4_add_0 : decode cX4_add 0 = .ok (.aload_n 0, 1) := by decide +kernel
theorem dX4_add_1 : decode cX4_add 1 = .ok (.getfield 15, 3) := by decide +kernel
theorem dX4_add_4 : decode cX4_add 4 = .ok (.aload_n 0, 1) := by decide +kernel
theorem dX4_add_5 : decode cX4_add 5 = .ok (.getfield 9, 3) := by decide +kernel
theorem dX4_add_8 : decode cX4_add 8 = .ok (.arraylength, 1) := by decide +kernel
theorem dX4_add_9 : decode cX4_add 9 = .ok (.if_icmp .lt 21, 3) := by decide +kernel
theorem dX4_add_12 : decode cX4_add 12 = .ok (.aload_n 0, 1) := by decide +kernel
theorem dX4_add_13 : decode cX4_add 13 = .ok (.aload_n 0, 1) := by decide +kernel
theorem dX4_add_14 : decode cX4_add 14 = .ok (.getfield 9, 3) := by decide +kernel
theorem dX4_add_17 : decode cX4_add 17 = .ok (.iconst 2, 1) := by decide +kernel
theorem dX4_add_18 : decode cX4_add 18 = .ok (.aload_n 0, 1) := by decide +kernel
theorem dX4_add_19 : decode cX4_add 19 = .ok (.getfield 9, 3) := by decide +kernel
theorem dX4_add_22 : decode cX4_add 22 = .ok (.arraylength, 1) := by decide +kernel
theorem dX4_add_23 : decode cX4_add 23 = .ok (.imul, 1) := by decide +kernel
theorem dX4_add_24 : decode cX4_add 24 = .ok (.invokestatic 37, 3) := by decide +kernel
theorem dX4_add_27 : decode cX4_add 27 = .ok (.putfield 9, 3) := by decide +kernel
theorem dX4_add_30 : decode cX4_add 30 = .ok (.aload_n 0, 1) := by decide +kernel
theorem dX4_add_31 : decode cX4_add 31 = .ok (.getfield 9, 3) := by decide +kernel
theorem dX4_add_34 : decode cX4_add 34 = .ok (.aload_n 0, 1) := by decide +kernel
theorem dX4_add_35 : decode cX4_add 35 = .ok (.getfield 15, 3) := by decide +kernel
theorem dX4_add_38 : decode cX4_add 38 = .ok (.iload_n 1, 1) := by decide +kernel
theorem dX4_add_39 : decode cX4_add 39 = .ok (.iastore, 1) := by decide +kernel
theorem dX4_add_40 : decode cX4_add 40 = .ok (.aload_n 0, 1) := by decide +kernel
theorem dX4_add_41 : decode cX4_add 41 = .ok (.dup, 1) := by decide +kernel
theorem dX4_add_42 : decode cX4_add 42 = .ok (.getfield 15, 3) := by decide +kernel
theorem dX4_add_45 : decode cX4_add 45 = .ok (.iconst 1, 1) := by decide +kernel
theorem dX4_add_46 : decode cX4_add 46 = .ok (.iadd, 1) := by decide +kernel
theorem dX4_add_47 : decode cX4_add 47 = .ok (.putfield 15, 3) := by decide +kernel
theorem dX4_add_50 : decode cX4_add 50 = .ok (.return_, 1) := by decide +kernel
theorem dX4_stands_0 : decode cX4_stands 0 = .ok (.iload_n 2, 1) := by decide +kernel
theorem dX4_stands_1 : decode cX4_stands 1 = .ok (.istore 6, 2) := by decide +kernel
theorem dX4_stands_3 : decode cX4_stands 3 = .ok (.iconst 0, 1) := by decide +kernel
theorem dX4_stands_4 : decode cX4_stands 4 = .ok (.istore 7, 2) := by decide +kernel
theorem dX4_stands_6 : decode cX4_stands 6 = .ok (.iload 7, 2) := by decide +kernel
theorem dX4_stands_8 : decode cX4_stands 8 = .ok (.aload_n 0, 1) := by decide +kernel
theorem dX4_stands_9 : decode cX4_stands 9 = .ok (.getfield 15, 3) := by decide +kernel
theorem dX4_stands_12 : decode cX4_stands 12 = .ok (.if_icmp .ge 145, 3) := by decide +kernel
theorem dX4_stands_15 : decode cX4_stands 15 = .ok (.iload 7, 2) := by decide +kernel
theorem dX4_stands_17 : decode cX4_stands 17 = .ok (.aload_n 0, 1) := by decide +kernel
theorem dX4_stands_18 : decode cX4_stands 18 = .ok (.getfield 9, 3) := by decide +kernel
theorem dX4_stands_21 : decode cX4_stands 21 = .ok (.arraylength, 1) := by decide +kernel
theorem dX4_stands_22 : decode cX4_stands 22 = .ok (.if_icmp .ge 135, 3) := by decide +kernel
theorem dX4_stands_25 : decode cX4_stands 25 = .ok (.aload_n 0, 1) := by decide +kernel
theorem dX4_stands_26 : decode cX4_stands 26 = .ok (.getfield 9, 3) := by decide +kernel
theorem dX4_stands_29 : decode cX4_stands 29 = .ok (.iload 7, 2) := by decide +kernel
theorem dX4_stands_31 : decode cX4_stands 31 = .ok (.iaload, 1) := by decide +kernel
theorem dX4_stands_32 : decode cX4_stands 32 = .ok (.istore 8, 2) := by decide +kernel
theorem dX4_stands_34 : decode cX4_stands 34 = .ok (.iload 7, 2) := by decide +kernel
theorem dX4_stands_36 : decode cX4_stands 36 = .ok (.iconst 1, 1) := by decide +kernel
theorem dX4_stands_37 : decode cX4_stands 37 = .ok (.iadd, 1) := by decide +kernel
theorem dX4_stands_38 : decode cX4_stands 38 = .ok (.aload_n 0, 1) := by decide +kernel
theorem dX4_stands_39 : decode cX4_stands 39 = .ok (.getfield 15, 3) := by decide +kernel
theorem dX4_stands_42 : decode cX4_stands 42 = .ok (.if_icmp .ge 27, 3) := by decide +kernel
theorem dX4_stands_45 : decode cX4_stands 45 = .ok (.iload 7, 2) := by decide +kernel
theorem dX4_stands_47 : decode cX4_stands 47 = .ok (.iconst 1, 1) := by decide +kernel
theorem dX4_stands_48 : decode cX4_stands 48 = .ok (.iadd, 1) := by decide +kernel
theorem dX4_stands_49 : decode cX4_stands 49 = .ok (.aload_n 0, 1) := by decide +kernel
theorem dX4_stands_50 : decode cX4_stands 50 = .ok (.getfield 9, 3) := by decide +kernel
theorem dX4_stands_53 : decode cX4_stands 53 = .ok (.arraylength, 1) := by decide +kernel
theorem dX4_stands_54 : decode cX4_stands 54 = .ok (.if_icmp .ge 15, 3) := by decide +kernel
theorem dX4_stands_57 : decode cX4_stands 57 = .ok (.aload_n 0, 1) := by decide +kernel
theorem dX4_stands_58 : decode cX4_stands 58 = .ok (.getfield 9, 3) := by decide +kernel
theorem dX4_stands_61 : decode cX4_stands 61 = .ok (.iload 7, 2) := by decide +kernel
theorem dX4_stands_63 : decode cX4_stands 63 = .ok (.iconst 1, 1) := by decide +kernel
theorem dX4_stands_64 : decode cX4_stands 64 = .ok (.iadd, 1) := by decide +kernel
theorem dX4_stands_65 : decode cX4_stands 65 = .ok (.iaload, 1) := by decide +kernel
theorem dX4_stands_66 : decode cX4_stands 66 = .ok (.goto 4, 3) := by decide +kernel
theorem dX4_stands_69 : decode cX4_stands 69 = .ok (.iconst (-1), 1) := by decide +kernel
theorem dX4_stands_70 : decode cX4_stands 70 = .ok (.istore 9, 2) := by decide +kernel
theorem dX4_stands_72 : decode cX4_stands 72 = .ok (.aload_n 1, 1) := by decide +kernel
theorem dX4_stands_73 : decode cX4_stands 73 = .ok (.iload 8, 2) := by decide +kernel
theorem dX4_stands_75 : decode cX4_stands 75 = .ok (.iload_n 3, 1) := by decide +kernel
theorem dX4_stands_76 : decode cX4_stands 76 = .ok (.invokevirtual 29, 3) := by decide +kernel
theorem dX4_stands_79 : decode cX4_stands 79 = .ok (.istore 10, 2) := by decide +kernel
theorem dX4_stands_81 : decode cX4_stands 81 = .ok (.aload_n 1, 1) := by decide +kernel
theorem dX4_stands_82 : decode cX4_stands 82 = .ok (.iload 8, 2) := by decide +kernel
theorem dX4_stands_84 : decode cX4_stands 84 = .ok (.iload 6, 2) := by decide +kernel
theorem dX4_stands_86 : decode cX4_stands 86 = .ok (.invokevirtual 43, 3) := by decide +kernel
theorem dX4_stands_89 : decode cX4_stands 89 = .ok (.ifCond .eq 51, 3) := by decide +kernel
theorem dX4_stands_92 : decode cX4_stands 92 = .ok (.iload 10, 2) := by decide +kernel
theorem dX4_stands_94 : decode cX4_stands 94 = .ok (.iconst (-1), 1) := by decide +kernel
theorem dX4_stands_95 : decode cX4_stands 95 = .ok (.if_icmp .eq 45, 3) := by decide +kernel
theorem dX4_stands_98 : decode cX4_stands 98 = .ok (.aload_n 1, 1) := by decide +kernel
theorem dX4_stands_99 : decode cX4_stands 99 = .ok (.iload 8, 2) := by decide +kernel
theorem dX4_stands_101 : decode cX4_stands 101 = .ok (.iload 10, 2) := by decide +kernel
theorem dX4_stands_103 : decode cX4_stands 103 = .ok (.iconst 1, 1) := by decide +kernel
theorem dX4_stands_104 : decode cX4_stands 104 = .ok (.invokevirtual 33, 3) := by decide +kernel
theorem dX4_stands_107 : decode cX4_stands 107 = .ok (.iload 4, 2) := by decide +kernel
theorem dX4_stands_109 : decode cX4_stands 109 = .ok (.if_icmp .ne 31, 3) := by decide +kernel
theorem dX4_stands_112 : decode cX4_stands 112 = .ok (.aload_n 1, 1) := by decide +kernel
theorem dX4_stands_113 : decode cX4_stands 113 = .ok (.iload 8, 2) := by decide +kernel
theorem dX4_stands_115 : decode cX4_stands 115 = .ok (.iload 10, 2) := by decide +kernel
theorem dX4_stands_117 : decode cX4_stands 117 = .ok (.iconst 2, 1) := by decide +kernel
theorem dX4_stands_118 : decode cX4_stands 118 = .ok (.invokevirtual 33, 3) := by decide +kernel
theorem dX4_stands_121 : decode cX4_stands 121 = .ok (.iload 5, 2) := by decide +kernel
theorem dX4_stands_123 : decode cX4_stands 123 = .ok (.if_icmp .ne 17, 3) := by decide +kernel
theorem dX4_stands_126 : decode cX4_stands 126 = .ok (.aload_n 1, 1) := by decide +kernel
theorem dX4_stands_127 : decode cX4_stands 127 = .ok (.iload 8, 2) := by decide +kernel
theorem dX4_stands_129 : decode cX4_stands 129 = .ok (.iload 10, 2) := by decide +kernel
theorem dX4_stands_131 : decode cX4_stands 131 = .ok (.iconst 3, 1) := by decide +kernel
theorem dX4_stands_132 : decode cX4_stands 132 = .ok (.invokevirtual 33, 3) := by decide +kernel
theorem dX4_stands_135 : decode cX4_stands 135 = .ok (.iload 9, 2) := by decide +kernel
theorem dX4_stands_137 : decode cX4_stands 137 = .ok (.if_icmp .eq 5, 3) := by decide +kernel
theorem dX4_stands_140 : decode cX4_stands 140 = .ok (.iconst 0, 1) := by decide +kernel
theorem dX4_stands_141 : decode cX4_stands 141 = .ok (.ireturn, 1) := by decide +kernel
theorem dX4_stands_142 : decode cX4_stands 142 = .ok (.aload_n 1, 1) := by decide +kernel
theorem dX4_stands_143 : decode cX4_stands 143 = .ok (.iload 8, 2) := by decide +kernel
theorem dX4_stands_145 : decode cX4_stands 145 = .ok (.iconst 1, 1) := by decide +kernel
theorem dX4_stands_146 : decode cX4_stands 146 = .ok (.invokevirtual 47, 3) := by decide +kernel
theorem dX4_stands_149 : decode cX4_stands 149 = .ok (.istore 6, 2) := by decide +kernel
theorem dX4_stands_151 : decode cX4_stands 151 = .ok (.iinc 7 1, 3) := by decide +kernel
theorem dX4_stands_154 : decode cX4_stands 154 = .ok (.goto (-148), 3) := by decide +kernel
theorem dX4_stands_157 : decode cX4_stands 157 = .ok (.iconst 1, 1) := by decide +kernel
theorem dX4_stands_158 : decode cX4_stands 158 = .ok (.ireturn, 1) := by decide +kernel
theorem dX5_init_0 : decode cX5_init 0 = .ok (.aload_n 0, 1) := by decide +kernel
theorem dX5_init_1 : decode cX5_init 1 = .ok (.invokespecial 3, 3) := by decide +kernel
theorem dX5_init_4 : decode cX5_init 4 = .ok (.aload_n 0, 1) := by decide +kernel
theorem dX5_init_5 : decode cX5_init 5 = .ok (.bipush 64, 2) := by decide +kernel
theorem dX5_init_7 : decode cX5_init 7 = .ok (.anewarray 9, 3) := by decide +kernel
theorem dX5_init_10 : decode cX5_init 10 = .ok (.putfield 11, 3) := by decide +kernel
theorem dX5_init_13 : decode cX5_init 13 = .ok (.aload_n 0, 1) := by decide +kernel
theorem dX5_init_14 : decode cX5_init 14 = .ok (.iconst 0, 1) := by decide +kernel
theorem dX5_init_15 : decode cX5_init 15 = .ok (.putfield 17, 3) := by decide +kernel
theorem dX5_init_18 : decode cX5_init 18 = .ok (.aload_n 0, 1) := by decide +kernel
theorem dX5_init_19 : decode cX5_init 19 = .ok (.bipush 64, 2) := by decide +kernel
theorem dX5_init_21 : decode cX5_init 21 = .ok (.newarray .long, 2) := by decide +kernel
theorem dX5_init_23 : decode cX5_init 23 = .ok (.putfield 21, 3) := by decide +kernel
theorem dX5_init_26 : decode cX5_init 26 = .ok (.aload_n 0, 1) := by decide +kernel
theorem dX5_init_27 : decode cX5_init 27 = .ok (.new 25, 3) := by decide +kernel
theorem dX5_init_30 : decode cX5_init 30 = .ok (.dup, 1) := by decide +kernel
theorem dX5_init_31 : decode cX5_init 31 = .ok (.invokespecial 27, 3) := by decide +kernel
theorem dX5_init_34 : decode cX5_init 34 = .ok (.putfield 28, 3) := by decide +kernel
theorem dX5_init_37 : decode cX5_init 37 = .ok (.aload_n 0, 1) := by decide +kernel
theorem dX5_init_38 : decode cX5_init 38 = .ok (.new 32, 3) := by decide +kernel
theorem dX5_init_41 : decode cX5_init 41 = .ok (.dup, 1) := by decide +kernel
theorem dX5_init_42 : decode cX5_init 42 = .ok (.iconst 5, 1) := by decide +kernel
theorem dX5_init_43 : decode cX5_init 43 = .ok (.sipush 4000, 3) := by decide +kernel
theorem dX5_init_46 : decode cX5_init 46 = .ok (.invokespecial 34, 3) := by decide +kernel
theorem dX5_init_49 : decode cX5_init 49 = .ok (.putfield 37, 3) := by decide +kernel
theorem dX5_init_52 : decode cX5_init 52 = .ok (.aload_n 0, 1) := by decide +kernel
theorem dX5_init_53 : decode cX5_init 53 = .ok (.bipush 12, 2) := by decide +kernel
theorem dX5_init_55 : decode cX5_init 55 = .ok (.newarray .int, 2) := by decide +kernel
theorem dX5_init_57 : decode cX5_init 57 = .ok (.putfield 41, 3) := by decide +kernel
theorem dX5_init_60 : decode cX5_init 60 = .ok (.aload_n 0, 1) := by decide +kernel
theorem dX5_init_61 : decode cX5_init 61 = .ok (.bipush 64, 2) := by decide +kernel
theorem dX5_init_63 : decode cX5_init 63 = .ok (.newarray .int, 2) := by decide +kernel
theorem dX5_init_65 : decode cX5_init 65 = .ok (.putfield 45, 3) := by decide +kernel
theorem dX5_init_68 : decode cX5_init 68 = .ok (.aload_n 0, 1) := by decide +kernel
theorem dX5_init_69 : decode cX5_init 69 = .ok (.bipush 64, 2) := by decide +kernel
theorem dX5_init_71 : decode cX5_init 71 = .ok (.newarray .int, 2) := by decide +kernel
theorem dX5_init_73 : decode cX5_init 73 = .ok (.putfield 48, 3) := by decide +kernel
theorem dX5_init_76 : decode cX5_init 76 = .ok (.return_, 1) := by decide +kernel
theorem dX5_clear_0 : decode cX5_clear 0 = .ok (.iconst 0, 1) := by decide +kernel
theorem dX5_clear_1 : decode cX5_clear 1 = .ok (.istore_n 1, 1) := by decide +kernel
theorem dX5_clear_2 : decode cX5_clear 2 = .ok (.iload_n 1, 1) := by decide +kernel
theorem dX5_clear_3 : decode cX5_clear 3 = .ok (.bipush 64, 2) := by decide +kernel
theorem dX5_clear_5 : decode cX5_clear 5 = .ok (.if_icmp .ge 25, 3) := by decide +kernel
theorem dX5_clear_8 : decode cX5_clear 8 = .ok (.aload_n 0, 1) := by decide +kernel
theorem dX5_clear_9 : decode cX5_clear 9 = .ok (.getfield 11, 3) := by decide +kernel
theorem dX5_clear_12 : decode cX5_clear 12 = .ok (.iload_n 1, 1) := by decide +kernel
theorem dX5_clear_13 : decode cX5_clear 13 = .ok (.aaload, 1) := by decide +kernel
theorem dX5_clear_14 : decode cX5_clear 14 = .ok (.astore_n 2, 1) := by decide +kernel
theorem dX5_clear_15 : decode cX5_clear 15 = .ok (.aload_n 2, 1) := by decide +kernel
theorem dX5_clear_16 : decode cX5_clear 16 = .ok (.ifnull 8, 3) := by decide +kernel
theorem dX5_clear_19 : decode cX5_clear 19 = .ok (.aload_n 2, 1) := by decide +kernel
theorem dX5_clear_20 : decode cX5_clear 20 = .ok (.iconst 0, 1) := by decide +kernel
theorem dX5_clear_21 : decode cX5_clear 21 = .ok (.putfield 51, 3) := by decide +kernel
theorem dX5_clear_24 : decode cX5_clear 24 = .ok (.iinc 1 1, 3) := by decide +kernel
theorem dX5_clear_27 : decode cX5_clear 27 = .ok (.goto (-25), 3) := by decide +kernel
theorem dX5_clear_30 : decode cX5_clear 30 = .ok (.aload_n 0, 1) := by decide +kernel
theorem dX5_clear_31 : decode cX5_clear 31 = .ok (.iconst 0, 1) := by decide +kernel
theorem dX5_clear_32 : decode cX5_clear 32 = .ok (.putfield 17, 3) := by decide +kernel
theorem dX5_clear_35 : decode cX5_clear 35 = .ok (.aload_n 0, 1) := by decide +kernel
theorem dX5_clear_36 : decode cX5_clear 36 = .ok (.getfield 21, 3) := by decide +kernel
theorem dX5_clear_39 : decode cX5_clear 39 = .ok (.lconst 0, 1) := by decide +kernel
theorem dX5_clear_40 : decode cX5_clear 40 = .ok (.invokestatic 54, 3) := by decide +kernel
theorem dX5_clear_43 : decode cX5_clear 43 = .ok (.aload_n 0, 1) := by decide +kernel
theorem dX5_clear_44 : decode cX5_clear 44 = .ok (.getfield 28, 3) := by decide +kernel
theorem dX5_clear_47 : decode cX5_clear 47 = .ok (.invokevirtual 60, 3) := by decide +kernel
theorem dX5_clear_50 : decode cX5_clear 50 = .ok (.aload_n 0, 1) := by decide +kernel
theorem dX5_clear_51 : decode cX5_clear 51 = .ok (.getfield 37, 3) := by decide +kernel
theorem dX5_clear_54 : decode cX5_clear 54 = .ok (.iconst 0, 1) := by decide +kernel
theorem dX5_clear_55 : decode cX5_clear 55 = .ok (.putfield 63, 3) := by decide +kernel
theorem dX5_clear_58 : decode cX5_clear 58 = .ok (.aload_n 0, 1) := by decide +kernel
theorem dX5_clear_59 : decode cX5_clear 59 = .ok (.getfield 41, 3) := by decide +kernel
theorem dX5_clear_62 : decode cX5_clear 62 = .ok (.iconst 0, 1) := by decide +kernel
theorem dX5_clear_63 : decode cX5_clear 63 = .ok (.invokestatic 66, 3) := by decide +kernel
theorem dX5_clear_66 : decode cX5_clear 66 = .ok (.return_, 1) := by decide +kernel
theorem dX5_memberAt_0 : decode cX5_memberAt 0 = .ok (.iload_n 1, 1) := by decide +kernel
theorem dX5_memberAt_1 : decode cX5_memberAt 1 = .ok (.invokestatic 69, 3) := by decide +kernel
theorem dX5_memberAt_4 : decode cX5_memberAt 4 = .ok (.ifCond .ne 5, 3) := by decide +kernel
theorem dX5_memberAt_7 : decode cX5_memberAt 7 = .ok (.aconst_null, 1) := by decide +kernel
theorem dX5_memberAt_8 : decode cX5_memberAt 8 = .ok (.areturn, 1) := by decide +kernel
theorem dX5_memberAt_9 : decode cX5_memberAt 9 = .ok (.aload_n 0, 1) := by decide +kernel
theorem dX5_memberAt_10 : decode cX5_memberAt 10 = .ok (.getfield 11, 3) := by decide +kernel
theorem dX5_memberAt_13 : decode cX5_memberAt 13 = .ok (.iload_n 1, 1) := by decide +kernel
theorem dX5_memberAt_14 : decode cX5_memberAt 14 = .ok (.aaload, 1) := by decide +kernel
theorem dX5_memberAt_15 : decode cX5_memberAt 15 = .ok (.astore_n 2, 1) := by decide +kernel
theorem dX5_memberAt_16 : decode cX5_memberAt 16 = .ok (.aload_n 2, 1) := by decide +kernel
theorem dX5_memberAt_17 : decode cX5_memberAt 17 = .ok (.ifnull 14, 3) := by decide +kernel
theorem dX5_memberAt_20 : decode cX5_memberAt 20 = .ok (.aload_n 2, 1) := by decide +kernel
theorem dX5_memberAt_21 : decode cX5_memberAt 21 = .ok (.getfield 51, 3) := by decide +kernel
theorem dX5_memberAt_24 : decode cX5_memberAt 24 = .ok (.ifCond .eq 7, 3) := by decide +kernel
theorem dX5_memberAt_27 : decode cX5_memberAt 27 = .ok (.aload_n 2, 1) := by decide +kernel
theorem dX5_memberAt_28 : decode cX5_memberAt 28 = .ok (.goto 4, 3) := by decide +kernel
theorem dX5_memberAt_31 : decode cX5_memberAt 31 = .ok (.aconst_null, 1) := by decide +kernel
theorem dX5_memberAt_32 : decode cX5_memberAt 32 = .ok (.areturn, 1) := by decide +kernel
theorem dX5_seat_0 : decode cX5_seat 0 = .ok (.aload_n 0, 1) := by decide +kernel
theorem dX5_seat_1 : decode cX5_seat 1 = .ok (.getfield 11, 3) := by decide +kernel
theorem dX5_seat_4 : decode cX5_seat 4 = .ok (.iload_n 1, 1) := by decide +kernel
theorem dX5_seat_5 : decode cX5_seat 5 = .ok (.aaload, 1) := by decide +kernel
theorem dX5_seat_6 : decode cX5_seat 6 = .ok (.astore_n 2, 1) := by decide +kernel
theorem dX5_seat_7 : decode cX5_seat 7 = .ok (.aload_n 2, 1) := by decide +kernel
theorem dX5_seat_8 : decode cX5_seat 8 = .ok (.ifnonnull 19, 3) := by decide +kernel
theorem dX5_seat_11 : decode cX5_seat 11 = .ok (.new 9, 3) := by decide +kernel
theorem dX5_seat_14 : decode cX5_seat 14 = .ok (.dup, 1) := by decide +kernel
theorem dX5_seat_15 : decode cX5_seat 15 = .ok (.iload_n 1, 1) := by decide +kernel
theorem dX5_seat_16 : decode cX5_seat 16 = .ok (.invokespecial 73, 3) := by decide +kernel
theorem dX5_seat_19 : decode cX5_seat 19 = .ok (.astore_n 2, 1) := by decide +kernel
theorem dX5_seat_20 : decode cX5_seat 20 = .ok (.aload_n 0, 1) := by decide +kernel
theorem dX5_seat_21 : decode cX5_seat 21 = .ok (.getfield 11, 3) := by decide +kernel
theorem dX5_seat_24 : decode cX5_seat 24 = .ok (.iload_n 1, 1) := by decide +kernel
theorem dX5_seat_25 : decode cX5_seat 25 = .ok (.aload_n 2, 1) := by decide +kernel
theorem dX5_seat_26 : decode cX5_seat 26 = .ok (.aastore, 1) := by decide +kernel
theorem dX5_seat_27 : decode cX5_seat 27 = .ok (.aload_n 2, 1) := by decide +kernel
theorem dX5_seat_28 : decode cX5_seat 28 = .ok (.areturn, 1) := by decide +kernel
theorem dX5_upAt_0 : decode cX5_upAt 0 = .ok (.aload_n 0, 1) := by decide +kernel
theorem dX5_upAt_1 : decode cX5_upAt 1 = .ok (.iload_n 1, 1) := by decide +kernel
theorem dX5_upAt_2 : decode cX5_upAt 2 = .ok (.invokevirtual 76, 3) := by decide +kernel
theorem dX5_upAt_5 : decode cX5_upAt 5 = .ok (.astore_n 2, 1) := by decide +kernel
theorem dX5_upAt_6 : decode cX5_upAt 6 = .ok (.aload_n 2, 1) := by decide +kernel
theorem dX5_upAt_7 : decode cX5_upAt 7 = .ok (.ifnull 14, 3) := by decide +kernel
theorem dX5_upAt_10 : decode cX5_upAt 10 = .ok (.aload_n 2, 1) := by decide +kernel
theorem dX5_upAt_11 : decode cX5_upAt 11 = .ok (.getfield 80, 3) := by decide +kernel
theorem dX5_upAt_14 : decode cX5_upAt 14 = .ok (.ifCond .ne 7, 3) := by decide +kernel
theorem dX5_upAt_17 : decode cX5_upAt 17 = .ok (.aload_n 2, 1) := by decide +kernel
theorem dX5_upAt_18 : decode cX5_upAt 18 = .ok (.goto 4, 3) := by decide +kernel
theorem dX5_upAt_21 : decode cX5_upAt 21 = .ok (.aconst_null, 1) := by decide +kernel
theorem dX5_upAt_22 : decode cX5_upAt 22 = .ok (.areturn, 1) := by decide +kernel
theorem dX5_whyNoMember_0 : decode cX5_whyNoMember 0 = .ok (.iload_n 1, 1) := by decide +kernel
theorem dX5_whyNoMember_1 : decode cX5_whyNoMember 1 = .ok (.invokestatic 69, 3) := by decide +kernel
theorem dX5_whyNoMember_4 : decode cX5_whyNoMember 4 = .ok (.ifCond .ne 6, 3) := by decide +kernel
theorem dX5_whyNoMember_7 : decode cX5_whyNoMember 7 = .ok (.bipush (-3), 2) := by decide +kernel
theorem dX5_whyNoMember_9 : decode cX5_whyNoMember 9 = .ok (.ireturn, 1) := by decide +kernel
theorem dX5_whyNoMember_10 : decode cX5_whyNoMember 10 = .ok (.aload_n 0, 1) := by decide +kernel
theorem dX5_whyNoMember_11 : decode cX5_whyNoMember 11 = .ok (.iload_n 1, 1) := by decide +kernel
theorem dX5_whyNoMember_12 : decode cX5_whyNoMember 12 = .ok (.invokevirtual 76, 3) := by decide +kernel
theorem dX5_whyNoMember_15 : decode cX5_whyNoMember 15 = .ok (.ifnonnull 8, 3) := by decide +kernel
theorem dX5_whyNoMember_18 : decode cX5_whyNoMember 18 = .ok (.bipush (-2), 2) := by decide +kernel
theorem dX5_whyNoMember_20 : decode cX5_whyNoMember 20 = .ok (.goto 4, 3) := by decide +kernel
theorem dX5_whyNoMember_23 : decode cX5_whyNoMember 23 = .ok (.iconst 0, 1) := by decide +kernel
theorem dX5_whyNoMember_24 : decode cX5_whyNoMember 24 = .ok (.ireturn, 1) := by decide +kernel
theorem dX5_whyNoNews_0 : decode cX5_whyNoNews 0 = .ok (.iload_n 1, 1) := by decide +kernel
theorem dX5_whyNoNews_1 : decode cX5_whyNoNews 1 = .ok (.invokestatic 69, 3) := by decide +kernel
theorem dX5_whyNoNews_4 : decode cX5_whyNoNews 4 = .ok (.ifCond .eq 10, 3) := by decide +kernel
theorem dX5_whyNoNews_7 : decode cX5_whyNoNews 7 = .ok (.iload_n 2, 1) := by decide +kernel
theorem dX5_whyNoNews_8 : decode cX5_whyNoNews 8 = .ok (.invokestatic 69, 3) := by decide +kernel
theorem dX5_whyNoNews_11 : decode cX5_whyNoNews 11 = .ok (.ifCond .ne 6, 3) := by decide +kernel
theorem dX5_whyNoNews_14 : decode cX5_whyNoNews 14 = .ok (.bipush (-3), 2) := by decide +kernel
theorem dX5_whyNoNews_16 : decode cX5_whyNoNews 16 = .ok (.ireturn, 1) := by decide +kernel
theorem dX5_whyNoNews_17 : decode cX5_whyNoNews 17 = .ok (.aload_n 0, 1) := by decide +kernel
theorem dX5_whyNoNews_18 : decode cX5_whyNoNews 18 = .ok (.iload_n 1, 1) := by decide +kernel
theorem dX5_whyNoNews_19 : decode cX5_whyNoNews 19 = .ok (.invokevirtual 76, 3) := by decide +kernel
theorem dX5_whyNoNews_22 : decode cX5_whyNoNews 22 = .ok (.astore_n 3, 1) := by decide +kernel
theorem dX5_whyNoNews_23 : decode cX5_whyNoNews 23 = .ok (.aload_n 3, 1) := by decide +kernel
theorem dX5_whyNoNews_24 : decode cX5_whyNoNews 24 = .ok (.ifnull 11, 3) := by decide +kernel
theorem dX5_whyNoNews_27 : decode cX5_whyNoNews 27 = .ok (.aload_n 3, 1) := by decide +kernel
theorem dX5_whyNoNews_28 : decode cX5_whyNoNews 28 = .ok (.iload_n 2, 1) := by decide +kernel
theorem dX5_whyNoNews_29 : decode cX5_whyNoNews 29 = .ok (.invokevirtual 83, 3) := by decide +kernel
theorem dX5_whyNoNews_32 : decode cX5_whyNoNews 32 = .ok (.ifCond .ne 8, 3) := by decide +kernel
theorem dX5_whyNoNews_35 : decode cX5_whyNoNews 35 = .ok (.bipush (-2), 2) := by decide +kernel
theorem dX5_whyNoNews_37 : decode cX5_whyNoNews 37 = .ok (.goto 4, 3) := by decide +kernel
theorem dX5_whyNoNews_40 : decode cX5_whyNoNews 40 = .ok (.iconst 0, 1) := by decide +kernel
theorem dX5_whyNoNews_41 : decode cX5_whyNoNews 41 = .ok (.ireturn, 1) := by decide +kernel
theorem dX5_perform_0 : decode cX5_perform 0 = .ok (.aload_n 0, 1) := by decide +kernel
theorem dX5_perform_1 : decode cX5_perform 1 = .ok (.iload_n 1, 1) := by decide +kernel
theorem dX5_perform_2 : decode cX5_perform 2 = .ok (.iload_n 2, 1) := by decide +kernel
theorem dX5_perform_3 : decode cX5_perform 3 = .ok (.iload_n 3, 1) := by decide +kernel
theorem dX5_perform_4 : decode cX5_perform 4 = .ok (.invokevirtual 86, 3) := by decide +kernel
theorem dX5_perform_7 : decode cX5_perform 7 = .ok (.istore 6, 2) := by decide +kernel
theorem dX5_perform_9 : decode cX5_perform 9 = .ok (.iload 6, 2) := by decide +kernel
theorem dX5_perform_11 : decode cX5_perform 11 = .ok (.ifCond .eq 6, 3) := by decide +kernel
theorem dX5_perform_14 : decode cX5_perform 14 = .ok (.iload 6, 2) := by decide +kernel
theorem dX5_perform_16 : decode cX5_perform 16 = .ok (.ireturn, 1) := by decide +kernel
theorem dX5_perform_17 : decode cX5_perform 17 = .ok (.aload_n 0, 1) := by decide +kernel
theorem dX5_perform_18 : decode cX5_perform 18 = .ok (.iload_n 1, 1) := by decide +kernel
theorem dX5_perform_19 : decode cX5_perform 19 = .ok (.iload_n 2, 1) := by decide +kernel
theorem dX5_perform_20 : decode cX5_perform 20 = .ok (.iload_n 3, 1) := by decide +kernel
theorem dX5_perform_21 : decode cX5_perform 21 = .ok (.lload 4, 2) := by decide +kernel
theorem dX5_perform_23 : decode cX5_perform 23 = .ok (.invokevirtual 90, 3) := by decide +kernel
theorem dX5_perform_26 : decode cX5_perform 26 = .ok (.aload_n 0, 1) := by decide +kernel
theorem dX5_perform_27 : decode cX5_perform 27 = .ok (.getfield 28, 3) := by decide +kernel
theorem dX5_perform_30 : decode cX5_perform 30 = .ok (.invokevirtual 94, 3) := by decide +kernel
theorem dX5_perform_33 : decode cX5_perform 33 = .ok (.iload_n 1, 1) := by decide +kernel
theorem dX5_perform_34 : decode cX5_perform 34 = .ok (.tableswitch 113 1 11 #[58, 113, 113, 113, 113, 113, 66, 72, 88, 97, 105], 58) := by decide +kernel
theorem dX5_perform_92 : decode cX5_perform 92 = .ok (.aload_n 0, 1) := by decide +kernel
theorem dX5_perform_93 : decode cX5_perform 93 = .ok (.iload_n 2, 1) := by decide +kernel
theorem dX5_perform_94 : decode cX5_perform 94 = .ok (.lload 4, 2) := by decide +kernel
theorem dX5_perform_96 : decode cX5_perform 96 = .ok (.invokevirtual 97, 3) := by decide +kernel
theorem dX5_perform_99 : decode cX5_perform 99 = .ok (.ireturn, 1) := by decide +kernel
theorem dX5_perform_100 : decode cX5_perform 100 = .ok (.aload_n 0, 1) := by decide +kernel
theorem dX5_perform_101 : decode cX5_perform 101 = .ok (.iload_n 2, 1) := by decide +kernel
theorem dX5_perform_102 : decode cX5_perform 102 = .ok (.invokevirtual 101, 3) := by decide +kernel
theorem dX5_perform_105 : decode cX5_perform 105 = .ok (.ireturn, 1) := by decide +kernel
theorem dX5_perform_106 : decode cX5_perform 106 = .ok (.aload_n 0, 1) := by decide +kernel
theorem dX5_perform_107 : decode cX5_perform 107 = .ok (.getfield 28, 3) := by decide +kernel
theorem dX5_perform_110 : decode cX5_perform 110 = .ok (.iload_n 2, 1) := by decide +kernel
theorem dX5_perform_111 : decode cX5_perform 111 = .ok (.invokevirtual 105, 3) := by decide +kernel
theorem dX5_perform_114 : decode cX5_perform 114 = .ok (.aload_n 0, 1) := by decide +kernel
theorem dX5_perform_115 : decode cX5_perform 115 = .ok (.getfield 28, 3) := by decide +kernel
theorem dX5_perform_118 : decode cX5_perform 118 = .ok (.invokevirtual 108, 3) := by decide +kernel
theorem dX5_perform_121 : decode cX5_perform 121 = .ok (.ireturn, 1) := by decide +kernel
theorem dX5_perform_122 : decode cX5_perform 122 = .ok (.aload_n 0, 1) := by decide +kernel
theorem dX5_perform_123 : decode cX5_perform 123 = .ok (.getfield 28, 3) := by decide +kernel
theorem dX5_perform_126 : decode cX5_perform 126 = .ok (.iload_n 2, 1) := by decide +kernel
theorem dX5_perform_127 : decode cX5_perform 127 = .ok (.invokevirtual 112, 3) := by decide +kernel
theorem dX5_perform_130 : decode cX5_perform 130 = .ok (.ireturn, 1) := by decide +kernel
theorem dX5_perform_131 : decode cX5_perform 131 = .ok (.aload_n 0, 1) := by decide +kernel
theorem dX5_perform_132 : decode cX5_perform 132 = .ok (.iload_n 2, 1) := by decide +kernel
theorem dX5_perform_133 : decode cX5_perform 133 = .ok (.iload_n 3, 1) := by decide +kernel
theorem dX5_perform_134 : decode cX5_perform 134 = .ok (.iconst 1, 1) := by decide +kernel
theorem dX5_perform_135 : decode cX5_perform 135 = .ok (.invokevirtual 115, 3) := by decide +kernel
theorem dX5_perform_138 : decode cX5_perform 138 = .ok (.ireturn, 1) := by decide +kernel
theorem dX5_perform_139 : decode cX5_perform 139 = .ok (.aload_n 0, 1) := by decide +kernel
theorem dX5_perform_140 : decode cX5_perform 140 = .ok (.iload_n 2, 1) := by decide +kernel
theorem dX5_perform_141 : decode cX5_perform 141 = .ok (.iload_n 3, 1) := by decide +kernel
theorem dX5_perform_142 : decode cX5_perform 142 = .ok (.iconst 0, 1) := by decide +kernel
theorem dX5_perform_143 : decode cX5_perform 143 = .ok (.invokevirtual 115, 3) := by decide +kernel
theorem dX5_perform_146 : decode cX5_perform 146 = .ok (.ireturn, 1) := by decide +kernel
theorem dX5_perform_147 : decode cX5_perform 147 = .ok (.aload_n 0, 1) := by decide +kernel
theorem dX5_perform_148 : decode cX5_perform 148 = .ok (.iload_n 2, 1) := by decide +kernel
theorem dX5_perform_149 : decode cX5_perform 149 = .ok (.invokevirtual 76, 3) := by decide +kernel
theorem dX5_perform_152 : decode cX5_perform 152 = .ok (.astore 7, 2) := by decide +kernel
theorem dX5_perform_154 : decode cX5_perform 154 = .ok (.aload 7, 2) := by decide +kernel
theorem dX5_perform_156 : decode cX5_perform 156 = .ok (.ifnonnull 6, 3) := by decide +kernel
theorem dX5_perform_159 : decode cX5_perform 159 = .ok (.bipush (-2), 2) := by decide +kernel
theorem dX5_perform_161 : decode cX5_perform 161 = .ok (.ireturn, 1) := by decide +kernel
theorem dX5_perform_162 : decode cX5_perform 162 = .ok (.iload_n 1, 1) := by decide +kernel
theorem dX5_perform_163 : decode cX5_perform 163 = .ok (.tableswitch 71 2 6 #[33, 43, 50, 57, 64], 33) := by decide +kernel
theorem dX5_perform_196 : decode cX5_perform 196 = .ok (.aload_n 0, 1) := by decide +kernel
theorem dX5_perform_197 : decode cX5_perform 197 = .ok (.aload 7, 2) := by decide +kernel
theorem dX5_perform_199 : decode cX5_perform 199 = .ok (.iconst 5, 1) := by decide +kernel
theorem dX5_perform_200 : decode cX5_perform 200 = .ok (.iload_n 3, 1) := by decide +kernel
theorem dX5_perform_201 : decode cX5_perform 201 = .ok (.iconst (-1), 1) := by decide +kernel
theorem dX5_perform_202 : decode cX5_perform 202 = .ok (.invokevirtual 119, 3) := by decide +kernel
theorem dX5_perform_205 : decode cX5_perform 205 = .ok (.ireturn, 1) := by decide +kernel
theorem dX5_perform_206 : decode cX5_perform 206 = .ok (.aload_n 0, 1) := by decide +kernel
theorem dX5_perform_207 : decode cX5_perform 207 = .ok (.aload 7, 2) := by decide +kernel
theorem dX5_perform_209 : decode cX5_perform 209 = .ok (.invokevirtual 123, 3) := by decide +kernel
theorem dX5_perform_212 : decode cX5_perform 212 = .ok (.ireturn, 1) := by decide +kernel
theorem dX5_perform_213 : decode cX5_perform 213 = .ok (.aload_n 0, 1) := by decide +kernel
theorem dX5_perform_214 : decode cX5_perform 214 = .ok (.aload 7, 2) := by decide +kernel
theorem dX5_perform_216 : decode cX5_perform 216 = .ok (.invokevirtual 127, 3) := by decide +kernel
theorem dX5_perform_219 : decode cX5_perform 219 = .ok (.ireturn, 1) := by decide +kernel
theorem dX5_perform_220 : decode cX5_perform 220 = .ok (.aload_n 0, 1) := by decide +kernel
theorem dX5_perform_221 : decode cX5_perform 221 = .ok (.aload 7, 2) := by decide +kernel
theorem dX5_perform_223 : decode cX5_perform 223 = .ok (.invokevirtual 130, 3) := by decide +kernel
theorem dX5_perform_226 : decode cX5_perform 226 = .ok (.ireturn, 1) := by decide +kernel
theorem dX5_perform_227 : decode cX5_perform 227 = .ok (.aload_n 0, 1) := by decide +kernel
theorem dX5_perform_228 : decode cX5_perform 228 = .ok (.aload 7, 2) := by decide +kernel
theorem dX5_perform_230 : decode cX5_perform 230 = .ok (.invokevirtual 133, 3) := by decide +kernel
theorem dX5_perform_233 : decode cX5_perform 233 = .ok (.ireturn, 1) := by decide +kernel
theorem dX5_perform_234 : decode cX5_perform 234 = .ok (.bipush (-9), 2) := by decide +kernel
theorem dX5_perform_236 : decode cX5_perform 236 = .ok (.ireturn, 1) := by decide +kernel
theorem dX5_keepAct_0 : decode cX5_keepAct 0 = .ok (.aload_n 0, 1) := by decide +kernel
theorem dX5_keepAct_1 : decode cX5_keepAct 1 = .ok (.getfield 37, 3) := by decide +kernel
theorem dX5_keepAct_4 : decode cX5_keepAct 4 = .ok (.aload_n 0, 1) := by decide +kernel
theorem dX5_keepAct_5 : decode cX5_keepAct 5 = .ok (.getfield 37, 3) := by decide +kernel
theorem dX5_keepAct_8 : decode cX5_keepAct 8 = .ok (.getfield 63, 3) := by decide +kernel
theorem dX5_keepAct_11 : decode cX5_keepAct 11 = .ok (.iconst 1, 1) := by decide +kernel
theorem dX5_keepAct_12 : decode cX5_keepAct 12 = .ok (.iadd, 1) := by decide +kernel
theorem dX5_keepAct_13 : decode cX5_keepAct 13 = .ok (.invokevirtual 136, 3) := by decide +kernel
theorem dX5_keepAct_16 : decode cX5_keepAct 16 = .ok (.aload_n 0, 1) := by decide +kernel
theorem dX5_keepAct_17 : decode cX5_keepAct 17 = .ok (.getfield 37, 3) := by decide +kernel
theorem dX5_keepAct_20 : decode cX5_keepAct 20 = .ok (.invokevirtual 139, 3) := by decide +kernel
theorem dX5_keepAct_23 : decode cX5_keepAct 23 = .ok (.istore 6, 2) := by decide +kernel
theorem dX5_keepAct_25 : decode cX5_keepAct 25 = .ok (.aload_n 0, 1) := by decide +kernel
theorem dX5_keepAct_26 : decode cX5_keepAct 26 = .ok (.getfield 37, 3) := by decide +kernel
theorem dX5_keepAct_29 : decode cX5_keepAct 29 = .ok (.iload 6, 2) := by decide +kernel
theorem dX5_keepAct_31 : decode cX5_keepAct 31 = .ok (.iconst 0, 1) := by decide +kernel
theorem dX5_keepAct_32 : decode cX5_keepAct 32 = .ok (.iload_n 1, 1) := by decide +kernel
theorem dX5_keepAct_33 : decode cX5_keepAct 33 = .ok (.invokevirtual 142, 3) := by decide +kernel
theorem dX5_keepAct_36 : decode cX5_keepAct 36 = .ok (.aload_n 0, 1) := by decide +kernel
theorem dX5_keepAct_37 : decode cX5_keepAct 37 = .ok (.getfield 37, 3) := by decide +kernel
theorem dX5_keepAct_40 : decode cX5_keepAct 40 = .ok (.iload 6, 2) := by decide +kernel
theorem dX5_keepAct_42 : decode cX5_keepAct 42 = .ok (.iconst 1, 1) := by decide +kernel
theorem dX5_keepAct_43 : decode cX5_keepAct 43 = .ok (.iload_n 2, 1) := by decide +kernel
theorem dX5_keepAct_44 : decode cX5_keepAct 44 = .ok (.invokevirtual 142, 3) := by decide +kernel
theorem dX5_keepAct_47 : decode cX5_keepAct 47 = .ok (.aload_n 0, 1) := by decide +kernel
theorem dX5_keepAct_48 : decode cX5_keepAct 48 = .ok (.getfield 37, 3) := by decide +kernel
theorem dX5_keepAct_51 : decode cX5_keepAct 51 = .ok (.iload 6, 2) := by decide +kernel
theorem dX5_keepAct_53 : decode cX5_keepAct 53 = .ok (.iconst 2, 1) := by decide +kernel
theorem dX5_keepAct_54 : decode cX5_keepAct 54 = .ok (.iload_n 3, 1) := by decide +kernel
theorem dX5_keepAct_55 : decode cX5_keepAct 55 = .ok (.invokevirtual 142, 3) := by decide +kernel
theorem dX5_keepAct_58 : decode cX5_keepAct 58 = .ok (.aload_n 0, 1) := by decide +kernel
theorem dX5_keepAct_59 : decode cX5_keepAct 59 = .ok (.getfield 37, 3) := by decide +kernel
theorem dX5_keepAct_62 : decode cX5_keepAct 62 = .ok (.iload 6, 2) := by decide +kernel
theorem dX5_keepAct_64 : decode cX5_keepAct 64 = .ok (.iconst 3, 1) := by decide +kernel
theorem dX5_keepAct_65 : decode cX5_keepAct 65 = .ok (.lload 4, 2) := by decide +kernel
theorem dX5_keepAct_67 : decode cX5_keepAct 67 = .ok (.bipush 32, 2) := by decide +kernel
theorem dX5_keepAct_69 : decode cX5_keepAct 69 = .ok (.lushr, 1) := by decide +kernel
theorem dX5_keepAct_70 : decode cX5_keepAct 70 = .ok (.l2i, 1) := by decide +kernel
theorem dX5_keepAct_71 : decode cX5_keepAct 71 = .ok (.invokevirtual 142, 3) := by decide +kernel
theorem dX5_keepAct_74 : decode cX5_keepAct 74 = .ok (.aload_n 0, 1) := by decide +kernel
theorem dX5_keepAct_75 : decode cX5_keepAct 75 = .ok (.getfield 37, 3) := by decide +kernel
theorem dX5_keepAct_78 : decode cX5_keepAct 78 = .ok (.iload 6, 2) := by decide +kernel
theorem dX5_keepAct_80 : decode cX5_keepAct 80 = .ok (.iconst 4, 1) := by decide +kernel
theorem dX5_keepAct_81 : decode cX5_keepAct 81 = .ok (.lload 4, 2) := by decide +kernel
theorem dX5_keepAct_83 : decode cX5_keepAct 83 = .ok (.l2i, 1) := by decide +kernel
theorem dX5_keepAct_84 : decode cX5_keepAct 84 = .ok (.invokevirtual 142, 3) := by decide +kernel
theorem dX5_keepAct_87 : decode cX5_keepAct 87 = .ok (.return_, 1) := by decide +kernel
theorem dX5_whyRefused_0 : decode cX5_whyRefused 0 = .ok (.aload_n 0, 1) := by decide +kernel
theorem dX5_whyRefused_1 : decode cX5_whyRefused 1 = .ok (.iload_n 1, 1) := by decide +kernel
theorem dX5_whyRefused_2 : decode cX5_whyRefused 2 = .ok (.iload_n 2, 1) := by decide +kernel
theorem dX5_whyRefused_3 : decode cX5_whyRefused 3 = .ok (.iload_n 3, 1) := by decide +kernel
theorem dX5_whyRefused_4 : decode cX5_whyRefused 4 = .ok (.invokevirtual 146, 3) := by decide +kernel
theorem dX5_whyRefused_7 : decode cX5_whyRefused 7 = .ok (.ifCond .eq 6, 3) := by decide +kernel
theorem dX5_whyRefused_10 : decode cX5_whyRefused 10 = .ok (.bipush (-3), 2) := by decide +kernel
theorem dX5_whyRefused_12 : decode cX5_whyRefused 12 = .ok (.ireturn, 1) := by decide +kernel
theorem dX5_whyRefused_13 : decode cX5_whyRefused 13 = .ok (.aload_n 0, 1) := by decide +kernel
theorem dX5_whyRefused_14 : decode cX5_whyRefused 14 = .ok (.iload_n 1, 1) := by decide +kernel
theorem dX5_whyRefused_15 : decode cX5_whyRefused 15 = .ok (.iload_n 2, 1) := by decide +kernel
theorem dX5_whyRefused_16 : decode cX5_whyRefused 16 = .ok (.iload_n 3, 1) := by decide +kernel
theorem dX5_whyRefused_17 : decode cX5_whyRefused 17 = .ok (.invokevirtual 150, 3) := by decide +kernel
theorem dX5_whyRefused_20 : decode cX5_whyRefused 20 = .ok (.ifCond .eq 6, 3) := by decide +kernel
theorem dX5_whyRefused_23 : decode cX5_whyRefused 23 = .ok (.bipush (-2), 2) := by decide +kernel
theorem dX5_whyRefused_25 : decode cX5_whyRefused 25 = .ok (.ireturn, 1) := by decide +kernel
theorem dX5_whyRefused_26 : decode cX5_whyRefused 26 = .ok (.aload_n 0, 1) := by decide +kernel
theorem dX5_whyRefused_27 : decode cX5_whyRefused 27 = .ok (.iload_n 1, 1) := by decide +kernel
theorem dX5_whyRefused_28 : decode cX5_whyRefused 28 = .ok (.iload_n 2, 1) := by decide +kernel
theorem dX5_whyRefused_29 : decode cX5_whyRefused 29 = .ok (.invokevirtual 153, 3) := by decide +kernel
theorem dX5_whyRefused_32 : decode cX5_whyRefused 32 = .ok (.ifCond .eq 6, 3) := by decide +kernel
theorem dX5_whyRefused_35 : decode cX5_whyRefused 35 = .ok (.bipush (-8), 2) := by decide +kernel
theorem dX5_whyRefused_37 : decode cX5_whyRefused 37 = .ok (.ireturn, 1) := by decide +kernel
theorem dX5_whyRefused_38 : decode cX5_whyRefused 38 = .ok (.aload_n 0, 1) := by decide +kernel
theorem dX5_whyRefused_39 : decode cX5_whyRefused 39 = .ok (.iload_n 1, 1) := by decide +kernel
theorem dX5_whyRefused_40 : decode cX5_whyRefused 40 = .ok (.iload_n 2, 1) := by decide +kernel
theorem dX5_whyRefused_41 : decode cX5_whyRefused 41 = .ok (.iload_n 3, 1) := by decide +kernel
theorem dX5_whyRefused_42 : decode cX5_whyRefused 42 = .ok (.invokevirtual 157, 3) := by decide +kernel
theorem dX5_whyRefused_45 : decode cX5_whyRefused 45 = .ok (.ifCond .eq 6, 3) := by decide +kernel
theorem dX5_whyRefused_48 : decode cX5_whyRefused 48 = .ok (.bipush (-9), 2) := by decide +kernel
theorem dX5_whyRefused_50 : decode cX5_whyRefused 50 = .ok (.ireturn, 1) := by decide +kernel
theorem dX5_whyRefused_51 : decode cX5_whyRefused 51 = .ok (.aload_n 0, 1) := by decide +kernel
theorem dX5_whyRefused_52 : decode cX5_whyRefused 52 = .ok (.getfield 28, 3) := by decide +kernel
theorem dX5_whyRefused_55 : decode cX5_whyRefused 55 = .ok (.invokevirtual 160, 3) := by decide +kernel
theorem dX5_whyRefused_58 : decode cX5_whyRefused 58 = .ok (.ifCond .eq 20, 3) := by decide +kernel
theorem dX5_whyRefused_61 : decode cX5_whyRefused 61 = .ok (.aload_n 0, 1) := by decide +kernel
theorem dX5_whyRefused_62 : decode cX5_whyRefused 62 = .ok (.getfield 37, 3) := by decide +kernel
theorem dX5_whyRefused_65 : decode cX5_whyRefused 65 = .ok (.getfield 63, 3) := by decide +kernel
theorem dX5_whyRefused_68 : decode cX5_whyRefused 68 = .ok (.sipush 4000, 3) := by decide +kernel
theorem dX5_whyRefused_71 : decode cX5_whyRefused 71 = .ok (.if_icmp .ge 7, 3) := by decide +kernel
theorem dX5_whyRefused_74 : decode cX5_whyRefused 74 = .ok (.iconst 1, 1) := by decide +kernel
theorem dX5_whyRefused_75 : decode cX5_whyRefused 75 = .ok (.goto 4, 3) := by decide +kernel
theorem dX5_whyRefused_78 : decode cX5_whyRefused 78 = .ok (.iconst 0, 1) := by decide +kernel
theorem dX5_whyRefused_79 : decode cX5_whyRefused 79 = .ok (.istore 4, 2) := by decide +kernel
theorem dX5_whyRefused_81 : decode cX5_whyRefused 81 = .ok (.iload 4, 2) := by decide +kernel
theorem dX5_whyRefused_83 : decode cX5_whyRefused 83 = .ok (.ifCond .eq 7, 3) := by decide +kernel
theorem dX5_whyRefused_86 : decode cX5_whyRefused 86 = .ok (.iconst 0, 1) := by decide +kernel
theorem dX5_whyRefused_87 : decode cX5_whyRefused 87 = .ok (.goto 5, 3) := by decide +kernel
theorem dX5_whyRefused_90 : decode cX5_whyRefused 90 = .ok (.bipush (-10), 2) := by decide +kernel
theorem dX5_whyRefused_92 : decode cX5_whyRefused 92 = .ok (.ireturn, 1) := by decide +kernel
theorem dX5_isBeyond_0 : decode cX5_isBeyond 0 = .ok (.iload_n 1, 1) := by decide +kernel
theorem dX5_isBeyond_1 : decode cX5_isBeyond 1 = .ok (.tableswitch 92 2 11 #[72, 92, 92, 92, 92, 55, 55, 55, 72, 72], 55) := by decide +kernel
theorem dX5_isBeyond_56 : decode cX5_isBeyond 56 = .ok (.aload_n 0, 1) := by decide +kernel
theorem dX5_isBeyond_57 : decode cX5_isBeyond 57 = .ok (.getfield 28, 3) := by decide +kernel
theorem dX5_isBeyond_60 : decode cX5_isBeyond 60 = .ok (.iload_n 2, 1) := by decide +kernel
theorem dX5_isBeyond_61 : decode cX5_isBeyond 61 = .ok (.invokevirtual 164, 3) := by decide +kernel
theorem dX5_isBeyond_64 : decode cX5_isBeyond 64 = .ok (.ifCond .ne 7, 3) := by decide +kernel
theorem dX5_isBeyond_67 : decode cX5_isBeyond 67 = .ok (.iconst 1, 1) := by decide +kernel
theorem dX5_isBeyond_68 : decode cX5_isBeyond 68 = .ok (.goto 4, 3) := by decide +kernel
theorem dX5_isBeyond_71 : decode cX5_isBeyond 71 = .ok (.iconst 0, 1) := by decide +kernel
theorem dX5_isBeyond_72 : decode cX5_isBeyond 72 = .ok (.ireturn, 1) := by decide +kernel
theorem dX5_isBeyond_73 : decode cX5_isBeyond 73 = .ok (.iload_n 2, 1) := by decide +kernel
theorem dX5_isBeyond_74 : decode cX5_isBeyond 74 = .ok (.invokestatic 69, 3) := by decide +kernel
theorem dX5_isBeyond_77 : decode cX5_isBeyond 77 = .ok (.ifCond .eq 10, 3) := by decide +kernel
theorem dX5_isBeyond_80 : decode cX5_isBeyond 80 = .ok (.iload_n 3, 1) := by decide +kernel
theorem dX5_isBeyond_81 : decode cX5_isBeyond 81 = .ok (.invokestatic 69, 3) := by decide +kernel
theorem dX5_isBeyond_84 : decode cX5_isBeyond 84 = .ok (.ifCond .ne 7, 3) := by decide +kernel
theorem dX5_isBeyond_87 : decode cX5_isBeyond 87 = .ok (.iconst 1, 1) := by decide +kernel
theorem dX5_isBeyond_88 : decode cX5_isBeyond 88 = .ok (.goto 4, 3) := by decide +kernel
theorem dX5_isBeyond_91 : decode cX5_isBeyond 91 = .ok (.iconst 0, 1) := by decide +kernel
theorem dX5_isBeyond_92 : decode cX5_isBeyond 92 = .ok (.ireturn, 1) := by decide +kernel
theorem dX5_isBeyond_93 : decode cX5_isBeyond 93 = .ok (.iload_n 2, 1) := by decide +kernel
theorem dX5_isBeyond_94 : decode cX5_isBeyond 94 = .ok (.invokestatic 69, 3) := by decide +kernel
theorem dX5_isBeyond_97 : decode cX5_isBeyond 97 = .ok (.ifCond .ne 7, 3) := by decide +kernel
theorem dX5_isBeyond_100 : decode cX5_isBeyond 100 = .ok (.iconst 1, 1) := by decide +kernel
theorem dX5_isBeyond_101 : decode cX5_isBeyond 101 = .ok (.goto 4, 3) := by decide +kernel
theorem dX5_isBeyond_104 : decode cX5_isBeyond 104 = .ok (.iconst 0, 1) := by decide +kernel
theorem dX5_isBeyond_105 : decode cX5_isBeyond 105 = .ok (.ireturn, 1) := by decide +kernel
theorem dX5_isMissing_0 : decode cX5_isMissing 0 = .ok (.iload_n 1, 1) := by decide +kernel
theorem dX5_isMissing_1 : decode cX5_isMissing 1 = .ok (.tableswitch 101 1 11 #[77, 79, 101, 101, 101, 101, 59, 59, 59, 77, 77], 59) := by decide +kernel
theorem dX5_isMissing_60 : decode cX5_isMissing 60 = .ok (.aload_n 0, 1) := by decide +kernel
theorem dX5_isMissing_61 : decode cX5_isMissing 61 = .ok (.getfield 28, 3) := by decide +kernel
theorem dX5_isMissing_64 : decode cX5_isMissing 64 = .ok (.iload_n 2, 1) := by decide +kernel
theorem dX5_isMissing_65 : decode cX5_isMissing 65 = .ok (.iconst 5, 1) := by decide +kernel
theorem dX5_isMissing_66 : decode cX5_isMissing 66 = .ok (.invokevirtual 167, 3) := by decide +kernel
theorem dX5_isMissing_69 : decode cX5_isMissing 69 = .ok (.ifCond .eq 7, 3) := by decide +kernel
theorem dX5_isMissing_72 : decode cX5_isMissing 72 = .ok (.iconst 1, 1) := by decide +kernel
theorem dX5_isMissing_73 : decode cX5_isMissing 73 = .ok (.goto 4, 3) := by decide +kernel
theorem dX5_isMissing_76 : decode cX5_isMissing 76 = .ok (.iconst 0, 1) := by decide +kernel
theorem dX5_isMissing_77 : decode cX5_isMissing 77 = .ok (.ireturn, 1) := by decide +kernel
theorem dX5_isMissing_78 : decode cX5_isMissing 78 = .ok (.iconst 0, 1) := by decide +kernel
theorem dX5_isMissing_79 : decode cX5_isMissing 79 = .ok (.ireturn, 1) := by decide +kernel
theorem dX5_isMissing_80 : decode cX5_isMissing 80 = .ok (.aload_n 0, 1) := by decide +kernel
theorem dX5_isMissing_81 : decode cX5_isMissing 81 = .ok (.iload_n 2, 1) := by decide +kernel
theorem dX5_isMissing_82 : decode cX5_isMissing 82 = .ok (.invokevirtual 76, 3) := by decide +kernel
theorem dX5_isMissing_85 : decode cX5_isMissing 85 = .ok (.ifnull 11, 3) := by decide +kernel
theorem dX5_isMissing_88 : decode cX5_isMissing 88 = .ok (.aload_n 0, 1) := by decide +kernel
theorem dX5_isMissing_89 : decode cX5_isMissing 89 = .ok (.iload_n 3, 1) := by decide +kernel
theorem dX5_isMissing_90 : decode cX5_isMissing 90 = .ok (.invokevirtual 76, 3) := by decide +kernel
theorem dX5_isMissing_93 : decode cX5_isMissing 93 = .ok (.ifnonnull 7, 3) := by decide +kernel
theorem dX5_isMissing_96 : decode cX5_isMissing 96 = .ok (.iconst 1, 1) := by decide +kernel
theorem dX5_isMissing_97 : decode cX5_isMissing 97 = .ok (.goto 4, 3) := by decide +kernel
theorem dX5_isMissing_100 : decode cX5_isMissing 100 = .ok (.iconst 0, 1) := by decide +kernel
theorem dX5_isMissing_101 : decode cX5_isMissing 101 = .ok (.ireturn, 1) := by decide +kernel
theorem dX5_isMissing_102 : decode cX5_isMissing 102 = .ok (.aload_n 0, 1) := by decide +kernel
theorem dX5_isMissing_103 : decode cX5_isMissing 103 = .ok (.iload_n 2, 1) := by decide +kernel
theorem dX5_isMissing_104 : decode cX5_isMissing 104 = .ok (.invokevirtual 76, 3) := by decide +kernel
theorem dX5_isMissing_107 : decode cX5_isMissing 107 = .ok (.ifnonnull 7, 3) := by decide +kernel
theorem dX5_isMissing_110 : decode cX5_isMissing 110 = .ok (.iconst 1, 1) := by decide +kernel
theorem dX5_isMissing_111 : decode cX5_isMissing 111 = .ok (.goto 4, 3) := by decide +kernel
theorem dX5_isMissing_114 : decode cX5_isMissing 114 = .ok (.iconst 0, 1) := by decide +kernel
theorem dX5_isMissing_115 : decode cX5_isMissing 115 = .ok (.ireturn, 1) := by decide +kernel
theorem dX5_isDown_0 : decode cX5_isDown 0 = .ok (.iload_n 1, 1) := by decide +kernel
theorem dX5_isDown_1 : decode cX5_isDown 1 = .ok (.tableswitch 45 2 5 #[31, 31, 31, 31], 31) := by decide +kernel
theorem dX5_isDown_32 : decode cX5_isDown 32 = .ok (.aload_n 0, 1) := by decide +kernel
theorem dX5_isDown_33 : decode cX5_isDown 33 = .ok (.iload_n 2, 1) := by decide +kernel
theorem dX5_isDown_34 : decode cX5_isDown 34 = .ok (.invokevirtual 171, 3) := by decide +kernel
theorem dX5_isDown_37 : decode cX5_isDown 37 = .ok (.ifnonnull 7, 3) := by decide +kernel
theorem dX5_isDown_40 : decode cX5_isDown 40 = .ok (.iconst 1, 1) := by decide +kernel
theorem dX5_isDown_41 : decode cX5_isDown 41 = .ok (.goto 4, 3) := by decide +kernel
theorem dX5_isDown_44 : decode cX5_isDown 44 = .ok (.iconst 0, 1) := by decide +kernel
theorem dX5_isDown_45 : decode cX5_isDown 45 = .ok (.ireturn, 1) := by decide +kernel
theorem dX5_isDown_46 : decode cX5_isDown 46 = .ok (.iconst 0, 1) := by decide +kernel
theorem dX5_isDown_47 : decode cX5_isDown 47 = .ok (.ireturn, 1) := by decide +kernel
theorem dX5_isNotAsTold_0 : decode cX5_isNotAsTold 0 = .ok (.iload_n 1, 1) := by decide +kernel
theorem dX5_isNotAsTold_1 : decode cX5_isNotAsTold 1 = .ok (.tableswitch 98 1 11 #[59, 87, 98, 98, 98, 73, 98, 98, 98, 87, 87], 59) := by decide +kernel
theorem dX5_isNotAsTold_60 : decode cX5_isNotAsTold 60 = .ok (.aload_n 0, 1) := by decide +kernel
theorem dX5_isNotAsTold_61 : decode cX5_isNotAsTold 61 = .ok (.iload_n 2, 1) := by decide +kernel
theorem dX5_isNotAsTold_62 : decode cX5_isNotAsTold 62 = .ok (.invokevirtual 76, 3) := by decide +kernel
theorem dX5_isNotAsTold_65 : decode cX5_isNotAsTold 65 = .ok (.ifnull 7, 3) := by decide +kernel
theorem dX5_isNotAsTold_68 : decode cX5_isNotAsTold 68 = .ok (.iconst 1, 1) := by decide +kernel
theorem dX5_isNotAsTold_69 : decode cX5_isNotAsTold 69 = .ok (.goto 4, 3) := by decide +kernel
theorem dX5_isNotAsTold_72 : decode cX5_isNotAsTold 72 = .ok (.iconst 0, 1) := by decide +kernel
theorem dX5_isNotAsTold_73 : decode cX5_isNotAsTold 73 = .ok (.ireturn, 1) := by decide +kernel
theorem dX5_isNotAsTold_74 : decode cX5_isNotAsTold 74 = .ok (.aload_n 0, 1) := by decide +kernel
theorem dX5_isNotAsTold_75 : decode cX5_isNotAsTold 75 = .ok (.iload_n 2, 1) := by decide +kernel
theorem dX5_isNotAsTold_76 : decode cX5_isNotAsTold 76 = .ok (.invokevirtual 171, 3) := by decide +kernel
theorem dX5_isNotAsTold_79 : decode cX5_isNotAsTold 79 = .ok (.ifnull 7, 3) := by decide +kernel
theorem dX5_isNotAsTold_82 : decode cX5_isNotAsTold 82 = .ok (.iconst 1, 1) := by decide +kernel
theorem dX5_isNotAsTold_83 : decode cX5_isNotAsTold 83 = .ok (.goto 4, 3) := by decide +kernel
theorem dX5_isNotAsTold_86 : decode cX5_isNotAsTold 86 = .ok (.iconst 0, 1) := by decide +kernel
theorem dX5_isNotAsTold_87 : decode cX5_isNotAsTold 87 = .ok (.ireturn, 1) := by decide +kernel
theorem dX5_isNotAsTold_88 : decode cX5_isNotAsTold 88 = .ok (.iload_n 2, 1) := by decide +kernel
theorem dX5_isNotAsTold_89 : decode cX5_isNotAsTold 89 = .ok (.iload_n 3, 1) := by decide +kernel
theorem dX5_isNotAsTold_90 : decode cX5_isNotAsTold 90 = .ok (.if_icmp .ne 7, 3) := by decide +kernel
theorem dX5_isNotAsTold_93 : decode cX5_isNotAsTold 93 = .ok (.iconst 1, 1) := by decide +kernel
theorem dX5_isNotAsTold_94 : decode cX5_isNotAsTold 94 = .ok (.goto 4, 3) := by decide +kernel
theorem dX5_isNotAsTold_97 : decode cX5_isNotAsTold 97 = .ok (.iconst 0, 1) := by decide +kernel
theorem dX5_isNotAsTold_98 : decode cX5_isNotAsTold 98 = .ok (.ireturn, 1) := by decide +kernel
theorem dX5_isNotAsTold_99 : decode cX5_isNotAsTold 99 = .ok (.iconst 0, 1) := by decide +kernel
theorem dX5_isNotAsTold_100 : decode cX5_isNotAsTold 100 = .ok (.ireturn, 1) := by decide +kernel
theorem dX5_makeMember_0 : decode cX5_makeMember 0 = .ok (.iload_n 1, 1) := by decide +kernel
theorem dX5_makeMember_1 : decode cX5_makeMember 1 = .ok (.invokestatic 69, 3) := by decide +kernel
theorem dX5_makeMember_4 : decode cX5_makeMember 4 = .ok (.ifCond .ne 6, 3) := by decide +kernel
theorem dX5_makeMember_7 : decode cX5_makeMember 7 = .ok (.bipush (-3), 2) := by decide +kernel
theorem dX5_makeMember_9 : decode cX5_makeMember 9 = .ok (.ireturn, 1) := by decide +kernel
theorem dX5_makeMember_10 : decode cX5_makeMember 10 = .ok (.aload_n 0, 1) := by decide +kernel
theorem dX5_makeMember_11 : decode cX5_makeMember 11 = .ok (.iload_n 1, 1) := by decide +kernel
theorem dX5_makeMember_12 : decode cX5_makeMember 12 = .ok (.invokevirtual 174, 3) := by decide +kernel
theorem dX5_makeMember_15 : decode cX5_makeMember 15 = .ok (.lload_n 2, 1) := by decide +kernel
theorem dX5_makeMember_16 : decode cX5_makeMember 16 = .ok (.invokevirtual 177, 3) := by decide +kernel
theorem dX5_makeMember_19 : decode cX5_makeMember 19 = .ok (.aload_n 0, 1) := by decide +kernel
theorem dX5_makeMember_20 : decode cX5_makeMember 20 = .ok (.dup, 1) := by decide +kernel
theorem dX5_makeMember_21 : decode cX5_makeMember 21 = .ok (.getfield 17, 3) := by decide +kernel
theorem dX5_makeMember_24 : decode cX5_makeMember 24 = .ok (.iconst 1, 1) := by decide +kernel
theorem dX5_makeMember_25 : decode cX5_makeMember 25 = .ok (.iadd, 1) := by decide +kernel
theorem dX5_makeMember_26 : decode cX5_makeMember 26 = .ok (.putfield 17, 3) := by decide +kernel
theorem dX5_makeMember_29 : decode cX5_makeMember 29 = .ok (.aload_n 0, 1) := by decide +kernel
theorem dX5_makeMember_30 : decode cX5_makeMember 30 = .ok (.getfield 17, 3) := by decide +kernel
theorem dX5_makeMember_33 : decode cX5_makeMember 33 = .ok (.ireturn, 1) := by decide +kernel
theorem dX5_goAway_0 : decode cX5_goAway 0 = .ok (.aload_n 1, 1) := by decide +kernel
theorem dX5_goAway_1 : decode cX5_goAway 1 = .ok (.aload_n 1, 1) := by decide +kernel
theorem dX5_goAway_2 : decode cX5_goAway 2 = .ok (.getfield 181, 3) := by decide +kernel
theorem dX5_goAway_5 : decode cX5_goAway 5 = .ok (.iconst 4, 1) := by decide +kernel
theorem dX5_goAway_6 : decode cX5_goAway 6 = .ok (.aload_n 1, 1) := by decide +kernel
theorem dX5_goAway_7 : decode cX5_goAway 7 = .ok (.getfield 184, 3) := by decide +kernel
theorem dX5_goAway_10 : decode cX5_goAway 10 = .ok (.invokevirtual 187, 3) := by decide +kernel
theorem dX5_goAway_13 : decode cX5_goAway 13 = .ok (.aload_n 1, 1) := by decide +kernel
theorem dX5_goAway_14 : decode cX5_goAway 14 = .ok (.iconst 2, 1) := by decide +kernel
theorem dX5_goAway_15 : decode cX5_goAway 15 = .ok (.putfield 80, 3) := by decide +kernel
theorem dX5_goAway_18 : decode cX5_goAway 18 = .ok (.aload_n 1, 1) := by decide +kernel
theorem dX5_goAway_19 : decode cX5_goAway 19 = .ok (.invokevirtual 190, 3) := by decide +kernel
theorem dX5_goAway_22 : decode cX5_goAway 22 = .ok (.aload_n 0, 1) := by decide +kernel
theorem dX5_goAway_23 : decode cX5_goAway 23 = .ok (.aload_n 1, 1) := by decide +kernel
theorem dX5_goAway_24 : decode cX5_goAway 24 = .ok (.bipush 6, 2) := by decide +kernel
theorem dX5_goAway_26 : decode cX5_goAway 26 = .ok (.iconst (-1), 1) := by decide +kernel
theorem dX5_goAway_27 : decode cX5_goAway 27 = .ok (.invokevirtual 193, 3) := by decide +kernel
theorem dX5_goAway_30 : decode cX5_goAway 30 = .ok (.ireturn, 1) := by decide +kernel
theorem dX5_fallDown_0 : decode cX5_fallDown 0 = .ok (.aload_n 1, 1) := by decide +kernel
theorem dX5_fallDown_1 : decode cX5_fallDown 1 = .ok (.iconst 1, 1) := by decide +kernel
theorem dX5_fallDown_2 : decode cX5_fallDown 2 = .ok (.putfield 80, 3) := by decide +kernel
theorem dX5_fallDown_5 : decode cX5_fallDown 5 = .ok (.aload_n 1, 1) := by decide +kernel
theorem dX5_fallDown_6 : decode cX5_fallDown 6 = .ok (.invokevirtual 197, 3) := by decide +kernel
theorem dX5_fallDown_9 : decode cX5_fallDown 9 = .ok (.aload_n 1, 1) := by decide +kernel
theorem dX5_fallDown_10 : decode cX5_fallDown 10 = .ok (.getfield 184, 3) := by decide +kernel
theorem dX5_fallDown_13 : decode cX5_fallDown 13 = .ok (.ireturn, 1) := by decide +kernel
theorem dX5_riseUp_0 : decode cX5_riseUp 0 = .ok (.aload_n 1, 1) := by decide +kernel
theorem dX5_riseUp_1 : decode cX5_riseUp 1 = .ok (.iconst 0, 1) := by decide +kernel
theorem dX5_riseUp_2 : decode cX5_riseUp 2 = .ok (.putfield 80, 3) := by decide +kernel
theorem dX5_riseUp_5 : decode cX5_riseUp 5 = .ok (.aload_n 1, 1) := by decide +kernel
theorem dX5_riseUp_6 : decode cX5_riseUp 6 = .ok (.aload_n 1, 1) := by decide +kernel
theorem dX5_riseUp_7 : decode cX5_riseUp 7 = .ok (.getfield 184, 3) := by decide +kernel
theorem dX5_riseUp_10 : decode cX5_riseUp 10 = .ok (.iconst 1, 1) := by decide +kernel
theorem dX5_riseUp_11 : decode cX5_riseUp 11 = .ok (.iadd, 1) := by decide +kernel
theorem dX5_riseUp_12 : decode cX5_riseUp 12 = .ok (.invokevirtual 200, 3) := by decide +kernel
theorem dX5_riseUp_15 : decode cX5_riseUp 15 = .ok (.aload_n 1, 1) := by decide +kernel
theorem dX5_riseUp_16 : decode cX5_riseUp 16 = .ok (.getfield 184, 3) := by decide +kernel
theorem dX5_riseUp_19 : decode cX5_riseUp 19 = .ok (.ireturn, 1) := by decide +kernel
theorem dX5_takeTurn_0 : decode cX5_takeTurn 0 = .ok (.aload_n 1, 1) := by decide +kernel
theorem dX5_takeTurn_1 : decode cX5_takeTurn 1 = .ok (.dup, 1) := by decide +kernel
theorem dX5_takeTurn_2 : decode cX5_takeTurn 2 = .ok (.getfield 203, 3) := by decide +kernel
theorem dX5_takeTurn_5 : decode cX5_takeTurn 5 = .ok (.iconst 1, 1) := by decide +kernel
theorem dX5_takeTurn_6 : decode cX5_takeTurn 6 = .ok (.iadd, 1) := by decide +kernel
theorem dX5_takeTurn_7 : decode cX5_takeTurn 7 = .ok (.putfield 203, 3) := by decide +kernel
theorem dX5_takeTurn_10 : decode cX5_takeTurn 10 = .ok (.aload_n 0, 1) := by decide +kernel
theorem dX5_takeTurn_11 : decode cX5_takeTurn 11 = .ok (.aload_n 1, 1) := by decide +kernel
theorem dX5_takeTurn_12 : decode cX5_takeTurn 12 = .ok (.invokevirtual 206, 3) := by decide +kernel
theorem dX5_takeTurn_15 : decode cX5_takeTurn 15 = .ok (.aload_n 0, 1) := by decide +kernel
theorem dX5_takeTurn_16 : decode cX5_takeTurn 16 = .ok (.aload_n 1, 1) := by decide +kernel
theorem dX5_takeTurn_17 : decode cX5_takeTurn 17 = .ok (.invokevirtual 210, 3) := by decide +kernel
theorem dX5_takeTurn_20 : decode cX5_takeTurn 20 = .ok (.iconst 0, 1) := by decide +kernel
theorem dX5_takeTurn_21 : decode cX5_takeTurn 21 = .ok (.istore_n 2, 1) := by decide +kernel
theorem dX5_takeTurn_22 : decode cX5_takeTurn 22 = .ok (.aload_n 1, 1) := by decide +kernel
theorem dX5_takeTurn_23 : decode cX5_takeTurn 23 = .ok (.getfield 213, 3) := by decide +kernel
theorem dX5_takeTurn_26 : decode cX5_takeTurn 26 = .ok (.iconst (-1), 1) := by decide +kernel
theorem dX5_takeTurn_27 : decode cX5_takeTurn 27 = .ok (.if_icmp .eq 27, 3) := by decide +kernel
theorem dX5_takeTurn_30 : decode cX5_takeTurn 30 = .ok (.aload_n 1, 1) := by decide +kernel
theorem dX5_takeTurn_31 : decode cX5_takeTurn 31 = .ok (.aload_n 1, 1) := by decide +kernel
theorem dX5_takeTurn_32 : decode cX5_takeTurn 32 = .ok (.getfield 213, 3) := by decide +kernel
theorem dX5_takeTurn_35 : decode cX5_takeTurn 35 = .ok (.putfield 216, 3) := by decide +kernel
theorem dX5_takeTurn_38 : decode cX5_takeTurn 38 = .ok (.aload_n 1, 1) := by decide +kernel
theorem dX5_takeTurn_39 : decode cX5_takeTurn 39 = .ok (.iconst (-1), 1) := by decide +kernel
theorem dX5_takeTurn_40 : decode cX5_takeTurn 40 = .ok (.putfield 213, 3) := by decide +kernel
theorem dX5_takeTurn_43 : decode cX5_takeTurn 43 = .ok (.aload_n 0, 1) := by decide +kernel
theorem dX5_takeTurn_44 : decode cX5_takeTurn 44 = .ok (.aload_n 1, 1) := by decide +kernel
theorem dX5_takeTurn_45 : decode cX5_takeTurn 45 = .ok (.iconst 2, 1) := by decide +kernel
theorem dX5_takeTurn_46 : decode cX5_takeTurn 46 = .ok (.aload_n 1, 1) := by decide +kernel
theorem dX5_takeTurn_47 : decode cX5_takeTurn 47 = .ok (.getfield 216, 3) := by decide +kernel
theorem dX5_takeTurn_50 : decode cX5_takeTurn 50 = .ok (.invokevirtual 193, 3) := by decide +kernel
theorem dX5_takeTurn_53 : decode cX5_takeTurn 53 = .ok (.istore_n 2, 1) := by decide +kernel
theorem dX5_takeTurn_54 : decode cX5_takeTurn 54 = .ok (.iload_n 2, 1) := by decide +kernel
theorem dX5_takeTurn_55 : decode cX5_takeTurn 55 = .ok (.aload_n 0, 1) := by decide +kernel
theorem dX5_takeTurn_56 : decode cX5_takeTurn 56 = .ok (.aload_n 1, 1) := by decide +kernel
theorem dX5_takeTurn_57 : decode cX5_takeTurn 57 = .ok (.invokevirtual 219, 3) := by decide +kernel
theorem dX5_takeTurn_60 : decode cX5_takeTurn 60 = .ok (.iadd, 1) := by decide +kernel
theorem dX5_takeTurn_61 : decode cX5_takeTurn 61 = .ok (.ireturn, 1) := by decide +kernel
theorem dX5_endOldDoubts_0 : decode cX5_endOldDoubts 0 = .ok (.iconst 0, 1) := by decide +kernel
theorem dX5_endOldDoubts_1 : decode cX5_endOldDoubts 1 = .ok (.istore_n 2, 1) := by decide +kernel
theorem dX5_endOldDoubts_2 : decode cX5_endOldDoubts 2 = .ok (.iload_n 2, 1) := by decide +kernel
theorem dX5_endOldDoubts_3 : decode cX5_endOldDoubts 3 = .ok (.bipush 64, 2) := by decide +kernel
theorem dX5_endOldDoubts_5 : decode cX5_endOldDoubts 5 = .ok (.if_icmp .ge 58, 3) := by decide +kernel
theorem dX5_endOldDoubts_8 : decode cX5_endOldDoubts 8 = .ok (.aload_n 1, 1) := by decide +kernel
theorem dX5_endOldDoubts_9 : decode cX5_endOldDoubts 9 = .ok (.getfield 222, 3) := by decide +kernel
theorem dX5_endOldDoubts_12 : decode cX5_endOldDoubts 12 = .ok (.iload_n 2, 1) := by decide +kernel
theorem dX5_endOldDoubts_13 : decode cX5_endOldDoubts 13 = .ok (.iaload, 1) := by decide +kernel
theorem dX5_endOldDoubts_14 : decode cX5_endOldDoubts 14 = .ok (.iconst 2, 1) := by decide +kernel
theorem dX5_endOldDoubts_15 : decode cX5_endOldDoubts 15 = .ok (.if_icmp .ne 42, 3) := by decide +kernel
theorem dX5_endOldDoubts_18 : decode cX5_endOldDoubts 18 = .ok (.aload_n 0, 1) := by decide +kernel
theorem dX5_endOldDoubts_19 : decode cX5_endOldDoubts 19 = .ok (.bipush 8, 2) := by decide +kernel
theorem dX5_endOldDoubts_21 : decode cX5_endOldDoubts 21 = .ok (.invokevirtual 225, 3) := by decide +kernel
theorem dX5_endOldDoubts_24 : decode cX5_endOldDoubts 24 = .ok (.aload_n 1, 1) := by decide +kernel
theorem dX5_endOldDoubts_25 : decode cX5_endOldDoubts 25 = .ok (.getfield 203, 3) := by decide +kernel
theorem dX5_endOldDoubts_28 : decode cX5_endOldDoubts 28 = .ok (.aload_n 1, 1) := by decide +kernel
theorem dX5_endOldDoubts_29 : decode cX5_endOldDoubts 29 = .ok (.getfield 228, 3) := by decide +kernel
theorem dX5_endOldDoubts_32 : decode cX5_endOldDoubts 32 = .ok (.iload_n 2, 1) := by decide +kernel
theorem dX5_endOldDoubts_33 : decode cX5_endOldDoubts 33 = .ok (.iaload, 1) := by decide +kernel
theorem dX5_endOldDoubts_34 : decode cX5_endOldDoubts 34 = .ok (.isub, 1) := by decide +kernel
theorem dX5_endOldDoubts_35 : decode cX5_endOldDoubts 35 = .ok (.iconst 5, 1) := by decide +kernel
theorem dX5_endOldDoubts_36 : decode cX5_endOldDoubts 36 = .ok (.if_icmp .lt 21, 3) := by decide +kernel
theorem dX5_endOldDoubts_39 : decode cX5_endOldDoubts 39 = .ok (.aload_n 0, 1) := by decide +kernel
theorem dX5_endOldDoubts_40 : decode cX5_endOldDoubts 40 = .ok (.bipush 9, 2) := by decide +kernel
theorem dX5_endOldDoubts_42 : decode cX5_endOldDoubts 42 = .ok (.invokevirtual 225, 3) := by decide +kernel
theorem dX5_endOldDoubts_45 : decode cX5_endOldDoubts 45 = .ok (.aload_n 1, 1) := by decide +kernel
theorem dX5_endOldDoubts_46 : decode cX5_endOldDoubts 46 = .ok (.iload_n 2, 1) := by decide +kernel
theorem dX5_endOldDoubts_47 : decode cX5_endOldDoubts 47 = .ok (.iconst 3, 1) := by decide +kernel
theorem dX5_endOldDoubts_48 : decode cX5_endOldDoubts 48 = .ok (.aload_n 1, 1) := by decide +kernel
theorem dX5_endOldDoubts_49 : decode cX5_endOldDoubts 49 = .ok (.getfield 231, 3) := by decide +kernel
theorem dX5_endOldDoubts_52 : decode cX5_endOldDoubts 52 = .ok (.iload_n 2, 1) := by decide +kernel
theorem dX5_endOldDoubts_53 : decode cX5_endOldDoubts 53 = .ok (.iaload, 1) := by decide +kernel
theorem dX5_endOldDoubts_54 : decode cX5_endOldDoubts 54 = .ok (.invokevirtual 187, 3) := by decide +kernel
theorem dX5_endOldDoubts_57 : decode cX5_endOldDoubts 57 = .ok (.iinc 2 1, 3) := by decide +kernel
theorem dX5_endOldDoubts_60 : decode cX5_endOldDoubts 60 = .ok (.goto (-58), 3) := by decide +kernel
theorem dX5_endOldDoubts_63 : decode cX5_endOldDoubts 63 = .ok (.return_, 1) := by decide +kernel
theorem dX5_doubtUnanswered_0 : decode cX5_doubtUnanswered 0 = .ok (.aload_n 1, 1) := by decide +kernel
theorem dX5_doubtUnanswered_1 : decode cX5_doubtUnanswered 1 = .ok (.getfield 216, 3) := by decide +kernel
theorem dX5_doubtUnanswered_4 : decode cX5_doubtUnanswered 4 = .ok (.istore_n 2, 1) := by decide +kernel
theorem dX5_doubtUnanswered_5 : decode cX5_doubtUnanswered 5 = .ok (.aload_n 1, 1) := by decide +kernel
theorem dX5_doubtUnanswered_6 : decode cX5_doubtUnanswered 6 = .ok (.iconst (-1), 1) := by decide +kernel
theorem dX5_doubtUnanswered_7 : decode cX5_doubtUnanswered 7 = .ok (.putfield 216, 3) := by decide +kernel
theorem dX5_doubtUnanswered_10 : decode cX5_doubtUnanswered 10 = .ok (.iload_n 2, 1) := by decide +kernel
theorem dX5_doubtUnanswered_11 : decode cX5_doubtUnanswered 11 = .ok (.invokestatic 69, 3) := by decide +kernel
theorem dX5_doubtUnanswered_14 : decode cX5_doubtUnanswered 14 = .ok (.ifCond .eq 25, 3) := by decide +kernel
theorem dX5_doubtUnanswered_17 : decode cX5_doubtUnanswered 17 = .ok (.aload_n 1, 1) := by decide +kernel
theorem dX5_doubtUnanswered_18 : decode cX5_doubtUnanswered 18 = .ok (.getfield 222, 3) := by decide +kernel
theorem dX5_doubtUnanswered_21 : decode cX5_doubtUnanswered 21 = .ok (.iload_n 2, 1) := by decide +kernel
theorem dX5_doubtUnanswered_22 : decode cX5_doubtUnanswered 22 = .ok (.iaload, 1) := by decide +kernel
theorem dX5_doubtUnanswered_23 : decode cX5_doubtUnanswered 23 = .ok (.iconst 1, 1) := by decide +kernel
theorem dX5_doubtUnanswered_24 : decode cX5_doubtUnanswered 24 = .ok (.if_icmp .ne 15, 3) := by decide +kernel
theorem dX5_doubtUnanswered_27 : decode cX5_doubtUnanswered 27 = .ok (.aload_n 1, 1) := by decide +kernel
theorem dX5_doubtUnanswered_28 : decode cX5_doubtUnanswered 28 = .ok (.iload_n 2, 1) := by decide +kernel
theorem dX5_doubtUnanswered_29 : decode cX5_doubtUnanswered 29 = .ok (.iconst 2, 1) := by decide +kernel
theorem dX5_doubtUnanswered_30 : decode cX5_doubtUnanswered 30 = .ok (.aload_n 1, 1) := by decide +kernel
theorem dX5_doubtUnanswered_31 : decode cX5_doubtUnanswered 31 = .ok (.getfield 231, 3) := by decide +kernel
theorem dX5_doubtUnanswered_34 : decode cX5_doubtUnanswered 34 = .ok (.iload_n 2, 1) := by decide +kernel
theorem dX5_doubtUnanswered_35 : decode cX5_doubtUnanswered 35 = .ok (.iaload, 1) := by decide +kernel
theorem dX5_doubtUnanswered_36 : decode cX5_doubtUnanswered 36 = .ok (.invokevirtual 187, 3) := by decide +kernel
theorem dX5_doubtUnanswered_39 : decode cX5_doubtUnanswered 39 = .ok (.return_, 1) := by decide +kernel
theorem dX5_askNext_0 : decode cX5_askNext 0 = .ok (.aload_n 1, 1) := by decide +kernel
theorem dX5_askNext_1 : decode cX5_askNext 1 = .ok (.invokevirtual 234, 3) := by decide +kernel
theorem dX5_askNext_4 : decode cX5_askNext 4 = .ok (.iconst (-1), 1) := by decide +kernel
theorem dX5_askNext_5 : decode cX5_askNext 5 = .ok (.if_icmp .ne 13, 3) := by decide +kernel
theorem dX5_askNext_8 : decode cX5_askNext 8 = .ok (.aload_n 1, 1) := by decide +kernel
theorem dX5_askNext_9 : decode cX5_askNext 9 = .ok (.invokevirtual 237, 3) := by decide +kernel
theorem dX5_askNext_12 : decode cX5_askNext 12 = .ok (.aload_n 0, 1) := by decide +kernel
theorem dX5_askNext_13 : decode cX5_askNext 13 = .ok (.bipush 11, 2) := by decide +kernel
theorem dX5_askNext_15 : decode cX5_askNext 15 = .ok (.invokevirtual 225, 3) := by decide +kernel
theorem dX5_askNext_18 : decode cX5_askNext 18 = .ok (.aload_n 1, 1) := by decide +kernel
theorem dX5_askNext_19 : decode cX5_askNext 19 = .ok (.invokevirtual 240, 3) := by decide +kernel
theorem dX5_askNext_22 : decode cX5_askNext 22 = .ok (.istore_n 2, 1) := by decide +kernel
theorem dX5_askNext_23 : decode cX5_askNext 23 = .ok (.iload_n 2, 1) := by decide +kernel
theorem dX5_askNext_24 : decode cX5_askNext 24 = .ok (.iconst (-1), 1) := by decide +kernel
theorem dX5_askNext_25 : decode cX5_askNext 25 = .ok (.if_icmp .ne 5, 3) := by decide +kernel
theorem dX5_askNext_28 : decode cX5_askNext 28 = .ok (.iconst 0, 1) := by decide +kernel
theorem dX5_askNext_29 : decode cX5_askNext 29 = .ok (.ireturn, 1) := by decide +kernel
theorem dX5_askNext_30 : decode cX5_askNext 30 = .ok (.aload_n 0, 1) := by decide +kernel
theorem dX5_askNext_31 : decode cX5_askNext 31 = .ok (.aload_n 1, 1) := by decide +kernel
theorem dX5_askNext_32 : decode cX5_askNext 32 = .ok (.iconst 1, 1) := by decide +kernel
theorem dX5_askNext_33 : decode cX5_askNext 33 = .ok (.iload_n 2, 1) := by decide +kernel
theorem dX5_askNext_34 : decode cX5_askNext 34 = .ok (.iconst (-1), 1) := by decide +kernel
theorem dX5_askNext_35 : decode cX5_askNext 35 = .ok (.invokevirtual 119, 3) := by decide +kernel
theorem dX5_askNext_38 : decode cX5_askNext 38 = .ok (.pop, 1) := by decide +kernel
theorem dX5_askNext_39 : decode cX5_askNext 39 = .ok (.aload_n 1, 1) := by decide +kernel
theorem dX5_askNext_40 : decode cX5_askNext 40 = .ok (.iload_n 2, 1) := by decide +kernel
theorem dX5_askNext_41 : decode cX5_askNext 41 = .ok (.putfield 213, 3) := by decide +kernel
theorem dX5_askNext_44 : decode cX5_askNext 44 = .ok (.iconst 1, 1) := by decide +kernel
theorem dX5_askNext_45 : decode cX5_askNext 45 = .ok (.ireturn, 1) := by decide +kernel
theorem dX5_sendDrawn_0 : decode cX5_sendDrawn 0 = .ok (.aload_n 1, 1) := by decide +kernel
theorem dX5_sendDrawn_1 : decode cX5_sendDrawn 1 = .ok (.aload_n 0, 1) := by decide +kernel
theorem dX5_sendDrawn_2 : decode cX5_sendDrawn 2 = .ok (.getfield 48, 3) := by decide +kernel
theorem dX5_sendDrawn_5 : decode cX5_sendDrawn 5 = .ok (.iload_n 3, 1) := by decide +kernel
theorem dX5_sendDrawn_6 : decode cX5_sendDrawn 6 = .ok (.invokevirtual 243, 3) := by decide +kernel
theorem dX5_sendDrawn_9 : decode cX5_sendDrawn 9 = .ok (.istore 4, 2) := by decide +kernel
theorem dX5_sendDrawn_11 : decode cX5_sendDrawn 11 = .ok (.iconst 0, 1) := by decide +kernel
theorem dX5_sendDrawn_12 : decode cX5_sendDrawn 12 = .ok (.istore 5, 2) := by decide +kernel
theorem dX5_sendDrawn_14 : decode cX5_sendDrawn 14 = .ok (.iload 5, 2) := by decide +kernel
theorem dX5_sendDrawn_16 : decode cX5_sendDrawn 16 = .ok (.iconst 3, 1) := by decide +kernel
theorem dX5_sendDrawn_17 : decode cX5_sendDrawn 17 = .ok (.if_icmp .ge 62, 3) := by decide +kernel
theorem dX5_sendDrawn_20 : decode cX5_sendDrawn 20 = .ok (.iload 4, 2) := by decide +kernel
theorem dX5_sendDrawn_22 : decode cX5_sendDrawn 22 = .ok (.ifCond .le 57, 3) := by decide +kernel
theorem dX5_sendDrawn_25 : decode cX5_sendDrawn 25 = .ok (.aload_n 1, 1) := by decide +kernel
theorem dX5_sendDrawn_26 : decode cX5_sendDrawn 26 = .ok (.iload 4, 2) := by decide +kernel
theorem dX5_sendDrawn_28 : decode cX5_sendDrawn 28 = .ok (.invokevirtual 247, 3) := by decide +kernel
theorem dX5_sendDrawn_31 : decode cX5_sendDrawn 31 = .ok (.istore 6, 2) := by decide +kernel
theorem dX5_sendDrawn_33 : decode cX5_sendDrawn 33 = .ok (.aload_n 0, 1) := by decide +kernel
theorem dX5_sendDrawn_34 : decode cX5_sendDrawn 34 = .ok (.aload_n 1, 1) := by decide +kernel
theorem dX5_sendDrawn_35 : decode cX5_sendDrawn 35 = .ok (.iload_n 2, 1) := by decide +kernel
theorem dX5_sendDrawn_36 : decode cX5_sendDrawn 36 = .ok (.aload_n 0, 1) := by decide +kernel
theorem dX5_sendDrawn_37 : decode cX5_sendDrawn 37 = .ok (.getfield 48, 3) := by decide +kernel
theorem dX5_sendDrawn_40 : decode cX5_sendDrawn 40 = .ok (.iload 6, 2) := by decide +kernel
theorem dX5_sendDrawn_42 : decode cX5_sendDrawn 42 = .ok (.iaload, 1) := by decide +kernel
theorem dX5_sendDrawn_43 : decode cX5_sendDrawn 43 = .ok (.iload_n 3, 1) := by decide +kernel
theorem dX5_sendDrawn_44 : decode cX5_sendDrawn 44 = .ok (.invokevirtual 119, 3) := by decide +kernel
theorem dX5_sendDrawn_47 : decode cX5_sendDrawn 47 = .ok (.pop, 1) := by decide +kernel
theorem dX5_sendDrawn_48 : decode cX5_sendDrawn 48 = .ok (.iinc 5 1, 3) := by decide +kernel
theorem dX5_sendDrawn_51 : decode cX5_sendDrawn 51 = .ok (.iinc 4 (-1), 3) := by decide +kernel
theorem dX5_sendDrawn_54 : decode cX5_sendDrawn 54 = .ok (.aload_n 0, 1) := by decide +kernel
theorem dX5_sendDrawn_55 : decode cX5_sendDrawn 55 = .ok (.getfield 48, 3) := by decide +kernel
theorem dX5_sendDrawn_58 : decode cX5_sendDrawn 58 = .ok (.iload 6, 2) := by decide +kernel
theorem dX5_sendDrawn_60 : decode cX5_sendDrawn 60 = .ok (.iconst 1, 1) := by decide +kernel
theorem dX5_sendDrawn_61 : decode cX5_sendDrawn 61 = .ok (.iadd, 1) := by decide +kernel
theorem dX5_sendDrawn_62 : decode cX5_sendDrawn 62 = .ok (.aload_n 0, 1) := by decide +kernel
theorem dX5_sendDrawn_63 : decode cX5_sendDrawn 63 = .ok (.getfield 48, 3) := by decide +kernel
theorem dX5_sendDrawn_66 : decode cX5_sendDrawn 66 = .ok (.iload 6, 2) := by decide +kernel
theorem dX5_sendDrawn_68 : decode cX5_sendDrawn 68 = .ok (.iload 4, 2) := by decide +kernel
theorem dX5_sendDrawn_70 : decode cX5_sendDrawn 70 = .ok (.iload 6, 2) := by decide +kernel
theorem dX5_sendDrawn_72 : decode cX5_sendDrawn 72 = .ok (.isub, 1) := by decide +kernel
theorem dX5_sendDrawn_73 : decode cX5_sendDrawn 73 = .ok (.invokestatic 250, 3) := by decide +kernel
theorem dX5_sendDrawn_76 : decode cX5_sendDrawn 76 = .ok (.goto (-62), 3) := by decide +kernel
theorem dX5_sendDrawn_79 : decode cX5_sendDrawn 79 = .ok (.iload 5, 2) := by decide +kernel
theorem dX5_sendDrawn_81 : decode cX5_sendDrawn 81 = .ok (.ireturn, 1) := by decide +kernel
theorem dX5_send_0 : decode cX5_send 0 = .ok (.aload_n 0, 1) := by decide +kernel
theorem dX5_send_1 : decode cX5_send 1 = .ok (.getfield 28, 3) := by decide +kernel
theorem dX5_send_4 : decode cX5_send 4 = .ok (.iload_n 2, 1) := by decide +kernel
theorem dX5_send_5 : decode cX5_send 5 = .ok (.aload_n 1, 1) := by decide +kernel
theorem dX5_send_6 : decode cX5_send 6 = .ok (.getfield 181, 3) := by decide +kernel
theorem dX5_send_9 : decode cX5_send 9 = .ok (.iload_n 3, 1) := by decide +kernel
theorem dX5_send_10 : decode cX5_send 10 = .ok (.iload 4, 2) := by decide +kernel
theorem dX5_send_12 : decode cX5_send 12 = .ok (.iconst (-1), 1) := by decide +kernel
theorem dX5_send_13 : decode cX5_send 13 = .ok (.invokevirtual 256, 3) := by decide +kernel
theorem dX5_send_16 : decode cX5_send 16 = .ok (.istore 5, 2) := by decide +kernel
theorem dX5_send_18 : decode cX5_send 18 = .ok (.iload_n 2, 1) := by decide +kernel
theorem dX5_send_19 : decode cX5_send 19 = .ok (.bipush 6, 2) := by decide +kernel
theorem dX5_send_21 : decode cX5_send 21 = .ok (.if_icmp .ne 7, 3) := by decide +kernel
theorem dX5_send_24 : decode cX5_send 24 = .ok (.iconst 1, 1) := by decide +kernel
theorem dX5_send_25 : decode cX5_send 25 = .ok (.goto 4, 3) := by decide +kernel
theorem dX5_send_28 : decode cX5_send 28 = .ok (.iconst 0, 1) := by decide +kernel
theorem dX5_send_29 : decode cX5_send 29 = .ok (.istore 6, 2) := by decide +kernel
theorem dX5_send_31 : decode cX5_send 31 = .ok (.iload 6, 2) := by decide +kernel
theorem dX5_send_33 : decode cX5_send 33 = .ok (.ifCond .eq 14, 3) := by decide +kernel
theorem dX5_send_36 : decode cX5_send 36 = .ok (.aload_n 1, 1) := by decide +kernel
theorem dX5_send_37 : decode cX5_send 37 = .ok (.aload_n 0, 1) := by decide +kernel
theorem dX5_send_38 : decode cX5_send 38 = .ok (.getfield 45, 3) := by decide +kernel
theorem dX5_send_41 : decode cX5_send 41 = .ok (.invokevirtual 260, 3) := by decide +kernel
theorem dX5_send_44 : decode cX5_send 44 = .ok (.goto 11, 3) := by decide +kernel
theorem dX5_send_47 : decode cX5_send 47 = .ok (.aload_n 1, 1) := by decide +kernel
theorem dX5_send_48 : decode cX5_send 48 = .ok (.aload_n 0, 1) := by decide +kernel
theorem dX5_send_49 : decode cX5_send 49 = .ok (.getfield 45, 3) := by decide +kernel
theorem dX5_send_52 : decode cX5_send 52 = .ok (.invokevirtual 264, 3) := by decide +kernel
theorem dX5_send_55 : decode cX5_send 55 = .ok (.istore 7, 2) := by decide +kernel
theorem dX5_send_57 : decode cX5_send 57 = .ok (.iconst 0, 1) := by decide +kernel
theorem dX5_send_58 : decode cX5_send 58 = .ok (.istore 8, 2) := by decide +kernel
theorem dX5_send_60 : decode cX5_send 60 = .ok (.iload 8, 2) := by decide +kernel
theorem dX5_send_62 : decode cX5_send 62 = .ok (.iload 7, 2) := by decide +kernel
theorem dX5_send_64 : decode cX5_send 64 = .ok (.if_icmp .ge 86, 3) := by decide +kernel
theorem dX5_send_67 : decode cX5_send 67 = .ok (.iload 8, 2) := by decide +kernel
theorem dX5_send_69 : decode cX5_send 69 = .ok (.bipush 64, 2) := by decide +kernel
theorem dX5_send_71 : decode cX5_send 71 = .ok (.if_icmp .ge 79, 3) := by decide +kernel
theorem dX5_send_74 : decode cX5_send 74 = .ok (.aload_n 0, 1) := by decide +kernel
theorem dX5_send_75 : decode cX5_send 75 = .ok (.getfield 45, 3) := by decide +kernel
theorem dX5_send_78 : decode cX5_send 78 = .ok (.iload 8, 2) := by decide +kernel
theorem dX5_send_80 : decode cX5_send 80 = .ok (.iaload, 1) := by decide +kernel
theorem dX5_send_81 : decode cX5_send 81 = .ok (.istore 9, 2) := by decide +kernel
theorem dX5_send_83 : decode cX5_send 83 = .ok (.aload_n 0, 1) := by decide +kernel
theorem dX5_send_84 : decode cX5_send 84 = .ok (.getfield 28, 3) := by decide +kernel
theorem dX5_send_87 : decode cX5_send 87 = .ok (.iload 9, 2) := by decide +kernel
theorem dX5_send_89 : decode cX5_send 89 = .ok (.aload_n 1, 1) := by decide +kernel
theorem dX5_send_90 : decode cX5_send 90 = .ok (.getfield 222, 3) := by decide +kernel
theorem dX5_send_93 : decode cX5_send 93 = .ok (.iload 9, 2) := by decide +kernel
theorem dX5_send_95 : decode cX5_send 95 = .ok (.iaload, 1) := by decide +kernel
theorem dX5_send_96 : decode cX5_send 96 = .ok (.aload_n 1, 1) := by decide +kernel
theorem dX5_send_97 : decode cX5_send 97 = .ok (.getfield 231, 3) := by decide +kernel
theorem dX5_send_100 : decode cX5_send 100 = .ok (.iload 9, 2) := by decide +kernel
theorem dX5_send_102 : decode cX5_send 102 = .ok (.iaload, 1) := by decide +kernel
theorem dX5_send_103 : decode cX5_send 103 = .ok (.aload_n 1, 1) := by decide +kernel
theorem dX5_send_104 : decode cX5_send 104 = .ok (.getfield 267, 3) := by decide +kernel
theorem dX5_send_107 : decode cX5_send 107 = .ok (.iload 9, 2) := by decide +kernel
theorem dX5_send_109 : decode cX5_send 109 = .ok (.iaload, 1) := by decide +kernel
theorem dX5_send_110 : decode cX5_send 110 = .ok (.invokevirtual 270, 3) := by decide +kernel
theorem dX5_send_113 : decode cX5_send 113 = .ok (.aload_n 0, 1) := by decide +kernel
theorem dX5_send_114 : decode cX5_send 114 = .ok (.iconst 4, 1) := by decide +kernel
theorem dX5_send_115 : decode cX5_send 115 = .ok (.aload_n 1, 1) := by decide +kernel
theorem dX5_send_116 : decode cX5_send 116 = .ok (.getfield 222, 3) := by decide +kernel
theorem dX5_send_119 : decode cX5_send 119 = .ok (.iload 9, 2) := by decide +kernel
theorem dX5_send_121 : decode cX5_send 121 = .ok (.iaload, 1) := by decide +kernel
theorem dX5_send_122 : decode cX5_send 122 = .ok (.iadd, 1) := by decide +kernel
theorem dX5_send_123 : decode cX5_send 123 = .ok (.iconst 1, 1) := by decide +kernel
theorem dX5_send_124 : decode cX5_send 124 = .ok (.isub, 1) := by decide +kernel
theorem dX5_send_125 : decode cX5_send 125 = .ok (.invokevirtual 225, 3) := by decide +kernel
theorem dX5_send_128 : decode cX5_send 128 = .ok (.iload 6, 2) := by decide +kernel
theorem dX5_send_130 : decode cX5_send 130 = .ok (.ifCond .ne 14, 3) := by decide +kernel
theorem dX5_send_133 : decode cX5_send 133 = .ok (.aload_n 1, 1) := by decide +kernel
theorem dX5_send_134 : decode cX5_send 134 = .ok (.getfield 274, 3) := by decide +kernel
theorem dX5_send_137 : decode cX5_send 137 = .ok (.iload 9, 2) := by decide +kernel
theorem dX5_send_139 : decode cX5_send 139 = .ok (.dup2, 1) := by decide +kernel
theorem dX5_send_140 : decode cX5_send 140 = .ok (.iaload, 1) := by decide +kernel
theorem dX5_send_141 : decode cX5_send 141 = .ok (.iconst 1, 1) := by decide +kernel
theorem dX5_send_142 : decode cX5_send 142 = .ok (.iadd, 1) := by decide +kernel
theorem dX5_send_143 : decode cX5_send 143 = .ok (.iastore, 1) := by decide +kernel
theorem dX5_send_144 : decode cX5_send 144 = .ok (.iinc 8 1, 3) := by decide +kernel
theorem dX5_send_147 : decode cX5_send 147 = .ok (.goto (-87), 3) := by decide +kernel
theorem dX5_send_150 : decode cX5_send 150 = .ok (.iload 5, 2) := by decide +kernel
theorem dX5_send_152 : decode cX5_send 152 = .ok (.ireturn, 1) := by decide +kernel
theorem dX5_bring_0 : decode cX5_bring 0 = .ok (.aload_n 0, 1) := by decide +kernel
theorem dX5_bring_1 : decode cX5_bring 1 = .ok (.getfield 28, 3) := by decide +kernel
theorem dX5_bring_4 : decode cX5_bring 4 = .ok (.iload_n 1, 1) := by decide +kernel
theorem dX5_bring_5 : decode cX5_bring 5 = .ok (.iconst 1, 1) := by decide +kernel
theorem dX5_bring_6 : decode cX5_bring 6 = .ok (.invokevirtual 167, 3) := by decide +kernel
theorem dX5_bring_9 : decode cX5_bring 9 = .ok (.istore_n 2, 1) := by decide +kernel
theorem dX5_bring_10 : decode cX5_bring 10 = .ok (.aload_n 0, 1) := by decide +kernel
theorem dX5_bring_11 : decode cX5_bring 11 = .ok (.getfield 28, 3) := by decide +kernel
theorem dX5_bring_14 : decode cX5_bring 14 = .ok (.iload_n 1, 1) := by decide +kernel
theorem dX5_bring_15 : decode cX5_bring 15 = .ok (.iconst 2, 1) := by decide +kernel
theorem dX5_bring_16 : decode cX5_bring 16 = .ok (.invokevirtual 167, 3) := by decide +kernel
theorem dX5_bring_19 : decode cX5_bring 19 = .ok (.istore_n 3, 1) := by decide +kernel
theorem dX5_bring_20 : decode cX5_bring 20 = .ok (.aload_n 0, 1) := by decide +kernel
theorem dX5_bring_21 : decode cX5_bring 21 = .ok (.iload_n 3, 1) := by decide +kernel
theorem dX5_bring_22 : decode cX5_bring 22 = .ok (.invokevirtual 171, 3) := by decide +kernel
theorem dX5_bring_25 : decode cX5_bring 25 = .ok (.astore 4, 2) := by decide +kernel
theorem dX5_bring_27 : decode cX5_bring 27 = .ok (.aload 4, 2) := by decide +kernel
theorem dX5_bring_29 : decode cX5_bring 29 = .ok (.ifnull 12, 3) := by decide +kernel
theorem dX5_bring_32 : decode cX5_bring 32 = .ok (.aload_n 0, 1) := by decide +kernel
theorem dX5_bring_33 : decode cX5_bring 33 = .ok (.iload_n 2, 1) := by decide +kernel
theorem dX5_bring_34 : decode cX5_bring 34 = .ok (.iload_n 3, 1) := by decide +kernel
theorem dX5_bring_35 : decode cX5_bring 35 = .ok (.invokevirtual 277, 3) := by decide +kernel
theorem dX5_bring_38 : decode cX5_bring 38 = .ok (.ifCond .eq 13, 3) := by decide +kernel
theorem dX5_bring_41 : decode cX5_bring 41 = .ok (.aload_n 0, 1) := by decide +kernel
theorem dX5_bring_42 : decode cX5_bring 42 = .ok (.getfield 28, 3) := by decide +kernel
theorem dX5_bring_45 : decode cX5_bring 45 = .ok (.iload_n 1, 1) := by decide +kernel
theorem dX5_bring_46 : decode cX5_bring 46 = .ok (.invokevirtual 105, 3) := by decide +kernel
theorem dX5_bring_49 : decode cX5_bring 49 = .ok (.iconst (-1), 1) := by decide +kernel
theorem dX5_bring_50 : decode cX5_bring 50 = .ok (.ireturn, 1) := by decide +kernel
theorem dX5_bring_51 : decode cX5_bring 51 = .ok (.aload_n 0, 1) := by decide +kernel
theorem dX5_bring_52 : decode cX5_bring 52 = .ok (.getfield 28, 3) := by decide +kernel
theorem dX5_bring_55 : decode cX5_bring 55 = .ok (.iload_n 1, 1) := by decide +kernel
theorem dX5_bring_56 : decode cX5_bring 56 = .ok (.invokevirtual 280, 3) := by decide +kernel
theorem dX5_bring_59 : decode cX5_bring 59 = .ok (.aload_n 0, 1) := by decide +kernel
theorem dX5_bring_60 : decode cX5_bring 60 = .ok (.aload 4, 2) := by decide +kernel
theorem dX5_bring_62 : decode cX5_bring 62 = .ok (.iload_n 1, 1) := by decide +kernel
theorem dX5_bring_63 : decode cX5_bring 63 = .ok (.invokevirtual 283, 3) := by decide +kernel
theorem dX5_bring_66 : decode cX5_bring 66 = .ok (.aload_n 0, 1) := by decide +kernel
theorem dX5_bring_67 : decode cX5_bring 67 = .ok (.aload 4, 2) := by decide +kernel
theorem dX5_bring_69 : decode cX5_bring 69 = .ok (.iload_n 1, 1) := by decide +kernel
theorem dX5_bring_70 : decode cX5_bring 70 = .ok (.invokevirtual 287, 3) := by decide +kernel
theorem dX5_bring_73 : decode cX5_bring 73 = .ok (.ireturn, 1) := by decide +kernel
theorem dX5_takeNews_0 : decode cX5_takeNews 0 = .ok (.aload_n 0, 1) := by decide +kernel
theorem dX5_takeNews_1 : decode cX5_takeNews 1 = .ok (.getfield 28, 3) := by decide +kernel
theorem dX5_takeNews_4 : decode cX5_takeNews 4 = .ok (.iload_n 2, 1) := by decide +kernel
theorem dX5_takeNews_5 : decode cX5_takeNews 5 = .ok (.iconst 4, 1) := by decide +kernel
theorem dX5_takeNews_6 : decode cX5_takeNews 6 = .ok (.invokevirtual 167, 3) := by decide +kernel
theorem dX5_takeNews_9 : decode cX5_takeNews 9 = .ok (.istore_n 3, 1) := by decide +kernel
theorem dX5_takeNews_10 : decode cX5_takeNews 10 = .ok (.iconst 0, 1) := by decide +kernel
theorem dX5_takeNews_11 : decode cX5_takeNews 11 = .ok (.istore 4, 2) := by decide +kernel
theorem dX5_takeNews_13 : decode cX5_takeNews 13 = .ok (.iload 4, 2) := by decide +kernel
theorem dX5_takeNews_15 : decode cX5_takeNews 15 = .ok (.iload_n 3, 1) := by decide +kernel
theorem dX5_takeNews_16 : decode cX5_takeNews 16 = .ok (.if_icmp .ge 70, 3) := by decide +kernel
theorem dX5_takeNews_19 : decode cX5_takeNews 19 = .ok (.aload_n 0, 1) := by decide +kernel
theorem dX5_takeNews_20 : decode cX5_takeNews 20 = .ok (.getfield 28, 3) := by decide +kernel
theorem dX5_takeNews_23 : decode cX5_takeNews 23 = .ok (.iload_n 2, 1) := by decide +kernel
theorem dX5_takeNews_24 : decode cX5_takeNews 24 = .ok (.iload 4, 2) := by decide +kernel
theorem dX5_takeNews_26 : decode cX5_takeNews 26 = .ok (.iconst 1, 1) := by decide +kernel
theorem dX5_takeNews_27 : decode cX5_takeNews 27 = .ok (.invokevirtual 291, 3) := by decide +kernel
theorem dX5_takeNews_30 : decode cX5_takeNews 30 = .ok (.istore 5, 2) := by decide +kernel
theorem dX5_takeNews_32 : decode cX5_takeNews 32 = .ok (.aload_n 0, 1) := by decide +kernel
theorem dX5_takeNews_33 : decode cX5_takeNews 33 = .ok (.iconst 0, 1) := by decide +kernel
theorem dX5_takeNews_34 : decode cX5_takeNews 34 = .ok (.iload 5, 2) := by decide +kernel
theorem dX5_takeNews_36 : decode cX5_takeNews 36 = .ok (.iadd, 1) := by decide +kernel
theorem dX5_takeNews_37 : decode cX5_takeNews 37 = .ok (.iconst 1, 1) := by decide +kernel
theorem dX5_takeNews_38 : decode cX5_takeNews 38 = .ok (.isub, 1) := by decide +kernel
theorem dX5_takeNews_39 : decode cX5_takeNews 39 = .ok (.invokevirtual 225, 3) := by decide +kernel
theorem dX5_takeNews_42 : decode cX5_takeNews 42 = .ok (.aload_n 1, 1) := by decide +kernel
theorem dX5_takeNews_43 : decode cX5_takeNews 43 = .ok (.aload_n 0, 1) := by decide +kernel
theorem dX5_takeNews_44 : decode cX5_takeNews 44 = .ok (.getfield 28, 3) := by decide +kernel
theorem dX5_takeNews_47 : decode cX5_takeNews 47 = .ok (.iload_n 2, 1) := by decide +kernel
theorem dX5_takeNews_48 : decode cX5_takeNews 48 = .ok (.iload 4, 2) := by decide +kernel
theorem dX5_takeNews_50 : decode cX5_takeNews 50 = .ok (.iconst 0, 1) := by decide +kernel
theorem dX5_takeNews_51 : decode cX5_takeNews 51 = .ok (.invokevirtual 291, 3) := by decide +kernel
theorem dX5_takeNews_54 : decode cX5_takeNews 54 = .ok (.iload 5, 2) := by decide +kernel
theorem dX5_takeNews_56 : decode cX5_takeNews 56 = .ok (.aload_n 0, 1) := by decide +kernel
theorem dX5_takeNews_57 : decode cX5_takeNews 57 = .ok (.getfield 28, 3) := by decide +kernel
theorem dX5_takeNews_60 : decode cX5_takeNews 60 = .ok (.iload_n 2, 1) := by decide +kernel
theorem dX5_takeNews_61 : decode cX5_takeNews 61 = .ok (.iload 4, 2) := by decide +kernel
theorem dX5_takeNews_63 : decode cX5_takeNews 63 = .ok (.iconst 2, 1) := by decide +kernel
theorem dX5_takeNews_64 : decode cX5_takeNews 64 = .ok (.invokevirtual 291, 3) := by decide +kernel
theorem dX5_takeNews_67 : decode cX5_takeNews 67 = .ok (.iload_n 2, 1) := by decide +kernel
theorem dX5_takeNews_68 : decode cX5_takeNews 68 = .ok (.invokevirtual 294, 3) := by decide +kernel
theorem dX5_takeNews_71 : decode cX5_takeNews 71 = .ok (.ifCond .eq 9, 3) := by decide +kernel
theorem dX5_takeNews_74 : decode cX5_takeNews 74 = .ok (.aload_n 0, 1) := by decide +kernel
theorem dX5_takeNews_75 : decode cX5_takeNews 75 = .ok (.bipush 10, 2) := by decide +kernel
theorem dX5_takeNews_77 : decode cX5_takeNews 77 = .ok (.invokevirtual 225, 3) := by decide +kernel
theorem dX5_takeNews_80 : decode cX5_takeNews 80 = .ok (.iinc 4 1, 3) := by decide +kernel
theorem dX5_takeNews_83 : decode cX5_takeNews 83 = .ok (.goto (-70), 3) := by decide +kernel
theorem dX5_takeNews_86 : decode cX5_takeNews 86 = .ok (.return_, 1) := by decide +kernel
theorem dX5_respond_0 : decode cX5_respond 0 = .ok (.aload_n 0, 1) := by decide +kernel
theorem dX5_respond_1 : decode cX5_respond 1 = .ok (.getfield 28, 3) := by decide +kernel
theorem dX5_respond_4 : decode cX5_respond 4 = .ok (.iload_n 2, 1) := by decide +kernel
theorem dX5_respond_5 : decode cX5_respond 5 = .ok (.iconst 1, 1) := by decide +kernel
theorem dX5_respond_6 : decode cX5_respond 6 = .ok (.invokevirtual 167, 3) := by decide +kernel
theorem dX5_respond_9 : decode cX5_respond 9 = .ok (.istore_n 3, 1) := by decide +kernel
theorem dX5_respond_10 : decode cX5_respond 10 = .ok (.aload_n 0, 1) := by decide +kernel
theorem dX5_respond_11 : decode cX5_respond 11 = .ok (.getfield 28, 3) := by decide +kernel
theorem dX5_respond_14 : decode cX5_respond 14 = .ok (.iload_n 2, 1) := by decide +kernel
theorem dX5_respond_15 : decode cX5_respond 15 = .ok (.iconst 3, 1) := by decide +kernel
theorem dX5_respond_16 : decode cX5_respond 16 = .ok (.invokevirtual 167, 3) := by decide +kernel
theorem dX5_respond_19 : decode cX5_respond 19 = .ok (.istore 4, 2) := by decide +kernel
theorem dX5_respond_21 : decode cX5_respond 21 = .ok (.aload_n 0, 1) := by decide +kernel
theorem dX5_respond_22 : decode cX5_respond 22 = .ok (.getfield 28, 3) := by decide +kernel
theorem dX5_respond_25 : decode cX5_respond 25 = .ok (.iload_n 2, 1) := by decide +kernel
theorem dX5_respond_26 : decode cX5_respond 26 = .ok (.iconst 0, 1) := by decide +kernel
theorem dX5_respond_27 : decode cX5_respond 27 = .ok (.invokevirtual 167, 3) := by decide +kernel
theorem dX5_respond_30 : decode cX5_respond 30 = .ok (.tableswitch 103 1 5 #[34, 46, 58, 83, 91], 34) := by decide +kernel
theorem dX5_respond_64 : decode cX5_respond 64 = .ok (.aload_n 0, 1) := by decide +kernel
theorem dX5_respond_65 : decode cX5_respond 65 = .ok (.aload_n 1, 1) := by decide +kernel
theorem dX5_respond_66 : decode cX5_respond 66 = .ok (.iconst 3, 1) := by decide +kernel
theorem dX5_respond_67 : decode cX5_respond 67 = .ok (.iload_n 3, 1) := by decide +kernel
theorem dX5_respond_68 : decode cX5_respond 68 = .ok (.iload 4, 2) := by decide +kernel
theorem dX5_respond_70 : decode cX5_respond 70 = .ok (.invokevirtual 119, 3) := by decide +kernel
theorem dX5_respond_73 : decode cX5_respond 73 = .ok (.pop, 1) := by decide +kernel
theorem dX5_respond_74 : decode cX5_respond 74 = .ok (.iconst 1, 1) := by decide +kernel
theorem dX5_respond_75 : decode cX5_respond 75 = .ok (.ireturn, 1) := by decide +kernel
theorem dX5_respond_76 : decode cX5_respond 76 = .ok (.aload_n 0, 1) := by decide +kernel
theorem dX5_respond_77 : decode cX5_respond 77 = .ok (.aload_n 1, 1) := by decide +kernel
theorem dX5_respond_78 : decode cX5_respond 78 = .ok (.iconst 1, 1) := by decide +kernel
theorem dX5_respond_79 : decode cX5_respond 79 = .ok (.iload 4, 2) := by decide +kernel
theorem dX5_respond_81 : decode cX5_respond 81 = .ok (.iload_n 3, 1) := by decide +kernel
theorem dX5_respond_82 : decode cX5_respond 82 = .ok (.invokevirtual 119, 3) := by decide +kernel
theorem dX5_respond_85 : decode cX5_respond 85 = .ok (.pop, 1) := by decide +kernel
theorem dX5_respond_86 : decode cX5_respond 86 = .ok (.iconst 1, 1) := by decide +kernel
theorem dX5_respond_87 : decode cX5_respond 87 = .ok (.ireturn, 1) := by decide +kernel
theorem dX5_respond_88 : decode cX5_respond 88 = .ok (.iload 4, 2) := by decide +kernel
theorem dX5_respond_90 : decode cX5_respond 90 = .ok (.iconst (-1), 1) := by decide +kernel
theorem dX5_respond_91 : decode cX5_respond 91 = .ok (.if_icmp .ne 10, 3) := by decide +kernel
theorem dX5_respond_94 : decode cX5_respond 94 = .ok (.aload_n 1, 1) := by decide +kernel
theorem dX5_respond_95 : decode cX5_respond 95 = .ok (.iload_n 3, 1) := by decide +kernel
theorem dX5_respond_96 : decode cX5_respond 96 = .ok (.invokevirtual 298, 3) := by decide +kernel
theorem dX5_respond_99 : decode cX5_respond 99 = .ok (.iconst 0, 1) := by decide +kernel
theorem dX5_respond_100 : decode cX5_respond 100 = .ok (.ireturn, 1) := by decide +kernel
theorem dX5_respond_101 : decode cX5_respond 101 = .ok (.aload_n 0, 1) := by decide +kernel
theorem dX5_respond_102 : decode cX5_respond 102 = .ok (.aload_n 1, 1) := by decide +kernel
theorem dX5_respond_103 : decode cX5_respond 103 = .ok (.iconst 4, 1) := by decide +kernel
theorem dX5_respond_104 : decode cX5_respond 104 = .ok (.iload 4, 2) := by decide +kernel
theorem dX5_respond_106 : decode cX5_respond 106 = .ok (.iload_n 3, 1) := by decide +kernel
theorem dX5_respond_107 : decode cX5_respond 107 = .ok (.invokevirtual 119, 3) := by decide +kernel
theorem dX5_respond_110 : decode cX5_respond 110 = .ok (.pop, 1) := by decide +kernel
theorem dX5_respond_111 : decode cX5_respond 111 = .ok (.iconst 1, 1) := by decide +kernel
theorem dX5_respond_112 : decode cX5_respond 112 = .ok (.ireturn, 1) := by decide +kernel
theorem dX5_respond_113 : decode cX5_respond 113 = .ok (.aload_n 1, 1) := by decide +kernel
theorem dX5_respond_114 : decode cX5_respond 114 = .ok (.iload 4, 2) := by decide +kernel
theorem dX5_respond_116 : decode cX5_respond 116 = .ok (.invokevirtual 298, 3) := by decide +kernel
theorem dX5_respond_119 : decode cX5_respond 119 = .ok (.iconst 0, 1) := by decide +kernel
theorem dX5_respond_120 : decode cX5_respond 120 = .ok (.ireturn, 1) := by decide +kernel
theorem dX5_respond_121 : decode cX5_respond 121 = .ok (.aload_n 0, 1) := by decide +kernel
theorem dX5_respond_122 : decode cX5_respond 122 = .ok (.aload_n 1, 1) := by decide +kernel
theorem dX5_respond_123 : decode cX5_respond 123 = .ok (.bipush 6, 2) := by decide +kernel
theorem dX5_respond_125 : decode cX5_respond 125 = .ok (.iload_n 3, 1) := by decide +kernel
theorem dX5_respond_126 : decode cX5_respond 126 = .ok (.iconst (-1), 1) := by decide +kernel
theorem dX5_respond_127 : decode cX5_respond 127 = .ok (.invokevirtual 119, 3) := by decide +kernel
theorem dX5_respond_130 : decode cX5_respond 130 = .ok (.pop, 1) := by decide +kernel
theorem dX5_respond_131 : decode cX5_respond 131 = .ok (.iconst 1, 1) := by decide +kernel
theorem dX5_respond_132 : decode cX5_respond 132 = .ok (.ireturn, 1) := by decide +kernel
theorem dX5_respond_133 : decode cX5_respond 133 = .ok (.iconst 0, 1) := by decide +kernel
theorem dX5_respond_134 : decode cX5_respond 134 = .ok (.ireturn, 1) := by decide +kernel
theorem dX5_isCut_0 : decode cX5_isCut 0 = .ok (.iload_n 1, 1) := by decide +kernel
theorem dX5_isCut_1 : decode cX5_isCut 1 = .ok (.invokestatic 69, 3) := by decide +kernel
theorem dX5_isCut_4 : decode cX5_isCut 4 = .ok (.ifCond .eq 29, 3) := by decide +kernel
theorem dX5_isCut_7 : decode cX5_isCut 7 = .ok (.iload_n 2, 1) := by decide +kernel
theorem dX5_isCut_8 : decode cX5_isCut 8 = .ok (.invokestatic 69, 3) := by decide +kernel
theorem dX5_isCut_11 : decode cX5_isCut 11 = .ok (.ifCond .eq 22, 3) := by decide +kernel
theorem dX5_isCut_14 : decode cX5_isCut 14 = .ok (.aload_n 0, 1) := by decide +kernel
theorem dX5_isCut_15 : decode cX5_isCut 15 = .ok (.getfield 21, 3) := by decide +kernel
theorem dX5_isCut_18 : decode cX5_isCut 18 = .ok (.iload_n 1, 1) := by decide +kernel
theorem dX5_isCut_19 : decode cX5_isCut 19 = .ok (.laload, 1) := by decide +kernel
theorem dX5_isCut_20 : decode cX5_isCut 20 = .ok (.iload_n 2, 1) := by decide +kernel
theorem dX5_isCut_21 : decode cX5_isCut 21 = .ok (.lushr, 1) := by decide +kernel
theorem dX5_isCut_22 : decode cX5_isCut 22 = .ok (.lconst 1, 1) := by decide +kernel
theorem dX5_isCut_23 : decode cX5_isCut 23 = .ok (.land, 1) := by decide +kernel
theorem dX5_isCut_24 : decode cX5_isCut 24 = .ok (.lconst 0, 1) := by decide +kernel
theorem dX5_isCut_25 : decode cX5_isCut 25 = .ok (.lcmp, 1) := by decide +kernel
theorem dX5_isCut_26 : decode cX5_isCut 26 = .ok (.ifCond .eq 7, 3) := by decide +kernel
theorem dX5_isCut_29 : decode cX5_isCut 29 = .ok (.iconst 1, 1) := by decide +kernel
theorem dX5_isCut_30 : decode cX5_isCut 30 = .ok (.goto 4, 3) := by decide +kernel
theorem dX5_isCut_33 : decode cX5_isCut 33 = .ok (.iconst 0, 1) := by decide +kernel
theorem dX5_isCut_34 : decode cX5_isCut 34 = .ok (.ireturn, 1) := by decide +kernel
theorem dX5_setLink_0 : decode cX5_setLink 0 = .ok (.iload_n 1, 1) := by decide +kernel
theorem dX5_setLink_1 : decode cX5_setLink 1 = .ok (.invokestatic 69, 3) := by decide +kernel
theorem dX5_setLink_4 : decode cX5_setLink 4 = .ok (.ifCond .eq 20, 3) := by decide +kernel
theorem dX5_setLink_7 : decode cX5_setLink 7 = .ok (.iload_n 2, 1) := by decide +kernel
theorem dX5_setLink_8 : decode cX5_setLink 8 = .ok (.invokestatic 69, 3) := by decide +kernel
theorem dX5_setLink_11 : decode cX5_setLink 11 = .ok (.ifCond .eq 13, 3) := by decide +kernel
theorem dX5_setLink_14 : decode cX5_setLink 14 = .ok (.aload_n 0, 1) := by decide +kernel
theorem dX5_setLink_15 : decode cX5_setLink 15 = .ok (.iload_n 1, 1) := by decide +kernel
theorem dX5_setLink_16 : decode cX5_setLink 16 = .ok (.iload_n 2, 1) := by decide +kernel
theorem dX5_setLink_17 : decode cX5_setLink 17 = .ok (.invokevirtual 277, 3) := by decide +kernel
theorem dX5_setLink_20 : decode cX5_setLink 20 = .ok (.iload_n 3, 1) := by decide +kernel
theorem dX5_setLink_21 : decode cX5_setLink 21 = .ok (.if_icmp .ne 5, 3) := by decide +kernel
theorem dX5_setLink_24 : decode cX5_setLink 24 = .ok (.iconst 0, 1) := by decide +kernel
theorem dX5_setLink_25 : decode cX5_setLink 25 = .ok (.ireturn, 1) := by decide +kernel
theorem dX5_setLink_26 : decode cX5_setLink 26 = .ok (.aload_n 0, 1) := by decide +kernel
theorem dX5_setLink_27 : decode cX5_setLink 27 = .ok (.getfield 21, 3) := by decide +kernel
theorem dX5_setLink_30 : decode cX5_setLink 30 = .ok (.iload_n 1, 1) := by decide +kernel
theorem dX5_setLink_31 : decode cX5_setLink 31 = .ok (.dup2, 1) := by decide +kernel
theorem dX5_setLink_32 : decode cX5_setLink 32 = .ok (.laload, 1) := by decide +kernel
theorem dX5_setLink_33 : decode cX5_setLink 33 = .ok (.lconst 1, 1) := by decide +kernel
theorem dX5_setLink_34 : decode cX5_setLink 34 = .ok (.iload_n 2, 1) := by decide +kernel
theorem dX5_setLink_35 : decode cX5_setLink 35 = .ok (.lshl, 1) := by decide +kernel
theorem dX5_setLink_36 : decode cX5_setLink 36 = .ok (.lxor, 1) := by decide +kernel
theorem dX5_setLink_37 : decode cX5_setLink 37 = .ok (.lastore, 1) := by decide +kernel
theorem dX5_setLink_38 : decode cX5_setLink 38 = .ok (.aload_n 0, 1) := by decide +kernel
theorem dX5_setLink_39 : decode cX5_setLink 39 = .ok (.getfield 21, 3) := by decide +kernel
theorem dX5_setLink_42 : decode cX5_setLink 42 = .ok (.iload_n 2, 1) := by decide +kernel
theorem dX5_setLink_43 : decode cX5_setLink 43 = .ok (.dup2, 1) := by decide +kernel
theorem dX5_setLink_44 : decode cX5_setLink 44 = .ok (.laload, 1) := by decide +kernel
theorem dX5_setLink_45 : decode cX5_setLink 45 = .ok (.lconst 1, 1) := by decide +kernel
theorem dX5_setLink_46 : decode cX5_setLink 46 = .ok (.iload_n 1, 1) := by decide +kernel
theorem dX5_setLink_47 : decode cX5_setLink 47 = .ok (.lshl, 1) := by decide +kernel
theorem dX5_setLink_48 : decode cX5_setLink 48 = .ok (.lxor, 1) := by decide +kernel
theorem dX5_setLink_49 : decode cX5_setLink 49 = .ok (.lastore, 1) := by decide +kernel
theorem dX5_setLink_50 : decode cX5_setLink 50 = .ok (.iconst 1, 1) := by decide +kernel
theorem dX5_setLink_51 : decode cX5_setLink 51 = .ok (.ireturn, 1) := by decide +kernel
theorem dX5_tally_0 : decode cX5_tally 0 = .ok (.iload_n 1, 1) := by decide +kernel
theorem dX5_tally_1 : decode cX5_tally 1 = .ok (.ifCond .lt 19, 3) := by decide +kernel
theorem dX5_tally_4 : decode cX5_tally 4 = .ok (.iload_n 1, 1) := by decide +kernel
theorem dX5_tally_5 : decode cX5_tally 5 = .ok (.bipush 12, 2) := by decide +kernel
theorem dX5_tally_7 : decode cX5_tally 7 = .ok (.if_icmp .ge 13, 3) := by decide +kernel
theorem dX5_tally_10 : decode cX5_tally 10 = .ok (.aload_n 0, 1) := by decide +kernel
theorem dX5_tally_11 : decode cX5_tally 11 = .ok (.getfield 41, 3) := by decide +kernel
theorem dX5_tally_14 : decode cX5_tally 14 = .ok (.iload_n 1, 1) := by decide +kernel
theorem dX5_tally_15 : decode cX5_tally 15 = .ok (.dup2, 1) := by decide +kernel
theorem dX5_tally_16 : decode cX5_tally 16 = .ok (.iaload, 1) := by decide +kernel
theorem dX5_tally_17 : decode cX5_tally 17 = .ok (.iconst 1, 1) := by decide +kernel
theorem dX5_tally_18 : decode cX5_tally 18 = .ok (.iadd, 1) := by decide +kernel
theorem dX5_tally_19 : decode cX5_tally 19 = .ok (.iastore, 1) := by decide +kernel
theorem dX5_tally_20 : decode cX5_tally 20 = .ok (.return_, 1) := by decide +kernel
theorem dX5_firstUp_0 : decode cX5_firstUp 0 = .ok (.iconst 0, 1) := by decide +kernel
theorem dX5_firstUp_1 : decode cX5_firstUp 1 = .ok (.istore_n 1, 1) := by decide +kernel
theorem dX5_firstUp_2 : decode cX5_firstUp 2 = .ok (.iload_n 1, 1) := by decide +kernel
theorem dX5_firstUp_3 : decode cX5_firstUp 3 = .ok (.bipush 64, 2) := by decide +kernel
theorem dX5_firstUp_5 : decode cX5_firstUp 5 = .ok (.if_icmp .ge 21, 3) := by decide +kernel
theorem dX5_firstUp_8 : decode cX5_firstUp 8 = .ok (.aload_n 0, 1) := by decide +kernel
theorem dX5_firstUp_9 : decode cX5_firstUp 9 = .ok (.iload_n 1, 1) := by decide +kernel
theorem dX5_firstUp_10 : decode cX5_firstUp 10 = .ok (.invokevirtual 171, 3) := by decide +kernel
theorem dX5_firstUp_13 : decode cX5_firstUp 13 = .ok (.astore_n 2, 1) := by decide +kernel
theorem dX5_firstUp_14 : decode cX5_firstUp 14 = .ok (.aload_n 2, 1) := by decide +kernel
theorem dX5_firstUp_15 : decode cX5_firstUp 15 = .ok (.ifnull 5, 3) := by decide +kernel
theorem dX5_firstUp_18 : decode cX5_firstUp 18 = .ok (.aload_n 2, 1) := by decide +kernel
theorem dX5_firstUp_19 : decode cX5_firstUp 19 = .ok (.areturn, 1) := by decide +kernel
theorem dX5_firstUp_20 : decode cX5_firstUp 20 = .ok (.iinc 1 1, 3) := by decide +kernel
theorem dX5_firstUp_23 : decode cX5_firstUp 23 = .ok (.goto (-21), 3) := by decide +kernel
theorem dX5_firstUp_26 : decode cX5_firstUp 26 = .ok (.aconst_null, 1) := by decide +kernel
theorem dX5_firstUp_27 : decode cX5_firstUp 27 = .ok (.areturn, 1) := by decide +kernel
theorem dX5_firstApart_0 : decode cX5_firstApart 0 = .ok (.aload_n 0, 1) := by decide +kernel
theorem dX5_firstApart_1 : decode cX5_firstApart 1 = .ok (.invokevirtual 301, 3) := by decide +kernel
theorem dX5_firstApart_4 : decode cX5_firstApart 4 = .ok (.astore_n 2, 1) := by decide +kernel
theorem dX5_firstApart_5 : decode cX5_firstApart 5 = .ok (.aload_n 2, 1) := by decide +kernel
theorem dX5_firstApart_6 : decode cX5_firstApart 6 = .ok (.ifnonnull 5, 3) := by decide +kernel
theorem dX5_firstApart_9 : decode cX5_firstApart 9 = .ok (.iconst (-1), 1) := by decide +kernel
theorem dX5_firstApart_10 : decode cX5_firstApart 10 = .ok (.ireturn, 1) := by decide +kernel
theorem dX5_firstApart_11 : decode cX5_firstApart 11 = .ok (.aload_n 2, 1) := by decide +kernel
theorem dX5_firstApart_12 : decode cX5_firstApart 12 = .ok (.getfield 181, 3) := by decide +kernel
theorem dX5_firstApart_15 : decode cX5_firstApart 15 = .ok (.iconst 1, 1) := by decide +kernel
theorem dX5_firstApart_16 : decode cX5_firstApart 16 = .ok (.iadd, 1) := by decide +kernel
theorem dX5_firstApart_17 : decode cX5_firstApart 17 = .ok (.istore_n 3, 1) := by decide +kernel
theorem dX5_firstApart_18 : decode cX5_firstApart 18 = .ok (.iload_n 3, 1) := by decide +kernel
theorem dX5_firstApart_19 : decode cX5_firstApart 19 = .ok (.bipush 64, 2) := by decide +kernel
theorem dX5_firstApart_21 : decode cX5_firstApart 21 = .ok (.if_icmp .ge 62, 3) := by decide +kernel
theorem dX5_firstApart_24 : decode cX5_firstApart 24 = .ok (.aload_n 0, 1) := by decide +kernel
theorem dX5_firstApart_25 : decode cX5_firstApart 25 = .ok (.iload_n 3, 1) := by decide +kernel
theorem dX5_firstApart_26 : decode cX5_firstApart 26 = .ok (.invokevirtual 171, 3) := by decide +kernel
theorem dX5_firstApart_29 : decode cX5_firstApart 29 = .ok (.astore 4, 2) := by decide +kernel
theorem dX5_firstApart_31 : decode cX5_firstApart 31 = .ok (.aload 4, 2) := by decide +kernel
theorem dX5_firstApart_33 : decode cX5_firstApart 33 = .ok (.ifnonnull 7, 3) := by decide +kernel
theorem dX5_firstApart_36 : decode cX5_firstApart 36 = .ok (.iconst (-1), 1) := by decide +kernel
theorem dX5_firstApart_37 : decode cX5_firstApart 37 = .ok (.goto 9, 3) := by decide +kernel
theorem dX5_firstApart_40 : decode cX5_firstApart 40 = .ok (.aload_n 2, 1) := by decide +kernel
theorem dX5_firstApart_41 : decode cX5_firstApart 41 = .ok (.aload 4, 2) := by decide +kernel
theorem dX5_firstApart_43 : decode cX5_firstApart 43 = .ok (.invokevirtual 305, 3) := by decide +kernel
theorem dX5_firstApart_46 : decode cX5_firstApart 46 = .ok (.istore 5, 2) := by decide +kernel
theorem dX5_firstApart_48 : decode cX5_firstApart 48 = .ok (.iload 5, 2) := by decide +kernel
theorem dX5_firstApart_50 : decode cX5_firstApart 50 = .ok (.iconst (-1), 1) := by decide +kernel
theorem dX5_firstApart_51 : decode cX5_firstApart 51 = .ok (.if_icmp .eq 26, 3) := by decide +kernel
theorem dX5_firstApart_54 : decode cX5_firstApart 54 = .ok (.iload_n 1, 1) := by decide +kernel
theorem dX5_firstApart_55 : decode cX5_firstApart 55 = .ok (.ifCond .ne 10, 3) := by decide +kernel
theorem dX5_firstApart_58 : decode cX5_firstApart 58 = .ok (.aload_n 2, 1) := by decide +kernel
theorem dX5_firstApart_59 : decode cX5_firstApart 59 = .ok (.getfield 181, 3) := by decide +kernel
theorem dX5_firstApart_62 : decode cX5_firstApart 62 = .ok (.goto 14, 3) := by decide +kernel
theorem dX5_firstApart_65 : decode cX5_firstApart 65 = .ok (.iload_n 1, 1) := by decide +kernel
theorem dX5_firstApart_66 : decode cX5_firstApart 66 = .ok (.iconst 1, 1) := by decide +kernel
theorem dX5_firstApart_67 : decode cX5_firstApart 67 = .ok (.if_icmp .ne 7, 3) := by decide +kernel
theorem dX5_firstApart_70 : decode cX5_firstApart 70 = .ok (.iload_n 3, 1) := by decide +kernel
theorem dX5_firstApart_71 : decode cX5_firstApart 71 = .ok (.goto 5, 3) := by decide +kernel
theorem dX5_firstApart_74 : decode cX5_firstApart 74 = .ok (.iload 5, 2) := by decide +kernel
theorem dX5_firstApart_76 : decode cX5_firstApart 76 = .ok (.ireturn, 1) := by decide +kernel
theorem dX5_firstApart_77 : decode cX5_firstApart 77 = .ok (.iinc 3 1, 3) := by decide +kernel
theorem dX5_firstApart_80 : decode cX5_firstApart 80 = .ok (.goto (-62), 3) := by decide +kernel
theorem dX5_firstApart_83 : decode cX5_firstApart 83 = .ok (.iconst (-1), 1) := by decide +kernel
theorem dX5_firstApart_84 : decode cX5_firstApart 84 = .ok (.ireturn, 1) := by decide +kernel
theorem dX5_countUpWith_0 : decode cX5_countUpWith 0 = .ok (.iconst 0, 1) := by decide +kernel
theorem dX5_countUpWith_1 : decode cX5_countUpWith 1 = .ok (.istore_n 3, 1) := by decide +kernel
theorem dX5_countUpWith_2 : decode cX5_countUpWith 2 = .ok (.iconst 0, 1) := by decide +kernel
theorem dX5_countUpWith_3 : decode cX5_countUpWith 3 = .ok (.istore 4, 2) := by decide +kernel
theorem dX5_countUpWith_5 : decode cX5_countUpWith 5 = .ok (.iload 4, 2) := by decide +kernel
theorem dX5_countUpWith_7 : decode cX5_countUpWith 7 = .ok (.bipush 64, 2) := by decide +kernel
theorem dX5_countUpWith_9 : decode cX5_countUpWith 9 = .ok (.if_icmp .ge 49, 3) := by decide +kernel
theorem dX5_countUpWith_12 : decode cX5_countUpWith 12 = .ok (.aload_n 0, 1) := by decide +kernel
theorem dX5_countUpWith_13 : decode cX5_countUpWith 13 = .ok (.iload 4, 2) := by decide +kernel
theorem dX5_countUpWith_15 : decode cX5_countUpWith 15 = .ok (.invokevirtual 171, 3) := by decide +kernel
theorem dX5_countUpWith_18 : decode cX5_countUpWith 18 = .ok (.astore 5, 2) := by decide +kernel
theorem dX5_countUpWith_20 : decode cX5_countUpWith 20 = .ok (.iload 4, 2) := by decide +kernel
theorem dX5_countUpWith_22 : decode cX5_countUpWith 22 = .ok (.iload_n 1, 1) := by decide +kernel
theorem dX5_countUpWith_23 : decode cX5_countUpWith 23 = .ok (.if_icmp .eq 29, 3) := by decide +kernel
theorem dX5_countUpWith_26 : decode cX5_countUpWith 26 = .ok (.aload 5, 2) := by decide +kernel
theorem dX5_countUpWith_28 : decode cX5_countUpWith 28 = .ok (.ifnull 24, 3) := by decide +kernel
theorem dX5_countUpWith_31 : decode cX5_countUpWith 31 = .ok (.iload_n 1, 1) := by decide +kernel
theorem dX5_countUpWith_32 : decode cX5_countUpWith 32 = .ok (.invokestatic 69, 3) := by decide +kernel
theorem dX5_countUpWith_35 : decode cX5_countUpWith 35 = .ok (.ifCond .eq 17, 3) := by decide +kernel
theorem dX5_countUpWith_38 : decode cX5_countUpWith 38 = .ok (.aload 5, 2) := by decide +kernel
theorem dX5_countUpWith_40 : decode cX5_countUpWith 40 = .ok (.getfield 222, 3) := by decide +kernel
theorem dX5_countUpWith_43 : decode cX5_countUpWith 43 = .ok (.iload_n 1, 1) := by decide +kernel
theorem dX5_countUpWith_44 : decode cX5_countUpWith 44 = .ok (.iaload, 1) := by decide +kernel
theorem dX5_countUpWith_45 : decode cX5_countUpWith 45 = .ok (.iload_n 2, 1) := by decide +kernel
theorem dX5_countUpWith_46 : decode cX5_countUpWith 46 = .ok (.if_icmp .ne 6, 3) := by decide +kernel
theorem dX5_countUpWith_49 : decode cX5_countUpWith 49 = .ok (.iinc 3 1, 3) := by decide +kernel
theorem dX5_countUpWith_52 : decode cX5_countUpWith 52 = .ok (.iinc 4 1, 3) := by decide +kernel
theorem dX5_countUpWith_55 : decode cX5_countUpWith 55 = .ok (.goto (-50), 3) := by decide +kernel
theorem dX5_countUpWith_58 : decode cX5_countUpWith 58 = .ok (.iload_n 3, 1) := by decide +kernel
theorem dX5_countUpWith_59 : decode cX5_countUpWith 59 = .ok (.ireturn, 1) := by decide +kernel
theorem dX5_become_0 : decode cX5_become 0 = .ok (.iconst 0, 1) := by decide +kernel
theorem dX5_become_1 : decode cX5_become 1 = .ok (.istore_n 2, 1) := by decide +kernel
theorem dX5_become_2 : decode cX5_become 2 = .ok (.iload_n 2, 1) := by decide +kernel
theorem dX5_become_3 : decode cX5_become 3 = .ok (.bipush 64, 2) := by decide +kernel
theorem dX5_become_5 : decode cX5_become 5 = .ok (.if_icmp .ge 50, 3) := by decide +kernel
theorem dX5_become_8 : decode cX5_become 8 = .ok (.aload_n 1, 1) := by decide +kernel
theorem dX5_become_9 : decode cX5_become 9 = .ok (.iload_n 2, 1) := by decide +kernel
theorem dX5_become_10 : decode cX5_become 10 = .ok (.invokevirtual 76, 3) := by decide +kernel
theorem dX5_become_13 : decode cX5_become 13 = .ok (.astore_n 3, 1) := by decide +kernel
theorem dX5_become_14 : decode cX5_become 14 = .ok (.aload_n 0, 1) := by decide +kernel
theorem dX5_become_15 : decode cX5_become 15 = .ok (.getfield 11, 3) := by decide +kernel
theorem dX5_become_18 : decode cX5_become 18 = .ok (.iload_n 2, 1) := by decide +kernel
theorem dX5_become_19 : decode cX5_become 19 = .ok (.aaload, 1) := by decide +kernel
theorem dX5_become_20 : decode cX5_become 20 = .ok (.astore 4, 2) := by decide +kernel
theorem dX5_become_22 : decode cX5_become 22 = .ok (.aload_n 3, 1) := by decide +kernel
theorem dX5_become_23 : decode cX5_become 23 = .ok (.ifnull 15, 3) := by decide +kernel
theorem dX5_become_26 : decode cX5_become 26 = .ok (.aload_n 0, 1) := by decide +kernel
theorem dX5_become_27 : decode cX5_become 27 = .ok (.iload_n 2, 1) := by decide +kernel
theorem dX5_become_28 : decode cX5_become 28 = .ok (.invokevirtual 174, 3) := by decide +kernel
theorem dX5_become_31 : decode cX5_become 31 = .ok (.aload_n 3, 1) := by decide +kernel
theorem dX5_become_32 : decode cX5_become 32 = .ok (.invokevirtual 308, 3) := by decide +kernel
theorem dX5_become_35 : decode cX5_become 35 = .ok (.goto 14, 3) := by decide +kernel
theorem dX5_become_38 : decode cX5_become 38 = .ok (.aload 4, 2) := by decide +kernel
theorem dX5_become_40 : decode cX5_become 40 = .ok (.ifnull 9, 3) := by decide +kernel
theorem dX5_become_43 : decode cX5_become 43 = .ok (.aload 4, 2) := by decide +kernel
theorem dX5_become_45 : decode cX5_become 45 = .ok (.iconst 0, 1) := by decide +kernel
theorem dX5_become_46 : decode cX5_become 46 = .ok (.putfield 51, 3) := by decide +kernel
theorem dX5_become_49 : decode cX5_become 49 = .ok (.iinc 2 1, 3) := by decide +kernel
theorem dX5_become_52 : decode cX5_become 52 = .ok (.goto (-50), 3) := by decide +kernel
theorem dX5_become_55 : decode cX5_become 55 = .ok (.aload_n 0, 1) := by decide +kernel
theorem dX5_become_56 : decode cX5_become 56 = .ok (.aload_n 1, 1) := by decide +kernel
theorem dX5_become_57 : decode cX5_become 57 = .ok (.getfield 17, 3) := by decide +kernel
theorem dX5_become_60 : decode cX5_become 60 = .ok (.putfield 17, 3) := by decide +kernel
theorem dX5_become_63 : decode cX5_become 63 = .ok (.aload_n 1, 1) := by decide +kernel
theorem dX5_become_64 : decode cX5_become 64 = .ok (.getfield 21, 3) := by decide +kernel
theorem dX5_become_67 : decode cX5_become 67 = .ok (.iconst 0, 1) := by decide +kernel
theorem dX5_become_68 : decode cX5_become 68 = .ok (.aload_n 0, 1) := by decide +kernel
theorem dX5_become_69 : decode cX5_become 69 = .ok (.getfield 21, 3) := by decide +kernel
theorem dX5_become_72 : decode cX5_become 72 = .ok (.iconst 0, 1) := by decide +kernel
theorem dX5_become_73 : decode cX5_become 73 = .ok (.bipush 64, 2) := by decide +kernel
theorem dX5_become_75 : decode cX5_become 75 = .ok (.invokestatic 250, 3) := by decide +kernel
theorem dX5_become_78 : decode cX5_become 78 = .ok (.aload_n 0, 1) := by decide +kernel
theorem dX5_become_79 : decode cX5_become 79 = .ok (.getfield 28, 3) := by decide +kernel
theorem dX5_become_82 : decode cX5_become 82 = .ok (.aload_n 1, 1) := by decide +kernel
theorem dX5_become_83 : decode cX5_become 83 = .ok (.getfield 28, 3) := by decide +kernel
theorem dX5_become_86 : decode cX5_become 86 = .ok (.invokevirtual 311, 3) := by decide +kernel
theorem dX5_become_89 : decode cX5_become 89 = .ok (.aload_n 0, 1) := by decide +kernel
theorem dX5_become_90 : decode cX5_become 90 = .ok (.getfield 37, 3) := by decide +kernel
theorem dX5_become_93 : decode cX5_become 93 = .ok (.aload_n 1, 1) := by decide +kernel
theorem dX5_become_94 : decode cX5_become 94 = .ok (.getfield 37, 3) := by decide +kernel
theorem dX5_become_97 : decode cX5_become 97 = .ok (.invokevirtual 314, 3) := by decide +kernel
theorem dX5_become_100 : decode cX5_become 100 = .ok (.aload_n 1, 1) := by decide +kernel
theorem dX5_become_101 : decode cX5_become 101 = .ok (.getfield 41, 3) := by decide +kernel
theorem dX5_become_104 : decode cX5_become 104 = .ok (.iconst 0, 1) := by decide +kernel
theorem dX5_become_105 : decode cX5_become 105 = .ok (.aload_n 0, 1) := by decide +kernel
theorem dX5_become_106 : decode cX5_become 106 = .ok (.getfield 41, 3) := by decide +kernel
theorem dX5_become_109 : decode cX5_become 109 = .ok (.iconst 0, 1) := by decide +kernel
theorem dX5_become_110 : decode cX5_become 110 = .ok (.bipush 12, 2) := by decide +kernel
theorem dX5_become_112 : decode cX5_become 112 = .ok (.invokestatic 250, 3) := by decide +kernel
theorem dX5_become_115 : decode cX5_become 115 = .ok (.return_, 1) := by decide +kernel
theorem dX5_sameAs_0 : decode cX5_sameAs 0 = .ok (.iconst 0, 1) := by decide +kernel
theorem dX5_sameAs_1 : decode cX5_sameAs 1 = .ok (.istore_n 2, 1) := by decide +kernel
theorem dX5_sameAs_2 : decode cX5_sameAs 2 = .ok (.iload_n 2, 1) := by decide +kernel
theorem dX5_sameAs_3 : decode cX5_sameAs 3 = .ok (.bipush 64, 2) := by decide +kernel
theorem dX5_sameAs_5 : decode cX5_sameAs 5 = .ok (.if_icmp .ge 82, 3) := by decide +kernel
theorem dX5_sameAs_8 : decode cX5_sameAs 8 = .ok (.aload_n 0, 1) := by decide +kernel
theorem dX5_sameAs_9 : decode cX5_sameAs 9 = .ok (.iload_n 2, 1) := by decide +kernel
theorem dX5_sameAs_10 : decode cX5_sameAs 10 = .ok (.invokevirtual 76, 3) := by decide +kernel
theorem dX5_sameAs_13 : decode cX5_sameAs 13 = .ok (.astore_n 3, 1) := by decide +kernel
theorem dX5_sameAs_14 : decode cX5_sameAs 14 = .ok (.aload_n 1, 1) := by decide +kernel
theorem dX5_sameAs_15 : decode cX5_sameAs 15 = .ok (.iload_n 2, 1) := by decide +kernel
theorem dX5_sameAs_16 : decode cX5_sameAs 16 = .ok (.invokevirtual 76, 3) := by decide +kernel
theorem dX5_sameAs_19 : decode cX5_sameAs 19 = .ok (.astore 4, 2) := by decide +kernel
theorem dX5_sameAs_21 : decode cX5_sameAs 21 = .ok (.aload_n 3, 1) := by decide +kernel
theorem dX5_sameAs_22 : decode cX5_sameAs 22 = .ok (.ifnonnull 7, 3) := by decide +kernel
theorem dX5_sameAs_25 : decode cX5_sameAs 25 = .ok (.iconst 1, 1) := by decide +kernel
theorem dX5_sameAs_26 : decode cX5_sameAs 26 = .ok (.goto 4, 3) := by decide +kernel
theorem dX5_sameAs_29 : decode cX5_sameAs 29 = .ok (.iconst 0, 1) := by decide +kernel
theorem dX5_sameAs_30 : decode cX5_sameAs 30 = .ok (.aload 4, 2) := by decide +kernel
theorem dX5_sameAs_32 : decode cX5_sameAs 32 = .ok (.ifnonnull 7, 3) := by decide +kernel
theorem dX5_sameAs_35 : decode cX5_sameAs 35 = .ok (.iconst 1, 1) := by decide +kernel
theorem dX5_sameAs_36 : decode cX5_sameAs 36 = .ok (.goto 4, 3) := by decide +kernel
theorem dX5_sameAs_39 : decode cX5_sameAs 39 = .ok (.iconst 0, 1) := by decide +kernel
theorem dX5_sameAs_40 : decode cX5_sameAs 40 = .ok (.if_icmp .ne 19, 3) := by decide +kernel
theorem dX5_sameAs_43 : decode cX5_sameAs 43 = .ok (.aload_n 0, 1) := by decide +kernel
theorem dX5_sameAs_44 : decode cX5_sameAs 44 = .ok (.getfield 21, 3) := by decide +kernel
theorem dX5_sameAs_47 : decode cX5_sameAs 47 = .ok (.iload_n 2, 1) := by decide +kernel
theorem dX5_sameAs_48 : decode cX5_sameAs 48 = .ok (.laload, 1) := by decide +kernel
theorem dX5_sameAs_49 : decode cX5_sameAs 49 = .ok (.aload_n 1, 1) := by decide +kernel
theorem dX5_sameAs_50 : decode cX5_sameAs 50 = .ok (.getfield 21, 3) := by decide +kernel
theorem dX5_sameAs_53 : decode cX5_sameAs 53 = .ok (.iload_n 2, 1) := by decide +kernel
theorem dX5_sameAs_54 : decode cX5_sameAs 54 = .ok (.laload, 1) := by decide +kernel
theorem dX5_sameAs_55 : decode cX5_sameAs 55 = .ok (.lcmp, 1) := by decide +kernel
theorem dX5_sameAs_56 : decode cX5_sameAs 56 = .ok (.ifCond .eq 5, 3) := by decide +kernel
theorem dX5_sameAs_59 : decode cX5_sameAs 59 = .ok (.iconst 0, 1) := by decide +kernel
theorem dX5_sameAs_60 : decode cX5_sameAs 60 = .ok (.ireturn, 1) := by decide +kernel
theorem dX5_sameAs_61 : decode cX5_sameAs 61 = .ok (.aload_n 3, 1) := by decide +kernel
theorem dX5_sameAs_62 : decode cX5_sameAs 62 = .ok (.ifnull 19, 3) := by decide +kernel
theorem dX5_sameAs_65 : decode cX5_sameAs 65 = .ok (.aload 4, 2) := by decide +kernel
theorem dX5_sameAs_67 : decode cX5_sameAs 67 = .ok (.ifnull 14, 3) := by decide +kernel
theorem dX5_sameAs_70 : decode cX5_sameAs 70 = .ok (.aload_n 3, 1) := by decide +kernel
theorem dX5_sameAs_71 : decode cX5_sameAs 71 = .ok (.aload 4, 2) := by decide +kernel
theorem dX5_sameAs_73 : decode cX5_sameAs 73 = .ok (.invokevirtual 317, 3) := by decide +kernel
theorem dX5_sameAs_76 : decode cX5_sameAs 76 = .ok (.ifCond .ne 5, 3) := by decide +kernel
theorem dX5_sameAs_79 : decode cX5_sameAs 79 = .ok (.iconst 0, 1) := by decide +kernel
theorem dX5_sameAs_80 : decode cX5_sameAs 80 = .ok (.ireturn, 1) := by decide +kernel
theorem dX5_sameAs_81 : decode cX5_sameAs 81 = .ok (.iinc 2 1, 3) := by decide +kernel
theorem dX5_sameAs_84 : decode cX5_sameAs 84 = .ok (.goto (-82), 3) := by decide +kernel
theorem dX5_sameAs_87 : decode cX5_sameAs 87 = .ok (.aload_n 0, 1) := by decide +kernel
theorem dX5_sameAs_88 : decode cX5_sameAs 88 = .ok (.getfield 17, 3) := by decide +kernel
theorem dX5_sameAs_91 : decode cX5_sameAs 91 = .ok (.aload_n 1, 1) := by decide +kernel
theorem dX5_sameAs_92 : decode cX5_sameAs 92 = .ok (.getfield 17, 3) := by decide +kernel
theorem dX5_sameAs_95 : decode cX5_sameAs 95 = .ok (.if_icmp .ne 21, 3) := by decide +kernel
theorem dX5_sameAs_98 : decode cX5_sameAs 98 = .ok (.aload_n 0, 1) := by decide +kernel
theorem dX5_sameAs_99 : decode cX5_sameAs 99 = .ok (.getfield 28, 3) := by decide +kernel
theorem dX5_sameAs_102 : decode cX5_sameAs 102 = .ok (.aload_n 1, 1) := by decide +kernel
theorem dX5_sameAs_103 : decode cX5_sameAs 103 = .ok (.getfield 28, 3) := by decide +kernel
theorem dX5_sameAs_106 : decode cX5_sameAs 106 = .ok (.invokevirtual 321, 3) := by decide +kernel
theorem dX5_sameAs_109 : decode cX5_sameAs 109 = .ok (.ifCond .eq 7, 3) := by decide +kernel
theorem dX5_sameAs_112 : decode cX5_sameAs 112 = .ok (.iconst 1, 1) := by decide +kernel
theorem dX5_sameAs_113 : decode cX5_sameAs 113 = .ok (.goto 4, 3) := by decide +kernel
theorem dX5_sameAs_116 : decode cX5_sameAs 116 = .ok (.iconst 0, 1) := by decide +kernel
theorem dX5_sameAs_117 : decode cX5_sameAs 117 = .ok (.ireturn, 1) := by decide +kernel
theorem dX6_init_0 : decode cX6_init 0 = .ok (.aload_n 0, 1) := by decide +kernel
theorem dX6_init_1 : decode cX6_init 1 = .ok (.invokespecial 1, 3) := by decide +kernel
theorem dX6_init_4 : decode cX6_init 4 = .ok (.aload_n 0, 1) := by decide +kernel
theorem dX6_init_5 : decode cX6_init 5 = .ok (.new 7, 3) := by decide +kernel
theorem dX6_init_8 : decode cX6_init 8 = .ok (.dup, 1) := by decide +kernel
theorem dX6_init_9 : decode cX6_init 9 = .ok (.invokespecial 9, 3) := by decide +kernel
theorem dX6_init_12 : decode cX6_init 12 = .ok (.putfield 10, 3) := by decide +kernel
theorem dX6_init_15 : decode cX6_init 15 = .ok (.aload_n 0, 1) := by decide +kernel
theorem dX6_init_16 : decode cX6_init 16 = .ok (.new 16, 3) := by decide +kernel
theorem dX6_init_19 : decode cX6_init 19 = .ok (.dup, 1) := by decide +kernel
theorem dX6_init_20 : decode cX6_init 20 = .ok (.invokespecial 18, 3) := by decide +kernel
theorem dX6_init_23 : decode cX6_init 23 = .ok (.putfield 19, 3) := by decide +kernel
theorem dX6_init_26 : decode cX6_init 26 = .ok (.aload_n 0, 1) := by decide +kernel
theorem dX6_init_27 : decode cX6_init 27 = .ok (.new 23, 3) := by decide +kernel
theorem dX6_init_30 : decode cX6_init 30 = .ok (.dup, 1) := by decide +kernel
theorem dX6_init_31 : decode cX6_init 31 = .ok (.invokespecial 25, 3) := by decide +kernel
theorem dX6_init_34 : decode cX6_init 34 = .ok (.putfield 26, 3) := by decide +kernel
theorem dX6_init_37 : decode cX6_init 37 = .ok (.aload_n 0, 1) := by decide +kernel
theorem dX6_init_38 : decode cX6_init 38 = .ok (.bipush 16, 2) := by decide +kernel
theorem dX6_init_40 : decode cX6_init 40 = .ok (.newarray .int, 2) := by decide +kernel
theorem dX6_init_42 : decode cX6_init 42 = .ok (.putfield 30, 3) := by decide +kernel
theorem dX6_init_45 : decode cX6_init 45 = .ok (.aload_n 0, 1) := by decide +kernel
theorem dX6_init_46 : decode cX6_init 46 = .ok (.getfield 30, 3) := by decide +kernel
theorem dX6_init_49 : decode cX6_init 49 = .ok (.iconst (-1), 1) := by decide +kernel
theorem dX6_init_50 : decode cX6_init 50 = .ok (.invokestatic 34, 3) := by decide +kernel
theorem dX6_init_53 : decode cX6_init 53 = .ok (.aload_n 0, 1) := by decide +kernel
theorem dX6_init_54 : decode cX6_init 54 = .ok (.bipush 64, 2) := by decide +kernel
theorem dX6_init_56 : decode cX6_init 56 = .ok (.newarray .int, 2) := by decide +kernel
theorem dX6_init_58 : decode cX6_init 58 = .ok (.putfield 40, 3) := by decide +kernel
theorem dX6_init_61 : decode cX6_init 61 = .ok (.aload_n 0, 1) := by decide +kernel
theorem dX6_init_62 : decode cX6_init 62 = .ok (.aconst_null, 1) := by decide +kernel
theorem dX6_init_63 : decode cX6_init 63 = .ok (.putfield 43, 3) := by decide +kernel
theorem dX6_init_66 : decode cX6_init 66 = .ok (.aload_n 0, 1) := by decide +kernel
theorem dX6_init_67 : decode cX6_init 67 = .ok (.aconst_null, 1) := by decide +kernel
theorem dX6_init_68 : decode cX6_init 68 = .ok (.putfield 46, 3) := by decide +kernel
theorem dX6_init_71 : decode cX6_init 71 = .ok (.return_, 1) := by decide +kernel
theorem dX6_member_0 : decode cX6_member 0 = .ok (.aload_n 0, 1) := by decide +kernel
theorem dX6_member_1 : decode cX6_member 1 = .ok (.aload_n 0, 1) := by decide +kernel
theorem dX6_member_2 : decode cX6_member 2 = .ok (.getfield 10, 3) := by decide +kernel
theorem dX6_member_5 : decode cX6_member 5 = .ok (.iconst 1, 1) := by decide +kernel
theorem dX6_member_6 : decode cX6_member 6 = .ok (.iload_n 1, 1) := by decide +kernel
theorem dX6_member_7 : decode cX6_member 7 = .ok (.iconst 0, 1) := by decide +kernel
theorem dX6_member_8 : decode cX6_member 8 = .ok (.lload_n 2, 1) := by decide +kernel
theorem dX6_member_9 : decode cX6_member 9 = .ok (.invokevirtual 49, 3) := by decide +kernel
theorem dX6_member_12 : decode cX6_member 12 = .ok (.invokevirtual 53, 3) := by decide +kernel
theorem dX6_member_15 : decode cX6_member 15 = .ok (.ireturn, 1) := by decide +kernel
theorem dX6_join_0 : decode cX6_join 0 = .ok (.aload_n 0, 1) := by decide +kernel
theorem dX6_join_1 : decode cX6_join 1 = .ok (.aload_n 0, 1) := by decide +kernel
theorem dX6_join_2 : decode cX6_join 2 = .ok (.getfield 10, 3) := by decide +kernel
theorem dX6_join_5 : decode cX6_join 5 = .ok (.iconst 2, 1) := by decide +kernel
theorem dX6_join_6 : decode cX6_join 6 = .ok (.iload_n 1, 1) := by decide +kernel
theorem dX6_join_7 : decode cX6_join 7 = .ok (.iload_n 2, 1) := by decide +kernel
theorem dX6_join_8 : decode cX6_join 8 = .ok (.lconst 0, 1) := by decide +kernel
theorem dX6_join_9 : decode cX6_join 9 = .ok (.invokevirtual 49, 3) := by decide +kernel
theorem dX6_join_12 : decode cX6_join 12 = .ok (.invokevirtual 53, 3) := by decide +kernel
theorem dX6_join_15 : decode cX6_join 15 = .ok (.ireturn, 1) := by decide +kernel
theorem dX6_leave_0 : decode cX6_leave 0 = .ok (.aload_n 0, 1) := by decide +kernel
theorem dX6_leave_1 : decode cX6_leave 1 = .ok (.aload_n 0, 1) := by decide +kernel
theorem dX6_leave_2 : decode cX6_leave 2 = .ok (.getfield 10, 3) := by decide +kernel
theorem dX6_leave_5 : decode cX6_leave 5 = .ok (.iconst 3, 1) := by decide +kernel
theorem dX6_leave_6 : decode cX6_leave 6 = .ok (.iload_n 1, 1) := by decide +kernel
theorem dX6_leave_7 : decode cX6_leave 7 = .ok (.iconst 0, 1) := by decide +kernel
theorem dX6_leave_8 : decode cX6_leave 8 = .ok (.lconst 0, 1) := by decide +kernel
theorem dX6_leave_9 : decode cX6_leave 9 = .ok (.invokevirtual 49, 3) := by decide +kernel
theorem dX6_leave_12 : decode cX6_leave 12 = .ok (.invokevirtual 53, 3) := by decide +kernel
theorem dX6_leave_15 : decode cX6_leave 15 = .ok (.ireturn, 1) := by decide +kernel
theorem dX6_turn_0 : decode cX6_turn 0 = .ok (.aload_n 0, 1) := by decide +kernel
theorem dX6_turn_1 : decode cX6_turn 1 = .ok (.aload_n 0, 1) := by decide +kernel
theorem dX6_turn_2 : decode cX6_turn 2 = .ok (.getfield 10, 3) := by decide +kernel
theorem dX6_turn_5 : decode cX6_turn 5 = .ok (.iconst 4, 1) := by decide +kernel
theorem dX6_turn_6 : decode cX6_turn 6 = .ok (.iload_n 1, 1) := by decide +kernel
theorem dX6_turn_7 : decode cX6_turn 7 = .ok (.iconst 0, 1) := by decide +kernel
theorem dX6_turn_8 : decode cX6_turn 8 = .ok (.lconst 0, 1) := by decide +kernel
theorem dX6_turn_9 : decode cX6_turn 9 = .ok (.invokevirtual 49, 3) := by decide +kernel
theorem dX6_turn_12 : decode cX6_turn 12 = .ok (.invokevirtual 53, 3) := by decide +kernel
theorem dX6_turn_15 : decode cX6_turn 15 = .ok (.ireturn, 1) := by decide +kernel
theorem dX6_fall_0 : decode cX6_fall 0 = .ok (.aload_n 0, 1) := by decide +kernel
theorem dX6_fall_1 : decode cX6_fall 1 = .ok (.aload_n 0, 1) := by decide +kernel
theorem dX6_fall_2 : decode cX6_fall 2 = .ok (.getfield 10, 3) := by decide +kernel
theorem dX6_fall_5 : decode cX6_fall 5 = .ok (.iconst 5, 1) := by decide +kernel
theorem dX6_fall_6 : decode cX6_fall 6 = .ok (.iload_n 1, 1) := by decide +kernel
theorem dX6_fall_7 : decode cX6_fall 7 = .ok (.iconst 0, 1) := by decide +kernel
theorem dX6_fall_8 : decode cX6_fall 8 = .ok (.lconst 0, 1) := by decide +kernel
theorem dX6_fall_9 : decode cX6_fall 9 = .ok (.invokevirtual 49, 3) := by decide +kernel
theorem dX6_fall_12 : decode cX6_fall 12 = .ok (.invokevirtual 53, 3) := by decide +kernel
theorem dX6_fall_15 : decode cX6_fall 15 = .ok (.ireturn, 1) := by decide +kernel
theorem dX6_rise_0 : decode cX6_rise 0 = .ok (.aload_n 0, 1) := by decide +kernel
theorem dX6_rise_1 : decode cX6_rise 1 = .ok (.aload_n 0, 1) := by decide +kernel
theorem dX6_rise_2 : decode cX6_rise 2 = .ok (.getfield 10, 3) := by decide +kernel
theorem dX6_rise_5 : decode cX6_rise 5 = .ok (.bipush 6, 2) := by decide +kernel
theorem dX6_rise_7 : decode cX6_rise 7 = .ok (.iload_n 1, 1) := by decide +kernel
theorem dX6_rise_8 : decode cX6_rise 8 = .ok (.iconst 0, 1) := by decide +kernel
theorem dX6_rise_9 : decode cX6_rise 9 = .ok (.lconst 0, 1) := by decide +kernel
theorem dX6_rise_10 : decode cX6_rise 10 = .ok (.invokevirtual 49, 3) := by decide +kernel
theorem dX6_rise_13 : decode cX6_rise 13 = .ok (.invokevirtual 53, 3) := by decide +kernel
theorem dX6_rise_16 : decode cX6_rise 16 = .ok (.ireturn, 1) := by decide +kernel
theorem dX6_deliver_0 : decode cX6_deliver 0 = .ok (.aload_n 0, 1) := by decide +kernel
theorem dX6_deliver_1 : decode cX6_deliver 1 = .ok (.aload_n 0, 1) := by decide +kernel
theorem dX6_deliver_2 : decode cX6_deliver 2 = .ok (.getfield 10, 3) := by decide +kernel
theorem dX6_deliver_5 : decode cX6_deliver 5 = .ok (.bipush 7, 2) := by decide +kernel
theorem dX6_deliver_7 : decode cX6_deliver 7 = .ok (.iload_n 1, 1) := by decide +kernel
theorem dX6_deliver_8 : decode cX6_deliver 8 = .ok (.iconst 0, 1) := by decide +kernel
theorem dX6_deliver_9 : decode cX6_deliver 9 = .ok (.lconst 0, 1) := by decide +kernel
theorem dX6_deliver_10 : decode cX6_deliver 10 = .ok (.invokevirtual 49, 3) := by decide +kernel
theorem dX6_deliver_13 : decode cX6_deliver 13 = .ok (.invokevirtual 53, 3) := by decide +kernel
theorem dX6_deliver_16 : decode cX6_deliver 16 = .ok (.ireturn, 1) := by decide +kernel
theorem dX6_lose_0 : decode cX6_lose 0 = .ok (.aload_n 0, 1) := by decide +kernel
theorem dX6_lose_1 : decode cX6_lose 1 = .ok (.aload_n 0, 1) := by decide +kernel
theorem dX6_lose_2 : decode cX6_lose 2 = .ok (.getfield 10, 3) := by decide +kernel
theorem dX6_lose_5 : decode cX6_lose 5 = .ok (.bipush 8, 2) := by decide +kernel
theorem dX6_lose_7 : decode cX6_lose 7 = .ok (.iload_n 1, 1) := by decide +kernel
theorem dX6_lose_8 : decode cX6_lose 8 = .ok (.iconst 0, 1) := by decide +kernel
theorem dX6_lose_9 : decode cX6_lose 9 = .ok (.lconst 0, 1) := by decide +kernel
theorem dX6_lose_10 : decode cX6_lose 10 = .ok (.invokevirtual 49, 3) := by decide +kernel
theorem dX6_lose_13 : decode cX6_lose 13 = .ok (.invokevirtual 53, 3) := by decide +kernel
theorem dX6_lose_16 : decode cX6_lose 16 = .ok (.ireturn, 1) := by decide +kernel
theorem dX6_twice_0 : decode cX6_twice 0 = .ok (.aload_n 0, 1) := by decide +kernel
theorem dX6_twice_1 : decode cX6_twice 1 = .ok (.aload_n 0, 1) := by decide +kernel
theorem dX6_twice_2 : decode cX6_twice 2 = .ok (.getfield 10, 3) := by decide +kernel
theorem dX6_twice_5 : decode cX6_twice 5 = .ok (.bipush 9, 2) := by decide +kernel
theorem dX6_twice_7 : decode cX6_twice 7 = .ok (.iload_n 1, 1) := by decide +kernel
theorem dX6_twice_8 : decode cX6_twice 8 = .ok (.iconst 0, 1) := by decide +kernel
theorem dX6_twice_9 : decode cX6_twice 9 = .ok (.lconst 0, 1) := by decide +kernel
theorem dX6_twice_10 : decode cX6_twice 10 = .ok (.invokevirtual 49, 3) := by decide +kernel
theorem dX6_twice_13 : decode cX6_twice 13 = .ok (.invokevirtual 53, 3) := by decide +kernel
theorem dX6_twice_16 : decode cX6_twice 16 = .ok (.ireturn, 1) := by decide +kernel
theorem dX6_cut_0 : decode cX6_cut 0 = .ok (.aload_n 0, 1) := by decide +kernel
theorem dX6_cut_1 : decode cX6_cut 1 = .ok (.aload_n 0, 1) := by decide +kernel
theorem dX6_cut_2 : decode cX6_cut 2 = .ok (.getfield 10, 3) := by decide +kernel
theorem dX6_cut_5 : decode cX6_cut 5 = .ok (.bipush 10, 2) := by decide +kernel
theorem dX6_cut_7 : decode cX6_cut 7 = .ok (.iload_n 1, 1) := by decide +kernel
theorem dX6_cut_8 : decode cX6_cut 8 = .ok (.iload_n 2, 1) := by decide +kernel
theorem dX6_cut_9 : decode cX6_cut 9 = .ok (.lconst 0, 1) := by decide +kernel
theorem dX6_cut_10 : decode cX6_cut 10 = .ok (.invokevirtual 49, 3) := by decide +kernel
theorem dX6_cut_13 : decode cX6_cut 13 = .ok (.invokevirtual 53, 3) := by decide +kernel
theorem dX6_cut_16 : decode cX6_cut 16 = .ok (.ireturn, 1) := by decide +kernel
theorem dX6_heal_0 : decode cX6_heal 0 = .ok (.aload_n 0, 1) := by decide +kernel
theorem dX6_heal_1 : decode cX6_heal 1 = .ok (.aload_n 0, 1) := by decide +kernel
theorem dX6_heal_2 : decode cX6_heal 2 = .ok (.getfield 10, 3) := by decide +kernel
theorem dX6_heal_5 : decode cX6_heal 5 = .ok (.bipush 11, 2) := by decide +kernel
theorem dX6_heal_7 : decode cX6_heal 7 = .ok (.iload_n 1, 1) := by decide +kernel
theorem dX6_heal_8 : decode cX6_heal 8 = .ok (.iload_n 2, 1) := by decide +kernel
theorem dX6_heal_9 : decode cX6_heal 9 = .ok (.lconst 0, 1) := by decide +kernel
theorem dX6_heal_10 : decode cX6_heal 10 = .ok (.invokevirtual 49, 3) := by decide +kernel
theorem dX6_heal_13 : decode cX6_heal 13 = .ok (.invokevirtual 53, 3) := by decide +kernel
theorem dX6_heal_16 : decode cX6_heal 16 = .ok (.ireturn, 1) := by decide +kernel
theorem dX6_letters_0 : decode cX6_letters 0 = .ok (.aload_n 0, 1) := by decide +kernel
theorem dX6_letters_1 : decode cX6_letters 1 = .ok (.getfield 10, 3) := by decide +kernel
theorem dX6_letters_4 : decode cX6_letters 4 = .ok (.getfield 57, 3) := by decide +kernel
theorem dX6_letters_7 : decode cX6_letters 7 = .ok (.astore_n 2, 1) := by decide +kernel
theorem dX6_letters_8 : decode cX6_letters 8 = .ok (.iload_n 1, 1) := by decide +kernel
theorem dX6_letters_9 : decode cX6_letters 9 = .ok (.tableswitch 63 0 4 #[35, 40, 45, 50, 55], 35) := by decide +kernel
theorem dX6_letters_44 : decode cX6_letters 44 = .ok (.aload_n 2, 1) := by decide +kernel
theorem dX6_letters_45 : decode cX6_letters 45 = .ok (.invokevirtual 61, 3) := by decide +kernel
theorem dX6_letters_48 : decode cX6_letters 48 = .ok (.ireturn, 1) := by decide +kernel
theorem dX6_letters_49 : decode cX6_letters 49 = .ok (.aload_n 2, 1) := by decide +kernel
theorem dX6_letters_50 : decode cX6_letters 50 = .ok (.invokevirtual 67, 3) := by decide +kernel
theorem dX6_letters_53 : decode cX6_letters 53 = .ok (.ireturn, 1) := by decide +kernel
theorem dX6_letters_54 : decode cX6_letters 54 = .ok (.aload_n 2, 1) := by decide +kernel
theorem dX6_letters_55 : decode cX6_letters 55 = .ok (.getfield 70, 3) := by decide +kernel
theorem dX6_letters_58 : decode cX6_letters 58 = .ok (.ireturn, 1) := by decide +kernel
theorem dX6_letters_59 : decode cX6_letters 59 = .ok (.aload_n 2, 1) := by decide +kernel
theorem dX6_letters_60 : decode cX6_letters 60 = .ok (.getfield 74, 3) := by decide +kernel
theorem dX6_letters_63 : decode cX6_letters 63 = .ok (.ireturn, 1) := by decide +kernel
theorem dX6_letters_64 : decode cX6_letters 64 = .ok (.aload_n 2, 1) := by decide +kernel
theorem dX6_letters_65 : decode cX6_letters 65 = .ok (.getfield 77, 3) := by decide +kernel
theorem dX6_letters_68 : decode cX6_letters 68 = .ok (.getfield 81, 3) := by decide +kernel
theorem dX6_letters_71 : decode cX6_letters 71 = .ok (.ireturn, 1) := by decide +kernel
theorem dX6_letters_72 : decode cX6_letters 72 = .ok (.aload_n 0, 1) := by decide +kernel
theorem dX6_letters_73 : decode cX6_letters 73 = .ok (.bipush (-9), 2) := by decide +kernel
theorem dX6_letters_75 : decode cX6_letters 75 = .ok (.invokevirtual 86, 3) := by decide +kernel
theorem dX6_letters_78 : decode cX6_letters 78 = .ok (.ireturn, 1) := by decide +kernel
theorem dX6_underWay_0 : decode cX6_underWay 0 = .ok (.iload_n 1, 1) := by decide +kernel
theorem dX6_underWay_1 : decode cX6_underWay 1 = .ok (.ifCond .ge 10, 3) := by decide +kernel
theorem dX6_underWay_4 : decode cX6_underWay 4 = .ok (.aload_n 0, 1) := by decide +kernel
theorem dX6_underWay_5 : decode cX6_underWay 5 = .ok (.bipush (-3), 2) := by decide +kernel
theorem dX6_underWay_7 : decode cX6_underWay 7 = .ok (.invokevirtual 86, 3) := by decide +kernel
theorem dX6_underWay_10 : decode cX6_underWay 10 = .ok (.ireturn, 1) := by decide +kernel
theorem dX6_underWay_11 : decode cX6_underWay 11 = .ok (.aload_n 0, 1) := by decide +kernel
theorem dX6_underWay_12 : decode cX6_underWay 12 = .ok (.getfield 10, 3) := by decide +kernel
theorem dX6_underWay_15 : decode cX6_underWay 15 = .ok (.getfield 57, 3) := by decide +kernel
theorem dX6_underWay_18 : decode cX6_underWay 18 = .ok (.iload_n 1, 1) := by decide +kernel
theorem dX6_underWay_19 : decode cX6_underWay 19 = .ok (.invokevirtual 89, 3) := by decide +kernel
theorem dX6_underWay_22 : decode cX6_underWay 22 = .ok (.ireturn, 1) := by decide +kernel
theorem dX6_letter_0 : decode cX6_letter 0 = .ok (.aload_n 0, 1) := by decide +kernel
theorem dX6_letter_1 : decode cX6_letter 1 = .ok (.getfield 10, 3) := by decide +kernel
theorem dX6_letter_4 : decode cX6_letter 4 = .ok (.getfield 57, 3) := by decide +kernel
theorem dX6_letter_7 : decode cX6_letter 7 = .ok (.iload_n 1, 1) := by decide +kernel
theorem dX6_letter_8 : decode cX6_letter 8 = .ok (.invokevirtual 92, 3) := by decide +kernel
theorem dX6_letter_11 : decode cX6_letter 11 = .ok (.ifCond .ne 10, 3) := by decide +kernel
theorem dX6_letter_14 : decode cX6_letter 14 = .ok (.aload_n 0, 1) := by decide +kernel
theorem dX6_letter_15 : decode cX6_letter 15 = .ok (.bipush (-3), 2) := by decide +kernel
theorem dX6_letter_17 : decode cX6_letter 17 = .ok (.invokevirtual 86, 3) := by decide +kernel
theorem dX6_letter_20 : decode cX6_letter 20 = .ok (.ireturn, 1) := by decide +kernel
theorem dX6_letter_21 : decode cX6_letter 21 = .ok (.iload_n 2, 1) := by decide +kernel
theorem dX6_letter_22 : decode cX6_letter 22 = .ok (.ifCond .lt 9, 3) := by decide +kernel
theorem dX6_letter_25 : decode cX6_letter 25 = .ok (.iload_n 2, 1) := by decide +kernel
theorem dX6_letter_26 : decode cX6_letter 26 = .ok (.bipush 6, 2) := by decide +kernel
theorem dX6_letter_28 : decode cX6_letter 28 = .ok (.if_icmp .le 10, 3) := by decide +kernel
theorem dX6_letter_31 : decode cX6_letter 31 = .ok (.aload_n 0, 1) := by decide +kernel
theorem dX6_letter_32 : decode cX6_letter 32 = .ok (.bipush (-9), 2) := by decide +kernel
theorem dX6_letter_34 : decode cX6_letter 34 = .ok (.invokevirtual 86, 3) := by decide +kernel
theorem dX6_letter_37 : decode cX6_letter 37 = .ok (.ireturn, 1) := by decide +kernel
theorem dX6_letter_38 : decode cX6_letter 38 = .ok (.aload_n 0, 1) := by decide +kernel
theorem dX6_letter_39 : decode cX6_letter 39 = .ok (.getfield 10, 3) := by decide +kernel
theorem dX6_letter_42 : decode cX6_letter 42 = .ok (.getfield 57, 3) := by decide +kernel
theorem dX6_letter_45 : decode cX6_letter 45 = .ok (.iload_n 1, 1) := by decide +kernel
theorem dX6_letter_46 : decode cX6_letter 46 = .ok (.iload_n 2, 1) := by decide +kernel
theorem dX6_letter_47 : decode cX6_letter 47 = .ok (.invokevirtual 96, 3) := by decide +kernel
theorem dX6_letter_50 : decode cX6_letter 50 = .ok (.ireturn, 1) := by decide +kernel
theorem dX6_carries_0 : decode cX6_carries 0 = .ok (.aload_n 0, 1) := by decide +kernel
theorem dX6_carries_1 : decode cX6_carries 1 = .ok (.getfield 10, 3) := by decide +kernel
theorem dX6_carries_4 : decode cX6_carries 4 = .ok (.getfield 57, 3) := by decide +kernel
theorem dX6_carries_7 : decode cX6_carries 7 = .ok (.astore 4, 2) := by decide +kernel
theorem dX6_carries_9 : decode cX6_carries 9 = .ok (.aload 4, 2) := by decide +kernel
theorem dX6_carries_11 : decode cX6_carries 11 = .ok (.iload_n 1, 1) := by decide +kernel
theorem dX6_carries_12 : decode cX6_carries 12 = .ok (.invokevirtual 92, 3) := by decide +kernel
theorem dX6_carries_15 : decode cX6_carries 15 = .ok (.ifCond .eq 18, 3) := by decide +kernel
theorem dX6_carries_18 : decode cX6_carries 18 = .ok (.iload_n 2, 1) := by decide +kernel
theorem dX6_carries_19 : decode cX6_carries 19 = .ok (.ifCond .lt 14, 3) := by decide +kernel
theorem dX6_carries_22 : decode cX6_carries 22 = .ok (.iload_n 2, 1) := by decide +kernel
theorem dX6_carries_23 : decode cX6_carries 23 = .ok (.aload 4, 2) := by decide +kernel
theorem dX6_carries_25 : decode cX6_carries 25 = .ok (.iload_n 1, 1) := by decide +kernel
theorem dX6_carries_26 : decode cX6_carries 26 = .ok (.iconst 4, 1) := by decide +kernel
theorem dX6_carries_27 : decode cX6_carries 27 = .ok (.invokevirtual 96, 3) := by decide +kernel
theorem dX6_carries_30 : decode cX6_carries 30 = .ok (.if_icmp .lt 10, 3) := by decide +kernel
theorem dX6_carries_33 : decode cX6_carries 33 = .ok (.aload_n 0, 1) := by decide +kernel
theorem dX6_carries_34 : decode cX6_carries 34 = .ok (.bipush (-3), 2) := by decide +kernel
theorem dX6_carries_36 : decode cX6_carries 36 = .ok (.invokevirtual 86, 3) := by decide +kernel
theorem dX6_carries_39 : decode cX6_carries 39 = .ok (.ireturn, 1) := by decide +kernel
theorem dX6_carries_40 : decode cX6_carries 40 = .ok (.iload_n 3, 1) := by decide +kernel
theorem dX6_carries_41 : decode cX6_carries 41 = .ok (.ifCond .lt 8, 3) := by decide +kernel
theorem dX6_carries_44 : decode cX6_carries 44 = .ok (.iload_n 3, 1) := by decide +kernel
theorem dX6_carries_45 : decode cX6_carries 45 = .ok (.iconst 3, 1) := by decide +kernel
theorem dX6_carries_46 : decode cX6_carries 46 = .ok (.if_icmp .le 10, 3) := by decide +kernel
theorem dX6_carries_49 : decode cX6_carries 49 = .ok (.aload_n 0, 1) := by decide +kernel
theorem dX6_carries_50 : decode cX6_carries 50 = .ok (.bipush (-9), 2) := by decide +kernel
theorem dX6_carries_52 : decode cX6_carries 52 = .ok (.invokevirtual 86, 3) := by decide +kernel
theorem dX6_carries_55 : decode cX6_carries 55 = .ok (.ireturn, 1) := by decide +kernel
theorem dX6_carries_56 : decode cX6_carries 56 = .ok (.aload 4, 2) := by decide +kernel
theorem dX6_carries_58 : decode cX6_carries 58 = .ok (.iload_n 1, 1) := by decide +kernel
theorem dX6_carries_59 : decode cX6_carries 59 = .ok (.iload_n 2, 1) := by decide +kernel
theorem dX6_carries_60 : decode cX6_carries 60 = .ok (.iload_n 3, 1) := by decide +kernel
theorem dX6_carries_61 : decode cX6_carries 61 = .ok (.invokevirtual 100, 3) := by decide +kernel
theorem dX6_carries_64 : decode cX6_carries 64 = .ok (.ireturn, 1) := by decide +kernel
theorem dX6_state_0 : decode cX6_state 0 = .ok (.aload_n 0, 1) := by decide +kernel
theorem dX6_state_1 : decode cX6_state 1 = .ok (.getfield 10, 3) := by decide +kernel
theorem dX6_state_4 : decode cX6_state 4 = .ok (.iload_n 1, 1) := by decide +kernel
theorem dX6_state_5 : decode cX6_state 5 = .ok (.invokevirtual 104, 3) := by decide +kernel
theorem dX6_state_8 : decode cX6_state 8 = .ok (.istore_n 3, 1) := by decide +kernel
theorem dX6_state_9 : decode cX6_state 9 = .ok (.aload_n 0, 1) := by decide +kernel
theorem dX6_state_10 : decode cX6_state 10 = .ok (.getfield 10, 3) := by decide +kernel
theorem dX6_state_13 : decode cX6_state 13 = .ok (.iload_n 1, 1) := by decide +kernel
theorem dX6_state_14 : decode cX6_state 14 = .ok (.invokevirtual 107, 3) := by decide +kernel
theorem dX6_state_17 : decode cX6_state 17 = .ok (.astore 4, 2) := by decide +kernel
theorem dX6_state_19 : decode cX6_state 19 = .ok (.iload_n 3, 1) := by decide +kernel
theorem dX6_state_20 : decode cX6_state 20 = .ok (.ifCond .ne 8, 3) := by decide +kernel
theorem dX6_state_23 : decode cX6_state 23 = .ok (.aload 4, 2) := by decide +kernel
theorem dX6_state_25 : decode cX6_state 25 = .ok (.ifnonnull 9, 3) := by decide +kernel
theorem dX6_state_28 : decode cX6_state 28 = .ok (.aload_n 0, 1) := by decide +kernel
theorem dX6_state_29 : decode cX6_state 29 = .ok (.iload_n 3, 1) := by decide +kernel
theorem dX6_state_30 : decode cX6_state 30 = .ok (.invokevirtual 86, 3) := by decide +kernel
theorem dX6_state_33 : decode cX6_state 33 = .ok (.ireturn, 1) := by decide +kernel
theorem dX6_state_34 : decode cX6_state 34 = .ok (.iload_n 2, 1) := by decide +kernel
theorem dX6_state_35 : decode cX6_state 35 = .ok (.tableswitch 141 0 11 #[61, 67, 73, 79, 89, 96, 103, 110, 117, 123, 129, 135], 61) := by decide +kernel
theorem dX6_state_96 : decode cX6_state 96 = .ok (.aload 4, 2) := by decide +kernel
theorem dX6_state_98 : decode cX6_state 98 = .ok (.getfield 111, 3) := by decide +kernel
theorem dX6_state_101 : decode cX6_state 101 = .ok (.ireturn, 1) := by decide +kernel
theorem dX6_state_102 : decode cX6_state 102 = .ok (.aload 4, 2) := by decide +kernel
theorem dX6_state_104 : decode cX6_state 104 = .ok (.getfield 116, 3) := by decide +kernel
theorem dX6_state_107 : decode cX6_state 107 = .ok (.ireturn, 1) := by decide +kernel
theorem dX6_state_108 : decode cX6_state 108 = .ok (.aload 4, 2) := by decide +kernel
theorem dX6_state_110 : decode cX6_state 110 = .ok (.getfield 119, 3) := by decide +kernel
theorem dX6_state_113 : decode cX6_state 113 = .ok (.ireturn, 1) := by decide +kernel
theorem dX6_state_114 : decode cX6_state 114 = .ok (.bipush 64, 2) := by decide +kernel
theorem dX6_state_116 : decode cX6_state 116 = .ok (.aload 4, 2) := by decide +kernel
theorem dX6_state_118 : decode cX6_state 118 = .ok (.iconst 0, 1) := by decide +kernel
theorem dX6_state_119 : decode cX6_state 119 = .ok (.invokevirtual 122, 3) := by decide +kernel
theorem dX6_state_122 : decode cX6_state 122 = .ok (.isub, 1) := by decide +kernel
theorem dX6_state_123 : decode cX6_state 123 = .ok (.ireturn, 1) := by decide +kernel
theorem dX6_state_124 : decode cX6_state 124 = .ok (.aload 4, 2) := by decide +kernel
theorem dX6_state_126 : decode cX6_state 126 = .ok (.iconst 1, 1) := by decide +kernel
theorem dX6_state_127 : decode cX6_state 127 = .ok (.invokevirtual 122, 3) := by decide +kernel
theorem dX6_state_130 : decode cX6_state 130 = .ok (.ireturn, 1) := by decide +kernel
theorem dX6_state_131 : decode cX6_state 131 = .ok (.aload 4, 2) := by decide +kernel
theorem dX6_state_133 : decode cX6_state 133 = .ok (.iconst 2, 1) := by decide +kernel
theorem dX6_state_134 : decode cX6_state 134 = .ok (.invokevirtual 122, 3) := by decide +kernel
theorem dX6_state_137 : decode cX6_state 137 = .ok (.ireturn, 1) := by decide +kernel
theorem dX6_state_138 : decode cX6_state 138 = .ok (.aload 4, 2) := by decide +kernel
theorem dX6_state_140 : decode cX6_state 140 = .ok (.iconst 3, 1) := by decide +kernel
theorem dX6_state_141 : decode cX6_state 141 = .ok (.invokevirtual 122, 3) := by decide +kernel
theorem dX6_state_144 : decode cX6_state 144 = .ok (.ireturn, 1) := by decide +kernel
theorem dX6_state_145 : decode cX6_state 145 = .ok (.aload 4, 2) := by decide +kernel
theorem dX6_state_147 : decode cX6_state 147 = .ok (.iconst 4, 1) := by decide +kernel
theorem dX6_state_148 : decode cX6_state 148 = .ok (.invokevirtual 122, 3) := by decide +kernel
theorem dX6_state_151 : decode cX6_state 151 = .ok (.ireturn, 1) := by decide +kernel
theorem dX6_state_152 : decode cX6_state 152 = .ok (.aload 4, 2) := by decide +kernel
theorem dX6_state_154 : decode cX6_state 154 = .ok (.getfield 125, 3) := by decide +kernel
theorem dX6_state_157 : decode cX6_state 157 = .ok (.ireturn, 1) := by decide +kernel
theorem dX6_state_158 : decode cX6_state 158 = .ok (.aload 4, 2) := by decide +kernel
theorem dX6_state_160 : decode cX6_state 160 = .ok (.getfield 128, 3) := by decide +kernel
theorem dX6_state_163 : decode cX6_state 163 = .ok (.ireturn, 1) := by decide +kernel
theorem dX6_state_164 : decode cX6_state 164 = .ok (.aload 4, 2) := by decide +kernel
theorem dX6_state_166 : decode cX6_state 166 = .ok (.getfield 131, 3) := by decide +kernel
theorem dX6_state_169 : decode cX6_state 169 = .ok (.ireturn, 1) := by decide +kernel
theorem dX6_state_170 : decode cX6_state 170 = .ok (.aload 4, 2) := by decide +kernel
theorem dX6_state_172 : decode cX6_state 172 = .ok (.getfield 134, 3) := by decide +kernel
theorem dX6_state_175 : decode cX6_state 175 = .ok (.ireturn, 1) := by decide +kernel
theorem dX6_state_176 : decode cX6_state 176 = .ok (.aload_n 0, 1) := by decide +kernel
theorem dX6_state_177 : decode cX6_state 177 = .ok (.bipush (-9), 2) := by decide +kernel
theorem dX6_state_179 : decode cX6_state 179 = .ok (.invokevirtual 86, 3) := by decide +kernel
theorem dX6_state_182 : decode cX6_state 182 = .ok (.ireturn, 1) := by decide +kernel
theorem dX6_news_0 : decode cX6_news 0 = .ok (.aload_n 0, 1) := by decide +kernel
theorem dX6_news_1 : decode cX6_news 1 = .ok (.getfield 10, 3) := by decide +kernel
theorem dX6_news_4 : decode cX6_news 4 = .ok (.iload_n 1, 1) := by decide +kernel
theorem dX6_news_5 : decode cX6_news 5 = .ok (.iload_n 2, 1) := by decide +kernel
theorem dX6_news_6 : decode cX6_news 6 = .ok (.invokevirtual 137, 3) := by decide +kernel
theorem dX6_news_9 : decode cX6_news 9 = .ok (.istore 4, 2) := by decide +kernel
theorem dX6_news_11 : decode cX6_news 11 = .ok (.aload_n 0, 1) := by decide +kernel
theorem dX6_news_12 : decode cX6_news 12 = .ok (.getfield 10, 3) := by decide +kernel
theorem dX6_news_15 : decode cX6_news 15 = .ok (.iload_n 1, 1) := by decide +kernel
theorem dX6_news_16 : decode cX6_news 16 = .ok (.invokevirtual 107, 3) := by decide +kernel
theorem dX6_news_19 : decode cX6_news 19 = .ok (.astore 5, 2) := by decide +kernel
theorem dX6_news_21 : decode cX6_news 21 = .ok (.iload 4, 2) := by decide +kernel
theorem dX6_news_23 : decode cX6_news 23 = .ok (.ifCond .ne 8, 3) := by decide +kernel
theorem dX6_news_26 : decode cX6_news 26 = .ok (.aload 5, 2) := by decide +kernel
theorem dX6_news_28 : decode cX6_news 28 = .ok (.ifnonnull 10, 3) := by decide +kernel
theorem dX6_news_31 : decode cX6_news 31 = .ok (.aload_n 0, 1) := by decide +kernel
theorem dX6_news_32 : decode cX6_news 32 = .ok (.iload 4, 2) := by decide +kernel
theorem dX6_news_34 : decode cX6_news 34 = .ok (.invokevirtual 86, 3) := by decide +kernel
theorem dX6_news_37 : decode cX6_news 37 = .ok (.ireturn, 1) := by decide +kernel
theorem dX6_news_38 : decode cX6_news 38 = .ok (.iload_n 3, 1) := by decide +kernel
theorem dX6_news_39 : decode cX6_news 39 = .ok (.tableswitch 73 0 4 #[33, 41, 49, 57, 65], 33) := by decide +kernel
theorem dX6_news_72 : decode cX6_news 72 = .ok (.aload 5, 2) := by decide +kernel
theorem dX6_news_74 : decode cX6_news 74 = .ok (.getfield 140, 3) := by decide +kernel
theorem dX6_news_77 : decode cX6_news 77 = .ok (.iload_n 2, 1) := by decide +kernel
theorem dX6_news_78 : decode cX6_news 78 = .ok (.iaload, 1) := by decide +kernel
theorem dX6_news_79 : decode cX6_news 79 = .ok (.ireturn, 1) := by decide +kernel
theorem dX6_news_80 : decode cX6_news 80 = .ok (.aload 5, 2) := by decide +kernel
theorem dX6_news_82 : decode cX6_news 82 = .ok (.getfield 143, 3) := by decide +kernel
theorem dX6_news_85 : decode cX6_news 85 = .ok (.iload_n 2, 1) := by decide +kernel
theorem dX6_news_86 : decode cX6_news 86 = .ok (.iaload, 1) := by decide +kernel
theorem dX6_news_87 : decode cX6_news 87 = .ok (.ireturn, 1) := by decide +kernel
theorem dX6_news_88 : decode cX6_news 88 = .ok (.aload 5, 2) := by decide +kernel
theorem dX6_news_90 : decode cX6_news 90 = .ok (.getfield 146, 3) := by decide +kernel
theorem dX6_news_93 : decode cX6_news 93 = .ok (.iload_n 2, 1) := by decide +kernel
theorem dX6_news_94 : decode cX6_news 94 = .ok (.iaload, 1) := by decide +kernel
theorem dX6_news_95 : decode cX6_news 95 = .ok (.ireturn, 1) := by decide +kernel
theorem dX6_news_96 : decode cX6_news 96 = .ok (.aload 5, 2) := by decide +kernel
theorem dX6_news_98 : decode cX6_news 98 = .ok (.getfield 149, 3) := by decide +kernel
theorem dX6_news_101 : decode cX6_news 101 = .ok (.iload_n 2, 1) := by decide +kernel
theorem dX6_news_102 : decode cX6_news 102 = .ok (.iaload, 1) := by decide +kernel
theorem dX6_news_103 : decode cX6_news 103 = .ok (.ireturn, 1) := by decide +kernel
theorem dX6_news_104 : decode cX6_news 104 = .ok (.aload 5, 2) := by decide +kernel
theorem dX6_news_106 : decode cX6_news 106 = .ok (.getfield 152, 3) := by decide +kernel
theorem dX6_news_109 : decode cX6_news 109 = .ok (.iload_n 2, 1) := by decide +kernel
theorem dX6_news_110 : decode cX6_news 110 = .ok (.iaload, 1) := by decide +kernel
theorem dX6_news_111 : decode cX6_news 111 = .ok (.ireturn, 1) := by decide +kernel
theorem dX6_news_112 : decode cX6_news 112 = .ok (.aload_n 0, 1) := by decide +kernel
theorem dX6_news_113 : decode cX6_news 113 = .ok (.bipush (-9), 2) := by decide +kernel
theorem dX6_news_115 : decode cX6_news 115 = .ok (.invokevirtual 86, 3) := by decide +kernel
theorem dX6_news_118 : decode cX6_news 118 = .ok (.ireturn, 1) := by decide +kernel
theorem dX6_as_0 : decode cX6_as 0 = .ok (.aload_n 0, 1) := by decide +kernel
theorem dX6_as_1 : decode cX6_as 1 = .ok (.getfield 10, 3) := by decide +kernel
theorem dX6_as_4 : decode cX6_as 4 = .ok (.iload_n 1, 1) := by decide +kernel
theorem dX6_as_5 : decode cX6_as 5 = .ok (.iload_n 2, 1) := by decide +kernel
theorem dX6_as_6 : decode cX6_as 6 = .ok (.invokevirtual 137, 3) := by decide +kernel
theorem dX6_as_9 : decode cX6_as 9 = .ok (.istore 4, 2) := by decide +kernel
theorem dX6_as_11 : decode cX6_as 11 = .ok (.aload_n 0, 1) := by decide +kernel
theorem dX6_as_12 : decode cX6_as 12 = .ok (.getfield 10, 3) := by decide +kernel
theorem dX6_as_15 : decode cX6_as 15 = .ok (.iload_n 1, 1) := by decide +kernel
theorem dX6_as_16 : decode cX6_as 16 = .ok (.invokevirtual 107, 3) := by decide +kernel
theorem dX6_as_19 : decode cX6_as 19 = .ok (.astore 5, 2) := by decide +kernel
theorem dX6_as_21 : decode cX6_as 21 = .ok (.iload 4, 2) := by decide +kernel
theorem dX6_as_23 : decode cX6_as 23 = .ok (.ifCond .ne 8, 3) := by decide +kernel
theorem dX6_as_26 : decode cX6_as 26 = .ok (.aload 5, 2) := by decide +kernel
theorem dX6_as_28 : decode cX6_as 28 = .ok (.ifnonnull 10, 3) := by decide +kernel
theorem dX6_as_31 : decode cX6_as 31 = .ok (.aload_n 0, 1) := by decide +kernel
theorem dX6_as_32 : decode cX6_as 32 = .ok (.iload 4, 2) := by decide +kernel
theorem dX6_as_34 : decode cX6_as 34 = .ok (.invokevirtual 86, 3) := by decide +kernel
theorem dX6_as_37 : decode cX6_as 37 = .ok (.ireturn, 1) := by decide +kernel
theorem dX6_as_38 : decode cX6_as 38 = .ok (.iload_n 3, 1) := by decide +kernel
theorem dX6_as_39 : decode cX6_as 39 = .ok (.iconst 1, 1) := by decide +kernel
theorem dX6_as_40 : decode cX6_as 40 = .ok (.if_icmp .lt 8, 3) := by decide +kernel
theorem dX6_as_43 : decode cX6_as 43 = .ok (.iload_n 3, 1) := by decide +kernel
theorem dX6_as_44 : decode cX6_as 44 = .ok (.iconst 4, 1) := by decide +kernel
theorem dX6_as_45 : decode cX6_as 45 = .ok (.if_icmp .le 10, 3) := by decide +kernel
theorem dX6_as_48 : decode cX6_as 48 = .ok (.aload_n 0, 1) := by decide +kernel
theorem dX6_as_49 : decode cX6_as 49 = .ok (.bipush (-9), 2) := by decide +kernel
theorem dX6_as_51 : decode cX6_as 51 = .ok (.invokevirtual 86, 3) := by decide +kernel
theorem dX6_as_54 : decode cX6_as 54 = .ok (.ireturn, 1) := by decide +kernel
theorem dX6_as_55 : decode cX6_as 55 = .ok (.aload 5, 2) := by decide +kernel
theorem dX6_as_57 : decode cX6_as 57 = .ok (.getfield 140, 3) := by decide +kernel
theorem dX6_as_60 : decode cX6_as 60 = .ok (.iload_n 2, 1) := by decide +kernel
theorem dX6_as_61 : decode cX6_as 61 = .ok (.iaload, 1) := by decide +kernel
theorem dX6_as_62 : decode cX6_as 62 = .ok (.iload_n 3, 1) := by decide +kernel
theorem dX6_as_63 : decode cX6_as 63 = .ok (.if_icmp .ge 10, 3) := by decide +kernel
theorem dX6_as_66 : decode cX6_as 66 = .ok (.aload_n 0, 1) := by decide +kernel
theorem dX6_as_67 : decode cX6_as 67 = .ok (.bipush (-5), 2) := by decide +kernel
theorem dX6_as_69 : decode cX6_as 69 = .ok (.invokevirtual 86, 3) := by decide +kernel
theorem dX6_as_72 : decode cX6_as 72 = .ok (.ireturn, 1) := by decide +kernel
theorem dX6_as_73 : decode cX6_as 73 = .ok (.aload 5, 2) := by decide +kernel
theorem dX6_as_75 : decode cX6_as 75 = .ok (.getfield 143, 3) := by decide +kernel
theorem dX6_as_78 : decode cX6_as 78 = .ok (.iload_n 2, 1) := by decide +kernel
theorem dX6_as_79 : decode cX6_as 79 = .ok (.iaload, 1) := by decide +kernel
theorem dX6_as_80 : decode cX6_as 80 = .ok (.ireturn, 1) := by decide +kernel
theorem dX6_round_0 : decode cX6_round 0 = .ok (.aload_n 0, 1) := by decide +kernel
theorem dX6_round_1 : decode cX6_round 1 = .ok (.getfield 10, 3) := by decide +kernel
theorem dX6_round_4 : decode cX6_round 4 = .ok (.iload_n 1, 1) := by decide +kernel
theorem dX6_round_5 : decode cX6_round 5 = .ok (.invokevirtual 104, 3) := by decide +kernel
theorem dX6_round_8 : decode cX6_round 8 = .ok (.istore_n 3, 1) := by decide +kernel
theorem dX6_round_9 : decode cX6_round 9 = .ok (.aload_n 0, 1) := by decide +kernel
theorem dX6_round_10 : decode cX6_round 10 = .ok (.getfield 10, 3) := by decide +kernel
theorem dX6_round_13 : decode cX6_round 13 = .ok (.iload_n 1, 1) := by decide +kernel
theorem dX6_round_14 : decode cX6_round 14 = .ok (.invokevirtual 107, 3) := by decide +kernel
theorem dX6_round_17 : decode cX6_round 17 = .ok (.astore 4, 2) := by decide +kernel
theorem dX6_round_19 : decode cX6_round 19 = .ok (.iload_n 3, 1) := by decide +kernel
theorem dX6_round_20 : decode cX6_round 20 = .ok (.ifCond .ne 8, 3) := by decide +kernel
theorem dX6_round_23 : decode cX6_round 23 = .ok (.aload 4, 2) := by decide +kernel
theorem dX6_round_25 : decode cX6_round 25 = .ok (.ifnonnull 9, 3) := by decide +kernel
theorem dX6_round_28 : decode cX6_round 28 = .ok (.aload_n 0, 1) := by decide +kernel
theorem dX6_round_29 : decode cX6_round 29 = .ok (.iload_n 3, 1) := by decide +kernel
theorem dX6_round_30 : decode cX6_round 30 = .ok (.invokevirtual 86, 3) := by decide +kernel
theorem dX6_round_33 : decode cX6_round 33 = .ok (.ireturn, 1) := by decide +kernel
theorem dX6_round_34 : decode cX6_round 34 = .ok (.iload_n 2, 1) := by decide +kernel
theorem dX6_round_35 : decode cX6_round 35 = .ok (.ifCond .lt 12, 3) := by decide +kernel
theorem dX6_round_38 : decode cX6_round 38 = .ok (.iload_n 2, 1) := by decide +kernel
theorem dX6_round_39 : decode cX6_round 39 = .ok (.aload 4, 2) := by decide +kernel
theorem dX6_round_41 : decode cX6_round 41 = .ok (.getfield 131, 3) := by decide +kernel
theorem dX6_round_44 : decode cX6_round 44 = .ok (.if_icmp .lt 10, 3) := by decide +kernel
theorem dX6_round_47 : decode cX6_round 47 = .ok (.aload_n 0, 1) := by decide +kernel
theorem dX6_round_48 : decode cX6_round 48 = .ok (.bipush (-3), 2) := by decide +kernel
theorem dX6_round_50 : decode cX6_round 50 = .ok (.invokevirtual 86, 3) := by decide +kernel
theorem dX6_round_53 : decode cX6_round 53 = .ok (.ireturn, 1) := by decide +kernel
theorem dX6_round_54 : decode cX6_round 54 = .ok (.aload 4, 2) := by decide +kernel
theorem dX6_round_56 : decode cX6_round 56 = .ok (.getfield 155, 3) := by decide +kernel
theorem dX6_round_59 : decode cX6_round 59 = .ok (.iload_n 2, 1) := by decide +kernel
theorem dX6_round_60 : decode cX6_round 60 = .ok (.iaload, 1) := by decide +kernel
theorem dX6_round_61 : decode cX6_round 61 = .ok (.ireturn, 1) := by decide +kernel
theorem dX6_next_0 : decode cX6_next 0 = .ok (.aload_n 0, 1) := by decide +kernel
theorem dX6_next_1 : decode cX6_next 1 = .ok (.getfield 10, 3) := by decide +kernel
theorem dX6_next_4 : decode cX6_next 4 = .ok (.iload_n 1, 1) := by decide +kernel
theorem dX6_next_5 : decode cX6_next 5 = .ok (.invokevirtual 104, 3) := by decide +kernel
theorem dX6_next_8 : decode cX6_next 8 = .ok (.istore_n 2, 1) := by decide +kernel
theorem dX6_next_9 : decode cX6_next 9 = .ok (.aload_n 0, 1) := by decide +kernel
theorem dX6_next_10 : decode cX6_next 10 = .ok (.getfield 10, 3) := by decide +kernel
theorem dX6_next_13 : decode cX6_next 13 = .ok (.iload_n 1, 1) := by decide +kernel
theorem dX6_next_14 : decode cX6_next 14 = .ok (.invokevirtual 107, 3) := by decide +kernel
theorem dX6_next_17 : decode cX6_next 17 = .ok (.astore_n 3, 1) := by decide +kernel
theorem dX6_next_18 : decode cX6_next 18 = .ok (.iload_n 2, 1) := by decide +kernel
theorem dX6_next_19 : decode cX6_next 19 = .ok (.ifCond .ne 7, 3) := by decide +kernel
theorem dX6_next_22 : decode cX6_next 22 = .ok (.aload_n 3, 1) := by decide +kernel
theorem dX6_next_23 : decode cX6_next 23 = .ok (.ifnonnull 9, 3) := by decide +kernel
theorem dX6_next_26 : decode cX6_next 26 = .ok (.aload_n 0, 1) := by decide +kernel
theorem dX6_next_27 : decode cX6_next 27 = .ok (.iload_n 2, 1) := by decide +kernel
theorem dX6_next_28 : decode cX6_next 28 = .ok (.invokevirtual 86, 3) := by decide +kernel
theorem dX6_next_31 : decode cX6_next 31 = .ok (.ireturn, 1) := by decide +kernel
theorem dX6_next_32 : decode cX6_next 32 = .ok (.aload_n 3, 1) := by decide +kernel
theorem dX6_next_33 : decode cX6_next 33 = .ok (.getfield 111, 3) := by decide +kernel
theorem dX6_next_36 : decode cX6_next 36 = .ok (.ifCond .eq 10, 3) := by decide +kernel
theorem dX6_next_39 : decode cX6_next 39 = .ok (.aload_n 0, 1) := by decide +kernel
theorem dX6_next_40 : decode cX6_next 40 = .ok (.bipush (-8), 2) := by decide +kernel
theorem dX6_next_42 : decode cX6_next 42 = .ok (.invokevirtual 86, 3) := by decide +kernel
theorem dX6_next_45 : decode cX6_next 45 = .ok (.ireturn, 1) := by decide +kernel
theorem dX6_next_46 : decode cX6_next 46 = .ok (.aload_n 3, 1) := by decide +kernel
theorem dX6_next_47 : decode cX6_next 47 = .ok (.aload_n 0, 1) := by decide +kernel
theorem dX6_next_48 : decode cX6_next 48 = .ok (.getfield 40, 3) := by decide +kernel
theorem dX6_next_51 : decode cX6_next 51 = .ok (.invokevirtual 158, 3) := by decide +kernel
theorem dX6_next_54 : decode cX6_next 54 = .ok (.ireturn, 1) := by decide +kernel
theorem dX6_copy_0 : decode cX6_copy 0 = .ok (.aload_n 0, 1) := by decide +kernel
theorem dX6_copy_1 : decode cX6_copy 1 = .ok (.getfield 10, 3) := by decide +kernel
theorem dX6_copy_4 : decode cX6_copy 4 = .ok (.iload_n 1, 1) := by decide +kernel
theorem dX6_copy_5 : decode cX6_copy 5 = .ok (.invokevirtual 104, 3) := by decide +kernel
theorem dX6_copy_8 : decode cX6_copy 8 = .ok (.istore 5, 2) := by decide +kernel
theorem dX6_copy_10 : decode cX6_copy 10 = .ok (.aload_n 0, 1) := by decide +kernel
theorem dX6_copy_11 : decode cX6_copy 11 = .ok (.getfield 10, 3) := by decide +kernel
theorem dX6_copy_14 : decode cX6_copy 14 = .ok (.iload_n 1, 1) := by decide +kernel
theorem dX6_copy_15 : decode cX6_copy 15 = .ok (.invokevirtual 107, 3) := by decide +kernel
theorem dX6_copy_18 : decode cX6_copy 18 = .ok (.astore 6, 2) := by decide +kernel
theorem dX6_copy_20 : decode cX6_copy 20 = .ok (.iload 5, 2) := by decide +kernel
theorem dX6_copy_22 : decode cX6_copy 22 = .ok (.ifCond .ne 8, 3) := by decide +kernel
theorem dX6_copy_25 : decode cX6_copy 25 = .ok (.aload 6, 2) := by decide +kernel
theorem dX6_copy_27 : decode cX6_copy 27 = .ok (.ifnonnull 10, 3) := by decide +kernel
theorem dX6_copy_30 : decode cX6_copy 30 = .ok (.aload_n 0, 1) := by decide +kernel
theorem dX6_copy_31 : decode cX6_copy 31 = .ok (.iload 5, 2) := by decide +kernel
theorem dX6_copy_33 : decode cX6_copy 33 = .ok (.invokevirtual 86, 3) := by decide +kernel
theorem dX6_copy_36 : decode cX6_copy 36 = .ok (.ireturn, 1) := by decide +kernel
theorem dX6_copy_37 : decode cX6_copy 37 = .ok (.iload_n 3, 1) := by decide +kernel
theorem dX6_copy_38 : decode cX6_copy 38 = .ok (.ifCond .ge 10, 3) := by decide +kernel
theorem dX6_copy_41 : decode cX6_copy 41 = .ok (.aload_n 0, 1) := by decide +kernel
theorem dX6_copy_42 : decode cX6_copy 42 = .ok (.bipush (-4), 2) := by decide +kernel
theorem dX6_copy_44 : decode cX6_copy 44 = .ok (.invokevirtual 86, 3) := by decide +kernel
theorem dX6_copy_47 : decode cX6_copy 47 = .ok (.ireturn, 1) := by decide +kernel
theorem dX6_copy_48 : decode cX6_copy 48 = .ok (.iload_n 2, 1) := by decide +kernel
theorem dX6_copy_49 : decode cX6_copy 49 = .ok (.ifCond .lt 28, 3) := by decide +kernel
theorem dX6_copy_52 : decode cX6_copy 52 = .ok (.iload 4, 2) := by decide +kernel
theorem dX6_copy_54 : decode cX6_copy 54 = .ok (.ifCond .lt 23, 3) := by decide +kernel
theorem dX6_copy_57 : decode cX6_copy 57 = .ok (.iload_n 3, 1) := by decide +kernel
theorem dX6_copy_58 : decode cX6_copy 58 = .ok (.aload 6, 2) := by decide +kernel
theorem dX6_copy_60 : decode cX6_copy 60 = .ok (.getfield 131, 3) := by decide +kernel
theorem dX6_copy_63 : decode cX6_copy 63 = .ok (.iload_n 2, 1) := by decide +kernel
theorem dX6_copy_64 : decode cX6_copy 64 = .ok (.isub, 1) := by decide +kernel
theorem dX6_copy_65 : decode cX6_copy 65 = .ok (.if_icmp .gt 12, 3) := by decide +kernel
theorem dX6_copy_68 : decode cX6_copy 68 = .ok (.iload_n 3, 1) := by decide +kernel
theorem dX6_copy_69 : decode cX6_copy 69 = .ok (.bipush 16, 2) := by decide +kernel
theorem dX6_copy_71 : decode cX6_copy 71 = .ok (.iload 4, 2) := by decide +kernel
theorem dX6_copy_73 : decode cX6_copy 73 = .ok (.isub, 1) := by decide +kernel
theorem dX6_copy_74 : decode cX6_copy 74 = .ok (.if_icmp .le 10, 3) := by decide +kernel
theorem dX6_copy_77 : decode cX6_copy 77 = .ok (.aload_n 0, 1) := by decide +kernel
theorem dX6_copy_78 : decode cX6_copy 78 = .ok (.bipush (-6), 2) := by decide +kernel
theorem dX6_copy_80 : decode cX6_copy 80 = .ok (.invokevirtual 86, 3) := by decide +kernel
theorem dX6_copy_83 : decode cX6_copy 83 = .ok (.ireturn, 1) := by decide +kernel
theorem dX6_copy_84 : decode cX6_copy 84 = .ok (.aload 6, 2) := by decide +kernel
theorem dX6_copy_86 : decode cX6_copy 86 = .ok (.getfield 155, 3) := by decide +kernel
theorem dX6_copy_89 : decode cX6_copy 89 = .ok (.iload_n 2, 1) := by decide +kernel
theorem dX6_copy_90 : decode cX6_copy 90 = .ok (.aload_n 0, 1) := by decide +kernel
theorem dX6_copy_91 : decode cX6_copy 91 = .ok (.getfield 30, 3) := by decide +kernel
theorem dX6_copy_94 : decode cX6_copy 94 = .ok (.iload 4, 2) := by decide +kernel
theorem dX6_copy_96 : decode cX6_copy 96 = .ok (.iload_n 3, 1) := by decide +kernel
theorem dX6_copy_97 : decode cX6_copy 97 = .ok (.invokestatic 162, 3) := by decide +kernel
theorem dX6_copy_100 : decode cX6_copy 100 = .ok (.iload_n 3, 1) := by decide +kernel
theorem dX6_copy_101 : decode cX6_copy 101 = .ok (.ireturn, 1) := by decide +kernel
theorem dX6_table_0 : decode cX6_table 0 = .ok (.iload_n 1, 1) := by decide +kernel
theorem dX6_table_1 : decode cX6_table 1 = .ok (.ifCond .lt 9, 3) := by decide +kernel
theorem dX6_table_4 : decode cX6_table 4 = .ok (.iload_n 1, 1) := by decide +kernel
theorem dX6_table_5 : decode cX6_table 5 = .ok (.bipush 16, 2) := by decide +kernel
theorem dX6_table_7 : decode cX6_table 7 = .ok (.if_icmp .lt 10, 3) := by decide +kernel
theorem dX6_table_10 : decode cX6_table 10 = .ok (.aload_n 0, 1) := by decide +kernel
theorem dX6_table_11 : decode cX6_table 11 = .ok (.bipush (-3), 2) := by decide +kernel
theorem dX6_table_13 : decode cX6_table 13 = .ok (.invokevirtual 86, 3) := by decide +kernel
theorem dX6_table_16 : decode cX6_table 16 = .ok (.ireturn, 1) := by decide +kernel
theorem dX6_table_17 : decode cX6_table 17 = .ok (.aload_n 0, 1) := by decide +kernel
theorem dX6_table_18 : decode cX6_table 18 = .ok (.getfield 30, 3) := by decide +kernel
theorem dX6_table_21 : decode cX6_table 21 = .ok (.iload_n 1, 1) := by decide +kernel
theorem dX6_table_22 : decode cX6_table 22 = .ok (.iaload, 1) := by decide +kernel
theorem dX6_table_23 : decode cX6_table 23 = .ok (.ireturn, 1) := by decide +kernel
theorem dX6_agree_0 : decode cX6_agree 0 = .ok (.aload_n 0, 1) := by decide +kernel
theorem dX6_agree_1 : decode cX6_agree 1 = .ok (.getfield 10, 3) := by decide +kernel
theorem dX6_agree_4 : decode cX6_agree 4 = .ok (.iconst 0, 1) := by decide +kernel
theorem dX6_agree_5 : decode cX6_agree 5 = .ok (.invokevirtual 168, 3) := by decide +kernel
theorem dX6_agree_8 : decode cX6_agree 8 = .ok (.iconst (-1), 1) := by decide +kernel
theorem dX6_agree_9 : decode cX6_agree 9 = .ok (.if_icmp .ne 7, 3) := by decide +kernel
theorem dX6_agree_12 : decode cX6_agree 12 = .ok (.iconst 1, 1) := by decide +kernel
theorem dX6_agree_13 : decode cX6_agree 13 = .ok (.goto 4, 3) := by decide +kernel
theorem dX6_agree_16 : decode cX6_agree 16 = .ok (.iconst 0, 1) := by decide +kernel
theorem dX6_agree_17 : decode cX6_agree 17 = .ok (.ireturn, 1) := by decide +kernel
theorem dX6_apart_0 : decode cX6_apart 0 = .ok (.iload_n 1, 1) := by decide +kernel
theorem dX6_apart_1 : decode cX6_apart 1 = .ok (.ifCond .lt 8, 3) := by decide +kernel
theorem dX6_apart_4 : decode cX6_apart 4 = .ok (.iload_n 1, 1) := by decide +kernel
end
section
theorem dX6_apart_5 : decode cX6_apart 5 = .ok (.iconst 2, 1) := by decide +kernel
theorem dX6_apart_6 : decode cX6_apart 6 = .ok (.if_icmp .le 10, 3) := by decide +kernel
theorem dX6_apart_9 : decode cX6_apart 9 = .ok (.aload_n 0, 1) := by decide +kernel
theorem dX6_apart_10 : decode cX6_apart 10 = .ok (.bipush (-9), 2) := by decide +kernel
theorem dX6_apart_12 : decode cX6_apart 12 = .ok (.invokevirtual 86, 3) := by decide +kernel
theorem dX6_apart_15 : decode cX6_apart 15 = .ok (.ireturn, 1) := by decide +kernel
theorem dX6_apart_16 : decode cX6_apart 16 = .ok (.aload_n 0, 1) := by decide +kernel
theorem dX6_apart_17 : decode cX6_apart 17 = .ok (.getfield 10, 3) := by decide +kernel
theorem dX6_apart_20 : decode cX6_apart 20 = .ok (.iload_n 1, 1) := by decide +kernel
theorem dX6_apart_21 : decode cX6_apart 21 = .ok (.invokevirtual 168, 3) := by decide +kernel
theorem dX6_apart_24 : decode cX6_apart 24 = .ok (.ireturn, 1) := by decide +kernel
theorem dX6_count_0 : decode cX6_count 0 = .ok (.iload_n 1, 1) := by decide +kernel
theorem dX6_count_1 : decode cX6_count 1 = .ok (.invokestatic 171, 3) := by decide +kernel
theorem dX6_count_4 : decode cX6_count 4 = .ok (.ifCond .ne 10, 3) := by decide +kernel
theorem dX6_count_7 : decode cX6_count 7 = .ok (.aload_n 0, 1) := by decide +kernel
theorem dX6_count_8 : decode cX6_count 8 = .ok (.bipush (-3), 2) := by decide +kernel
theorem dX6_count_10 : decode cX6_count 10 = .ok (.invokevirtual 86, 3) := by decide +kernel
theorem dX6_count_13 : decode cX6_count 13 = .ok (.ireturn, 1) := by decide +kernel
theorem dX6_count_14 : decode cX6_count 14 = .ok (.iload_n 2, 1) := by decide +kernel
theorem dX6_count_15 : decode cX6_count 15 = .ok (.ifCond .lt 8, 3) := by decide +kernel
theorem dX6_count_18 : decode cX6_count 18 = .ok (.iload_n 2, 1) := by decide +kernel
theorem dX6_count_19 : decode cX6_count 19 = .ok (.iconst 4, 1) := by decide +kernel
theorem dX6_count_20 : decode cX6_count 20 = .ok (.if_icmp .le 10, 3) := by decide +kernel
theorem dX6_count_23 : decode cX6_count 23 = .ok (.aload_n 0, 1) := by decide +kernel
theorem dX6_count_24 : decode cX6_count 24 = .ok (.bipush (-9), 2) := by decide +kernel
theorem dX6_count_26 : decode cX6_count 26 = .ok (.invokevirtual 86, 3) := by decide +kernel
theorem dX6_count_29 : decode cX6_count 29 = .ok (.ireturn, 1) := by decide +kernel
theorem dX6_count_30 : decode cX6_count 30 = .ok (.aload_n 0, 1) := by decide +kernel
theorem dX6_count_31 : decode cX6_count 31 = .ok (.getfield 10, 3) := by decide +kernel
theorem dX6_count_34 : decode cX6_count 34 = .ok (.iload_n 1, 1) := by decide +kernel
theorem dX6_count_35 : decode cX6_count 35 = .ok (.iload_n 2, 1) := by decide +kernel
theorem dX6_count_36 : decode cX6_count 36 = .ok (.invokevirtual 174, 3) := by decide +kernel
theorem dX6_count_39 : decode cX6_count 39 = .ok (.ireturn, 1) := by decide +kernel
theorem dX6_way_0 : decode cX6_way 0 = .ok (.aload_n 0, 1) := by decide +kernel
theorem dX6_way_1 : decode cX6_way 1 = .ok (.getfield 10, 3) := by decide +kernel
theorem dX6_way_4 : decode cX6_way 4 = .ok (.iload_n 1, 1) := by decide +kernel
theorem dX6_way_5 : decode cX6_way 5 = .ok (.iload_n 2, 1) := by decide +kernel
theorem dX6_way_6 : decode cX6_way 6 = .ok (.invokevirtual 137, 3) := by decide +kernel
theorem dX6_way_9 : decode cX6_way 9 = .ok (.istore_n 3, 1) := by decide +kernel
theorem dX6_way_10 : decode cX6_way 10 = .ok (.aload_n 0, 1) := by decide +kernel
theorem dX6_way_11 : decode cX6_way 11 = .ok (.getfield 10, 3) := by decide +kernel
theorem dX6_way_14 : decode cX6_way 14 = .ok (.iload_n 1, 1) := by decide +kernel
theorem dX6_way_15 : decode cX6_way 15 = .ok (.invokevirtual 107, 3) := by decide +kernel
theorem dX6_way_18 : decode cX6_way 18 = .ok (.astore 4, 2) := by decide +kernel
theorem dX6_way_20 : decode cX6_way 20 = .ok (.iload_n 3, 1) := by decide +kernel
theorem dX6_way_21 : decode cX6_way 21 = .ok (.ifCond .ne 8, 3) := by decide +kernel
theorem dX6_way_24 : decode cX6_way 24 = .ok (.aload 4, 2) := by decide +kernel
theorem dX6_way_26 : decode cX6_way 26 = .ok (.ifnonnull 9, 3) := by decide +kernel
theorem dX6_way_29 : decode cX6_way 29 = .ok (.aload_n 0, 1) := by decide +kernel
theorem dX6_way_30 : decode cX6_way 30 = .ok (.iload_n 3, 1) := by decide +kernel
theorem dX6_way_31 : decode cX6_way 31 = .ok (.invokevirtual 86, 3) := by decide +kernel
theorem dX6_way_34 : decode cX6_way 34 = .ok (.ireturn, 1) := by decide +kernel
theorem dX6_way_35 : decode cX6_way 35 = .ok (.aload_n 0, 1) := by decide +kernel
theorem dX6_way_36 : decode cX6_way 36 = .ok (.getfield 26, 3) := by decide +kernel
theorem dX6_way_39 : decode cX6_way 39 = .ok (.aload_n 0, 1) := by decide +kernel
theorem dX6_way_40 : decode cX6_way 40 = .ok (.getfield 10, 3) := by decide +kernel
theorem dX6_way_43 : decode cX6_way 43 = .ok (.getfield 57, 3) := by decide +kernel
theorem dX6_way_46 : decode cX6_way 46 = .ok (.aload 4, 2) := by decide +kernel
theorem dX6_way_48 : decode cX6_way 48 = .ok (.getfield 152, 3) := by decide +kernel
theorem dX6_way_51 : decode cX6_way 51 = .ok (.iload_n 2, 1) := by decide +kernel
theorem dX6_way_52 : decode cX6_way 52 = .ok (.iaload, 1) := by decide +kernel
theorem dX6_way_53 : decode cX6_way 53 = .ok (.iload_n 2, 1) := by decide +kernel
theorem dX6_way_54 : decode cX6_way 54 = .ok (.invokevirtual 177, 3) := by decide +kernel
theorem dX6_way_57 : decode cX6_way 57 = .ok (.aload_n 0, 1) := by decide +kernel
theorem dX6_way_58 : decode cX6_way 58 = .ok (.getfield 26, 3) := by decide +kernel
theorem dX6_way_61 : decode cX6_way 61 = .ok (.getfield 181, 3) := by decide +kernel
theorem dX6_way_64 : decode cX6_way 64 = .ok (.ireturn, 1) := by decide +kernel
theorem dX6_wayAt_0 : decode cX6_wayAt 0 = .ok (.iload_n 1, 1) := by decide +kernel
theorem dX6_wayAt_1 : decode cX6_wayAt 1 = .ok (.ifCond .lt 14, 3) := by decide +kernel
theorem dX6_wayAt_4 : decode cX6_wayAt 4 = .ok (.iload_n 1, 1) := by decide +kernel
theorem dX6_wayAt_5 : decode cX6_wayAt 5 = .ok (.aload_n 0, 1) := by decide +kernel
theorem dX6_wayAt_6 : decode cX6_wayAt 6 = .ok (.getfield 26, 3) := by decide +kernel
theorem dX6_wayAt_9 : decode cX6_wayAt 9 = .ok (.getfield 181, 3) := by decide +kernel
theorem dX6_wayAt_12 : decode cX6_wayAt 12 = .ok (.if_icmp .lt 10, 3) := by decide +kernel
theorem dX6_wayAt_15 : decode cX6_wayAt 15 = .ok (.aload_n 0, 1) := by decide +kernel
theorem dX6_wayAt_16 : decode cX6_wayAt 16 = .ok (.bipush (-3), 2) := by decide +kernel
theorem dX6_wayAt_18 : decode cX6_wayAt 18 = .ok (.invokevirtual 86, 3) := by decide +kernel
theorem dX6_wayAt_21 : decode cX6_wayAt 21 = .ok (.ireturn, 1) := by decide +kernel
theorem dX6_wayAt_22 : decode cX6_wayAt 22 = .ok (.aload_n 0, 1) := by decide +kernel
theorem dX6_wayAt_23 : decode cX6_wayAt 23 = .ok (.getfield 26, 3) := by decide +kernel
theorem dX6_wayAt_26 : decode cX6_wayAt 26 = .ok (.getfield 182, 3) := by decide +kernel
theorem dX6_wayAt_29 : decode cX6_wayAt 29 = .ok (.iload_n 1, 1) := by decide +kernel
theorem dX6_wayAt_30 : decode cX6_wayAt 30 = .ok (.iaload, 1) := by decide +kernel
theorem dX6_wayAt_31 : decode cX6_wayAt 31 = .ok (.ireturn, 1) := by decide +kernel
theorem dX6_forge_0 : decode cX6_forge 0 = .ok (.iload_n 1, 1) := by decide +kernel
theorem dX6_forge_1 : decode cX6_forge 1 = .ok (.ifCond .lt 14, 3) := by decide +kernel
theorem dX6_forge_4 : decode cX6_forge 4 = .ok (.iload_n 1, 1) := by decide +kernel
theorem dX6_forge_5 : decode cX6_forge 5 = .ok (.aload_n 0, 1) := by decide +kernel
theorem dX6_forge_6 : decode cX6_forge 6 = .ok (.getfield 26, 3) := by decide +kernel
theorem dX6_forge_9 : decode cX6_forge 9 = .ok (.getfield 181, 3) := by decide +kernel
theorem dX6_forge_12 : decode cX6_forge 12 = .ok (.if_icmp .lt 10, 3) := by decide +kernel
theorem dX6_forge_15 : decode cX6_forge 15 = .ok (.aload_n 0, 1) := by decide +kernel
theorem dX6_forge_16 : decode cX6_forge 16 = .ok (.bipush (-3), 2) := by decide +kernel
theorem dX6_forge_18 : decode cX6_forge 18 = .ok (.invokevirtual 86, 3) := by decide +kernel
theorem dX6_forge_21 : decode cX6_forge 21 = .ok (.ireturn, 1) := by decide +kernel
theorem dX6_forge_22 : decode cX6_forge 22 = .ok (.aload_n 0, 1) := by decide +kernel
theorem dX6_forge_23 : decode cX6_forge 23 = .ok (.getfield 26, 3) := by decide +kernel
theorem dX6_forge_26 : decode cX6_forge 26 = .ok (.getfield 182, 3) := by decide +kernel
theorem dX6_forge_29 : decode cX6_forge 29 = .ok (.iload_n 1, 1) := by decide +kernel
theorem dX6_forge_30 : decode cX6_forge 30 = .ok (.iload_n 2, 1) := by decide +kernel
theorem dX6_forge_31 : decode cX6_forge 31 = .ok (.iastore, 1) := by decide +kernel
theorem dX6_forge_32 : decode cX6_forge 32 = .ok (.iconst 1, 1) := by decide +kernel
theorem dX6_forge_33 : decode cX6_forge 33 = .ok (.ireturn, 1) := by decide +kernel
theorem dX6_check_0 : decode cX6_check 0 = .ok (.iload_n 1, 1) := by decide +kernel
theorem dX6_check_1 : decode cX6_check 1 = .ok (.invokestatic 171, 3) := by decide +kernel
theorem dX6_check_4 : decode cX6_check 4 = .ok (.ifCond .eq 10, 3) := by decide +kernel
theorem dX6_check_7 : decode cX6_check 7 = .ok (.iload_n 2, 1) := by decide +kernel
theorem dX6_check_8 : decode cX6_check 8 = .ok (.invokestatic 171, 3) := by decide +kernel
theorem dX6_check_11 : decode cX6_check 11 = .ok (.ifCond .ne 10, 3) := by decide +kernel
theorem dX6_check_14 : decode cX6_check 14 = .ok (.aload_n 0, 1) := by decide +kernel
theorem dX6_check_15 : decode cX6_check 15 = .ok (.bipush (-3), 2) := by decide +kernel
theorem dX6_check_17 : decode cX6_check 17 = .ok (.invokevirtual 86, 3) := by decide +kernel
theorem dX6_check_20 : decode cX6_check 20 = .ok (.ireturn, 1) := by decide +kernel
theorem dX6_check_21 : decode cX6_check 21 = .ok (.aload_n 0, 1) := by decide +kernel
theorem dX6_check_22 : decode cX6_check 22 = .ok (.getfield 10, 3) := by decide +kernel
theorem dX6_check_25 : decode cX6_check 25 = .ok (.iload_n 1, 1) := by decide +kernel
theorem dX6_check_26 : decode cX6_check 26 = .ok (.invokevirtual 107, 3) := by decide +kernel
theorem dX6_check_29 : decode cX6_check 29 = .ok (.astore 5, 2) := by decide +kernel
theorem dX6_check_31 : decode cX6_check 31 = .ok (.aload 5, 2) := by decide +kernel
theorem dX6_check_33 : decode cX6_check 33 = .ok (.ifnonnull 10, 3) := by decide +kernel
theorem dX6_check_36 : decode cX6_check 36 = .ok (.aload_n 0, 1) := by decide +kernel
theorem dX6_check_37 : decode cX6_check 37 = .ok (.bipush (-2), 2) := by decide +kernel
theorem dX6_check_39 : decode cX6_check 39 = .ok (.invokevirtual 86, 3) := by decide +kernel
theorem dX6_check_42 : decode cX6_check 42 = .ok (.ireturn, 1) := by decide +kernel
theorem dX6_check_43 : decode cX6_check 43 = .ok (.aload_n 0, 1) := by decide +kernel
theorem dX6_check_44 : decode cX6_check 44 = .ok (.getfield 26, 3) := by decide +kernel
theorem dX6_check_47 : decode cX6_check 47 = .ok (.getfield 181, 3) := by decide +kernel
theorem dX6_check_50 : decode cX6_check 50 = .ok (.ifCond .ne 21, 3) := by decide +kernel
theorem dX6_check_53 : decode cX6_check 53 = .ok (.aload 5, 2) := by decide +kernel
theorem dX6_check_55 : decode cX6_check 55 = .ok (.iload_n 2, 1) := by decide +kernel
theorem dX6_check_56 : decode cX6_check 56 = .ok (.iload_n 3, 1) := by decide +kernel
theorem dX6_check_57 : decode cX6_check 57 = .ok (.iload 4, 2) := by decide +kernel
theorem dX6_check_59 : decode cX6_check 59 = .ok (.invokevirtual 185, 3) := by decide +kernel
theorem dX6_check_62 : decode cX6_check 62 = .ok (.ifCond .eq 7, 3) := by decide +kernel
theorem dX6_check_65 : decode cX6_check 65 = .ok (.iconst 1, 1) := by decide +kernel
theorem dX6_check_66 : decode cX6_check 66 = .ok (.goto 4, 3) := by decide +kernel
theorem dX6_check_69 : decode cX6_check 69 = .ok (.iconst 0, 1) := by decide +kernel
theorem dX6_check_70 : decode cX6_check 70 = .ok (.ireturn, 1) := by decide +kernel
theorem dX6_check_71 : decode cX6_check 71 = .ok (.aload_n 0, 1) := by decide +kernel
theorem dX6_check_72 : decode cX6_check 72 = .ok (.getfield 26, 3) := by decide +kernel
theorem dX6_check_75 : decode cX6_check 75 = .ok (.aload_n 0, 1) := by decide +kernel
theorem dX6_check_76 : decode cX6_check 76 = .ok (.getfield 10, 3) := by decide +kernel
theorem dX6_check_79 : decode cX6_check 79 = .ok (.getfield 57, 3) := by decide +kernel
theorem dX6_check_82 : decode cX6_check 82 = .ok (.iload_n 1, 1) := by decide +kernel
theorem dX6_check_83 : decode cX6_check 83 = .ok (.iload_n 2, 1) := by decide +kernel
theorem dX6_check_84 : decode cX6_check 84 = .ok (.iload_n 3, 1) := by decide +kernel
theorem dX6_check_85 : decode cX6_check 85 = .ok (.iload 4, 2) := by decide +kernel
theorem dX6_check_87 : decode cX6_check 87 = .ok (.invokevirtual 189, 3) := by decide +kernel
theorem dX6_check_90 : decode cX6_check 90 = .ok (.ifCond .eq 7, 3) := by decide +kernel
theorem dX6_check_93 : decode cX6_check 93 = .ok (.iconst 1, 1) := by decide +kernel
theorem dX6_check_94 : decode cX6_check 94 = .ok (.goto 4, 3) := by decide +kernel
theorem dX6_check_97 : decode cX6_check 97 = .ok (.iconst 0, 1) := by decide +kernel
theorem dX6_check_98 : decode cX6_check 98 = .ok (.ireturn, 1) := by decide +kernel
theorem dX6_replay_0 : decode cX6_replay 0 = .ok (.aload_n 0, 1) := by decide +kernel
theorem dX6_replay_1 : decode cX6_replay 1 = .ok (.getfield 46, 3) := by decide +kernel
theorem dX6_replay_4 : decode cX6_replay 4 = .ok (.ifnonnull 14, 3) := by decide +kernel
theorem dX6_replay_7 : decode cX6_replay 7 = .ok (.aload_n 0, 1) := by decide +kernel
theorem dX6_replay_8 : decode cX6_replay 8 = .ok (.new 7, 3) := by decide +kernel
theorem dX6_replay_11 : decode cX6_replay 11 = .ok (.dup, 1) := by decide +kernel
theorem dX6_replay_12 : decode cX6_replay 12 = .ok (.invokespecial 9, 3) := by decide +kernel
theorem dX6_replay_15 : decode cX6_replay 15 = .ok (.putfield 46, 3) := by decide +kernel
theorem dX6_replay_18 : decode cX6_replay 18 = .ok (.aload_n 0, 1) := by decide +kernel
theorem dX6_replay_19 : decode cX6_replay 19 = .ok (.getfield 46, 3) := by decide +kernel
theorem dX6_replay_22 : decode cX6_replay 22 = .ok (.invokevirtual 193, 3) := by decide +kernel
theorem dX6_replay_25 : decode cX6_replay 25 = .ok (.aload_n 0, 1) := by decide +kernel
theorem dX6_replay_26 : decode cX6_replay 26 = .ok (.getfield 10, 3) := by decide +kernel
theorem dX6_replay_29 : decode cX6_replay 29 = .ok (.getfield 196, 3) := by decide +kernel
theorem dX6_replay_32 : decode cX6_replay 32 = .ok (.astore_n 1, 1) := by decide +kernel
theorem dX6_replay_33 : decode cX6_replay 33 = .ok (.iconst 0, 1) := by decide +kernel
theorem dX6_replay_34 : decode cX6_replay 34 = .ok (.istore_n 2, 1) := by decide +kernel
theorem dX6_replay_35 : decode cX6_replay 35 = .ok (.iload_n 2, 1) := by decide +kernel
theorem dX6_replay_36 : decode cX6_replay 36 = .ok (.aload_n 1, 1) := by decide +kernel
theorem dX6_replay_37 : decode cX6_replay 37 = .ok (.getfield 81, 3) := by decide +kernel
theorem dX6_replay_40 : decode cX6_replay 40 = .ok (.if_icmp .ge 67, 3) := by decide +kernel
theorem dX6_replay_43 : decode cX6_replay 43 = .ok (.aload_n 1, 1) := by decide +kernel
theorem dX6_replay_44 : decode cX6_replay 44 = .ok (.iload_n 2, 1) := by decide +kernel
theorem dX6_replay_45 : decode cX6_replay 45 = .ok (.iconst 3, 1) := by decide +kernel
theorem dX6_replay_46 : decode cX6_replay 46 = .ok (.invokevirtual 199, 3) := by decide +kernel
theorem dX6_replay_49 : decode cX6_replay 49 = .ok (.i2l, 1) := by decide +kernel
theorem dX6_replay_50 : decode cX6_replay 50 = .ok (.lstore_n 3, 1) := by decide +kernel
theorem dX6_replay_51 : decode cX6_replay 51 = .ok (.aload_n 1, 1) := by decide +kernel
theorem dX6_replay_52 : decode cX6_replay 52 = .ok (.iload_n 2, 1) := by decide +kernel
theorem dX6_replay_53 : decode cX6_replay 53 = .ok (.iconst 4, 1) := by decide +kernel
theorem dX6_replay_54 : decode cX6_replay 54 = .ok (.invokevirtual 199, 3) := by decide +kernel
theorem dX6_replay_57 : decode cX6_replay 57 = .ok (.i2l, 1) := by decide +kernel
theorem dX6_replay_58 : decode cX6_replay 58 = .ok (.lstore 5, 2) := by decide +kernel
theorem dX6_replay_60 : decode cX6_replay 60 = .ok (.lload_n 3, 1) := by decide +kernel
theorem dX6_replay_61 : decode cX6_replay 61 = .ok (.bipush 32, 2) := by decide +kernel
theorem dX6_replay_63 : decode cX6_replay 63 = .ok (.lshl, 1) := by decide +kernel
theorem dX6_replay_64 : decode cX6_replay 64 = .ok (.lload 5, 2) := by decide +kernel
theorem dX6_replay_66 : decode cX6_replay 66 = .ok (.ldc2_w 202, 3) := by decide +kernel
theorem dX6_replay_69 : decode cX6_replay 69 = .ok (.land, 1) := by decide +kernel
theorem dX6_replay_70 : decode cX6_replay 70 = .ok (.lor, 1) := by decide +kernel
theorem dX6_replay_71 : decode cX6_replay 71 = .ok (.lstore 7, 2) := by decide +kernel
theorem dX6_replay_73 : decode cX6_replay 73 = .ok (.aload_n 0, 1) := by decide +kernel
theorem dX6_replay_74 : decode cX6_replay 74 = .ok (.getfield 46, 3) := by decide +kernel
theorem dX6_replay_77 : decode cX6_replay 77 = .ok (.aload_n 1, 1) := by decide +kernel
theorem dX6_replay_78 : decode cX6_replay 78 = .ok (.iload_n 2, 1) := by decide +kernel
theorem dX6_replay_79 : decode cX6_replay 79 = .ok (.iconst 0, 1) := by decide +kernel
theorem dX6_replay_80 : decode cX6_replay 80 = .ok (.invokevirtual 199, 3) := by decide +kernel
theorem dX6_replay_83 : decode cX6_replay 83 = .ok (.aload_n 1, 1) := by decide +kernel
theorem dX6_replay_84 : decode cX6_replay 84 = .ok (.iload_n 2, 1) := by decide +kernel
theorem dX6_replay_85 : decode cX6_replay 85 = .ok (.iconst 1, 1) := by decide +kernel
theorem dX6_replay_86 : decode cX6_replay 86 = .ok (.invokevirtual 199, 3) := by decide +kernel
theorem dX6_replay_89 : decode cX6_replay 89 = .ok (.aload_n 1, 1) := by decide +kernel
theorem dX6_replay_90 : decode cX6_replay 90 = .ok (.iload_n 2, 1) := by decide +kernel
theorem dX6_replay_91 : decode cX6_replay 91 = .ok (.iconst 2, 1) := by decide +kernel
theorem dX6_replay_92 : decode cX6_replay 92 = .ok (.invokevirtual 199, 3) := by decide +kernel
theorem dX6_replay_95 : decode cX6_replay 95 = .ok (.lload 7, 2) := by decide +kernel
theorem dX6_replay_97 : decode cX6_replay 97 = .ok (.invokevirtual 49, 3) := by decide +kernel
theorem dX6_replay_100 : decode cX6_replay 100 = .ok (.pop, 1) := by decide +kernel
theorem dX6_replay_101 : decode cX6_replay 101 = .ok (.iinc 2 1, 3) := by decide +kernel
theorem dX6_replay_104 : decode cX6_replay 104 = .ok (.goto (-69), 3) := by decide +kernel
theorem dX6_replay_107 : decode cX6_replay 107 = .ok (.aload_n 0, 1) := by decide +kernel
theorem dX6_replay_108 : decode cX6_replay 108 = .ok (.getfield 46, 3) := by decide +kernel
theorem dX6_replay_111 : decode cX6_replay 111 = .ok (.aload_n 0, 1) := by decide +kernel
theorem dX6_replay_112 : decode cX6_replay 112 = .ok (.getfield 10, 3) := by decide +kernel
theorem dX6_replay_115 : decode cX6_replay 115 = .ok (.invokevirtual 204, 3) := by decide +kernel
theorem dX6_replay_118 : decode cX6_replay 118 = .ok (.ifCond .eq 7, 3) := by decide +kernel
theorem dX6_replay_121 : decode cX6_replay 121 = .ok (.iconst 1, 1) := by decide +kernel
theorem dX6_replay_122 : decode cX6_replay 122 = .ok (.goto 4, 3) := by decide +kernel
theorem dX6_replay_125 : decode cX6_replay 125 = .ok (.iconst 0, 1) := by decide +kernel
theorem dX6_replay_126 : decode cX6_replay 126 = .ok (.ireturn, 1) := by decide +kernel
theorem dX6_image_0 : decode cX6_image 0 = .ok (.aload_n 0, 1) := by decide +kernel
theorem dX6_image_1 : decode cX6_image 1 = .ok (.getfield 43, 3) := by decide +kernel
theorem dX6_image_4 : decode cX6_image 4 = .ok (.ifnonnull 14, 3) := by decide +kernel
theorem dX6_image_7 : decode cX6_image 7 = .ok (.aload_n 0, 1) := by decide +kernel
theorem dX6_image_8 : decode cX6_image 8 = .ok (.new 7, 3) := by decide +kernel
theorem dX6_image_11 : decode cX6_image 11 = .ok (.dup, 1) := by decide +kernel
theorem dX6_image_12 : decode cX6_image 12 = .ok (.invokespecial 9, 3) := by decide +kernel
theorem dX6_image_15 : decode cX6_image 15 = .ok (.putfield 43, 3) := by decide +kernel
theorem dX6_image_18 : decode cX6_image 18 = .ok (.aload_n 0, 1) := by decide +kernel
theorem dX6_image_19 : decode cX6_image 19 = .ok (.getfield 43, 3) := by decide +kernel
theorem dX6_image_22 : decode cX6_image 22 = .ok (.aload_n 0, 1) := by decide +kernel
theorem dX6_image_23 : decode cX6_image 23 = .ok (.getfield 10, 3) := by decide +kernel
theorem dX6_image_26 : decode cX6_image 26 = .ok (.invokevirtual 208, 3) := by decide +kernel
theorem dX6_image_29 : decode cX6_image 29 = .ok (.aload_n 0, 1) := by decide +kernel
theorem dX6_image_30 : decode cX6_image 30 = .ok (.getfield 43, 3) := by decide +kernel
theorem dX6_image_33 : decode cX6_image 33 = .ok (.getfield 196, 3) := by decide +kernel
theorem dX6_image_36 : decode cX6_image 36 = .ok (.getfield 81, 3) := by decide +kernel
theorem dX6_image_39 : decode cX6_image 39 = .ok (.ireturn, 1) := by decide +kernel
theorem dX6_back_0 : decode cX6_back 0 = .ok (.aload_n 0, 1) := by decide +kernel
theorem dX6_back_1 : decode cX6_back 1 = .ok (.getfield 43, 3) := by decide +kernel
theorem dX6_back_4 : decode cX6_back 4 = .ok (.ifnonnull 10, 3) := by decide +kernel
theorem dX6_back_7 : decode cX6_back 7 = .ok (.aload_n 0, 1) := by decide +kernel
theorem dX6_back_8 : decode cX6_back 8 = .ok (.bipush (-9), 2) := by decide +kernel
theorem dX6_back_10 : decode cX6_back 10 = .ok (.invokevirtual 86, 3) := by decide +kernel
theorem dX6_back_13 : decode cX6_back 13 = .ok (.ireturn, 1) := by decide +kernel
theorem dX6_back_14 : decode cX6_back 14 = .ok (.aload_n 0, 1) := by decide +kernel
theorem dX6_back_15 : decode cX6_back 15 = .ok (.getfield 10, 3) := by decide +kernel
theorem dX6_back_18 : decode cX6_back 18 = .ok (.aload_n 0, 1) := by decide +kernel
theorem dX6_back_19 : decode cX6_back 19 = .ok (.getfield 43, 3) := by decide +kernel
theorem dX6_back_22 : decode cX6_back 22 = .ok (.invokevirtual 208, 3) := by decide +kernel
theorem dX6_back_25 : decode cX6_back 25 = .ok (.aload_n 0, 1) := by decide +kernel
theorem dX6_back_26 : decode cX6_back 26 = .ok (.getfield 10, 3) := by decide +kernel
theorem dX6_back_29 : decode cX6_back 29 = .ok (.getfield 196, 3) := by decide +kernel
theorem dX6_back_32 : decode cX6_back 32 = .ok (.getfield 81, 3) := by decide +kernel
theorem dX6_back_35 : decode cX6_back 35 = .ok (.ireturn, 1) := by decide +kernel
theorem dX6_trace_0 : decode cX6_trace 0 = .ok (.iload_n 1, 1) := by decide +kernel
theorem dX6_trace_1 : decode cX6_trace 1 = .ok (.ifCond .lt 9, 3) := by decide +kernel
theorem dX6_trace_4 : decode cX6_trace 4 = .ok (.iload_n 1, 1) := by decide +kernel
theorem dX6_trace_5 : decode cX6_trace 5 = .ok (.bipush 12, 2) := by decide +kernel
theorem dX6_trace_7 : decode cX6_trace 7 = .ok (.if_icmp .lt 10, 3) := by decide +kernel
theorem dX6_trace_10 : decode cX6_trace 10 = .ok (.aload_n 0, 1) := by decide +kernel
theorem dX6_trace_11 : decode cX6_trace 11 = .ok (.bipush (-9), 2) := by decide +kernel
theorem dX6_trace_13 : decode cX6_trace 13 = .ok (.invokevirtual 86, 3) := by decide +kernel
theorem dX6_trace_16 : decode cX6_trace 16 = .ok (.ireturn, 1) := by decide +kernel
theorem dX6_trace_17 : decode cX6_trace 17 = .ok (.aload_n 0, 1) := by decide +kernel
theorem dX6_trace_18 : decode cX6_trace 18 = .ok (.getfield 10, 3) := by decide +kernel
theorem dX6_trace_21 : decode cX6_trace 21 = .ok (.getfield 212, 3) := by decide +kernel
theorem dX6_trace_24 : decode cX6_trace 24 = .ok (.iload_n 1, 1) := by decide +kernel
theorem dX6_trace_25 : decode cX6_trace 25 = .ok (.iaload, 1) := by decide +kernel
theorem dX6_trace_26 : decode cX6_trace 26 = .ok (.ireturn, 1) := by decide +kernel
theorem dX6_again_0 : decode cX6_again 0 = .ok (.aload_n 0, 1) := by decide +kernel
theorem dX6_again_1 : decode cX6_again 1 = .ok (.getfield 19, 3) := by decide +kernel
theorem dX6_again_4 : decode cX6_again 4 = .ok (.invokevirtual 215, 3) := by decide +kernel
theorem dX6_again_7 : decode cX6_again 7 = .ok (.ireturn, 1) := by decide +kernel
theorem dX6_status_0 : decode cX6_status 0 = .ok (.iload_n 1, 1) := by decide +kernel
theorem dX6_status_1 : decode cX6_status 1 = .ok (.ifCond .ne 14, 3) := by decide +kernel
theorem dX6_status_4 : decode cX6_status 4 = .ok (.aload_n 0, 1) := by decide +kernel
theorem dX6_status_5 : decode cX6_status 5 = .ok (.getfield 10, 3) := by decide +kernel
theorem dX6_status_8 : decode cX6_status 8 = .ok (.getfield 196, 3) := by decide +kernel
theorem dX6_status_11 : decode cX6_status 11 = .ok (.getfield 81, 3) := by decide +kernel
theorem dX6_status_14 : decode cX6_status 14 = .ok (.ireturn, 1) := by decide +kernel
theorem dX6_status_15 : decode cX6_status 15 = .ok (.iload_n 1, 1) := by decide +kernel
theorem dX6_status_16 : decode cX6_status 16 = .ok (.bipush (-2), 2) := by decide +kernel
theorem dX6_status_18 : decode cX6_status 18 = .ok (.if_icmp .gt 9, 3) := by decide +kernel
theorem dX6_status_21 : decode cX6_status 21 = .ok (.iload_n 1, 1) := by decide +kernel
theorem dX6_status_22 : decode cX6_status 22 = .ok (.bipush (-10), 2) := by decide +kernel
theorem dX6_status_24 : decode cX6_status 24 = .ok (.if_icmp .ge 10, 3) := by decide +kernel
theorem dX6_status_27 : decode cX6_status 27 = .ok (.aload_n 0, 1) := by decide +kernel
theorem dX6_status_28 : decode cX6_status 28 = .ok (.bipush (-9), 2) := by decide +kernel
theorem dX6_status_30 : decode cX6_status 30 = .ok (.invokevirtual 86, 3) := by decide +kernel
theorem dX6_status_33 : decode cX6_status 33 = .ok (.ireturn, 1) := by decide +kernel
theorem dX6_status_34 : decode cX6_status 34 = .ok (.aload_n 0, 1) := by decide +kernel
theorem dX6_status_35 : decode cX6_status 35 = .ok (.getfield 19, 3) := by decide +kernel
theorem dX6_status_38 : decode cX6_status 38 = .ok (.getfield 218, 3) := by decide +kernel
theorem dX6_status_41 : decode cX6_status 41 = .ok (.iload_n 1, 1) := by decide +kernel
theorem dX6_status_42 : decode cX6_status 42 = .ok (.ineg, 1) := by decide +kernel
theorem dX6_status_43 : decode cX6_status 43 = .ok (.iaload, 1) := by decide +kernel
theorem dX6_status_44 : decode cX6_status 44 = .ok (.ireturn, 1) := by decide +kernel
theorem dX6_settled_0 : decode cX6_settled 0 = .ok (.iload_n 1, 1) := by decide +kernel
theorem dX6_settled_1 : decode cX6_settled 1 = .ok (.iconst (-1), 1) := by decide +kernel
theorem dX6_settled_2 : decode cX6_settled 2 = .ok (.if_icmp .ge 11, 3) := by decide +kernel
theorem dX6_settled_5 : decode cX6_settled 5 = .ok (.aload_n 0, 1) := by decide +kernel
theorem dX6_settled_6 : decode cX6_settled 6 = .ok (.iload_n 1, 1) := by decide +kernel
theorem dX6_settled_7 : decode cX6_settled 7 = .ok (.invokevirtual 86, 3) := by decide +kernel
theorem dX6_settled_10 : decode cX6_settled 10 = .ok (.goto 4, 3) := by decide +kernel
theorem dX6_settled_13 : decode cX6_settled 13 = .ok (.iload_n 1, 1) := by decide +kernel
theorem dX6_settled_14 : decode cX6_settled 14 = .ok (.ireturn, 1) := by decide +kernel
theorem dX6_refused_0 : decode cX6_refused 0 = .ok (.aload_n 0, 1) := by decide +kernel
theorem dX6_refused_1 : decode cX6_refused 1 = .ok (.getfield 19, 3) := by decide +kernel
theorem dX6_refused_4 : decode cX6_refused 4 = .ok (.iload_n 1, 1) := by decide +kernel
theorem dX6_refused_5 : decode cX6_refused 5 = .ok (.invokevirtual 221, 3) := by decide +kernel
theorem dX6_refused_8 : decode cX6_refused 8 = .ok (.iload_n 1, 1) := by decide +kernel
theorem dX6_refused_9 : decode cX6_refused 9 = .ok (.ireturn, 1) := by decide +kernel
theorem dX6_isMember_0 : decode cX6_isMember 0 = .ok (.iload_n 0, 1) := by decide +kernel
theorem dX6_isMember_1 : decode cX6_isMember 1 = .ok (.ifCond .lt 13, 3) := by decide +kernel
theorem dX6_isMember_4 : decode cX6_isMember 4 = .ok (.iload_n 0, 1) := by decide +kernel
theorem dX6_isMember_5 : decode cX6_isMember 5 = .ok (.bipush 64, 2) := by decide +kernel
theorem dX6_isMember_7 : decode cX6_isMember 7 = .ok (.if_icmp .ge 7, 3) := by decide +kernel
theorem dX6_isMember_10 : decode cX6_isMember 10 = .ok (.iconst 1, 1) := by decide +kernel
theorem dX6_isMember_11 : decode cX6_isMember 11 = .ok (.goto 4, 3) := by decide +kernel
theorem dX6_isMember_14 : decode cX6_isMember 14 = .ok (.iconst 0, 1) := by decide +kernel
theorem dX6_isMember_15 : decode cX6_isMember 15 = .ok (.ireturn, 1) := by decide +kernel
theorem dX6_sameNumbers_0 : decode cX6_sameNumbers 0 = .ok (.iload_n 2, 1) := by decide +kernel
theorem dX6_sameNumbers_1 : decode cX6_sameNumbers 1 = .ok (.aload_n 0, 1) := by decide +kernel
theorem dX6_sameNumbers_2 : decode cX6_sameNumbers 2 = .ok (.arraylength, 1) := by decide +kernel
theorem dX6_sameNumbers_3 : decode cX6_sameNumbers 3 = .ok (.if_icmp .gt 9, 3) := by decide +kernel
theorem dX6_sameNumbers_6 : decode cX6_sameNumbers 6 = .ok (.iload_n 2, 1) := by decide +kernel
theorem dX6_sameNumbers_7 : decode cX6_sameNumbers 7 = .ok (.aload_n 1, 1) := by decide +kernel
theorem dX6_sameNumbers_8 : decode cX6_sameNumbers 8 = .ok (.arraylength, 1) := by decide +kernel
theorem dX6_sameNumbers_9 : decode cX6_sameNumbers 9 = .ok (.if_icmp .le 5, 3) := by decide +kernel
theorem dX6_sameNumbers_12 : decode cX6_sameNumbers 12 = .ok (.iconst 0, 1) := by decide +kernel
theorem dX6_sameNumbers_13 : decode cX6_sameNumbers 13 = .ok (.ireturn, 1) := by decide +kernel
theorem dX6_sameNumbers_14 : decode cX6_sameNumbers 14 = .ok (.iconst 0, 1) := by decide +kernel
theorem dX6_sameNumbers_15 : decode cX6_sameNumbers 15 = .ok (.istore_n 3, 1) := by decide +kernel
theorem dX6_sameNumbers_16 : decode cX6_sameNumbers 16 = .ok (.iload_n 3, 1) := by decide +kernel
theorem dX6_sameNumbers_17 : decode cX6_sameNumbers 17 = .ok (.iload_n 2, 1) := by decide +kernel
theorem dX6_sameNumbers_18 : decode cX6_sameNumbers 18 = .ok (.if_icmp .ge 20, 3) := by decide +kernel
theorem dX6_sameNumbers_21 : decode cX6_sameNumbers 21 = .ok (.aload_n 0, 1) := by decide +kernel
theorem dX6_sameNumbers_22 : decode cX6_sameNumbers 22 = .ok (.iload_n 3, 1) := by decide +kernel
theorem dX6_sameNumbers_23 : decode cX6_sameNumbers 23 = .ok (.iaload, 1) := by decide +kernel
theorem dX6_sameNumbers_24 : decode cX6_sameNumbers 24 = .ok (.aload_n 1, 1) := by decide +kernel
theorem dX6_sameNumbers_25 : decode cX6_sameNumbers 25 = .ok (.iload_n 3, 1) := by decide +kernel
theorem dX6_sameNumbers_26 : decode cX6_sameNumbers 26 = .ok (.iaload, 1) := by decide +kernel
theorem dX6_sameNumbers_27 : decode cX6_sameNumbers 27 = .ok (.if_icmp .eq 5, 3) := by decide +kernel
theorem dX6_sameNumbers_30 : decode cX6_sameNumbers 30 = .ok (.iconst 0, 1) := by decide +kernel
theorem dX6_sameNumbers_31 : decode cX6_sameNumbers 31 = .ok (.ireturn, 1) := by decide +kernel
theorem dX6_sameNumbers_32 : decode cX6_sameNumbers 32 = .ok (.iinc 3 1, 3) := by decide +kernel
theorem dX6_sameNumbers_35 : decode cX6_sameNumbers 35 = .ok (.goto (-19), 3) := by decide +kernel
theorem dX6_sameNumbers_38 : decode cX6_sameNumbers 38 = .ok (.iconst 1, 1) := by decide +kernel
theorem dX6_sameNumbers_39 : decode cX6_sameNumbers 39 = .ok (.ireturn, 1) := by decide +kernel
theorem dX7_init_0 : decode cX7_init 0 = .ok (.aload_n 0, 1) := by decide +kernel
theorem dX7_init_1 : decode cX7_init 1 = .ok (.invokespecial 1, 3) := by decide +kernel
theorem dX7_init_4 : decode cX7_init 4 = .ok (.aload_n 0, 1) := by decide +kernel
theorem dX7_init_5 : decode cX7_init 5 = .ok (.ldc 7, 2) := by decide +kernel
theorem dX7_init_7 : decode cX7_init 7 = .ok (.newarray .int, 2) := by decide +kernel
theorem dX7_init_9 : decode cX7_init 9 = .ok (.putfield 8, 3) := by decide +kernel
theorem dX7_init_12 : decode cX7_init 12 = .ok (.aload_n 0, 1) := by decide +kernel
theorem dX7_init_13 : decode cX7_init 13 = .ok (.ldc 7, 2) := by decide +kernel
theorem dX7_init_15 : decode cX7_init 15 = .ok (.newarray .int, 2) := by decide +kernel
theorem dX7_init_17 : decode cX7_init 17 = .ok (.putfield 14, 3) := by decide +kernel
theorem dX7_init_20 : decode cX7_init 20 = .ok (.aload_n 0, 1) := by decide +kernel
theorem dX7_init_21 : decode cX7_init 21 = .ok (.bipush 64, 2) := by decide +kernel
theorem dX7_init_23 : decode cX7_init 23 = .ok (.newarray .long, 2) := by decide +kernel
theorem dX7_init_25 : decode cX7_init 25 = .ok (.putfield 17, 3) := by decide +kernel
theorem dX7_init_28 : decode cX7_init 28 = .ok (.aload_n 0, 1) := by decide +kernel
theorem dX7_init_29 : decode cX7_init 29 = .ok (.bipush 64, 2) := by decide +kernel
theorem dX7_init_31 : decode cX7_init 31 = .ok (.newarray .long, 2) := by decide +kernel
theorem dX7_init_33 : decode cX7_init 33 = .ok (.putfield 21, 3) := by decide +kernel
theorem dX7_init_36 : decode cX7_init 36 = .ok (.aload_n 0, 1) := by decide +kernel
theorem dX7_init_37 : decode cX7_init 37 = .ok (.bipush 16, 2) := by decide +kernel
theorem dX7_init_39 : decode cX7_init 39 = .ok (.newarray .int, 2) := by decide +kernel
theorem dX7_init_41 : decode cX7_init 41 = .ok (.putfield 24, 3) := by decide +kernel
theorem dX7_init_44 : decode cX7_init 44 = .ok (.aload_n 0, 1) := by decide +kernel
theorem dX7_init_45 : decode cX7_init 45 = .ok (.sipush 1300, 3) := by decide +kernel
theorem dX7_init_48 : decode cX7_init 48 = .ok (.newarray .int, 2) := by decide +kernel
theorem dX7_init_50 : decode cX7_init 50 = .ok (.putfield 27, 3) := by decide +kernel
theorem dX7_init_53 : decode cX7_init 53 = .ok (.aload_n 0, 1) := by decide +kernel
theorem dX7_init_54 : decode cX7_init 54 = .ok (.bipush 11, 2) := by decide +kernel
theorem dX7_init_56 : decode cX7_init 56 = .ok (.newarray .int, 2) := by decide +kernel
theorem dX7_init_58 : decode cX7_init 58 = .ok (.putfield 30, 3) := by decide +kernel
theorem dX7_init_61 : decode cX7_init 61 = .ok (.aload_n 0, 1) := by decide +kernel
theorem dX7_init_62 : decode cX7_init 62 = .ok (.bipush 64, 2) := by decide +kernel
theorem dX7_init_64 : decode cX7_init 64 = .ok (.newarray .int, 2) := by decide +kernel
theorem dX7_init_66 : decode cX7_init 66 = .ok (.putfield 33, 3) := by decide +kernel
theorem dX7_init_69 : decode cX7_init 69 = .ok (.aload_n 0, 1) := by decide +kernel
theorem dX7_init_70 : decode cX7_init 70 = .ok (.bipush 64, 2) := by decide +kernel
theorem dX7_init_72 : decode cX7_init 72 = .ok (.newarray .boolean, 2) := by decide +kernel
theorem dX7_init_74 : decode cX7_init 74 = .ok (.putfield 36, 3) := by decide +kernel
theorem dX7_init_77 : decode cX7_init 77 = .ok (.iconst 0, 1) := by decide +kernel
theorem dX7_init_78 : decode cX7_init 78 = .ok (.istore_n 1, 1) := by decide +kernel
theorem dX7_init_79 : decode cX7_init 79 = .ok (.iload_n 1, 1) := by decide +kernel
theorem dX7_init_80 : decode cX7_init 80 = .ok (.bipush 16, 2) := by decide +kernel
theorem dX7_init_82 : decode cX7_init 82 = .ok (.if_icmp .ge 16, 3) := by decide +kernel
theorem dX7_init_85 : decode cX7_init 85 = .ok (.aload_n 0, 1) := by decide +kernel
theorem dX7_init_86 : decode cX7_init 86 = .ok (.getfield 24, 3) := by decide +kernel
theorem dX7_init_89 : decode cX7_init 89 = .ok (.iload_n 1, 1) := by decide +kernel
theorem dX7_init_90 : decode cX7_init 90 = .ok (.iconst (-1), 1) := by decide +kernel
theorem dX7_init_91 : decode cX7_init 91 = .ok (.iastore, 1) := by decide +kernel
theorem dX7_init_92 : decode cX7_init 92 = .ok (.iinc 1 1, 3) := by decide +kernel
theorem dX7_init_95 : decode cX7_init 95 = .ok (.goto (-16), 3) := by decide +kernel
theorem dX7_init_98 : decode cX7_init 98 = .ok (.return_, 1) := by decide +kernel
theorem dX7_isIn_0 : decode cX7_isIn 0 = .ok (.lload_n 0, 1) := by decide +kernel
theorem dX7_isIn_1 : decode cX7_isIn 1 = .ok (.lload_n 2, 1) := by decide +kernel
theorem dX7_isIn_2 : decode cX7_isIn 2 = .ok (.lcmp, 1) := by decide +kernel
theorem dX7_isIn_3 : decode cX7_isIn 3 = .ok (.ifCond .lt 14, 3) := by decide +kernel
theorem dX7_isIn_6 : decode cX7_isIn 6 = .ok (.lload_n 0, 1) := by decide +kernel
theorem dX7_isIn_7 : decode cX7_isIn 7 = .ok (.lload 4, 2) := by decide +kernel
theorem dX7_isIn_9 : decode cX7_isIn 9 = .ok (.lcmp, 1) := by decide +kernel
theorem dX7_isIn_10 : decode cX7_isIn 10 = .ok (.ifCond .gt 7, 3) := by decide +kernel
theorem dX7_isIn_13 : decode cX7_isIn 13 = .ok (.iconst 1, 1) := by decide +kernel
theorem dX7_isIn_14 : decode cX7_isIn 14 = .ok (.goto 4, 3) := by decide +kernel
theorem dX7_isIn_17 : decode cX7_isIn 17 = .ok (.iconst 0, 1) := by decide +kernel
theorem dX7_isIn_18 : decode cX7_isIn 18 = .ok (.ireturn, 1) := by decide +kernel
theorem dX7_no_0 : decode cX7_no 0 = .ok (.aload_n 0, 1) := by decide +kernel
theorem dX7_no_1 : decode cX7_no 1 = .ok (.getfield 30, 3) := by decide +kernel
theorem dX7_no_4 : decode cX7_no 4 = .ok (.iload_n 1, 1) := by decide +kernel
theorem dX7_no_5 : decode cX7_no 5 = .ok (.ineg, 1) := by decide +kernel
theorem dX7_no_6 : decode cX7_no 6 = .ok (.dup2, 1) := by decide +kernel
theorem dX7_no_7 : decode cX7_no 7 = .ok (.iaload, 1) := by decide +kernel
theorem dX7_no_8 : decode cX7_no 8 = .ok (.iconst 1, 1) := by decide +kernel
theorem dX7_no_9 : decode cX7_no 9 = .ok (.iadd, 1) := by decide +kernel
theorem dX7_no_10 : decode cX7_no 10 = .ok (.iastore, 1) := by decide +kernel
theorem dX7_no_11 : decode cX7_no 11 = .ok (.aload_n 0, 1) := by decide +kernel
theorem dX7_no_12 : decode cX7_no 12 = .ok (.iload_n 1, 1) := by decide +kernel
theorem dX7_no_13 : decode cX7_no 13 = .ok (.putfield 40, 3) := by decide +kernel
theorem dX7_no_16 : decode cX7_no 16 = .ok (.iload_n 1, 1) := by decide +kernel
theorem dX7_no_17 : decode cX7_no 17 = .ok (.ireturn, 1) := by decide +kernel
theorem dX7_of_0 : decode cX7_of 0 = .ok (.aload_n 0, 1) := by decide +kernel
theorem dX7_of_1 : decode cX7_of 1 = .ok (.getfield 8, 3) := by decide +kernel
theorem dX7_of_4 : decode cX7_of 4 = .ok (.bipush 7, 2) := by decide +kernel
theorem dX7_of_6 : decode cX7_of 6 = .ok (.iload_n 1, 1) := by decide +kernel
theorem dX7_of_7 : decode cX7_of 7 = .ok (.imul, 1) := by decide +kernel
theorem dX7_of_8 : decode cX7_of 8 = .ok (.iload_n 2, 1) := by decide +kernel
theorem dX7_of_9 : decode cX7_of 9 = .ok (.iadd, 1) := by decide +kernel
theorem dX7_of_10 : decode cX7_of 10 = .ok (.iaload, 1) := by decide +kernel
theorem dX7_of_11 : decode cX7_of 11 = .ok (.ireturn, 1) := by decide +kernel
theorem dX7_to_0 : decode cX7_to 0 = .ok (.aload_n 0, 1) := by decide +kernel
theorem dX7_to_1 : decode cX7_to 1 = .ok (.getfield 8, 3) := by decide +kernel
theorem dX7_to_4 : decode cX7_to 4 = .ok (.bipush 7, 2) := by decide +kernel
theorem dX7_to_6 : decode cX7_to 6 = .ok (.iload_n 1, 1) := by decide +kernel
theorem dX7_to_7 : decode cX7_to 7 = .ok (.imul, 1) := by decide +kernel
theorem dX7_to_8 : decode cX7_to 8 = .ok (.iload_n 2, 1) := by decide +kernel
theorem dX7_to_9 : decode cX7_to 9 = .ok (.iadd, 1) := by decide +kernel
theorem dX7_to_10 : decode cX7_to 10 = .ok (.iload_n 3, 1) := by decide +kernel
theorem dX7_to_11 : decode cX7_to 11 = .ok (.iastore, 1) := by decide +kernel
theorem dX7_to_12 : decode cX7_to 12 = .ok (.return_, 1) := by decide +kernel
theorem dX7_newsAt_0 : decode cX7_newsAt 0 = .ok (.sipush 448, 3) := by decide +kernel
theorem dX7_newsAt_3 : decode cX7_newsAt 3 = .ok (.iconst 5, 1) := by decide +kernel
theorem dX7_newsAt_4 : decode cX7_newsAt 4 = .ok (.bipush 64, 2) := by decide +kernel
theorem dX7_newsAt_6 : decode cX7_newsAt 6 = .ok (.iload_n 0, 1) := by decide +kernel
theorem dX7_newsAt_7 : decode cX7_newsAt 7 = .ok (.imul, 1) := by decide +kernel
theorem dX7_newsAt_8 : decode cX7_newsAt 8 = .ok (.iload_n 1, 1) := by decide +kernel
theorem dX7_newsAt_9 : decode cX7_newsAt 9 = .ok (.iadd, 1) := by decide +kernel
theorem dX7_newsAt_10 : decode cX7_newsAt 10 = .ok (.imul, 1) := by decide +kernel
theorem dX7_newsAt_11 : decode cX7_newsAt 11 = .ok (.iadd, 1) := by decide +kernel
theorem dX7_newsAt_12 : decode cX7_newsAt 12 = .ok (.ireturn, 1) := by decide +kernel
theorem dX7_kindOf_0 : decode cX7_kindOf 0 = .ok (.aload_n 0, 1) := by decide +kernel
theorem dX7_kindOf_1 : decode cX7_kindOf 1 = .ok (.getfield 8, 3) := by decide +kernel
theorem dX7_kindOf_4 : decode cX7_kindOf 4 = .ok (.iload_n 1, 1) := by decide +kernel
theorem dX7_kindOf_5 : decode cX7_kindOf 5 = .ok (.iload_n 2, 1) := by decide +kernel
theorem dX7_kindOf_6 : decode cX7_kindOf 6 = .ok (.invokestatic 44, 3) := by decide +kernel
theorem dX7_kindOf_9 : decode cX7_kindOf 9 = .ok (.iaload, 1) := by decide +kernel
theorem dX7_kindOf_10 : decode cX7_kindOf 10 = .ok (.ireturn, 1) := by decide +kernel
theorem dX7_isMember_0 : decode cX7_isMember 0 = .ok (.iload_n 0, 1) := by decide +kernel
theorem dX7_isMember_1 : decode cX7_isMember 1 = .ok (.ifCond .lt 13, 3) := by decide +kernel
theorem dX7_isMember_4 : decode cX7_isMember 4 = .ok (.iload_n 0, 1) := by decide +kernel
theorem dX7_isMember_5 : decode cX7_isMember 5 = .ok (.bipush 64, 2) := by decide +kernel
theorem dX7_isMember_7 : decode cX7_isMember 7 = .ok (.if_icmp .ge 7, 3) := by decide +kernel
theorem dX7_isMember_10 : decode cX7_isMember 10 = .ok (.iconst 1, 1) := by decide +kernel
theorem dX7_isMember_11 : decode cX7_isMember 11 = .ok (.goto 4, 3) := by decide +kernel
theorem dX7_isMember_14 : decode cX7_isMember 14 = .ok (.iconst 0, 1) := by decide +kernel
theorem dX7_isMember_15 : decode cX7_isMember 15 = .ok (.ireturn, 1) := by decide +kernel
theorem dX7_isMade_0 : decode cX7_isMade 0 = .ok (.aload_n 0, 1) := by decide +kernel
theorem dX7_isMade_1 : decode cX7_isMade 1 = .ok (.iload_n 1, 1) := by decide +kernel
theorem dX7_isMade_2 : decode cX7_isMade 2 = .ok (.iconst 0, 1) := by decide +kernel
theorem dX7_isMade_3 : decode cX7_isMade 3 = .ok (.invokevirtual 48, 3) := by decide +kernel
theorem dX7_isMade_6 : decode cX7_isMade 6 = .ok (.ifCond .eq 7, 3) := by decide +kernel
theorem dX7_isMade_9 : decode cX7_isMade 9 = .ok (.iconst 1, 1) := by decide +kernel
theorem dX7_isMade_10 : decode cX7_isMade 10 = .ok (.goto 4, 3) := by decide +kernel
theorem dX7_isMade_13 : decode cX7_isMade 13 = .ok (.iconst 0, 1) := by decide +kernel
theorem dX7_isMade_14 : decode cX7_isMade 14 = .ok (.ireturn, 1) := by decide +kernel
theorem dX7_isLetter_0 : decode cX7_isLetter 0 = .ok (.iload_n 1, 1) := by decide +kernel
theorem dX7_isLetter_1 : decode cX7_isLetter 1 = .ok (.ifCond .lt 18, 3) := by decide +kernel
theorem dX7_isLetter_4 : decode cX7_isLetter 4 = .ok (.iload_n 1, 1) := by decide +kernel
theorem dX7_isLetter_5 : decode cX7_isLetter 5 = .ok (.aload_n 0, 1) := by decide +kernel
theorem dX7_isLetter_6 : decode cX7_isLetter 6 = .ok (.getfield 8, 3) := by decide +kernel
theorem dX7_isLetter_9 : decode cX7_isLetter 9 = .ok (.ldc 51, 2) := by decide +kernel
theorem dX7_isLetter_11 : decode cX7_isLetter 11 = .ok (.iaload, 1) := by decide +kernel
theorem dX7_isLetter_12 : decode cX7_isLetter 12 = .ok (.if_icmp .ge 7, 3) := by decide +kernel
theorem dX7_isLetter_15 : decode cX7_isLetter 15 = .ok (.iconst 1, 1) := by decide +kernel
theorem dX7_isLetter_16 : decode cX7_isLetter 16 = .ok (.goto 4, 3) := by decide +kernel
theorem dX7_isLetter_19 : decode cX7_isLetter 19 = .ok (.iconst 0, 1) := by decide +kernel
theorem dX7_isLetter_20 : decode cX7_isLetter 20 = .ok (.ireturn, 1) := by decide +kernel
theorem dX7_letterOf_0 : decode cX7_letterOf 0 = .ok (.aload_n 0, 1) := by decide +kernel
theorem dX7_letterOf_1 : decode cX7_letterOf 1 = .ok (.getfield 8, 3) := by decide +kernel
theorem dX7_letterOf_4 : decode cX7_letterOf 4 = .ok (.sipush 29120, 3) := by decide +kernel
theorem dX7_letterOf_7 : decode cX7_letterOf 7 = .ok (.bipush 8, 2) := by decide +kernel
theorem dX7_letterOf_9 : decode cX7_letterOf 9 = .ok (.iload_n 1, 1) := by decide +kernel
theorem dX7_letterOf_10 : decode cX7_letterOf 10 = .ok (.imul, 1) := by decide +kernel
theorem dX7_letterOf_11 : decode cX7_letterOf 11 = .ok (.iadd, 1) := by decide +kernel
theorem dX7_letterOf_12 : decode cX7_letterOf 12 = .ok (.iload_n 2, 1) := by decide +kernel
theorem dX7_letterOf_13 : decode cX7_letterOf 13 = .ok (.iadd, 1) := by decide +kernel
theorem dX7_letterOf_14 : decode cX7_letterOf 14 = .ok (.iaload, 1) := by decide +kernel
theorem dX7_letterOf_15 : decode cX7_letterOf 15 = .ok (.ireturn, 1) := by decide +kernel
theorem dX7_isFull_0 : decode cX7_isFull 0 = .ok (.aload_n 0, 1) := by decide +kernel
theorem dX7_isFull_1 : decode cX7_isFull 1 = .ok (.getfield 8, 3) := by decide +kernel
theorem dX7_isFull_4 : decode cX7_isFull 4 = .ok (.ldc 51, 2) := by decide +kernel
theorem dX7_isFull_6 : decode cX7_isFull 6 = .ok (.iaload, 1) := by decide +kernel
theorem dX7_isFull_7 : decode cX7_isFull 7 = .ok (.sipush 1196, 3) := by decide +kernel
theorem dX7_isFull_10 : decode cX7_isFull 10 = .ok (.if_icmp .gt 29, 3) := by decide +kernel
theorem dX7_isFull_13 : decode cX7_isFull 13 = .ok (.aload_n 0, 1) := by decide +kernel
theorem dX7_isFull_14 : decode cX7_isFull 14 = .ok (.getfield 8, 3) := by decide +kernel
theorem dX7_isFull_17 : decode cX7_isFull 17 = .ok (.ldc 52, 2) := by decide +kernel
theorem dX7_isFull_19 : decode cX7_isFull 19 = .ok (.iaload, 1) := by decide +kernel
theorem dX7_isFull_20 : decode cX7_isFull 20 = .ok (.sipush 19800, 3) := by decide +kernel
theorem dX7_isFull_23 : decode cX7_isFull 23 = .ok (.if_icmp .gt 16, 3) := by decide +kernel
theorem dX7_isFull_26 : decode cX7_isFull 26 = .ok (.aload_n 0, 1) := by decide +kernel
theorem dX7_isFull_27 : decode cX7_isFull 27 = .ok (.getfield 8, 3) := by decide +kernel
theorem dX7_isFull_30 : decode cX7_isFull 30 = .ok (.ldc 53, 2) := by decide +kernel
theorem dX7_isFull_32 : decode cX7_isFull 32 = .ok (.iaload, 1) := by decide +kernel
theorem dX7_isFull_33 : decode cX7_isFull 33 = .ok (.sipush 4000, 3) := by decide +kernel
theorem dX7_isFull_36 : decode cX7_isFull 36 = .ok (.if_icmp .lt 7, 3) := by decide +kernel
theorem dX7_isFull_39 : decode cX7_isFull 39 = .ok (.iconst 1, 1) := by decide +kernel
theorem dX7_isFull_40 : decode cX7_isFull 40 = .ok (.goto 4, 3) := by decide +kernel
theorem dX7_isFull_43 : decode cX7_isFull 43 = .ok (.iconst 0, 1) := by decide +kernel
theorem dX7_isFull_44 : decode cX7_isFull 44 = .ok (.ireturn, 1) := by decide +kernel
theorem dX7_ran_0 : decode cX7_ran 0 = .ok (.aload_n 0, 1) := by decide +kernel
theorem dX7_ran_1 : decode cX7_ran 1 = .ok (.getfield 8, 3) := by decide +kernel
theorem dX7_ran_4 : decode cX7_ran 4 = .ok (.ldc 54, 2) := by decide +kernel
theorem dX7_ran_6 : decode cX7_ran 6 = .ok (.iload_n 1, 1) := by decide +kernel
theorem dX7_ran_7 : decode cX7_ran 7 = .ok (.iadd, 1) := by decide +kernel
theorem dX7_ran_8 : decode cX7_ran 8 = .ok (.dup2, 1) := by decide +kernel
theorem dX7_ran_9 : decode cX7_ran 9 = .ok (.iaload, 1) := by decide +kernel
theorem dX7_ran_10 : decode cX7_ran 10 = .ok (.iconst 1, 1) := by decide +kernel
theorem dX7_ran_11 : decode cX7_ran 11 = .ok (.iadd, 1) := by decide +kernel
theorem dX7_ran_12 : decode cX7_ran 12 = .ok (.iastore, 1) := by decide +kernel
theorem dX7_ran_13 : decode cX7_ran 13 = .ok (.return_, 1) := by decide +kernel
theorem dX7_draw_0 : decode cX7_draw 0 = .ok (.aload_n 0, 1) := by decide +kernel
theorem dX7_draw_1 : decode cX7_draw 1 = .ok (.getfield 17, 3) := by decide +kernel
theorem dX7_draw_4 : decode cX7_draw 4 = .ok (.iload_n 1, 1) := by decide +kernel
theorem dX7_draw_5 : decode cX7_draw 5 = .ok (.aload_n 0, 1) := by decide +kernel
theorem dX7_draw_6 : decode cX7_draw 6 = .ok (.getfield 17, 3) := by decide +kernel
theorem dX7_draw_9 : decode cX7_draw 9 = .ok (.iload_n 1, 1) := by decide +kernel
theorem dX7_draw_10 : decode cX7_draw 10 = .ok (.laload, 1) := by decide +kernel
theorem dX7_draw_11 : decode cX7_draw 11 = .ok (.ldc2_w 55, 3) := by decide +kernel
theorem dX7_draw_14 : decode cX7_draw 14 = .ok (.lmul, 1) := by decide +kernel
theorem dX7_draw_15 : decode cX7_draw 15 = .ok (.ldc2_w 57, 3) := by decide +kernel
theorem dX7_draw_18 : decode cX7_draw 18 = .ok (.ladd, 1) := by decide +kernel
theorem dX7_draw_19 : decode cX7_draw 19 = .ok (.lastore, 1) := by decide +kernel
theorem dX7_draw_20 : decode cX7_draw 20 = .ok (.aload_n 0, 1) := by decide +kernel
theorem dX7_draw_21 : decode cX7_draw 21 = .ok (.getfield 17, 3) := by decide +kernel
theorem dX7_draw_24 : decode cX7_draw 24 = .ok (.iload_n 1, 1) := by decide +kernel
theorem dX7_draw_25 : decode cX7_draw 25 = .ok (.laload, 1) := by decide +kernel
theorem dX7_draw_26 : decode cX7_draw 26 = .ok (.bipush 33, 2) := by decide +kernel
theorem dX7_draw_28 : decode cX7_draw 28 = .ok (.lushr, 1) := by decide +kernel
theorem dX7_draw_29 : decode cX7_draw 29 = .ok (.iload_n 2, 1) := by decide +kernel
theorem dX7_draw_30 : decode cX7_draw 30 = .ok (.i2l, 1) := by decide +kernel
theorem dX7_draw_31 : decode cX7_draw 31 = .ok (.lrem, 1) := by decide +kernel
theorem dX7_draw_32 : decode cX7_draw 32 = .ok (.l2i, 1) := by decide +kernel
theorem dX7_draw_33 : decode cX7_draw 33 = .ok (.ireturn, 1) := by decide +kernel
theorem dX7_writes_0 : decode cX7_writes 0 = .ok (.iload_n 1, 1) := by decide +kernel
theorem dX7_writes_1 : decode cX7_writes 1 = .ok (.iload_n 2, 1) := by decide +kernel
theorem dX7_writes_2 : decode cX7_writes 2 = .ok (.invokestatic 44, 3) := by decide +kernel
theorem dX7_writes_5 : decode cX7_writes 5 = .ok (.istore 6, 2) := by decide +kernel
theorem dX7_writes_7 : decode cX7_writes 7 = .ok (.aload_n 0, 1) := by decide +kernel
theorem dX7_writes_8 : decode cX7_writes 8 = .ok (.getfield 8, 3) := by decide +kernel
theorem dX7_writes_11 : decode cX7_writes 11 = .ok (.iload 6, 2) := by decide +kernel
theorem dX7_writes_13 : decode cX7_writes 13 = .ok (.iconst 0, 1) := by decide +kernel
theorem dX7_writes_14 : decode cX7_writes 14 = .ok (.iadd, 1) := by decide +kernel
theorem dX7_writes_15 : decode cX7_writes 15 = .ok (.iload_n 3, 1) := by decide +kernel
theorem dX7_writes_16 : decode cX7_writes 16 = .ok (.iastore, 1) := by decide +kernel
theorem dX7_writes_17 : decode cX7_writes 17 = .ok (.aload_n 0, 1) := by decide +kernel
theorem dX7_writes_18 : decode cX7_writes 18 = .ok (.getfield 8, 3) := by decide +kernel
theorem dX7_writes_21 : decode cX7_writes 21 = .ok (.iload 6, 2) := by decide +kernel
theorem dX7_writes_23 : decode cX7_writes 23 = .ok (.iconst 1, 1) := by decide +kernel
theorem dX7_writes_24 : decode cX7_writes 24 = .ok (.iadd, 1) := by decide +kernel
theorem dX7_writes_25 : decode cX7_writes 25 = .ok (.iload 4, 2) := by decide +kernel
theorem dX7_writes_27 : decode cX7_writes 27 = .ok (.iastore, 1) := by decide +kernel
theorem dX7_writes_28 : decode cX7_writes 28 = .ok (.aload_n 0, 1) := by decide +kernel
theorem dX7_writes_29 : decode cX7_writes 29 = .ok (.getfield 8, 3) := by decide +kernel
theorem dX7_writes_32 : decode cX7_writes 32 = .ok (.iload 6, 2) := by decide +kernel
theorem dX7_writes_34 : decode cX7_writes 34 = .ok (.iconst 2, 1) := by decide +kernel
theorem dX7_writes_35 : decode cX7_writes 35 = .ok (.iadd, 1) := by decide +kernel
theorem dX7_writes_36 : decode cX7_writes 36 = .ok (.iconst 0, 1) := by decide +kernel
theorem dX7_writes_37 : decode cX7_writes 37 = .ok (.iastore, 1) := by decide +kernel
theorem dX7_writes_38 : decode cX7_writes 38 = .ok (.aload_n 0, 1) := by decide +kernel
theorem dX7_writes_39 : decode cX7_writes 39 = .ok (.getfield 8, 3) := by decide +kernel
theorem dX7_writes_42 : decode cX7_writes 42 = .ok (.iload 6, 2) := by decide +kernel
theorem dX7_writes_44 : decode cX7_writes 44 = .ok (.iconst 3, 1) := by decide +kernel
theorem dX7_writes_45 : decode cX7_writes 45 = .ok (.iadd, 1) := by decide +kernel
theorem dX7_writes_46 : decode cX7_writes 46 = .ok (.aload_n 0, 1) := by decide +kernel
theorem dX7_writes_47 : decode cX7_writes 47 = .ok (.iload_n 1, 1) := by decide +kernel
theorem dX7_writes_48 : decode cX7_writes 48 = .ok (.iconst 2, 1) := by decide +kernel
theorem dX7_writes_49 : decode cX7_writes 49 = .ok (.invokevirtual 48, 3) := by decide +kernel
theorem dX7_writes_52 : decode cX7_writes 52 = .ok (.iastore, 1) := by decide +kernel
theorem dX7_writes_53 : decode cX7_writes 53 = .ok (.aload_n 0, 1) := by decide +kernel
theorem dX7_writes_54 : decode cX7_writes 54 = .ok (.getfield 8, 3) := by decide +kernel
theorem dX7_writes_57 : decode cX7_writes 57 = .ok (.iload 6, 2) := by decide +kernel
theorem dX7_writes_59 : decode cX7_writes 59 = .ok (.iconst 4, 1) := by decide +kernel
theorem dX7_writes_60 : decode cX7_writes 60 = .ok (.iadd, 1) := by decide +kernel
theorem dX7_writes_61 : decode cX7_writes 61 = .ok (.iload 5, 2) := by decide +kernel
theorem dX7_writes_63 : decode cX7_writes 63 = .ok (.iastore, 1) := by decide +kernel
theorem dX7_writes_64 : decode cX7_writes 64 = .ok (.return_, 1) := by decide +kernel
theorem dX7_takes_0 : decode cX7_takes 0 = .ok (.aload_n 0, 1) := by decide +kernel
theorem dX7_takes_1 : decode cX7_takes 1 = .ok (.iload_n 3, 1) := by decide +kernel
theorem dX7_takes_2 : decode cX7_takes 2 = .ok (.iconst 1, 1) := by decide +kernel
theorem dX7_takes_3 : decode cX7_takes 3 = .ok (.isub, 1) := by decide +kernel
theorem dX7_takes_4 : decode cX7_takes 4 = .ok (.invokevirtual 59, 3) := by decide +kernel
theorem dX7_takes_7 : decode cX7_takes 7 = .ok (.iload_n 2, 1) := by decide +kernel
theorem dX7_takes_8 : decode cX7_takes 8 = .ok (.iload_n 1, 1) := by decide +kernel
theorem dX7_takes_9 : decode cX7_takes 9 = .ok (.if_icmp .ne 49, 3) := by decide +kernel
theorem dX7_takes_12 : decode cX7_takes 12 = .ok (.iload_n 3, 1) := by decide +kernel
theorem dX7_takes_13 : decode cX7_takes 13 = .ok (.iconst 1, 1) := by decide +kernel
theorem dX7_takes_14 : decode cX7_takes 14 = .ok (.if_icmp .eq 14, 3) := by decide +kernel
theorem dX7_takes_17 : decode cX7_takes 17 = .ok (.iload 4, 2) := by decide +kernel
theorem dX7_takes_19 : decode cX7_takes 19 = .ok (.aload_n 0, 1) := by decide +kernel
theorem dX7_takes_20 : decode cX7_takes 20 = .ok (.iload_n 1, 1) := by decide +kernel
theorem dX7_takes_21 : decode cX7_takes 21 = .ok (.iconst 1, 1) := by decide +kernel
theorem dX7_takes_22 : decode cX7_takes 22 = .ok (.invokevirtual 48, 3) := by decide +kernel
theorem dX7_takes_25 : decode cX7_takes 25 = .ok (.if_icmp .ge 4, 3) := by decide +kernel
theorem dX7_takes_28 : decode cX7_takes 28 = .ok (.return_, 1) := by decide +kernel
theorem dX7_takes_29 : decode cX7_takes 29 = .ok (.aload_n 0, 1) := by decide +kernel
theorem dX7_takes_30 : decode cX7_takes 30 = .ok (.iload_n 1, 1) := by decide +kernel
theorem dX7_takes_31 : decode cX7_takes 31 = .ok (.iconst 1, 1) := by decide +kernel
theorem dX7_takes_32 : decode cX7_takes 32 = .ok (.iload 4, 2) := by decide +kernel
theorem dX7_takes_34 : decode cX7_takes 34 = .ok (.iconst 1, 1) := by decide +kernel
theorem dX7_takes_35 : decode cX7_takes 35 = .ok (.iadd, 1) := by decide +kernel
theorem dX7_takes_36 : decode cX7_takes 36 = .ok (.invokevirtual 63, 3) := by decide +kernel
theorem dX7_takes_39 : decode cX7_takes 39 = .ok (.aload_n 0, 1) := by decide +kernel
theorem dX7_takes_40 : decode cX7_takes 40 = .ok (.iload_n 1, 1) := by decide +kernel
theorem dX7_takes_41 : decode cX7_takes 41 = .ok (.iload_n 1, 1) := by decide +kernel
theorem dX7_takes_42 : decode cX7_takes 42 = .ok (.iconst 1, 1) := by decide +kernel
theorem dX7_takes_43 : decode cX7_takes 43 = .ok (.iload 4, 2) := by decide +kernel
theorem dX7_takes_45 : decode cX7_takes 45 = .ok (.iconst 1, 1) := by decide +kernel
theorem dX7_takes_46 : decode cX7_takes 46 = .ok (.iadd, 1) := by decide +kernel
theorem dX7_takes_47 : decode cX7_takes 47 = .ok (.iconst (-1), 1) := by decide +kernel
theorem dX7_takes_48 : decode cX7_takes 48 = .ok (.invokevirtual 67, 3) := by decide +kernel
theorem dX7_takes_51 : decode cX7_takes 51 = .ok (.aload_n 0, 1) := by decide +kernel
theorem dX7_takes_52 : decode cX7_takes 52 = .ok (.bipush 10, 2) := by decide +kernel
theorem dX7_takes_54 : decode cX7_takes 54 = .ok (.invokevirtual 59, 3) := by decide +kernel
theorem dX7_takes_57 : decode cX7_takes 57 = .ok (.return_, 1) := by decide +kernel
theorem dX7_takes_58 : decode cX7_takes 58 = .ok (.iload_n 1, 1) := by decide +kernel
theorem dX7_takes_59 : decode cX7_takes 59 = .ok (.iload_n 2, 1) := by decide +kernel
theorem dX7_takes_60 : decode cX7_takes 60 = .ok (.invokestatic 44, 3) := by decide +kernel
theorem dX7_takes_63 : decode cX7_takes 63 = .ok (.istore 6, 2) := by decide +kernel
theorem dX7_takes_65 : decode cX7_takes 65 = .ok (.aload_n 0, 1) := by decide +kernel
theorem dX7_takes_66 : decode cX7_takes 66 = .ok (.getfield 8, 3) := by decide +kernel
theorem dX7_takes_69 : decode cX7_takes 69 = .ok (.iload 6, 2) := by decide +kernel
theorem dX7_takes_71 : decode cX7_takes 71 = .ok (.iaload, 1) := by decide +kernel
theorem dX7_takes_72 : decode cX7_takes 72 = .ok (.ifCond .eq 42, 3) := by decide +kernel
theorem dX7_takes_75 : decode cX7_takes 75 = .ok (.iload 4, 2) := by decide +kernel
theorem dX7_takes_77 : decode cX7_takes 77 = .ok (.aload_n 0, 1) := by decide +kernel
theorem dX7_takes_78 : decode cX7_takes 78 = .ok (.getfield 8, 3) := by decide +kernel
theorem dX7_takes_81 : decode cX7_takes 81 = .ok (.iload 6, 2) := by decide +kernel
theorem dX7_takes_83 : decode cX7_takes 83 = .ok (.iconst 1, 1) := by decide +kernel
theorem dX7_takes_84 : decode cX7_takes 84 = .ok (.iadd, 1) := by decide +kernel
theorem dX7_takes_85 : decode cX7_takes 85 = .ok (.iaload, 1) := by decide +kernel
theorem dX7_takes_86 : decode cX7_takes 86 = .ok (.if_icmp .gt 28, 3) := by decide +kernel
theorem dX7_takes_89 : decode cX7_takes 89 = .ok (.iload 4, 2) := by decide +kernel
theorem dX7_takes_91 : decode cX7_takes 91 = .ok (.aload_n 0, 1) := by decide +kernel
theorem dX7_takes_92 : decode cX7_takes 92 = .ok (.getfield 8, 3) := by decide +kernel
theorem dX7_takes_95 : decode cX7_takes 95 = .ok (.iload 6, 2) := by decide +kernel
theorem dX7_takes_97 : decode cX7_takes 97 = .ok (.iconst 1, 1) := by decide +kernel
theorem dX7_takes_98 : decode cX7_takes 98 = .ok (.iadd, 1) := by decide +kernel
theorem dX7_takes_99 : decode cX7_takes 99 = .ok (.iaload, 1) := by decide +kernel
theorem dX7_takes_100 : decode cX7_takes 100 = .ok (.if_icmp .ne 18, 3) := by decide +kernel
theorem dX7_takes_103 : decode cX7_takes 103 = .ok (.iload_n 3, 1) := by decide +kernel
theorem dX7_takes_104 : decode cX7_takes 104 = .ok (.aload_n 0, 1) := by decide +kernel
theorem dX7_takes_105 : decode cX7_takes 105 = .ok (.getfield 8, 3) := by decide +kernel
theorem dX7_takes_108 : decode cX7_takes 108 = .ok (.iload 6, 2) := by decide +kernel
theorem dX7_takes_110 : decode cX7_takes 110 = .ok (.iaload, 1) := by decide +kernel
theorem dX7_takes_111 : decode cX7_takes 111 = .ok (.if_icmp .le 7, 3) := by decide +kernel
theorem dX7_takes_114 : decode cX7_takes 114 = .ok (.iconst 1, 1) := by decide +kernel
theorem dX7_takes_115 : decode cX7_takes 115 = .ok (.goto 4, 3) := by decide +kernel
theorem dX7_takes_118 : decode cX7_takes 118 = .ok (.iconst 0, 1) := by decide +kernel
theorem dX7_takes_119 : decode cX7_takes 119 = .ok (.istore 7, 2) := by decide +kernel
theorem dX7_takes_121 : decode cX7_takes 121 = .ok (.iload 7, 2) := by decide +kernel
theorem dX7_takes_123 : decode cX7_takes 123 = .ok (.ifCond .eq 14, 3) := by decide +kernel
theorem dX7_takes_126 : decode cX7_takes 126 = .ok (.aload_n 0, 1) := by decide +kernel
theorem dX7_takes_127 : decode cX7_takes 127 = .ok (.iload_n 1, 1) := by decide +kernel
theorem dX7_takes_128 : decode cX7_takes 128 = .ok (.iload_n 2, 1) := by decide +kernel
theorem dX7_takes_129 : decode cX7_takes 129 = .ok (.iload_n 3, 1) := by decide +kernel
theorem dX7_takes_130 : decode cX7_takes 130 = .ok (.iload 4, 2) := by decide +kernel
theorem dX7_takes_132 : decode cX7_takes 132 = .ok (.iload 5, 2) := by decide +kernel
theorem dX7_takes_134 : decode cX7_takes 134 = .ok (.invokevirtual 67, 3) := by decide +kernel
theorem dX7_takes_137 : decode cX7_takes 137 = .ok (.return_, 1) := by decide +kernel
theorem dX7_carry_0 : decode cX7_carry 0 = .ok (.iload_n 1, 1) := by decide +kernel
theorem dX7_carry_1 : decode cX7_carry 1 = .ok (.iload_n 2, 1) := by decide +kernel
theorem dX7_carry_2 : decode cX7_carry 2 = .ok (.invokestatic 44, 3) := by decide +kernel
theorem dX7_carry_5 : decode cX7_carry 5 = .ok (.istore_n 3, 1) := by decide +kernel
theorem dX7_carry_6 : decode cX7_carry 6 = .ok (.ldc 71, 2) := by decide +kernel
theorem dX7_carry_8 : decode cX7_carry 8 = .ok (.iconst 4, 1) := by decide +kernel
theorem dX7_carry_9 : decode cX7_carry 9 = .ok (.aload_n 0, 1) := by decide +kernel
theorem dX7_carry_10 : decode cX7_carry 10 = .ok (.getfield 8, 3) := by decide +kernel
theorem dX7_carry_13 : decode cX7_carry 13 = .ok (.ldc 52, 2) := by decide +kernel
theorem dX7_carry_15 : decode cX7_carry 15 = .ok (.iaload, 1) := by decide +kernel
theorem dX7_carry_16 : decode cX7_carry 16 = .ok (.imul, 1) := by decide +kernel
theorem dX7_carry_17 : decode cX7_carry 17 = .ok (.iadd, 1) := by decide +kernel
theorem dX7_carry_18 : decode cX7_carry 18 = .ok (.istore 4, 2) := by decide +kernel
theorem dX7_carry_20 : decode cX7_carry 20 = .ok (.aload_n 0, 1) := by decide +kernel
theorem dX7_carry_21 : decode cX7_carry 21 = .ok (.getfield 8, 3) := by decide +kernel
theorem dX7_carry_24 : decode cX7_carry 24 = .ok (.iload 4, 2) := by decide +kernel
theorem dX7_carry_26 : decode cX7_carry 26 = .ok (.iload_n 2, 1) := by decide +kernel
theorem dX7_carry_27 : decode cX7_carry 27 = .ok (.iastore, 1) := by decide +kernel
theorem dX7_carry_28 : decode cX7_carry 28 = .ok (.aload_n 0, 1) := by decide +kernel
theorem dX7_carry_29 : decode cX7_carry 29 = .ok (.getfield 8, 3) := by decide +kernel
theorem dX7_carry_32 : decode cX7_carry 32 = .ok (.iload 4, 2) := by decide +kernel
theorem dX7_carry_34 : decode cX7_carry 34 = .ok (.iconst 1, 1) := by decide +kernel
theorem dX7_carry_35 : decode cX7_carry 35 = .ok (.iadd, 1) := by decide +kernel
theorem dX7_carry_36 : decode cX7_carry 36 = .ok (.aload_n 0, 1) := by decide +kernel
theorem dX7_carry_37 : decode cX7_carry 37 = .ok (.getfield 8, 3) := by decide +kernel
theorem dX7_carry_40 : decode cX7_carry 40 = .ok (.iload_n 3, 1) := by decide +kernel
theorem dX7_carry_41 : decode cX7_carry 41 = .ok (.iconst 0, 1) := by decide +kernel
theorem dX7_carry_42 : decode cX7_carry 42 = .ok (.iadd, 1) := by decide +kernel
theorem dX7_carry_43 : decode cX7_carry 43 = .ok (.iaload, 1) := by decide +kernel
theorem dX7_carry_44 : decode cX7_carry 44 = .ok (.iastore, 1) := by decide +kernel
theorem dX7_carry_45 : decode cX7_carry 45 = .ok (.aload_n 0, 1) := by decide +kernel
theorem dX7_carry_46 : decode cX7_carry 46 = .ok (.getfield 8, 3) := by decide +kernel
theorem dX7_carry_49 : decode cX7_carry 49 = .ok (.iload 4, 2) := by decide +kernel
theorem dX7_carry_51 : decode cX7_carry 51 = .ok (.iconst 2, 1) := by decide +kernel
theorem dX7_carry_52 : decode cX7_carry 52 = .ok (.iadd, 1) := by decide +kernel
theorem dX7_carry_53 : decode cX7_carry 53 = .ok (.aload_n 0, 1) := by decide +kernel
theorem dX7_carry_54 : decode cX7_carry 54 = .ok (.getfield 8, 3) := by decide +kernel
theorem dX7_carry_57 : decode cX7_carry 57 = .ok (.iload_n 3, 1) := by decide +kernel
theorem dX7_carry_58 : decode cX7_carry 58 = .ok (.iconst 1, 1) := by decide +kernel
theorem dX7_carry_59 : decode cX7_carry 59 = .ok (.iadd, 1) := by decide +kernel
theorem dX7_carry_60 : decode cX7_carry 60 = .ok (.iaload, 1) := by decide +kernel
theorem dX7_carry_61 : decode cX7_carry 61 = .ok (.iastore, 1) := by decide +kernel
theorem dX7_carry_62 : decode cX7_carry 62 = .ok (.aload_n 0, 1) := by decide +kernel
theorem dX7_carry_63 : decode cX7_carry 63 = .ok (.getfield 8, 3) := by decide +kernel
theorem dX7_carry_66 : decode cX7_carry 66 = .ok (.iload 4, 2) := by decide +kernel
theorem dX7_carry_68 : decode cX7_carry 68 = .ok (.iconst 3, 1) := by decide +kernel
theorem dX7_carry_69 : decode cX7_carry 69 = .ok (.iadd, 1) := by decide +kernel
theorem dX7_carry_70 : decode cX7_carry 70 = .ok (.aload_n 0, 1) := by decide +kernel
theorem dX7_carry_71 : decode cX7_carry 71 = .ok (.getfield 8, 3) := by decide +kernel
theorem dX7_carry_74 : decode cX7_carry 74 = .ok (.iload_n 3, 1) := by decide +kernel
theorem dX7_carry_75 : decode cX7_carry 75 = .ok (.iconst 4, 1) := by decide +kernel
theorem dX7_carry_76 : decode cX7_carry 76 = .ok (.iadd, 1) := by decide +kernel
theorem dX7_carry_77 : decode cX7_carry 77 = .ok (.iaload, 1) := by decide +kernel
theorem dX7_carry_78 : decode cX7_carry 78 = .ok (.iastore, 1) := by decide +kernel
theorem dX7_carry_79 : decode cX7_carry 79 = .ok (.aload_n 0, 1) := by decide +kernel
theorem dX7_carry_80 : decode cX7_carry 80 = .ok (.getfield 8, 3) := by decide +kernel
theorem dX7_carry_83 : decode cX7_carry 83 = .ok (.ldc 52, 2) := by decide +kernel
theorem dX7_carry_85 : decode cX7_carry 85 = .ok (.dup2, 1) := by decide +kernel
theorem dX7_carry_86 : decode cX7_carry 86 = .ok (.iaload, 1) := by decide +kernel
theorem dX7_carry_87 : decode cX7_carry 87 = .ok (.iconst 1, 1) := by decide +kernel
theorem dX7_carry_88 : decode cX7_carry 88 = .ok (.iadd, 1) := by decide +kernel
theorem dX7_carry_89 : decode cX7_carry 89 = .ok (.iastore, 1) := by decide +kernel
theorem dX7_carry_90 : decode cX7_carry 90 = .ok (.aload_n 0, 1) := by decide +kernel
theorem dX7_carry_91 : decode cX7_carry 91 = .ok (.iconst 3, 1) := by decide +kernel
theorem dX7_carry_92 : decode cX7_carry 92 = .ok (.aload_n 0, 1) := by decide +kernel
theorem dX7_carry_93 : decode cX7_carry 93 = .ok (.getfield 8, 3) := by decide +kernel
theorem dX7_carry_96 : decode cX7_carry 96 = .ok (.iload_n 3, 1) := by decide +kernel
theorem dX7_carry_97 : decode cX7_carry 97 = .ok (.iconst 0, 1) := by decide +kernel
theorem dX7_carry_98 : decode cX7_carry 98 = .ok (.iadd, 1) := by decide +kernel
theorem dX7_carry_99 : decode cX7_carry 99 = .ok (.iaload, 1) := by decide +kernel
theorem dX7_carry_100 : decode cX7_carry 100 = .ok (.iadd, 1) := by decide +kernel
theorem dX7_carry_101 : decode cX7_carry 101 = .ok (.invokevirtual 59, 3) := by decide +kernel
theorem dX7_carry_104 : decode cX7_carry 104 = .ok (.return_, 1) := by decide +kernel
theorem dX7_leastTold_0 : decode cX7_leastTold 0 = .ok (.iconst (-1), 1) := by decide +kernel
theorem dX7_leastTold_1 : decode cX7_leastTold 1 = .ok (.istore_n 2, 1) := by decide +kernel
theorem dX7_leastTold_2 : decode cX7_leastTold 2 = .ok (.iconst 0, 1) := by decide +kernel
theorem dX7_leastTold_3 : decode cX7_leastTold 3 = .ok (.istore_n 3, 1) := by decide +kernel
theorem dX7_leastTold_4 : decode cX7_leastTold 4 = .ok (.iload_n 3, 1) := by decide +kernel
theorem dX7_leastTold_5 : decode cX7_leastTold 5 = .ok (.bipush 64, 2) := by decide +kernel
theorem dX7_leastTold_7 : decode cX7_leastTold 7 = .ok (.if_icmp .ge 91, 3) := by decide +kernel
theorem dX7_leastTold_10 : decode cX7_leastTold 10 = .ok (.iload_n 1, 1) := by decide +kernel
theorem dX7_leastTold_11 : decode cX7_leastTold 11 = .ok (.iload_n 3, 1) := by decide +kernel
theorem dX7_leastTold_12 : decode cX7_leastTold 12 = .ok (.invokestatic 44, 3) := by decide +kernel
theorem dX7_leastTold_15 : decode cX7_leastTold 15 = .ok (.istore 4, 2) := by decide +kernel
theorem dX7_leastTold_17 : decode cX7_leastTold 17 = .ok (.aload_n 0, 1) := by decide +kernel
theorem dX7_leastTold_18 : decode cX7_leastTold 18 = .ok (.getfield 8, 3) := by decide +kernel
theorem dX7_leastTold_21 : decode cX7_leastTold 21 = .ok (.iload 4, 2) := by decide +kernel
theorem dX7_leastTold_23 : decode cX7_leastTold 23 = .ok (.iaload, 1) := by decide +kernel
theorem dX7_leastTold_24 : decode cX7_leastTold 24 = .ok (.ifCond .eq 30, 3) := by decide +kernel
theorem dX7_leastTold_27 : decode cX7_leastTold 27 = .ok (.aload_n 0, 1) := by decide +kernel
theorem dX7_leastTold_28 : decode cX7_leastTold 28 = .ok (.getfield 8, 3) := by decide +kernel
theorem dX7_leastTold_31 : decode cX7_leastTold 31 = .ok (.iload 4, 2) := by decide +kernel
theorem dX7_leastTold_33 : decode cX7_leastTold 33 = .ok (.iconst 2, 1) := by decide +kernel
theorem dX7_leastTold_34 : decode cX7_leastTold 34 = .ok (.iadd, 1) := by decide +kernel
theorem dX7_leastTold_35 : decode cX7_leastTold 35 = .ok (.iaload, 1) := by decide +kernel
theorem dX7_leastTold_36 : decode cX7_leastTold 36 = .ok (.bipush 8, 2) := by decide +kernel
theorem dX7_leastTold_38 : decode cX7_leastTold 38 = .ok (.if_icmp .ge 16, 3) := by decide +kernel
theorem dX7_leastTold_41 : decode cX7_leastTold 41 = .ok (.aload_n 0, 1) := by decide +kernel
theorem dX7_leastTold_42 : decode cX7_leastTold 42 = .ok (.getfield 36, 3) := by decide +kernel
theorem dX7_leastTold_45 : decode cX7_leastTold 45 = .ok (.iload_n 3, 1) := by decide +kernel
theorem dX7_leastTold_46 : decode cX7_leastTold 46 = .ok (.baload, 1) := by decide +kernel
theorem dX7_leastTold_47 : decode cX7_leastTold 47 = .ok (.ifCond .ne 7, 3) := by decide +kernel
theorem dX7_leastTold_50 : decode cX7_leastTold 50 = .ok (.iconst 1, 1) := by decide +kernel
theorem dX7_leastTold_51 : decode cX7_leastTold 51 = .ok (.goto 4, 3) := by decide +kernel
theorem dX7_leastTold_54 : decode cX7_leastTold 54 = .ok (.iconst 0, 1) := by decide +kernel
theorem dX7_leastTold_55 : decode cX7_leastTold 55 = .ok (.istore 5, 2) := by decide +kernel
theorem dX7_leastTold_57 : decode cX7_leastTold 57 = .ok (.iload 5, 2) := by decide +kernel
theorem dX7_leastTold_59 : decode cX7_leastTold 59 = .ok (.ifCond .eq 33, 3) := by decide +kernel
theorem dX7_leastTold_62 : decode cX7_leastTold 62 = .ok (.iload_n 2, 1) := by decide +kernel
theorem dX7_leastTold_63 : decode cX7_leastTold 63 = .ok (.ifCond .lt 27, 3) := by decide +kernel
theorem dX7_leastTold_66 : decode cX7_leastTold 66 = .ok (.aload_n 0, 1) := by decide +kernel
theorem dX7_leastTold_67 : decode cX7_leastTold 67 = .ok (.getfield 8, 3) := by decide +kernel
theorem dX7_leastTold_70 : decode cX7_leastTold 70 = .ok (.iload 4, 2) := by decide +kernel
theorem dX7_leastTold_72 : decode cX7_leastTold 72 = .ok (.iconst 2, 1) := by decide +kernel
theorem dX7_leastTold_73 : decode cX7_leastTold 73 = .ok (.iadd, 1) := by decide +kernel
theorem dX7_leastTold_74 : decode cX7_leastTold 74 = .ok (.iaload, 1) := by decide +kernel
theorem dX7_leastTold_75 : decode cX7_leastTold 75 = .ok (.aload_n 0, 1) := by decide +kernel
theorem dX7_leastTold_76 : decode cX7_leastTold 76 = .ok (.getfield 8, 3) := by decide +kernel
theorem dX7_leastTold_79 : decode cX7_leastTold 79 = .ok (.iload_n 1, 1) := by decide +kernel
theorem dX7_leastTold_80 : decode cX7_leastTold 80 = .ok (.iload_n 2, 1) := by decide +kernel
theorem dX7_leastTold_81 : decode cX7_leastTold 81 = .ok (.invokestatic 44, 3) := by decide +kernel
theorem dX7_leastTold_84 : decode cX7_leastTold 84 = .ok (.iconst 2, 1) := by decide +kernel
theorem dX7_leastTold_85 : decode cX7_leastTold 85 = .ok (.iadd, 1) := by decide +kernel
theorem dX7_leastTold_86 : decode cX7_leastTold 86 = .ok (.iaload, 1) := by decide +kernel
theorem dX7_leastTold_87 : decode cX7_leastTold 87 = .ok (.if_icmp .ge 5, 3) := by decide +kernel
theorem dX7_leastTold_90 : decode cX7_leastTold 90 = .ok (.iload_n 3, 1) := by decide +kernel
theorem dX7_leastTold_91 : decode cX7_leastTold 91 = .ok (.istore_n 2, 1) := by decide +kernel
theorem dX7_leastTold_92 : decode cX7_leastTold 92 = .ok (.iinc 3 1, 3) := by decide +kernel
theorem dX7_leastTold_95 : decode cX7_leastTold 95 = .ok (.goto (-91), 3) := by decide +kernel
theorem dX7_leastTold_98 : decode cX7_leastTold 98 = .ok (.iload_n 2, 1) := by decide +kernel
theorem dX7_leastTold_99 : decode cX7_leastTold 99 = .ok (.ireturn, 1) := by decide +kernel
theorem dX7_send_0 : decode cX7_send 0 = .ok (.aload_n 0, 1) := by decide +kernel
theorem dX7_send_1 : decode cX7_send 1 = .ok (.getfield 8, 3) := by decide +kernel
theorem dX7_send_4 : decode cX7_send 4 = .ok (.ldc 51, 2) := by decide +kernel
theorem dX7_send_6 : decode cX7_send 6 = .ok (.iaload, 1) := by decide +kernel
theorem dX7_send_7 : decode cX7_send 7 = .ok (.istore 5, 2) := by decide +kernel
theorem dX7_send_9 : decode cX7_send 9 = .ok (.sipush 29120, 3) := by decide +kernel
theorem dX7_send_12 : decode cX7_send 12 = .ok (.bipush 8, 2) := by decide +kernel
theorem dX7_send_14 : decode cX7_send 14 = .ok (.iload 5, 2) := by decide +kernel
theorem dX7_send_16 : decode cX7_send 16 = .ok (.imul, 1) := by decide +kernel
theorem dX7_send_17 : decode cX7_send 17 = .ok (.iadd, 1) := by decide +kernel
theorem dX7_send_18 : decode cX7_send 18 = .ok (.istore 6, 2) := by decide +kernel
theorem dX7_send_20 : decode cX7_send 20 = .ok (.aload_n 0, 1) := by decide +kernel
theorem dX7_send_21 : decode cX7_send 21 = .ok (.getfield 8, 3) := by decide +kernel
theorem dX7_send_24 : decode cX7_send 24 = .ok (.ldc 51, 2) := by decide +kernel
theorem dX7_send_26 : decode cX7_send 26 = .ok (.dup2, 1) := by decide +kernel
theorem dX7_send_27 : decode cX7_send 27 = .ok (.iaload, 1) := by decide +kernel
theorem dX7_send_28 : decode cX7_send 28 = .ok (.iconst 1, 1) := by decide +kernel
theorem dX7_send_29 : decode cX7_send 29 = .ok (.iadd, 1) := by decide +kernel
theorem dX7_send_30 : decode cX7_send 30 = .ok (.iastore, 1) := by decide +kernel
theorem dX7_send_31 : decode cX7_send 31 = .ok (.aload_n 0, 1) := by decide +kernel
theorem dX7_send_32 : decode cX7_send 32 = .ok (.getfield 8, 3) := by decide +kernel
theorem dX7_send_35 : decode cX7_send 35 = .ok (.iload 6, 2) := by decide +kernel
theorem dX7_send_37 : decode cX7_send 37 = .ok (.iconst 0, 1) := by decide +kernel
theorem dX7_send_38 : decode cX7_send 38 = .ok (.iadd, 1) := by decide +kernel
theorem dX7_send_39 : decode cX7_send 39 = .ok (.iload_n 3, 1) := by decide +kernel
theorem dX7_send_40 : decode cX7_send 40 = .ok (.iastore, 1) := by decide +kernel
theorem dX7_send_41 : decode cX7_send 41 = .ok (.aload_n 0, 1) := by decide +kernel
theorem dX7_send_42 : decode cX7_send 42 = .ok (.getfield 8, 3) := by decide +kernel
theorem dX7_send_45 : decode cX7_send 45 = .ok (.iload 6, 2) := by decide +kernel
theorem dX7_send_47 : decode cX7_send 47 = .ok (.iconst 1, 1) := by decide +kernel
theorem dX7_send_48 : decode cX7_send 48 = .ok (.iadd, 1) := by decide +kernel
theorem dX7_send_49 : decode cX7_send 49 = .ok (.iload_n 1, 1) := by decide +kernel
theorem dX7_send_50 : decode cX7_send 50 = .ok (.iastore, 1) := by decide +kernel
theorem dX7_send_51 : decode cX7_send 51 = .ok (.aload_n 0, 1) := by decide +kernel
theorem dX7_send_52 : decode cX7_send 52 = .ok (.getfield 8, 3) := by decide +kernel
theorem dX7_send_55 : decode cX7_send 55 = .ok (.iload 6, 2) := by decide +kernel
theorem dX7_send_57 : decode cX7_send 57 = .ok (.iconst 2, 1) := by decide +kernel
theorem dX7_send_58 : decode cX7_send 58 = .ok (.iadd, 1) := by decide +kernel
theorem dX7_send_59 : decode cX7_send 59 = .ok (.iload_n 2, 1) := by decide +kernel
theorem dX7_send_60 : decode cX7_send 60 = .ok (.iastore, 1) := by decide +kernel
theorem dX7_send_61 : decode cX7_send 61 = .ok (.aload_n 0, 1) := by decide +kernel
theorem dX7_send_62 : decode cX7_send 62 = .ok (.getfield 8, 3) := by decide +kernel
theorem dX7_send_65 : decode cX7_send 65 = .ok (.iload 6, 2) := by decide +kernel
theorem dX7_send_67 : decode cX7_send 67 = .ok (.iconst 3, 1) := by decide +kernel
theorem dX7_send_68 : decode cX7_send 68 = .ok (.iadd, 1) := by decide +kernel
theorem dX7_send_69 : decode cX7_send 69 = .ok (.iload 4, 2) := by decide +kernel
theorem dX7_send_71 : decode cX7_send 71 = .ok (.iastore, 1) := by decide +kernel
theorem dX7_send_72 : decode cX7_send 72 = .ok (.aload_n 0, 1) := by decide +kernel
theorem dX7_send_73 : decode cX7_send 73 = .ok (.getfield 8, 3) := by decide +kernel
theorem dX7_send_76 : decode cX7_send 76 = .ok (.iload 6, 2) := by decide +kernel
theorem dX7_send_78 : decode cX7_send 78 = .ok (.iconst 4, 1) := by decide +kernel
theorem dX7_send_79 : decode cX7_send 79 = .ok (.iadd, 1) := by decide +kernel
theorem dX7_send_80 : decode cX7_send 80 = .ok (.aload_n 0, 1) := by decide +kernel
theorem dX7_send_81 : decode cX7_send 81 = .ok (.getfield 8, 3) := by decide +kernel
theorem dX7_send_84 : decode cX7_send 84 = .ok (.ldc 52, 2) := by decide +kernel
theorem dX7_send_86 : decode cX7_send 86 = .ok (.iaload, 1) := by decide +kernel
theorem dX7_send_87 : decode cX7_send 87 = .ok (.iastore, 1) := by decide +kernel
theorem dX7_send_88 : decode cX7_send 88 = .ok (.aload_n 0, 1) := by decide +kernel
theorem dX7_send_89 : decode cX7_send 89 = .ok (.getfield 8, 3) := by decide +kernel
theorem dX7_send_92 : decode cX7_send 92 = .ok (.iload 6, 2) := by decide +kernel
theorem dX7_send_94 : decode cX7_send 94 = .ok (.bipush 6, 2) := by decide +kernel
theorem dX7_send_96 : decode cX7_send 96 = .ok (.iadd, 1) := by decide +kernel
theorem dX7_send_97 : decode cX7_send 97 = .ok (.iconst 0, 1) := by decide +kernel
theorem dX7_send_98 : decode cX7_send 98 = .ok (.iastore, 1) := by decide +kernel
theorem dX7_send_99 : decode cX7_send 99 = .ok (.aload_n 0, 1) := by decide +kernel
theorem dX7_send_100 : decode cX7_send 100 = .ok (.getfield 8, 3) := by decide +kernel
theorem dX7_send_103 : decode cX7_send 103 = .ok (.iload 6, 2) := by decide +kernel
theorem dX7_send_105 : decode cX7_send 105 = .ok (.bipush 7, 2) := by decide +kernel
theorem dX7_send_107 : decode cX7_send 107 = .ok (.iadd, 1) := by decide +kernel
theorem dX7_send_108 : decode cX7_send 108 = .ok (.iconst (-1), 1) := by decide +kernel
theorem dX7_send_109 : decode cX7_send 109 = .ok (.iastore, 1) := by decide +kernel
theorem dX7_send_110 : decode cX7_send 110 = .ok (.iconst 0, 1) := by decide +kernel
theorem dX7_send_111 : decode cX7_send 111 = .ok (.istore 7, 2) := by decide +kernel
theorem dX7_send_113 : decode cX7_send 113 = .ok (.iload 7, 2) := by decide +kernel
theorem dX7_send_115 : decode cX7_send 115 = .ok (.bipush 64, 2) := by decide +kernel
theorem dX7_send_117 : decode cX7_send 117 = .ok (.if_icmp .ge 40, 3) := by decide +kernel
theorem dX7_send_120 : decode cX7_send 120 = .ok (.aload_n 0, 1) := by decide +kernel
theorem dX7_send_121 : decode cX7_send 121 = .ok (.getfield 36, 3) := by decide +kernel
theorem dX7_send_124 : decode cX7_send 124 = .ok (.iload 7, 2) := by decide +kernel
theorem dX7_send_126 : decode cX7_send 126 = .ok (.iconst 0, 1) := by decide +kernel
theorem dX7_send_127 : decode cX7_send 127 = .ok (.bastore, 1) := by decide +kernel
theorem dX7_send_128 : decode cX7_send 128 = .ok (.iload_n 3, 1) := by decide +kernel
theorem dX7_send_129 : decode cX7_send 129 = .ok (.bipush 6, 2) := by decide +kernel
theorem dX7_send_131 : decode cX7_send 131 = .ok (.if_icmp .ne 20, 3) := by decide +kernel
theorem dX7_send_134 : decode cX7_send 134 = .ok (.aload_n 0, 1) := by decide +kernel
theorem dX7_send_135 : decode cX7_send 135 = .ok (.iload_n 1, 1) := by decide +kernel
theorem dX7_send_136 : decode cX7_send 136 = .ok (.iload 7, 2) := by decide +kernel
theorem dX7_send_138 : decode cX7_send 138 = .ok (.invokevirtual 72, 3) := by decide +kernel
theorem dX7_send_141 : decode cX7_send 141 = .ok (.ifCond .eq 10, 3) := by decide +kernel
theorem dX7_send_144 : decode cX7_send 144 = .ok (.aload_n 0, 1) := by decide +kernel
theorem dX7_send_145 : decode cX7_send 145 = .ok (.iload_n 1, 1) := by decide +kernel
theorem dX7_send_146 : decode cX7_send 146 = .ok (.iload 7, 2) := by decide +kernel
theorem dX7_send_148 : decode cX7_send 148 = .ok (.invokevirtual 75, 3) := by decide +kernel
theorem dX7_send_151 : decode cX7_send 151 = .ok (.iinc 7 1, 3) := by decide +kernel
theorem dX7_send_154 : decode cX7_send 154 = .ok (.goto (-41), 3) := by decide +kernel
theorem dX7_send_157 : decode cX7_send 157 = .ok (.iconst 0, 1) := by decide +kernel
theorem dX7_send_158 : decode cX7_send 158 = .ok (.istore 7, 2) := by decide +kernel
theorem dX7_send_160 : decode cX7_send 160 = .ok (.iload 7, 2) := by decide +kernel
theorem dX7_send_162 : decode cX7_send 162 = .ok (.bipush 6, 2) := by decide +kernel
theorem dX7_send_164 : decode cX7_send 164 = .ok (.if_icmp .ge 45, 3) := by decide +kernel
theorem dX7_send_167 : decode cX7_send 167 = .ok (.iload_n 3, 1) := by decide +kernel
theorem dX7_send_168 : decode cX7_send 168 = .ok (.bipush 6, 2) := by decide +kernel
theorem dX7_send_170 : decode cX7_send 170 = .ok (.if_icmp .eq 39, 3) := by decide +kernel
theorem dX7_send_173 : decode cX7_send 173 = .ok (.aload_n 0, 1) := by decide +kernel
theorem dX7_send_174 : decode cX7_send 174 = .ok (.iload_n 1, 1) := by decide +kernel
theorem dX7_send_175 : decode cX7_send 175 = .ok (.invokevirtual 79, 3) := by decide +kernel
theorem dX7_send_178 : decode cX7_send 178 = .ok (.istore 8, 2) := by decide +kernel
theorem dX7_send_180 : decode cX7_send 180 = .ok (.iload 8, 2) := by decide +kernel
theorem dX7_send_182 : decode cX7_send 182 = .ok (.ifCond .ge 6, 3) := by decide +kernel
theorem dX7_send_185 : decode cX7_send 185 = .ok (.goto 24, 3) := by decide +kernel
theorem dX7_send_188 : decode cX7_send 188 = .ok (.aload_n 0, 1) := by decide +kernel
theorem dX7_send_189 : decode cX7_send 189 = .ok (.getfield 36, 3) := by decide +kernel
theorem dX7_send_192 : decode cX7_send 192 = .ok (.iload 8, 2) := by decide +kernel
theorem dX7_send_194 : decode cX7_send 194 = .ok (.iconst 1, 1) := by decide +kernel
theorem dX7_send_195 : decode cX7_send 195 = .ok (.bastore, 1) := by decide +kernel
theorem dX7_send_196 : decode cX7_send 196 = .ok (.aload_n 0, 1) := by decide +kernel
theorem dX7_send_197 : decode cX7_send 197 = .ok (.iload_n 1, 1) := by decide +kernel
theorem dX7_send_198 : decode cX7_send 198 = .ok (.iload 8, 2) := by decide +kernel
theorem dX7_send_200 : decode cX7_send 200 = .ok (.invokevirtual 75, 3) := by decide +kernel
theorem dX7_send_203 : decode cX7_send 203 = .ok (.iinc 7 1, 3) := by decide +kernel
theorem dX7_send_206 : decode cX7_send 206 = .ok (.goto (-46), 3) := by decide +kernel
theorem dX7_send_209 : decode cX7_send 209 = .ok (.iconst 0, 1) := by decide +kernel
theorem dX7_send_210 : decode cX7_send 210 = .ok (.istore 7, 2) := by decide +kernel
theorem dX7_send_212 : decode cX7_send 212 = .ok (.iload 7, 2) := by decide +kernel
theorem dX7_send_214 : decode cX7_send 214 = .ok (.bipush 64, 2) := by decide +kernel
theorem dX7_send_216 : decode cX7_send 216 = .ok (.if_icmp .ge 36, 3) := by decide +kernel
theorem dX7_send_219 : decode cX7_send 219 = .ok (.aload_n 0, 1) := by decide +kernel
theorem dX7_send_220 : decode cX7_send 220 = .ok (.getfield 36, 3) := by decide +kernel
theorem dX7_send_223 : decode cX7_send 223 = .ok (.iload 7, 2) := by decide +kernel
theorem dX7_send_225 : decode cX7_send 225 = .ok (.baload, 1) := by decide +kernel
theorem dX7_send_226 : decode cX7_send 226 = .ok (.ifCond .eq 20, 3) := by decide +kernel
theorem dX7_send_229 : decode cX7_send 229 = .ok (.aload_n 0, 1) := by decide +kernel
theorem dX7_send_230 : decode cX7_send 230 = .ok (.getfield 8, 3) := by decide +kernel
theorem dX7_send_233 : decode cX7_send 233 = .ok (.iload_n 1, 1) := by decide +kernel
theorem dX7_send_234 : decode cX7_send 234 = .ok (.iload 7, 2) := by decide +kernel
theorem dX7_send_236 : decode cX7_send 236 = .ok (.invokestatic 44, 3) := by decide +kernel
theorem dX7_send_239 : decode cX7_send 239 = .ok (.iconst 2, 1) := by decide +kernel
theorem dX7_send_240 : decode cX7_send 240 = .ok (.iadd, 1) := by decide +kernel
theorem dX7_send_241 : decode cX7_send 241 = .ok (.dup2, 1) := by decide +kernel
theorem dX7_send_242 : decode cX7_send 242 = .ok (.iaload, 1) := by decide +kernel
theorem dX7_send_243 : decode cX7_send 243 = .ok (.iconst 1, 1) := by decide +kernel
theorem dX7_send_244 : decode cX7_send 244 = .ok (.iadd, 1) := by decide +kernel
theorem dX7_send_245 : decode cX7_send 245 = .ok (.iastore, 1) := by decide +kernel
theorem dX7_send_246 : decode cX7_send 246 = .ok (.iinc 7 1, 3) := by decide +kernel
theorem dX7_send_249 : decode cX7_send 249 = .ok (.goto (-37), 3) := by decide +kernel
theorem dX7_send_252 : decode cX7_send 252 = .ok (.aload_n 0, 1) := by decide +kernel
theorem dX7_send_253 : decode cX7_send 253 = .ok (.getfield 8, 3) := by decide +kernel
theorem dX7_send_256 : decode cX7_send 256 = .ok (.iload 6, 2) := by decide +kernel
theorem dX7_send_258 : decode cX7_send 258 = .ok (.iconst 5, 1) := by decide +kernel
theorem dX7_send_259 : decode cX7_send 259 = .ok (.iadd, 1) := by decide +kernel
theorem dX7_send_260 : decode cX7_send 260 = .ok (.aload_n 0, 1) := by decide +kernel
theorem dX7_send_261 : decode cX7_send 261 = .ok (.getfield 8, 3) := by decide +kernel
theorem dX7_send_264 : decode cX7_send 264 = .ok (.ldc 52, 2) := by decide +kernel
theorem dX7_send_266 : decode cX7_send 266 = .ok (.iaload, 1) := by decide +kernel
theorem dX7_send_267 : decode cX7_send 267 = .ok (.aload_n 0, 1) := by decide +kernel
theorem dX7_send_268 : decode cX7_send 268 = .ok (.getfield 8, 3) := by decide +kernel
theorem dX7_send_271 : decode cX7_send 271 = .ok (.iload 6, 2) := by decide +kernel
theorem dX7_send_273 : decode cX7_send 273 = .ok (.iconst 4, 1) := by decide +kernel
theorem dX7_send_274 : decode cX7_send 274 = .ok (.iadd, 1) := by decide +kernel
theorem dX7_send_275 : decode cX7_send 275 = .ok (.iaload, 1) := by decide +kernel
theorem dX7_send_276 : decode cX7_send 276 = .ok (.isub, 1) := by decide +kernel
theorem dX7_send_277 : decode cX7_send 277 = .ok (.iastore, 1) := by decide +kernel
theorem dX7_send_278 : decode cX7_send 278 = .ok (.iload 5, 2) := by decide +kernel
theorem dX7_send_280 : decode cX7_send 280 = .ok (.ireturn, 1) := by decide +kernel
theorem dX7_answered_0 : decode cX7_answered 0 = .ok (.aload_n 0, 1) := by decide +kernel
theorem dX7_answered_1 : decode cX7_answered 1 = .ok (.iload_n 1, 1) := by decide +kernel
theorem dX7_answered_2 : decode cX7_answered 2 = .ok (.iconst 3, 1) := by decide +kernel
theorem dX7_answered_3 : decode cX7_answered 3 = .ok (.invokevirtual 48, 3) := by decide +kernel
theorem dX7_answered_6 : decode cX7_answered 6 = .ok (.iload_n 2, 1) := by decide +kernel
theorem dX7_answered_7 : decode cX7_answered 7 = .ok (.if_icmp .ne 10, 3) := by decide +kernel
theorem dX7_answered_10 : decode cX7_answered 10 = .ok (.aload_n 0, 1) := by decide +kernel
theorem dX7_answered_11 : decode cX7_answered 11 = .ok (.iload_n 1, 1) := by decide +kernel
theorem dX7_answered_12 : decode cX7_answered 12 = .ok (.iconst 3, 1) := by decide +kernel
theorem dX7_answered_13 : decode cX7_answered 13 = .ok (.iconst (-1), 1) := by decide +kernel
theorem dX7_answered_14 : decode cX7_answered 14 = .ok (.invokevirtual 63, 3) := by decide +kernel
theorem dX7_answered_17 : decode cX7_answered 17 = .ok (.aload_n 0, 1) := by decide +kernel
theorem dX7_answered_18 : decode cX7_answered 18 = .ok (.iload_n 1, 1) := by decide +kernel
theorem dX7_answered_19 : decode cX7_answered 19 = .ok (.iconst 4, 1) := by decide +kernel
theorem dX7_answered_20 : decode cX7_answered 20 = .ok (.invokevirtual 48, 3) := by decide +kernel
theorem dX7_answered_23 : decode cX7_answered 23 = .ok (.iload_n 2, 1) := by decide +kernel
theorem dX7_answered_24 : decode cX7_answered 24 = .ok (.if_icmp .ne 10, 3) := by decide +kernel
theorem dX7_answered_27 : decode cX7_answered 27 = .ok (.aload_n 0, 1) := by decide +kernel
theorem dX7_answered_28 : decode cX7_answered 28 = .ok (.iload_n 1, 1) := by decide +kernel
theorem dX7_answered_29 : decode cX7_answered 29 = .ok (.iconst 4, 1) := by decide +kernel
theorem dX7_answered_30 : decode cX7_answered 30 = .ok (.iconst (-1), 1) := by decide +kernel
theorem dX7_answered_31 : decode cX7_answered 31 = .ok (.invokevirtual 63, 3) := by decide +kernel
theorem dX7_answered_34 : decode cX7_answered 34 = .ok (.return_, 1) := by decide +kernel
theorem dX7_comes_0 : decode cX7_comes 0 = .ok (.aload_n 0, 1) := by decide +kernel
theorem dX7_comes_1 : decode cX7_comes 1 = .ok (.iload_n 1, 1) := by decide +kernel
theorem dX7_comes_2 : decode cX7_comes 2 = .ok (.iconst 1, 1) := by decide +kernel
theorem dX7_comes_3 : decode cX7_comes 3 = .ok (.invokevirtual 83, 3) := by decide +kernel
theorem dX7_comes_6 : decode cX7_comes 6 = .ok (.istore_n 2, 1) := by decide +kernel
theorem dX7_comes_7 : decode cX7_comes 7 = .ok (.aload_n 0, 1) := by decide +kernel
theorem dX7_comes_8 : decode cX7_comes 8 = .ok (.iload_n 1, 1) := by decide +kernel
theorem dX7_comes_9 : decode cX7_comes 9 = .ok (.iconst 2, 1) := by decide +kernel
theorem dX7_comes_10 : decode cX7_comes 10 = .ok (.invokevirtual 83, 3) := by decide +kernel
theorem dX7_comes_13 : decode cX7_comes 13 = .ok (.istore_n 3, 1) := by decide +kernel
theorem dX7_comes_14 : decode cX7_comes 14 = .ok (.aload_n 0, 1) := by decide +kernel
theorem dX7_comes_15 : decode cX7_comes 15 = .ok (.iload_n 1, 1) := by decide +kernel
theorem dX7_comes_16 : decode cX7_comes 16 = .ok (.iconst 3, 1) := by decide +kernel
theorem dX7_comes_17 : decode cX7_comes 17 = .ok (.invokevirtual 83, 3) := by decide +kernel
theorem dX7_comes_20 : decode cX7_comes 20 = .ok (.istore 4, 2) := by decide +kernel
theorem dX7_comes_22 : decode cX7_comes 22 = .ok (.iconst 0, 1) := by decide +kernel
theorem dX7_comes_23 : decode cX7_comes 23 = .ok (.istore 5, 2) := by decide +kernel
theorem dX7_comes_25 : decode cX7_comes 25 = .ok (.iload 5, 2) := by decide +kernel
theorem dX7_comes_27 : decode cX7_comes 27 = .ok (.aload_n 0, 1) := by decide +kernel
theorem dX7_comes_28 : decode cX7_comes 28 = .ok (.iload_n 1, 1) := by decide +kernel
theorem dX7_comes_29 : decode cX7_comes 29 = .ok (.iconst 5, 1) := by decide +kernel
theorem dX7_comes_30 : decode cX7_comes 30 = .ok (.invokevirtual 83, 3) := by decide +kernel
theorem dX7_comes_33 : decode cX7_comes 33 = .ok (.if_icmp .ge 56, 3) := by decide +kernel
theorem dX7_comes_36 : decode cX7_comes 36 = .ok (.ldc 71, 2) := by decide +kernel
theorem dX7_comes_38 : decode cX7_comes 38 = .ok (.iconst 4, 1) := by decide +kernel
theorem dX7_comes_39 : decode cX7_comes 39 = .ok (.aload_n 0, 1) := by decide +kernel
theorem dX7_comes_40 : decode cX7_comes 40 = .ok (.iload_n 1, 1) := by decide +kernel
theorem dX7_comes_41 : decode cX7_comes 41 = .ok (.iconst 4, 1) := by decide +kernel
theorem dX7_comes_42 : decode cX7_comes 42 = .ok (.invokevirtual 83, 3) := by decide +kernel
theorem dX7_comes_45 : decode cX7_comes 45 = .ok (.iload 5, 2) := by decide +kernel
theorem dX7_comes_47 : decode cX7_comes 47 = .ok (.iadd, 1) := by decide +kernel
theorem dX7_comes_48 : decode cX7_comes 48 = .ok (.imul, 1) := by decide +kernel
theorem dX7_comes_49 : decode cX7_comes 49 = .ok (.iadd, 1) := by decide +kernel
theorem dX7_comes_50 : decode cX7_comes 50 = .ok (.istore 6, 2) := by decide +kernel
theorem dX7_comes_52 : decode cX7_comes 52 = .ok (.aload_n 0, 1) := by decide +kernel
theorem dX7_comes_53 : decode cX7_comes 53 = .ok (.iload_n 3, 1) := by decide +kernel
theorem dX7_comes_54 : decode cX7_comes 54 = .ok (.aload_n 0, 1) := by decide +kernel
theorem dX7_comes_55 : decode cX7_comes 55 = .ok (.getfield 8, 3) := by decide +kernel
theorem dX7_comes_58 : decode cX7_comes 58 = .ok (.iload 6, 2) := by decide +kernel
theorem dX7_comes_60 : decode cX7_comes 60 = .ok (.iaload, 1) := by decide +kernel
theorem dX7_comes_61 : decode cX7_comes 61 = .ok (.aload_n 0, 1) := by decide +kernel
theorem dX7_comes_62 : decode cX7_comes 62 = .ok (.getfield 8, 3) := by decide +kernel
theorem dX7_comes_65 : decode cX7_comes 65 = .ok (.iload 6, 2) := by decide +kernel
theorem dX7_comes_67 : decode cX7_comes 67 = .ok (.iconst 1, 1) := by decide +kernel
theorem dX7_comes_68 : decode cX7_comes 68 = .ok (.iadd, 1) := by decide +kernel
theorem dX7_comes_69 : decode cX7_comes 69 = .ok (.iaload, 1) := by decide +kernel
theorem dX7_comes_70 : decode cX7_comes 70 = .ok (.aload_n 0, 1) := by decide +kernel
theorem dX7_comes_71 : decode cX7_comes 71 = .ok (.getfield 8, 3) := by decide +kernel
theorem dX7_comes_74 : decode cX7_comes 74 = .ok (.iload 6, 2) := by decide +kernel
theorem dX7_comes_76 : decode cX7_comes 76 = .ok (.iconst 2, 1) := by decide +kernel
theorem dX7_comes_77 : decode cX7_comes 77 = .ok (.iadd, 1) := by decide +kernel
theorem dX7_comes_78 : decode cX7_comes 78 = .ok (.iaload, 1) := by decide +kernel
theorem dX7_comes_79 : decode cX7_comes 79 = .ok (.iload_n 1, 1) := by decide +kernel
theorem dX7_comes_80 : decode cX7_comes 80 = .ok (.invokevirtual 86, 3) := by decide +kernel
theorem dX7_comes_83 : decode cX7_comes 83 = .ok (.iinc 5 1, 3) := by decide +kernel
theorem dX7_comes_86 : decode cX7_comes 86 = .ok (.goto (-61), 3) := by decide +kernel
theorem dX7_comes_89 : decode cX7_comes 89 = .ok (.iconst (-1), 1) := by decide +kernel
theorem dX7_comes_90 : decode cX7_comes 90 = .ok (.istore 5, 2) := by decide +kernel
theorem dX7_comes_92 : decode cX7_comes 92 = .ok (.aload_n 0, 1) := by decide +kernel
theorem dX7_comes_93 : decode cX7_comes 93 = .ok (.iload_n 1, 1) := by decide +kernel
theorem dX7_comes_94 : decode cX7_comes 94 = .ok (.iconst 0, 1) := by decide +kernel
theorem dX7_comes_95 : decode cX7_comes 95 = .ok (.invokevirtual 83, 3) := by decide +kernel
theorem dX7_comes_98 : decode cX7_comes 98 = .ok (.tableswitch 114 1 5 #[34, 48, 62, 90, 100], 34) := by decide +kernel
theorem dX7_comes_132 : decode cX7_comes 132 = .ok (.aload_n 0, 1) := by decide +kernel
theorem dX7_comes_133 : decode cX7_comes 133 = .ok (.iload_n 3, 1) := by decide +kernel
theorem dX7_comes_134 : decode cX7_comes 134 = .ok (.iload_n 2, 1) := by decide +kernel
theorem dX7_comes_135 : decode cX7_comes 135 = .ok (.iconst 3, 1) := by decide +kernel
theorem dX7_comes_136 : decode cX7_comes 136 = .ok (.iload 4, 2) := by decide +kernel
theorem dX7_comes_138 : decode cX7_comes 138 = .ok (.invokevirtual 89, 3) := by decide +kernel
theorem dX7_comes_141 : decode cX7_comes 141 = .ok (.istore 5, 2) := by decide +kernel
theorem dX7_comes_143 : decode cX7_comes 143 = .ok (.goto 69, 3) := by decide +kernel
theorem dX7_comes_146 : decode cX7_comes 146 = .ok (.aload_n 0, 1) := by decide +kernel
theorem dX7_comes_147 : decode cX7_comes 147 = .ok (.iload_n 3, 1) := by decide +kernel
theorem dX7_comes_148 : decode cX7_comes 148 = .ok (.iload 4, 2) := by decide +kernel
theorem dX7_comes_150 : decode cX7_comes 150 = .ok (.iconst 1, 1) := by decide +kernel
theorem dX7_comes_151 : decode cX7_comes 151 = .ok (.iload_n 2, 1) := by decide +kernel
theorem dX7_comes_152 : decode cX7_comes 152 = .ok (.invokevirtual 89, 3) := by decide +kernel
theorem dX7_comes_155 : decode cX7_comes 155 = .ok (.istore 5, 2) := by decide +kernel
theorem dX7_comes_157 : decode cX7_comes 157 = .ok (.goto 55, 3) := by decide +kernel
theorem dX7_comes_160 : decode cX7_comes 160 = .ok (.iload 4, 2) := by decide +kernel
theorem dX7_comes_162 : decode cX7_comes 162 = .ok (.ifCond .ge 12, 3) := by decide +kernel
theorem dX7_comes_165 : decode cX7_comes 165 = .ok (.aload_n 0, 1) := by decide +kernel
theorem dX7_comes_166 : decode cX7_comes 166 = .ok (.iload_n 3, 1) := by decide +kernel
theorem dX7_comes_167 : decode cX7_comes 167 = .ok (.iload_n 2, 1) := by decide +kernel
theorem dX7_comes_168 : decode cX7_comes 168 = .ok (.invokevirtual 93, 3) := by decide +kernel
theorem dX7_comes_171 : decode cX7_comes 171 = .ok (.goto 41, 3) := by decide +kernel
theorem dX7_comes_174 : decode cX7_comes 174 = .ok (.aload_n 0, 1) := by decide +kernel
theorem dX7_comes_175 : decode cX7_comes 175 = .ok (.iload_n 3, 1) := by decide +kernel
theorem dX7_comes_176 : decode cX7_comes 176 = .ok (.iload 4, 2) := by decide +kernel
theorem dX7_comes_178 : decode cX7_comes 178 = .ok (.iconst 4, 1) := by decide +kernel
theorem dX7_comes_179 : decode cX7_comes 179 = .ok (.iload_n 2, 1) := by decide +kernel
theorem dX7_comes_180 : decode cX7_comes 180 = .ok (.invokevirtual 89, 3) := by decide +kernel
theorem dX7_comes_183 : decode cX7_comes 183 = .ok (.istore 5, 2) := by decide +kernel
theorem dX7_comes_185 : decode cX7_comes 185 = .ok (.goto 27, 3) := by decide +kernel
theorem dX7_comes_188 : decode cX7_comes 188 = .ok (.aload_n 0, 1) := by decide +kernel
theorem dX7_comes_189 : decode cX7_comes 189 = .ok (.iload_n 3, 1) := by decide +kernel
theorem dX7_comes_190 : decode cX7_comes 190 = .ok (.iload 4, 2) := by decide +kernel
theorem dX7_comes_192 : decode cX7_comes 192 = .ok (.invokevirtual 93, 3) := by decide +kernel
theorem dX7_comes_195 : decode cX7_comes 195 = .ok (.goto 17, 3) := by decide +kernel
theorem dX7_comes_198 : decode cX7_comes 198 = .ok (.aload_n 0, 1) := by decide +kernel
theorem dX7_comes_199 : decode cX7_comes 199 = .ok (.iload_n 3, 1) := by decide +kernel
theorem dX7_comes_200 : decode cX7_comes 200 = .ok (.iload_n 2, 1) := by decide +kernel
theorem dX7_comes_201 : decode cX7_comes 201 = .ok (.bipush 6, 2) := by decide +kernel
theorem dX7_comes_203 : decode cX7_comes 203 = .ok (.iconst (-1), 1) := by decide +kernel
theorem dX7_comes_204 : decode cX7_comes 204 = .ok (.invokevirtual 89, 3) := by decide +kernel
theorem dX7_comes_207 : decode cX7_comes 207 = .ok (.istore 5, 2) := by decide +kernel
theorem dX7_comes_209 : decode cX7_comes 209 = .ok (.goto 3, 3) := by decide +kernel
theorem dX7_comes_212 : decode cX7_comes 212 = .ok (.iload 5, 2) := by decide +kernel
theorem dX7_comes_214 : decode cX7_comes 214 = .ok (.ifCond .ge 7, 3) := by decide +kernel
theorem dX7_comes_217 : decode cX7_comes 217 = .ok (.iconst 0, 1) := by decide +kernel
theorem dX7_comes_218 : decode cX7_comes 218 = .ok (.goto 4, 3) := by decide +kernel
theorem dX7_comes_221 : decode cX7_comes 221 = .ok (.iconst 1, 1) := by decide +kernel
theorem dX7_comes_222 : decode cX7_comes 222 = .ok (.ireturn, 1) := by decide +kernel
theorem dX7_isAround_0 : decode cX7_isAround 0 = .ok (.iload_n 2, 1) := by decide +kernel
theorem dX7_isAround_1 : decode cX7_isAround 1 = .ok (.iload_n 1, 1) := by decide +kernel
theorem dX7_isAround_2 : decode cX7_isAround 2 = .ok (.if_icmp .eq 27, 3) := by decide +kernel
theorem dX7_isAround_5 : decode cX7_isAround 5 = .ok (.aload_n 0, 1) := by decide +kernel
theorem dX7_isAround_6 : decode cX7_isAround 6 = .ok (.iload_n 1, 1) := by decide +kernel
theorem dX7_isAround_7 : decode cX7_isAround 7 = .ok (.iload_n 2, 1) := by decide +kernel
theorem dX7_isAround_8 : decode cX7_isAround 8 = .ok (.invokevirtual 72, 3) := by decide +kernel
theorem dX7_isAround_11 : decode cX7_isAround 11 = .ok (.iconst 1, 1) := by decide +kernel
theorem dX7_isAround_12 : decode cX7_isAround 12 = .ok (.if_icmp .eq 13, 3) := by decide +kernel
theorem dX7_isAround_15 : decode cX7_isAround 15 = .ok (.aload_n 0, 1) := by decide +kernel
theorem dX7_isAround_16 : decode cX7_isAround 16 = .ok (.iload_n 1, 1) := by decide +kernel
theorem dX7_isAround_17 : decode cX7_isAround 17 = .ok (.iload_n 2, 1) := by decide +kernel
theorem dX7_isAround_18 : decode cX7_isAround 18 = .ok (.invokevirtual 72, 3) := by decide +kernel
theorem dX7_isAround_21 : decode cX7_isAround 21 = .ok (.iconst 2, 1) := by decide +kernel
theorem dX7_isAround_22 : decode cX7_isAround 22 = .ok (.if_icmp .ne 7, 3) := by decide +kernel
theorem dX7_isAround_25 : decode cX7_isAround 25 = .ok (.iconst 1, 1) := by decide +kernel
theorem dX7_isAround_26 : decode cX7_isAround 26 = .ok (.goto 4, 3) := by decide +kernel
theorem dX7_isAround_29 : decode cX7_isAround 29 = .ok (.iconst 0, 1) := by decide +kernel
theorem dX7_isAround_30 : decode cX7_isAround 30 = .ok (.ireturn, 1) := by decide +kernel
theorem dX7_gather_0 : decode cX7_gather 0 = .ok (.aload_n 0, 1) := by decide +kernel
theorem dX7_gather_1 : decode cX7_gather 1 = .ok (.iconst 0, 1) := by decide +kernel
theorem dX7_gather_2 : decode cX7_gather 2 = .ok (.putfield 96, 3) := by decide +kernel
theorem dX7_gather_5 : decode cX7_gather 5 = .ok (.iconst 0, 1) := by decide +kernel
theorem dX7_gather_6 : decode cX7_gather 6 = .ok (.istore_n 3, 1) := by decide +kernel
theorem dX7_gather_7 : decode cX7_gather 7 = .ok (.iload_n 3, 1) := by decide +kernel
theorem dX7_gather_8 : decode cX7_gather 8 = .ok (.bipush 64, 2) := by decide +kernel
theorem dX7_gather_10 : decode cX7_gather 10 = .ok (.if_icmp .ge 46, 3) := by decide +kernel
theorem dX7_gather_13 : decode cX7_gather 13 = .ok (.iload_n 3, 1) := by decide +kernel
theorem dX7_gather_14 : decode cX7_gather 14 = .ok (.iload_n 2, 1) := by decide +kernel
theorem dX7_gather_15 : decode cX7_gather 15 = .ok (.if_icmp .eq 35, 3) := by decide +kernel
theorem dX7_gather_18 : decode cX7_gather 18 = .ok (.aload_n 0, 1) := by decide +kernel
theorem dX7_gather_19 : decode cX7_gather 19 = .ok (.iload_n 1, 1) := by decide +kernel
theorem dX7_gather_20 : decode cX7_gather 20 = .ok (.iload_n 3, 1) := by decide +kernel
theorem dX7_gather_21 : decode cX7_gather 21 = .ok (.invokevirtual 99, 3) := by decide +kernel
theorem dX7_gather_24 : decode cX7_gather 24 = .ok (.ifCond .ne 6, 3) := by decide +kernel
theorem dX7_gather_27 : decode cX7_gather 27 = .ok (.goto 23, 3) := by decide +kernel
theorem dX7_gather_30 : decode cX7_gather 30 = .ok (.aload_n 0, 1) := by decide +kernel
theorem dX7_gather_31 : decode cX7_gather 31 = .ok (.getfield 33, 3) := by decide +kernel
theorem dX7_gather_34 : decode cX7_gather 34 = .ok (.aload_n 0, 1) := by decide +kernel
theorem dX7_gather_35 : decode cX7_gather 35 = .ok (.getfield 96, 3) := by decide +kernel
theorem dX7_gather_38 : decode cX7_gather 38 = .ok (.iload_n 3, 1) := by decide +kernel
theorem dX7_gather_39 : decode cX7_gather 39 = .ok (.iastore, 1) := by decide +kernel
theorem dX7_gather_40 : decode cX7_gather 40 = .ok (.aload_n 0, 1) := by decide +kernel
theorem dX7_gather_41 : decode cX7_gather 41 = .ok (.dup, 1) := by decide +kernel
theorem dX7_gather_42 : decode cX7_gather 42 = .ok (.getfield 96, 3) := by decide +kernel
theorem dX7_gather_45 : decode cX7_gather 45 = .ok (.iconst 1, 1) := by decide +kernel
theorem dX7_gather_46 : decode cX7_gather 46 = .ok (.iadd, 1) := by decide +kernel
theorem dX7_gather_47 : decode cX7_gather 47 = .ok (.putfield 96, 3) := by decide +kernel
theorem dX7_gather_50 : decode cX7_gather 50 = .ok (.iinc 3 1, 3) := by decide +kernel
theorem dX7_gather_53 : decode cX7_gather 53 = .ok (.goto (-46), 3) := by decide +kernel
theorem dX7_gather_56 : decode cX7_gather 56 = .ok (.return_, 1) := by decide +kernel
theorem dX7_mix_0 : decode cX7_mix 0 = .ok (.aload_n 0, 1) := by decide +kernel
theorem dX7_mix_1 : decode cX7_mix 1 = .ok (.iload_n 1, 1) := by decide +kernel
theorem dX7_mix_2 : decode cX7_mix 2 = .ok (.iconst (-1), 1) := by decide +kernel
theorem dX7_mix_3 : decode cX7_mix 3 = .ok (.invokevirtual 103, 3) := by decide +kernel
theorem dX7_mix_6 : decode cX7_mix 6 = .ok (.aload_n 0, 1) := by decide +kernel
theorem dX7_mix_7 : decode cX7_mix 7 = .ok (.getfield 96, 3) := by decide +kernel
theorem dX7_mix_10 : decode cX7_mix 10 = .ok (.iconst 1, 1) := by decide +kernel
theorem dX7_mix_11 : decode cX7_mix 11 = .ok (.isub, 1) := by decide +kernel
theorem dX7_mix_12 : decode cX7_mix 12 = .ok (.istore_n 2, 1) := by decide +kernel
theorem dX7_mix_13 : decode cX7_mix 13 = .ok (.iload_n 2, 1) := by decide +kernel
theorem dX7_mix_14 : decode cX7_mix 14 = .ok (.iconst 1, 1) := by decide +kernel
theorem dX7_mix_15 : decode cX7_mix 15 = .ok (.if_icmp .lt 46, 3) := by decide +kernel
theorem dX7_mix_18 : decode cX7_mix 18 = .ok (.aload_n 0, 1) := by decide +kernel
theorem dX7_mix_19 : decode cX7_mix 19 = .ok (.iload_n 1, 1) := by decide +kernel
theorem dX7_mix_20 : decode cX7_mix 20 = .ok (.iload_n 2, 1) := by decide +kernel
theorem dX7_mix_21 : decode cX7_mix 21 = .ok (.iconst 1, 1) := by decide +kernel
theorem dX7_mix_22 : decode cX7_mix 22 = .ok (.iadd, 1) := by decide +kernel
theorem dX7_mix_23 : decode cX7_mix 23 = .ok (.invokevirtual 106, 3) := by decide +kernel
theorem dX7_mix_26 : decode cX7_mix 26 = .ok (.istore_n 3, 1) := by decide +kernel
theorem dX7_mix_27 : decode cX7_mix 27 = .ok (.aload_n 0, 1) := by decide +kernel
theorem dX7_mix_28 : decode cX7_mix 28 = .ok (.getfield 33, 3) := by decide +kernel
theorem dX7_mix_31 : decode cX7_mix 31 = .ok (.iload_n 2, 1) := by decide +kernel
theorem dX7_mix_32 : decode cX7_mix 32 = .ok (.iaload, 1) := by decide +kernel
theorem dX7_mix_33 : decode cX7_mix 33 = .ok (.istore 4, 2) := by decide +kernel
theorem dX7_mix_35 : decode cX7_mix 35 = .ok (.aload_n 0, 1) := by decide +kernel
theorem dX7_mix_36 : decode cX7_mix 36 = .ok (.getfield 33, 3) := by decide +kernel
theorem dX7_mix_39 : decode cX7_mix 39 = .ok (.iload_n 2, 1) := by decide +kernel
theorem dX7_mix_40 : decode cX7_mix 40 = .ok (.aload_n 0, 1) := by decide +kernel
theorem dX7_mix_41 : decode cX7_mix 41 = .ok (.getfield 33, 3) := by decide +kernel
theorem dX7_mix_44 : decode cX7_mix 44 = .ok (.iload_n 3, 1) := by decide +kernel
theorem dX7_mix_45 : decode cX7_mix 45 = .ok (.iaload, 1) := by decide +kernel
theorem dX7_mix_46 : decode cX7_mix 46 = .ok (.iastore, 1) := by decide +kernel
theorem dX7_mix_47 : decode cX7_mix 47 = .ok (.aload_n 0, 1) := by decide +kernel
theorem dX7_mix_48 : decode cX7_mix 48 = .ok (.getfield 33, 3) := by decide +kernel
theorem dX7_mix_51 : decode cX7_mix 51 = .ok (.iload_n 3, 1) := by decide +kernel
theorem dX7_mix_52 : decode cX7_mix 52 = .ok (.iload 4, 2) := by decide +kernel
theorem dX7_mix_54 : decode cX7_mix 54 = .ok (.iastore, 1) := by decide +kernel
theorem dX7_mix_55 : decode cX7_mix 55 = .ok (.iinc 2 (-1), 3) := by decide +kernel
theorem dX7_mix_58 : decode cX7_mix 58 = .ok (.goto (-45), 3) := by decide +kernel
theorem dX7_mix_61 : decode cX7_mix 61 = .ok (.return_, 1) := by decide +kernel
theorem dX7_stillThere_0 : decode cX7_stillThere 0 = .ok (.aload_n 0, 1) := by decide +kernel
theorem dX7_stillThere_1 : decode cX7_stillThere 1 = .ok (.iload_n 1, 1) := by decide +kernel
theorem dX7_stillThere_2 : decode cX7_stillThere 2 = .ok (.bipush 6, 2) := by decide +kernel
theorem dX7_stillThere_4 : decode cX7_stillThere 4 = .ok (.invokevirtual 48, 3) := by decide +kernel
theorem dX7_stillThere_7 : decode cX7_stillThere 7 = .ok (.istore_n 2, 1) := by decide +kernel
theorem dX7_stillThere_8 : decode cX7_stillThere 8 = .ok (.iload_n 2, 1) := by decide +kernel
theorem dX7_stillThere_9 : decode cX7_stillThere 9 = .ok (.aload_n 0, 1) := by decide +kernel
theorem dX7_stillThere_10 : decode cX7_stillThere 10 = .ok (.iload_n 1, 1) := by decide +kernel
theorem dX7_stillThere_11 : decode cX7_stillThere 11 = .ok (.iconst 5, 1) := by decide +kernel
theorem dX7_stillThere_12 : decode cX7_stillThere 12 = .ok (.invokevirtual 48, 3) := by decide +kernel
theorem dX7_stillThere_15 : decode cX7_stillThere 15 = .ok (.if_icmp .ge 34, 3) := by decide +kernel
theorem dX7_stillThere_18 : decode cX7_stillThere 18 = .ok (.aload_n 0, 1) := by decide +kernel
theorem dX7_stillThere_19 : decode cX7_stillThere 19 = .ok (.iload_n 1, 1) := by decide +kernel
theorem dX7_stillThere_20 : decode cX7_stillThere 20 = .ok (.aload_n 0, 1) := by decide +kernel
theorem dX7_stillThere_21 : decode cX7_stillThere 21 = .ok (.getfield 8, 3) := by decide +kernel
theorem dX7_stillThere_24 : decode cX7_stillThere 24 = .ok (.sipush 20928, 3) := by decide +kernel
theorem dX7_stillThere_27 : decode cX7_stillThere 27 = .ok (.bipush 64, 2) := by decide +kernel
theorem dX7_stillThere_29 : decode cX7_stillThere 29 = .ok (.iload_n 1, 1) := by decide +kernel
theorem dX7_stillThere_30 : decode cX7_stillThere 30 = .ok (.imul, 1) := by decide +kernel
theorem dX7_stillThere_31 : decode cX7_stillThere 31 = .ok (.iadd, 1) := by decide +kernel
theorem dX7_stillThere_32 : decode cX7_stillThere 32 = .ok (.iload_n 2, 1) := by decide +kernel
theorem dX7_stillThere_33 : decode cX7_stillThere 33 = .ok (.iadd, 1) := by decide +kernel
theorem dX7_stillThere_34 : decode cX7_stillThere 34 = .ok (.iaload, 1) := by decide +kernel
theorem dX7_stillThere_35 : decode cX7_stillThere 35 = .ok (.invokevirtual 99, 3) := by decide +kernel
theorem dX7_stillThere_38 : decode cX7_stillThere 38 = .ok (.ifCond .eq 5, 3) := by decide +kernel
theorem dX7_stillThere_41 : decode cX7_stillThere 41 = .ok (.iload_n 2, 1) := by decide +kernel
theorem dX7_stillThere_42 : decode cX7_stillThere 42 = .ok (.ireturn, 1) := by decide +kernel
theorem dX7_stillThere_43 : decode cX7_stillThere 43 = .ok (.iinc 2 1, 3) := by decide +kernel
theorem dX7_stillThere_46 : decode cX7_stillThere 46 = .ok (.goto (-38), 3) := by decide +kernel
theorem dX7_stillThere_49 : decode cX7_stillThere 49 = .ok (.iconst (-1), 1) := by decide +kernel
theorem dX7_stillThere_50 : decode cX7_stillThere 50 = .ok (.ireturn, 1) := by decide +kernel
theorem dX7_nextOf_0 : decode cX7_nextOf 0 = .ok (.aload_n 0, 1) := by decide +kernel
theorem dX7_nextOf_1 : decode cX7_nextOf 1 = .ok (.iload_n 1, 1) := by decide +kernel
theorem dX7_nextOf_2 : decode cX7_nextOf 2 = .ok (.invokevirtual 109, 3) := by decide +kernel
theorem dX7_nextOf_5 : decode cX7_nextOf 5 = .ok (.istore_n 2, 1) := by decide +kernel
theorem dX7_nextOf_6 : decode cX7_nextOf 6 = .ok (.iload_n 2, 1) := by decide +kernel
theorem dX7_nextOf_7 : decode cX7_nextOf 7 = .ok (.ifCond .ge 80, 3) := by decide +kernel
theorem dX7_nextOf_10 : decode cX7_nextOf 10 = .ok (.aload_n 0, 1) := by decide +kernel
theorem dX7_nextOf_11 : decode cX7_nextOf 11 = .ok (.iload_n 1, 1) := by decide +kernel
theorem dX7_nextOf_12 : decode cX7_nextOf 12 = .ok (.invokevirtual 112, 3) := by decide +kernel
theorem dX7_nextOf_15 : decode cX7_nextOf 15 = .ok (.aload_n 0, 1) := by decide +kernel
theorem dX7_nextOf_16 : decode cX7_nextOf 16 = .ok (.bipush 11, 2) := by decide +kernel
theorem dX7_nextOf_18 : decode cX7_nextOf 18 = .ok (.invokevirtual 59, 3) := by decide +kernel
theorem dX7_nextOf_21 : decode cX7_nextOf 21 = .ok (.iconst 0, 1) := by decide +kernel
theorem dX7_nextOf_22 : decode cX7_nextOf 22 = .ok (.istore_n 3, 1) := by decide +kernel
theorem dX7_nextOf_23 : decode cX7_nextOf 23 = .ok (.iload_n 3, 1) := by decide +kernel
theorem dX7_nextOf_24 : decode cX7_nextOf 24 = .ok (.aload_n 0, 1) := by decide +kernel
theorem dX7_nextOf_25 : decode cX7_nextOf 25 = .ok (.getfield 96, 3) := by decide +kernel
theorem dX7_nextOf_28 : decode cX7_nextOf 28 = .ok (.if_icmp .ge 30, 3) := by decide +kernel
theorem dX7_nextOf_31 : decode cX7_nextOf 31 = .ok (.aload_n 0, 1) := by decide +kernel
theorem dX7_nextOf_32 : decode cX7_nextOf 32 = .ok (.getfield 8, 3) := by decide +kernel
theorem dX7_nextOf_35 : decode cX7_nextOf 35 = .ok (.sipush 20928, 3) := by decide +kernel
theorem dX7_nextOf_38 : decode cX7_nextOf 38 = .ok (.bipush 64, 2) := by decide +kernel
theorem dX7_nextOf_40 : decode cX7_nextOf 40 = .ok (.iload_n 1, 1) := by decide +kernel
theorem dX7_nextOf_41 : decode cX7_nextOf 41 = .ok (.imul, 1) := by decide +kernel
theorem dX7_nextOf_42 : decode cX7_nextOf 42 = .ok (.iadd, 1) := by decide +kernel
theorem dX7_nextOf_43 : decode cX7_nextOf 43 = .ok (.iload_n 3, 1) := by decide +kernel
theorem dX7_nextOf_44 : decode cX7_nextOf 44 = .ok (.iadd, 1) := by decide +kernel
theorem dX7_nextOf_45 : decode cX7_nextOf 45 = .ok (.aload_n 0, 1) := by decide +kernel
theorem dX7_nextOf_46 : decode cX7_nextOf 46 = .ok (.getfield 33, 3) := by decide +kernel
theorem dX7_nextOf_49 : decode cX7_nextOf 49 = .ok (.iload_n 3, 1) := by decide +kernel
theorem dX7_nextOf_50 : decode cX7_nextOf 50 = .ok (.iaload, 1) := by decide +kernel
theorem dX7_nextOf_51 : decode cX7_nextOf 51 = .ok (.iastore, 1) := by decide +kernel
theorem dX7_nextOf_52 : decode cX7_nextOf 52 = .ok (.iinc 3 1, 3) := by decide +kernel
theorem dX7_nextOf_55 : decode cX7_nextOf 55 = .ok (.goto (-32), 3) := by decide +kernel
theorem dX7_nextOf_58 : decode cX7_nextOf 58 = .ok (.aload_n 0, 1) := by decide +kernel
theorem dX7_nextOf_59 : decode cX7_nextOf 59 = .ok (.iload_n 1, 1) := by decide +kernel
theorem dX7_nextOf_60 : decode cX7_nextOf 60 = .ok (.iconst 5, 1) := by decide +kernel
theorem dX7_nextOf_61 : decode cX7_nextOf 61 = .ok (.aload_n 0, 1) := by decide +kernel
theorem dX7_nextOf_62 : decode cX7_nextOf 62 = .ok (.getfield 96, 3) := by decide +kernel
theorem dX7_nextOf_65 : decode cX7_nextOf 65 = .ok (.invokevirtual 63, 3) := by decide +kernel
theorem dX7_nextOf_68 : decode cX7_nextOf 68 = .ok (.aload_n 0, 1) := by decide +kernel
theorem dX7_nextOf_69 : decode cX7_nextOf 69 = .ok (.iload_n 1, 1) := by decide +kernel
theorem dX7_nextOf_70 : decode cX7_nextOf 70 = .ok (.bipush 6, 2) := by decide +kernel
theorem dX7_nextOf_72 : decode cX7_nextOf 72 = .ok (.iconst 0, 1) := by decide +kernel
theorem dX7_nextOf_73 : decode cX7_nextOf 73 = .ok (.invokevirtual 63, 3) := by decide +kernel
theorem dX7_nextOf_76 : decode cX7_nextOf 76 = .ok (.aload_n 0, 1) := by decide +kernel
theorem dX7_nextOf_77 : decode cX7_nextOf 77 = .ok (.getfield 96, 3) := by decide +kernel
theorem dX7_nextOf_80 : decode cX7_nextOf 80 = .ok (.ifCond .ne 5, 3) := by decide +kernel
theorem dX7_nextOf_83 : decode cX7_nextOf 83 = .ok (.iconst (-1), 1) := by decide +kernel
theorem dX7_nextOf_84 : decode cX7_nextOf 84 = .ok (.ireturn, 1) := by decide +kernel
theorem dX7_nextOf_85 : decode cX7_nextOf 85 = .ok (.iconst 0, 1) := by decide +kernel
theorem dX7_nextOf_86 : decode cX7_nextOf 86 = .ok (.istore_n 2, 1) := by decide +kernel
theorem dX7_nextOf_87 : decode cX7_nextOf 87 = .ok (.aload_n 0, 1) := by decide +kernel
theorem dX7_nextOf_88 : decode cX7_nextOf 88 = .ok (.iload_n 1, 1) := by decide +kernel
theorem dX7_nextOf_89 : decode cX7_nextOf 89 = .ok (.bipush 6, 2) := by decide +kernel
theorem dX7_nextOf_91 : decode cX7_nextOf 91 = .ok (.iload_n 2, 1) := by decide +kernel
theorem dX7_nextOf_92 : decode cX7_nextOf 92 = .ok (.iconst 1, 1) := by decide +kernel
theorem dX7_nextOf_93 : decode cX7_nextOf 93 = .ok (.iadd, 1) := by decide +kernel
theorem dX7_nextOf_94 : decode cX7_nextOf 94 = .ok (.invokevirtual 63, 3) := by decide +kernel
theorem dX7_nextOf_97 : decode cX7_nextOf 97 = .ok (.aload_n 0, 1) := by decide +kernel
theorem dX7_nextOf_98 : decode cX7_nextOf 98 = .ok (.getfield 8, 3) := by decide +kernel
theorem dX7_nextOf_101 : decode cX7_nextOf 101 = .ok (.sipush 20928, 3) := by decide +kernel
theorem dX7_nextOf_104 : decode cX7_nextOf 104 = .ok (.bipush 64, 2) := by decide +kernel
theorem dX7_nextOf_106 : decode cX7_nextOf 106 = .ok (.iload_n 1, 1) := by decide +kernel
theorem dX7_nextOf_107 : decode cX7_nextOf 107 = .ok (.imul, 1) := by decide +kernel
theorem dX7_nextOf_108 : decode cX7_nextOf 108 = .ok (.iadd, 1) := by decide +kernel
theorem dX7_nextOf_109 : decode cX7_nextOf 109 = .ok (.iload_n 2, 1) := by decide +kernel
theorem dX7_nextOf_110 : decode cX7_nextOf 110 = .ok (.iadd, 1) := by decide +kernel
theorem dX7_nextOf_111 : decode cX7_nextOf 111 = .ok (.iaload, 1) := by decide +kernel
theorem dX7_nextOf_112 : decode cX7_nextOf 112 = .ok (.ireturn, 1) := by decide +kernel
theorem dX7_sendsThree_0 : decode cX7_sendsThree 0 = .ok (.aload_n 0, 1) := by decide +kernel
theorem dX7_sendsThree_1 : decode cX7_sendsThree 1 = .ok (.iload_n 1, 1) := by decide +kernel
theorem dX7_sendsThree_2 : decode cX7_sendsThree 2 = .ok (.iload_n 2, 1) := by decide +kernel
theorem dX7_sendsThree_3 : decode cX7_sendsThree 3 = .ok (.invokevirtual 103, 3) := by decide +kernel
theorem dX7_sendsThree_6 : decode cX7_sendsThree 6 = .ok (.iconst 0, 1) := by decide +kernel
theorem dX7_sendsThree_7 : decode cX7_sendsThree 7 = .ok (.istore 5, 2) := by decide +kernel
theorem dX7_sendsThree_9 : decode cX7_sendsThree 9 = .ok (.iload 5, 2) := by decide +kernel
theorem dX7_sendsThree_11 : decode cX7_sendsThree 11 = .ok (.iconst 3, 1) := by decide +kernel
theorem dX7_sendsThree_12 : decode cX7_sendsThree 12 = .ok (.if_icmp .ge 93, 3) := by decide +kernel
theorem dX7_sendsThree_15 : decode cX7_sendsThree 15 = .ok (.aload_n 0, 1) := by decide +kernel
theorem dX7_sendsThree_16 : decode cX7_sendsThree 16 = .ok (.getfield 96, 3) := by decide +kernel
theorem dX7_sendsThree_19 : decode cX7_sendsThree 19 = .ok (.ifCond .le 86, 3) := by decide +kernel
theorem dX7_sendsThree_22 : decode cX7_sendsThree 22 = .ok (.aload_n 0, 1) := by decide +kernel
theorem dX7_sendsThree_23 : decode cX7_sendsThree 23 = .ok (.iload_n 1, 1) := by decide +kernel
theorem dX7_sendsThree_24 : decode cX7_sendsThree 24 = .ok (.aload_n 0, 1) := by decide +kernel
theorem dX7_sendsThree_25 : decode cX7_sendsThree 25 = .ok (.getfield 96, 3) := by decide +kernel
theorem dX7_sendsThree_28 : decode cX7_sendsThree 28 = .ok (.invokevirtual 106, 3) := by decide +kernel
theorem dX7_sendsThree_31 : decode cX7_sendsThree 31 = .ok (.istore 6, 2) := by decide +kernel
theorem dX7_sendsThree_33 : decode cX7_sendsThree 33 = .ok (.aload_n 0, 1) := by decide +kernel
theorem dX7_sendsThree_34 : decode cX7_sendsThree 34 = .ok (.getfield 33, 3) := by decide +kernel
theorem dX7_sendsThree_37 : decode cX7_sendsThree 37 = .ok (.iload 6, 2) := by decide +kernel
theorem dX7_sendsThree_39 : decode cX7_sendsThree 39 = .ok (.iaload, 1) := by decide +kernel
theorem dX7_sendsThree_40 : decode cX7_sendsThree 40 = .ok (.istore 7, 2) := by decide +kernel
theorem dX7_sendsThree_42 : decode cX7_sendsThree 42 = .ok (.aload_n 0, 1) := by decide +kernel
theorem dX7_sendsThree_43 : decode cX7_sendsThree 43 = .ok (.dup, 1) := by decide +kernel
theorem dX7_sendsThree_44 : decode cX7_sendsThree 44 = .ok (.getfield 96, 3) := by decide +kernel
theorem dX7_sendsThree_47 : decode cX7_sendsThree 47 = .ok (.iconst 1, 1) := by decide +kernel
theorem dX7_sendsThree_48 : decode cX7_sendsThree 48 = .ok (.isub, 1) := by decide +kernel
theorem dX7_sendsThree_49 : decode cX7_sendsThree 49 = .ok (.putfield 96, 3) := by decide +kernel
theorem dX7_sendsThree_52 : decode cX7_sendsThree 52 = .ok (.iload 6, 2) := by decide +kernel
theorem dX7_sendsThree_54 : decode cX7_sendsThree 54 = .ok (.istore 8, 2) := by decide +kernel
theorem dX7_sendsThree_56 : decode cX7_sendsThree 56 = .ok (.iload 8, 2) := by decide +kernel
theorem dX7_sendsThree_58 : decode cX7_sendsThree 58 = .ok (.aload_n 0, 1) := by decide +kernel
theorem dX7_sendsThree_59 : decode cX7_sendsThree 59 = .ok (.getfield 96, 3) := by decide +kernel
theorem dX7_sendsThree_62 : decode cX7_sendsThree 62 = .ok (.if_icmp .ge 25, 3) := by decide +kernel
theorem dX7_sendsThree_65 : decode cX7_sendsThree 65 = .ok (.aload_n 0, 1) := by decide +kernel
theorem dX7_sendsThree_66 : decode cX7_sendsThree 66 = .ok (.getfield 33, 3) := by decide +kernel
theorem dX7_sendsThree_69 : decode cX7_sendsThree 69 = .ok (.iload 8, 2) := by decide +kernel
theorem dX7_sendsThree_71 : decode cX7_sendsThree 71 = .ok (.aload_n 0, 1) := by decide +kernel
theorem dX7_sendsThree_72 : decode cX7_sendsThree 72 = .ok (.getfield 33, 3) := by decide +kernel
theorem dX7_sendsThree_75 : decode cX7_sendsThree 75 = .ok (.iload 8, 2) := by decide +kernel
theorem dX7_sendsThree_77 : decode cX7_sendsThree 77 = .ok (.iconst 1, 1) := by decide +kernel
theorem dX7_sendsThree_78 : decode cX7_sendsThree 78 = .ok (.iadd, 1) := by decide +kernel
theorem dX7_sendsThree_79 : decode cX7_sendsThree 79 = .ok (.iaload, 1) := by decide +kernel
theorem dX7_sendsThree_80 : decode cX7_sendsThree 80 = .ok (.iastore, 1) := by decide +kernel
theorem dX7_sendsThree_81 : decode cX7_sendsThree 81 = .ok (.iinc 8 1, 3) := by decide +kernel
theorem dX7_sendsThree_84 : decode cX7_sendsThree 84 = .ok (.goto (-28), 3) := by decide +kernel
theorem dX7_sendsThree_87 : decode cX7_sendsThree 87 = .ok (.aload_n 0, 1) := by decide +kernel
theorem dX7_sendsThree_88 : decode cX7_sendsThree 88 = .ok (.iload_n 1, 1) := by decide +kernel
theorem dX7_sendsThree_89 : decode cX7_sendsThree 89 = .ok (.iload 7, 2) := by decide +kernel
theorem dX7_sendsThree_91 : decode cX7_sendsThree 91 = .ok (.iload_n 3, 1) := by decide +kernel
theorem dX7_sendsThree_92 : decode cX7_sendsThree 92 = .ok (.iload 4, 2) := by decide +kernel
theorem dX7_sendsThree_94 : decode cX7_sendsThree 94 = .ok (.invokevirtual 89, 3) := by decide +kernel
theorem dX7_sendsThree_97 : decode cX7_sendsThree 97 = .ok (.istore 8, 2) := by decide +kernel
theorem dX7_sendsThree_99 : decode cX7_sendsThree 99 = .ok (.iinc 5 1, 3) := by decide +kernel
theorem dX7_sendsThree_102 : decode cX7_sendsThree 102 = .ok (.goto (-93), 3) := by decide +kernel
theorem dX7_sendsThree_105 : decode cX7_sendsThree 105 = .ok (.iload 5, 2) := by decide +kernel
theorem dX7_sendsThree_107 : decode cX7_sendsThree 107 = .ok (.ireturn, 1) := by decide +kernel
theorem dX7_takesTurn_0 : decode cX7_takesTurn 0 = .ok (.aload_n 0, 1) := by decide +kernel
theorem dX7_takesTurn_1 : decode cX7_takesTurn 1 = .ok (.iload_n 1, 1) := by decide +kernel
theorem dX7_takesTurn_2 : decode cX7_takesTurn 2 = .ok (.iconst 2, 1) := by decide +kernel
theorem dX7_takesTurn_3 : decode cX7_takesTurn 3 = .ok (.aload_n 0, 1) := by decide +kernel
theorem dX7_takesTurn_4 : decode cX7_takesTurn 4 = .ok (.iload_n 1, 1) := by decide +kernel
theorem dX7_takesTurn_5 : decode cX7_takesTurn 5 = .ok (.iconst 2, 1) := by decide +kernel
theorem dX7_takesTurn_6 : decode cX7_takesTurn 6 = .ok (.invokevirtual 48, 3) := by decide +kernel
theorem dX7_takesTurn_9 : decode cX7_takesTurn 9 = .ok (.iconst 1, 1) := by decide +kernel
theorem dX7_takesTurn_10 : decode cX7_takesTurn 10 = .ok (.iadd, 1) := by decide +kernel
theorem dX7_takesTurn_11 : decode cX7_takesTurn 11 = .ok (.invokevirtual 63, 3) := by decide +kernel
theorem dX7_takesTurn_14 : decode cX7_takesTurn 14 = .ok (.iconst 0, 1) := by decide +kernel
theorem dX7_takesTurn_15 : decode cX7_takesTurn 15 = .ok (.istore_n 2, 1) := by decide +kernel
theorem dX7_takesTurn_16 : decode cX7_takesTurn 16 = .ok (.iload_n 2, 1) := by decide +kernel
theorem dX7_takesTurn_17 : decode cX7_takesTurn 17 = .ok (.bipush 64, 2) := by decide +kernel
theorem dX7_takesTurn_19 : decode cX7_takesTurn 19 = .ok (.if_icmp .ge 78, 3) := by decide +kernel
theorem dX7_takesTurn_22 : decode cX7_takesTurn 22 = .ok (.iload_n 1, 1) := by decide +kernel
theorem dX7_takesTurn_23 : decode cX7_takesTurn 23 = .ok (.iload_n 2, 1) := by decide +kernel
theorem dX7_takesTurn_24 : decode cX7_takesTurn 24 = .ok (.invokestatic 44, 3) := by decide +kernel
theorem dX7_takesTurn_27 : decode cX7_takesTurn 27 = .ok (.istore_n 3, 1) := by decide +kernel
theorem dX7_takesTurn_28 : decode cX7_takesTurn 28 = .ok (.aload_n 0, 1) := by decide +kernel
theorem dX7_takesTurn_29 : decode cX7_takesTurn 29 = .ok (.getfield 8, 3) := by decide +kernel
theorem dX7_takesTurn_32 : decode cX7_takesTurn 32 = .ok (.iload_n 3, 1) := by decide +kernel
theorem dX7_takesTurn_33 : decode cX7_takesTurn 33 = .ok (.iaload, 1) := by decide +kernel
theorem dX7_takesTurn_34 : decode cX7_takesTurn 34 = .ok (.iconst 2, 1) := by decide +kernel
theorem dX7_takesTurn_35 : decode cX7_takesTurn 35 = .ok (.if_icmp .eq 6, 3) := by decide +kernel
theorem dX7_takesTurn_38 : decode cX7_takesTurn 38 = .ok (.goto 53, 3) := by decide +kernel
theorem dX7_takesTurn_41 : decode cX7_takesTurn 41 = .ok (.aload_n 0, 1) := by decide +kernel
theorem dX7_takesTurn_42 : decode cX7_takesTurn 42 = .ok (.bipush 8, 2) := by decide +kernel
theorem dX7_takesTurn_44 : decode cX7_takesTurn 44 = .ok (.invokevirtual 59, 3) := by decide +kernel
theorem dX7_takesTurn_47 : decode cX7_takesTurn 47 = .ok (.aload_n 0, 1) := by decide +kernel
theorem dX7_takesTurn_48 : decode cX7_takesTurn 48 = .ok (.iload_n 1, 1) := by decide +kernel
theorem dX7_takesTurn_49 : decode cX7_takesTurn 49 = .ok (.iconst 2, 1) := by decide +kernel
theorem dX7_takesTurn_50 : decode cX7_takesTurn 50 = .ok (.invokevirtual 48, 3) := by decide +kernel
theorem dX7_takesTurn_53 : decode cX7_takesTurn 53 = .ok (.aload_n 0, 1) := by decide +kernel
theorem dX7_takesTurn_54 : decode cX7_takesTurn 54 = .ok (.getfield 8, 3) := by decide +kernel
theorem dX7_takesTurn_57 : decode cX7_takesTurn 57 = .ok (.iload_n 3, 1) := by decide +kernel
theorem dX7_takesTurn_58 : decode cX7_takesTurn 58 = .ok (.iconst 3, 1) := by decide +kernel
theorem dX7_takesTurn_59 : decode cX7_takesTurn 59 = .ok (.iadd, 1) := by decide +kernel
theorem dX7_takesTurn_60 : decode cX7_takesTurn 60 = .ok (.iaload, 1) := by decide +kernel
theorem dX7_takesTurn_61 : decode cX7_takesTurn 61 = .ok (.isub, 1) := by decide +kernel
theorem dX7_takesTurn_62 : decode cX7_takesTurn 62 = .ok (.iconst 5, 1) := by decide +kernel
theorem dX7_takesTurn_63 : decode cX7_takesTurn 63 = .ok (.if_icmp .ge 6, 3) := by decide +kernel
theorem dX7_takesTurn_66 : decode cX7_takesTurn 66 = .ok (.goto 25, 3) := by decide +kernel
theorem dX7_takesTurn_69 : decode cX7_takesTurn 69 = .ok (.aload_n 0, 1) := by decide +kernel
theorem dX7_takesTurn_70 : decode cX7_takesTurn 70 = .ok (.bipush 9, 2) := by decide +kernel
theorem dX7_takesTurn_72 : decode cX7_takesTurn 72 = .ok (.invokevirtual 59, 3) := by decide +kernel
theorem dX7_takesTurn_75 : decode cX7_takesTurn 75 = .ok (.aload_n 0, 1) := by decide +kernel
theorem dX7_takesTurn_76 : decode cX7_takesTurn 76 = .ok (.iload_n 1, 1) := by decide +kernel
theorem dX7_takesTurn_77 : decode cX7_takesTurn 77 = .ok (.iload_n 2, 1) := by decide +kernel
theorem dX7_takesTurn_78 : decode cX7_takesTurn 78 = .ok (.iconst 3, 1) := by decide +kernel
theorem dX7_takesTurn_79 : decode cX7_takesTurn 79 = .ok (.aload_n 0, 1) := by decide +kernel
theorem dX7_takesTurn_80 : decode cX7_takesTurn 80 = .ok (.getfield 8, 3) := by decide +kernel
theorem dX7_takesTurn_83 : decode cX7_takesTurn 83 = .ok (.iload_n 3, 1) := by decide +kernel
theorem dX7_takesTurn_84 : decode cX7_takesTurn 84 = .ok (.iconst 1, 1) := by decide +kernel
theorem dX7_takesTurn_85 : decode cX7_takesTurn 85 = .ok (.iadd, 1) := by decide +kernel
theorem dX7_takesTurn_86 : decode cX7_takesTurn 86 = .ok (.iaload, 1) := by decide +kernel
theorem dX7_takesTurn_87 : decode cX7_takesTurn 87 = .ok (.iconst (-1), 1) := by decide +kernel
theorem dX7_takesTurn_88 : decode cX7_takesTurn 88 = .ok (.invokevirtual 67, 3) := by decide +kernel
theorem dX7_takesTurn_91 : decode cX7_takesTurn 91 = .ok (.iinc 2 1, 3) := by decide +kernel
theorem dX7_takesTurn_94 : decode cX7_takesTurn 94 = .ok (.goto (-78), 3) := by decide +kernel
theorem dX7_takesTurn_97 : decode cX7_takesTurn 97 = .ok (.aload_n 0, 1) := by decide +kernel
theorem dX7_takesTurn_98 : decode cX7_takesTurn 98 = .ok (.iload_n 1, 1) := by decide +kernel
theorem dX7_takesTurn_99 : decode cX7_takesTurn 99 = .ok (.iconst 4, 1) := by decide +kernel
theorem dX7_takesTurn_100 : decode cX7_takesTurn 100 = .ok (.invokevirtual 48, 3) := by decide +kernel
theorem dX7_takesTurn_103 : decode cX7_takesTurn 103 = .ok (.istore_n 2, 1) := by decide +kernel
theorem dX7_takesTurn_104 : decode cX7_takesTurn 104 = .ok (.aload_n 0, 1) := by decide +kernel
theorem dX7_takesTurn_105 : decode cX7_takesTurn 105 = .ok (.iload_n 1, 1) := by decide +kernel
theorem dX7_takesTurn_106 : decode cX7_takesTurn 106 = .ok (.iconst 4, 1) := by decide +kernel
theorem dX7_takesTurn_107 : decode cX7_takesTurn 107 = .ok (.iconst (-1), 1) := by decide +kernel
theorem dX7_takesTurn_108 : decode cX7_takesTurn 108 = .ok (.invokevirtual 63, 3) := by decide +kernel
theorem dX7_takesTurn_111 : decode cX7_takesTurn 111 = .ok (.iload_n 2, 1) := by decide +kernel
theorem dX7_takesTurn_112 : decode cX7_takesTurn 112 = .ok (.ifCond .lt 33, 3) := by decide +kernel
theorem dX7_takesTurn_115 : decode cX7_takesTurn 115 = .ok (.aload_n 0, 1) := by decide +kernel
theorem dX7_takesTurn_116 : decode cX7_takesTurn 116 = .ok (.iload_n 1, 1) := by decide +kernel
theorem dX7_takesTurn_117 : decode cX7_takesTurn 117 = .ok (.iload_n 2, 1) := by decide +kernel
theorem dX7_takesTurn_118 : decode cX7_takesTurn 118 = .ok (.invokevirtual 72, 3) := by decide +kernel
theorem dX7_takesTurn_121 : decode cX7_takesTurn 121 = .ok (.iconst 1, 1) := by decide +kernel
theorem dX7_takesTurn_122 : decode cX7_takesTurn 122 = .ok (.if_icmp .ne 23, 3) := by decide +kernel
theorem dX7_takesTurn_125 : decode cX7_takesTurn 125 = .ok (.aload_n 0, 1) := by decide +kernel
theorem dX7_takesTurn_126 : decode cX7_takesTurn 126 = .ok (.iload_n 1, 1) := by decide +kernel
theorem dX7_takesTurn_127 : decode cX7_takesTurn 127 = .ok (.iload_n 2, 1) := by decide +kernel
theorem dX7_takesTurn_128 : decode cX7_takesTurn 128 = .ok (.iconst 2, 1) := by decide +kernel
theorem dX7_takesTurn_129 : decode cX7_takesTurn 129 = .ok (.aload_n 0, 1) := by decide +kernel
theorem dX7_takesTurn_130 : decode cX7_takesTurn 130 = .ok (.getfield 8, 3) := by decide +kernel
theorem dX7_takesTurn_133 : decode cX7_takesTurn 133 = .ok (.iload_n 1, 1) := by decide +kernel
theorem dX7_takesTurn_134 : decode cX7_takesTurn 134 = .ok (.iload_n 2, 1) := by decide +kernel
theorem dX7_takesTurn_135 : decode cX7_takesTurn 135 = .ok (.invokestatic 44, 3) := by decide +kernel
theorem dX7_takesTurn_138 : decode cX7_takesTurn 138 = .ok (.iconst 1, 1) := by decide +kernel
theorem dX7_takesTurn_139 : decode cX7_takesTurn 139 = .ok (.iadd, 1) := by decide +kernel
theorem dX7_takesTurn_140 : decode cX7_takesTurn 140 = .ok (.iaload, 1) := by decide +kernel
theorem dX7_takesTurn_141 : decode cX7_takesTurn 141 = .ok (.iconst (-1), 1) := by decide +kernel
theorem dX7_takesTurn_142 : decode cX7_takesTurn 142 = .ok (.invokevirtual 67, 3) := by decide +kernel
theorem dX7_takesTurn_145 : decode cX7_takesTurn 145 = .ok (.iconst 0, 1) := by decide +kernel
theorem dX7_takesTurn_146 : decode cX7_takesTurn 146 = .ok (.istore_n 3, 1) := by decide +kernel
theorem dX7_takesTurn_147 : decode cX7_takesTurn 147 = .ok (.aload_n 0, 1) := by decide +kernel
theorem dX7_takesTurn_148 : decode cX7_takesTurn 148 = .ok (.iload_n 1, 1) := by decide +kernel
theorem dX7_takesTurn_149 : decode cX7_takesTurn 149 = .ok (.iconst 3, 1) := by decide +kernel
theorem dX7_takesTurn_150 : decode cX7_takesTurn 150 = .ok (.invokevirtual 48, 3) := by decide +kernel
theorem dX7_takesTurn_153 : decode cX7_takesTurn 153 = .ok (.istore 4, 2) := by decide +kernel
theorem dX7_takesTurn_155 : decode cX7_takesTurn 155 = .ok (.aload_n 0, 1) := by decide +kernel
theorem dX7_takesTurn_156 : decode cX7_takesTurn 156 = .ok (.iload_n 1, 1) := by decide +kernel
theorem dX7_takesTurn_157 : decode cX7_takesTurn 157 = .ok (.iconst 3, 1) := by decide +kernel
theorem dX7_takesTurn_158 : decode cX7_takesTurn 158 = .ok (.iconst (-1), 1) := by decide +kernel
theorem dX7_takesTurn_159 : decode cX7_takesTurn 159 = .ok (.invokevirtual 63, 3) := by decide +kernel
theorem dX7_takesTurn_162 : decode cX7_takesTurn 162 = .ok (.iload 4, 2) := by decide +kernel
theorem dX7_takesTurn_164 : decode cX7_takesTurn 164 = .ok (.ifCond .lt 22, 3) := by decide +kernel
theorem dX7_takesTurn_167 : decode cX7_takesTurn 167 = .ok (.aload_n 0, 1) := by decide +kernel
theorem dX7_takesTurn_168 : decode cX7_takesTurn 168 = .ok (.iload_n 1, 1) := by decide +kernel
theorem dX7_takesTurn_169 : decode cX7_takesTurn 169 = .ok (.iconst 4, 1) := by decide +kernel
theorem dX7_takesTurn_170 : decode cX7_takesTurn 170 = .ok (.iload 4, 2) := by decide +kernel
theorem dX7_takesTurn_172 : decode cX7_takesTurn 172 = .ok (.invokevirtual 63, 3) := by decide +kernel
theorem dX7_takesTurn_175 : decode cX7_takesTurn 175 = .ok (.aload_n 0, 1) := by decide +kernel
theorem dX7_takesTurn_176 : decode cX7_takesTurn 176 = .ok (.iload_n 1, 1) := by decide +kernel
theorem dX7_takesTurn_177 : decode cX7_takesTurn 177 = .ok (.iload 4, 2) := by decide +kernel
theorem dX7_takesTurn_179 : decode cX7_takesTurn 179 = .ok (.iconst 2, 1) := by decide +kernel
theorem dX7_takesTurn_180 : decode cX7_takesTurn 180 = .ok (.iload 4, 2) := by decide +kernel
theorem dX7_takesTurn_182 : decode cX7_takesTurn 182 = .ok (.invokevirtual 115, 3) := by decide +kernel
theorem dX7_takesTurn_185 : decode cX7_takesTurn 185 = .ok (.istore_n 3, 1) := by decide +kernel
theorem dX7_takesTurn_186 : decode cX7_takesTurn 186 = .ok (.aload_n 0, 1) := by decide +kernel
theorem dX7_takesTurn_187 : decode cX7_takesTurn 187 = .ok (.iload_n 1, 1) := by decide +kernel
theorem dX7_takesTurn_188 : decode cX7_takesTurn 188 = .ok (.invokevirtual 118, 3) := by decide +kernel
theorem dX7_takesTurn_191 : decode cX7_takesTurn 191 = .ok (.istore 5, 2) := by decide +kernel
theorem dX7_takesTurn_193 : decode cX7_takesTurn 193 = .ok (.iload 5, 2) := by decide +kernel
theorem dX7_takesTurn_195 : decode cX7_takesTurn 195 = .ok (.ifCond .ge 5, 3) := by decide +kernel
theorem dX7_takesTurn_198 : decode cX7_takesTurn 198 = .ok (.iload_n 3, 1) := by decide +kernel
theorem dX7_takesTurn_199 : decode cX7_takesTurn 199 = .ok (.ireturn, 1) := by decide +kernel
theorem dX7_takesTurn_200 : decode cX7_takesTurn 200 = .ok (.aload_n 0, 1) := by decide +kernel
theorem dX7_takesTurn_201 : decode cX7_takesTurn 201 = .ok (.iload_n 1, 1) := by decide +kernel
theorem dX7_takesTurn_202 : decode cX7_takesTurn 202 = .ok (.iload 5, 2) := by decide +kernel
theorem dX7_takesTurn_204 : decode cX7_takesTurn 204 = .ok (.iconst 1, 1) := by decide +kernel
theorem dX7_takesTurn_205 : decode cX7_takesTurn 205 = .ok (.iconst (-1), 1) := by decide +kernel
theorem dX7_takesTurn_206 : decode cX7_takesTurn 206 = .ok (.invokevirtual 89, 3) := by decide +kernel
theorem dX7_takesTurn_209 : decode cX7_takesTurn 209 = .ok (.istore 6, 2) := by decide +kernel
theorem dX7_takesTurn_211 : decode cX7_takesTurn 211 = .ok (.aload_n 0, 1) := by decide +kernel
theorem dX7_takesTurn_212 : decode cX7_takesTurn 212 = .ok (.iload_n 1, 1) := by decide +kernel
theorem dX7_takesTurn_213 : decode cX7_takesTurn 213 = .ok (.iconst 3, 1) := by decide +kernel
theorem dX7_takesTurn_214 : decode cX7_takesTurn 214 = .ok (.iload 5, 2) := by decide +kernel
theorem dX7_takesTurn_216 : decode cX7_takesTurn 216 = .ok (.invokevirtual 63, 3) := by decide +kernel
theorem dX7_takesTurn_219 : decode cX7_takesTurn 219 = .ok (.iload_n 3, 1) := by decide +kernel
theorem dX7_takesTurn_220 : decode cX7_takesTurn 220 = .ok (.iconst 1, 1) := by decide +kernel
theorem dX7_takesTurn_221 : decode cX7_takesTurn 221 = .ok (.iadd, 1) := by decide +kernel
theorem dX7_takesTurn_222 : decode cX7_takesTurn 222 = .ok (.ireturn, 1) := by decide +kernel
theorem dX7_why_0 : decode cX7_why 0 = .ok (.iload_n 1, 1) := by decide +kernel
theorem dX7_why_1 : decode cX7_why 1 = .ok (.invokestatic 121, 3) := by decide +kernel
theorem dX7_why_4 : decode cX7_why 4 = .ok (.ifCond .ne 6, 3) := by decide +kernel
theorem dX7_why_7 : decode cX7_why 7 = .ok (.bipush (-3), 2) := by decide +kernel
theorem dX7_why_9 : decode cX7_why 9 = .ok (.ireturn, 1) := by decide +kernel
theorem dX7_why_10 : decode cX7_why 10 = .ok (.aload_n 0, 1) := by decide +kernel
theorem dX7_why_11 : decode cX7_why 11 = .ok (.iload_n 1, 1) := by decide +kernel
theorem dX7_why_12 : decode cX7_why 12 = .ok (.invokevirtual 125, 3) := by decide +kernel
theorem dX7_why_15 : decode cX7_why 15 = .ok (.ifCond .ne 6, 3) := by decide +kernel
theorem dX7_why_18 : decode cX7_why 18 = .ok (.bipush (-2), 2) := by decide +kernel
theorem dX7_why_20 : decode cX7_why 20 = .ok (.ireturn, 1) := by decide +kernel
theorem dX7_why_21 : decode cX7_why 21 = .ok (.iload_n 2, 1) := by decide +kernel
theorem dX7_why_22 : decode cX7_why 22 = .ok (.iconst 1, 1) := by decide +kernel
theorem dX7_why_23 : decode cX7_why 23 = .ok (.if_icmp .ne 16, 3) := by decide +kernel
theorem dX7_why_26 : decode cX7_why 26 = .ok (.aload_n 0, 1) := by decide +kernel
theorem dX7_why_27 : decode cX7_why 27 = .ok (.iload_n 1, 1) := by decide +kernel
theorem dX7_why_28 : decode cX7_why 28 = .ok (.iconst 0, 1) := by decide +kernel
theorem dX7_why_29 : decode cX7_why 29 = .ok (.invokevirtual 48, 3) := by decide +kernel
theorem dX7_why_32 : decode cX7_why 32 = .ok (.iconst 1, 1) := by decide +kernel
theorem dX7_why_33 : decode cX7_why 33 = .ok (.if_icmp .eq 6, 3) := by decide +kernel
theorem dX7_why_36 : decode cX7_why 36 = .ok (.bipush (-8), 2) := by decide +kernel
theorem dX7_why_38 : decode cX7_why 38 = .ok (.ireturn, 1) := by decide +kernel
theorem dX7_why_39 : decode cX7_why 39 = .ok (.iload_n 2, 1) := by decide +kernel
theorem dX7_why_40 : decode cX7_why 40 = .ok (.iconst 2, 1) := by decide +kernel
theorem dX7_why_41 : decode cX7_why 41 = .ok (.if_icmp .ne 16, 3) := by decide +kernel
theorem dX7_why_44 : decode cX7_why 44 = .ok (.aload_n 0, 1) := by decide +kernel
theorem dX7_why_45 : decode cX7_why 45 = .ok (.iload_n 1, 1) := by decide +kernel
theorem dX7_why_46 : decode cX7_why 46 = .ok (.iconst 0, 1) := by decide +kernel
theorem dX7_why_47 : decode cX7_why 47 = .ok (.invokevirtual 48, 3) := by decide +kernel
theorem dX7_why_50 : decode cX7_why 50 = .ok (.iconst 1, 1) := by decide +kernel
theorem dX7_why_51 : decode cX7_why 51 = .ok (.if_icmp .ne 6, 3) := by decide +kernel
theorem dX7_why_54 : decode cX7_why 54 = .ok (.bipush (-9), 2) := by decide +kernel
theorem dX7_why_56 : decode cX7_why 56 = .ok (.ireturn, 1) := by decide +kernel
theorem dX7_why_57 : decode cX7_why 57 = .ok (.aload_n 0, 1) := by decide +kernel
theorem dX7_why_58 : decode cX7_why 58 = .ok (.invokevirtual 128, 3) := by decide +kernel
theorem dX7_why_61 : decode cX7_why 61 = .ok (.ifCond .eq 8, 3) := by decide +kernel
theorem dX7_why_64 : decode cX7_why 64 = .ok (.bipush (-10), 2) := by decide +kernel
theorem dX7_why_66 : decode cX7_why 66 = .ok (.goto 4, 3) := by decide +kernel
theorem dX7_why_69 : decode cX7_why 69 = .ok (.iconst 0, 1) := by decide +kernel
theorem dX7_why_70 : decode cX7_why 70 = .ok (.ireturn, 1) := by decide +kernel
theorem dX7_did_0 : decode cX7_did 0 = .ok (.aload_n 0, 1) := by decide +kernel
theorem dX7_did_1 : decode cX7_did 1 = .ok (.getfield 8, 3) := by decide +kernel
theorem dX7_did_4 : decode cX7_did 4 = .ok (.ldc 53, 2) := by decide +kernel
theorem dX7_did_6 : decode cX7_did 6 = .ok (.dup2, 1) := by decide +kernel
theorem dX7_did_7 : decode cX7_did 7 = .ok (.iaload, 1) := by decide +kernel
theorem dX7_did_8 : decode cX7_did 8 = .ok (.iconst 1, 1) := by decide +kernel
theorem dX7_did_9 : decode cX7_did 9 = .ok (.iadd, 1) := by decide +kernel
theorem dX7_did_10 : decode cX7_did 10 = .ok (.iastore, 1) := by decide +kernel
theorem dX7_did_11 : decode cX7_did 11 = .ok (.iload_n 1, 1) := by decide +kernel
theorem dX7_did_12 : decode cX7_did 12 = .ok (.ireturn, 1) := by decide +kernel
theorem dX7_goesQuiet_0 : decode cX7_goesQuiet 0 = .ok (.aload_n 0, 1) := by decide +kernel
theorem dX7_goesQuiet_1 : decode cX7_goesQuiet 1 = .ok (.iload_n 1, 1) := by decide +kernel
theorem dX7_goesQuiet_2 : decode cX7_goesQuiet 2 = .ok (.iconst 3, 1) := by decide +kernel
theorem dX7_goesQuiet_3 : decode cX7_goesQuiet 3 = .ok (.iconst (-1), 1) := by decide +kernel
theorem dX7_goesQuiet_4 : decode cX7_goesQuiet 4 = .ok (.invokevirtual 63, 3) := by decide +kernel
theorem dX7_goesQuiet_7 : decode cX7_goesQuiet 7 = .ok (.aload_n 0, 1) := by decide +kernel
theorem dX7_goesQuiet_8 : decode cX7_goesQuiet 8 = .ok (.iload_n 1, 1) := by decide +kernel
theorem dX7_goesQuiet_9 : decode cX7_goesQuiet 9 = .ok (.iconst 4, 1) := by decide +kernel
theorem dX7_goesQuiet_10 : decode cX7_goesQuiet 10 = .ok (.iconst (-1), 1) := by decide +kernel
theorem dX7_goesQuiet_11 : decode cX7_goesQuiet 11 = .ok (.invokevirtual 63, 3) := by decide +kernel
theorem dX7_goesQuiet_14 : decode cX7_goesQuiet 14 = .ok (.aload_n 0, 1) := by decide +kernel
theorem dX7_goesQuiet_15 : decode cX7_goesQuiet 15 = .ok (.iload_n 1, 1) := by decide +kernel
theorem dX7_goesQuiet_16 : decode cX7_goesQuiet 16 = .ok (.iconst 5, 1) := by decide +kernel
theorem dX7_goesQuiet_17 : decode cX7_goesQuiet 17 = .ok (.iconst 0, 1) := by decide +kernel
theorem dX7_goesQuiet_18 : decode cX7_goesQuiet 18 = .ok (.invokevirtual 63, 3) := by decide +kernel
theorem dX7_goesQuiet_21 : decode cX7_goesQuiet 21 = .ok (.aload_n 0, 1) := by decide +kernel
theorem dX7_goesQuiet_22 : decode cX7_goesQuiet 22 = .ok (.iload_n 1, 1) := by decide +kernel
theorem dX7_goesQuiet_23 : decode cX7_goesQuiet 23 = .ok (.bipush 6, 2) := by decide +kernel
theorem dX7_goesQuiet_25 : decode cX7_goesQuiet 25 = .ok (.iconst 0, 1) := by decide +kernel
theorem dX7_goesQuiet_26 : decode cX7_goesQuiet 26 = .ok (.invokevirtual 63, 3) := by decide +kernel
theorem dX7_goesQuiet_29 : decode cX7_goesQuiet 29 = .ok (.return_, 1) := by decide +kernel
theorem dX7_member_0 : decode cX7_member 0 = .ok (.iload_n 1, 1) := by decide +kernel
theorem dX7_member_1 : decode cX7_member 1 = .ok (.invokestatic 121, 3) := by decide +kernel
theorem dX7_member_4 : decode cX7_member 4 = .ok (.ifCond .ne 10, 3) := by decide +kernel
theorem dX7_member_7 : decode cX7_member 7 = .ok (.aload_n 0, 1) := by decide +kernel
theorem dX7_member_8 : decode cX7_member 8 = .ok (.bipush (-3), 2) := by decide +kernel
theorem dX7_member_10 : decode cX7_member 10 = .ok (.invokevirtual 132, 3) := by decide +kernel
theorem dX7_member_13 : decode cX7_member 13 = .ok (.ireturn, 1) := by decide +kernel
theorem dX7_member_14 : decode cX7_member 14 = .ok (.aload_n 0, 1) := by decide +kernel
theorem dX7_member_15 : decode cX7_member 15 = .ok (.iload_n 1, 1) := by decide +kernel
theorem dX7_member_16 : decode cX7_member 16 = .ok (.invokevirtual 125, 3) := by decide +kernel
theorem dX7_member_19 : decode cX7_member 19 = .ok (.ifCond .eq 10, 3) := by decide +kernel
theorem dX7_member_22 : decode cX7_member 22 = .ok (.aload_n 0, 1) := by decide +kernel
theorem dX7_member_23 : decode cX7_member 23 = .ok (.bipush (-9), 2) := by decide +kernel
theorem dX7_member_25 : decode cX7_member 25 = .ok (.invokevirtual 132, 3) := by decide +kernel
theorem dX7_member_28 : decode cX7_member 28 = .ok (.ireturn, 1) := by decide +kernel
theorem dX7_member_29 : decode cX7_member 29 = .ok (.aload_n 0, 1) := by decide +kernel
theorem dX7_member_30 : decode cX7_member 30 = .ok (.invokevirtual 128, 3) := by decide +kernel
theorem dX7_member_33 : decode cX7_member 33 = .ok (.ifCond .eq 10, 3) := by decide +kernel
theorem dX7_member_36 : decode cX7_member 36 = .ok (.aload_n 0, 1) := by decide +kernel
theorem dX7_member_37 : decode cX7_member 37 = .ok (.bipush (-10), 2) := by decide +kernel
theorem dX7_member_39 : decode cX7_member 39 = .ok (.invokevirtual 132, 3) := by decide +kernel
theorem dX7_member_42 : decode cX7_member 42 = .ok (.ireturn, 1) := by decide +kernel
theorem dX7_member_43 : decode cX7_member 43 = .ok (.aload_n 0, 1) := by decide +kernel
theorem dX7_member_44 : decode cX7_member 44 = .ok (.iload_n 1, 1) := by decide +kernel
theorem dX7_member_45 : decode cX7_member 45 = .ok (.iconst 0, 1) := by decide +kernel
theorem dX7_member_46 : decode cX7_member 46 = .ok (.iconst 1, 1) := by decide +kernel
theorem dX7_member_47 : decode cX7_member 47 = .ok (.invokevirtual 63, 3) := by decide +kernel
theorem dX7_member_50 : decode cX7_member 50 = .ok (.aload_n 0, 1) := by decide +kernel
theorem dX7_member_51 : decode cX7_member 51 = .ok (.iload_n 1, 1) := by decide +kernel
theorem dX7_member_52 : decode cX7_member 52 = .ok (.iconst 1, 1) := by decide +kernel
theorem dX7_member_53 : decode cX7_member 53 = .ok (.iconst 1, 1) := by decide +kernel
theorem dX7_member_54 : decode cX7_member 54 = .ok (.invokevirtual 63, 3) := by decide +kernel
theorem dX7_member_57 : decode cX7_member 57 = .ok (.aload_n 0, 1) := by decide +kernel
theorem dX7_member_58 : decode cX7_member 58 = .ok (.iload_n 1, 1) := by decide +kernel
theorem dX7_member_59 : decode cX7_member 59 = .ok (.iconst 2, 1) := by decide +kernel
theorem dX7_member_60 : decode cX7_member 60 = .ok (.iconst 0, 1) := by decide +kernel
theorem dX7_member_61 : decode cX7_member 61 = .ok (.invokevirtual 63, 3) := by decide +kernel
theorem dX7_member_64 : decode cX7_member 64 = .ok (.aload_n 0, 1) := by decide +kernel
theorem dX7_member_65 : decode cX7_member 65 = .ok (.iload_n 1, 1) := by decide +kernel
theorem dX7_member_66 : decode cX7_member 66 = .ok (.invokevirtual 135, 3) := by decide +kernel
theorem dX7_member_69 : decode cX7_member 69 = .ok (.aload_n 0, 1) := by decide +kernel
theorem dX7_member_70 : decode cX7_member 70 = .ok (.getfield 17, 3) := by decide +kernel
theorem dX7_member_73 : decode cX7_member 73 = .ok (.iload_n 1, 1) := by decide +kernel
theorem dX7_member_74 : decode cX7_member 74 = .ok (.lload_n 2, 1) := by decide +kernel
theorem dX7_member_75 : decode cX7_member 75 = .ok (.lastore, 1) := by decide +kernel
theorem dX7_member_76 : decode cX7_member 76 = .ok (.aload_n 0, 1) := by decide +kernel
theorem dX7_member_77 : decode cX7_member 77 = .ok (.iload_n 1, 1) := by decide +kernel
theorem dX7_member_78 : decode cX7_member 78 = .ok (.iload_n 1, 1) := by decide +kernel
theorem dX7_member_79 : decode cX7_member 79 = .ok (.iconst 1, 1) := by decide +kernel
theorem dX7_member_80 : decode cX7_member 80 = .ok (.iconst 1, 1) := by decide +kernel
theorem dX7_member_81 : decode cX7_member 81 = .ok (.iconst (-1), 1) := by decide +kernel
theorem dX7_member_82 : decode cX7_member 82 = .ok (.invokevirtual 67, 3) := by decide +kernel
theorem dX7_member_85 : decode cX7_member 85 = .ok (.iconst 0, 1) := by decide +kernel
theorem dX7_member_86 : decode cX7_member 86 = .ok (.istore 4, 2) := by decide +kernel
theorem dX7_member_88 : decode cX7_member 88 = .ok (.iconst 0, 1) := by decide +kernel
theorem dX7_member_89 : decode cX7_member 89 = .ok (.istore 5, 2) := by decide +kernel
theorem dX7_member_91 : decode cX7_member 91 = .ok (.iload 5, 2) := by decide +kernel
theorem dX7_member_93 : decode cX7_member 93 = .ok (.bipush 64, 2) := by decide +kernel
theorem dX7_member_95 : decode cX7_member 95 = .ok (.if_icmp .ge 28, 3) := by decide +kernel
theorem dX7_member_98 : decode cX7_member 98 = .ok (.iload 4, 2) := by decide +kernel
theorem dX7_member_100 : decode cX7_member 100 = .ok (.aload_n 0, 1) := by decide +kernel
theorem dX7_member_101 : decode cX7_member 101 = .ok (.iload 5, 2) := by decide +kernel
theorem dX7_member_103 : decode cX7_member 103 = .ok (.invokevirtual 125, 3) := by decide +kernel
theorem dX7_member_106 : decode cX7_member 106 = .ok (.ifCond .eq 7, 3) := by decide +kernel
theorem dX7_member_109 : decode cX7_member 109 = .ok (.iconst 1, 1) := by decide +kernel
theorem dX7_member_110 : decode cX7_member 110 = .ok (.goto 4, 3) := by decide +kernel
theorem dX7_member_113 : decode cX7_member 113 = .ok (.iconst 0, 1) := by decide +kernel
theorem dX7_member_114 : decode cX7_member 114 = .ok (.iadd, 1) := by decide +kernel
theorem dX7_member_115 : decode cX7_member 115 = .ok (.istore 4, 2) := by decide +kernel
theorem dX7_member_117 : decode cX7_member 117 = .ok (.iinc 5 1, 3) := by decide +kernel
theorem dX7_member_120 : decode cX7_member 120 = .ok (.goto (-29), 3) := by decide +kernel
theorem dX7_member_123 : decode cX7_member 123 = .ok (.aload_n 0, 1) := by decide +kernel
theorem dX7_member_124 : decode cX7_member 124 = .ok (.iload 4, 2) := by decide +kernel
theorem dX7_member_126 : decode cX7_member 126 = .ok (.invokevirtual 138, 3) := by decide +kernel
theorem dX7_member_129 : decode cX7_member 129 = .ok (.ireturn, 1) := by decide +kernel
theorem dX7_join_0 : decode cX7_join 0 = .ok (.iload_n 1, 1) := by decide +kernel
theorem dX7_join_1 : decode cX7_join 1 = .ok (.invokestatic 121, 3) := by decide +kernel
theorem dX7_join_4 : decode cX7_join 4 = .ok (.ifCond .eq 10, 3) := by decide +kernel
theorem dX7_join_7 : decode cX7_join 7 = .ok (.iload_n 2, 1) := by decide +kernel
theorem dX7_join_8 : decode cX7_join 8 = .ok (.invokestatic 121, 3) := by decide +kernel
theorem dX7_join_11 : decode cX7_join 11 = .ok (.ifCond .ne 10, 3) := by decide +kernel
theorem dX7_join_14 : decode cX7_join 14 = .ok (.aload_n 0, 1) := by decide +kernel
theorem dX7_join_15 : decode cX7_join 15 = .ok (.bipush (-3), 2) := by decide +kernel
theorem dX7_join_17 : decode cX7_join 17 = .ok (.invokevirtual 132, 3) := by decide +kernel
theorem dX7_join_20 : decode cX7_join 20 = .ok (.ireturn, 1) := by decide +kernel
theorem dX7_join_21 : decode cX7_join 21 = .ok (.aload_n 0, 1) := by decide +kernel
theorem dX7_join_22 : decode cX7_join 22 = .ok (.iload_n 1, 1) := by decide +kernel
theorem dX7_join_23 : decode cX7_join 23 = .ok (.invokevirtual 125, 3) := by decide +kernel
theorem dX7_join_26 : decode cX7_join 26 = .ok (.ifCond .eq 11, 3) := by decide +kernel
theorem dX7_join_29 : decode cX7_join 29 = .ok (.aload_n 0, 1) := by decide +kernel
theorem dX7_join_30 : decode cX7_join 30 = .ok (.iload_n 2, 1) := by decide +kernel
theorem dX7_join_31 : decode cX7_join 31 = .ok (.invokevirtual 125, 3) := by decide +kernel
theorem dX7_join_34 : decode cX7_join 34 = .ok (.ifCond .ne 10, 3) := by decide +kernel
theorem dX7_join_37 : decode cX7_join 37 = .ok (.aload_n 0, 1) := by decide +kernel
theorem dX7_join_38 : decode cX7_join 38 = .ok (.bipush (-2), 2) := by decide +kernel
theorem dX7_join_40 : decode cX7_join 40 = .ok (.invokevirtual 132, 3) := by decide +kernel
theorem dX7_join_43 : decode cX7_join 43 = .ok (.ireturn, 1) := by decide +kernel
theorem dX7_join_44 : decode cX7_join 44 = .ok (.aload_n 0, 1) := by decide +kernel
theorem dX7_join_45 : decode cX7_join 45 = .ok (.iload_n 1, 1) := by decide +kernel
theorem dX7_join_46 : decode cX7_join 46 = .ok (.iconst 0, 1) := by decide +kernel
theorem dX7_join_47 : decode cX7_join 47 = .ok (.invokevirtual 48, 3) := by decide +kernel
theorem dX7_join_50 : decode cX7_join 50 = .ok (.iconst 1, 1) := by decide +kernel
theorem dX7_join_51 : decode cX7_join 51 = .ok (.if_icmp .eq 10, 3) := by decide +kernel
theorem dX7_join_54 : decode cX7_join 54 = .ok (.aload_n 0, 1) := by decide +kernel
theorem dX7_join_55 : decode cX7_join 55 = .ok (.bipush (-8), 2) := by decide +kernel
theorem dX7_join_57 : decode cX7_join 57 = .ok (.invokevirtual 132, 3) := by decide +kernel
theorem dX7_join_60 : decode cX7_join 60 = .ok (.ireturn, 1) := by decide +kernel
theorem dX7_join_61 : decode cX7_join 61 = .ok (.iload_n 1, 1) := by decide +kernel
theorem dX7_join_62 : decode cX7_join 62 = .ok (.iload_n 2, 1) := by decide +kernel
theorem dX7_join_63 : decode cX7_join 63 = .ok (.if_icmp .ne 10, 3) := by decide +kernel
theorem dX7_join_66 : decode cX7_join 66 = .ok (.aload_n 0, 1) := by decide +kernel
theorem dX7_join_67 : decode cX7_join 67 = .ok (.bipush (-9), 2) := by decide +kernel
theorem dX7_join_69 : decode cX7_join 69 = .ok (.invokevirtual 132, 3) := by decide +kernel
theorem dX7_join_72 : decode cX7_join 72 = .ok (.ireturn, 1) := by decide +kernel
theorem dX7_join_73 : decode cX7_join 73 = .ok (.aload_n 0, 1) := by decide +kernel
theorem dX7_join_74 : decode cX7_join 74 = .ok (.invokevirtual 128, 3) := by decide +kernel
theorem dX7_join_77 : decode cX7_join 77 = .ok (.ifCond .eq 10, 3) := by decide +kernel
theorem dX7_join_80 : decode cX7_join 80 = .ok (.aload_n 0, 1) := by decide +kernel
theorem dX7_join_81 : decode cX7_join 81 = .ok (.bipush (-10), 2) := by decide +kernel
theorem dX7_join_83 : decode cX7_join 83 = .ok (.invokevirtual 132, 3) := by decide +kernel
theorem dX7_join_86 : decode cX7_join 86 = .ok (.ireturn, 1) := by decide +kernel
theorem dX7_join_87 : decode cX7_join 87 = .ok (.aload_n 0, 1) := by decide +kernel
theorem dX7_join_88 : decode cX7_join 88 = .ok (.aload_n 0, 1) := by decide +kernel
theorem dX7_join_89 : decode cX7_join 89 = .ok (.iload_n 1, 1) := by decide +kernel
theorem dX7_join_90 : decode cX7_join 90 = .ok (.iload_n 2, 1) := by decide +kernel
theorem dX7_join_91 : decode cX7_join 91 = .ok (.iconst 5, 1) := by decide +kernel
theorem dX7_join_92 : decode cX7_join 92 = .ok (.iconst (-1), 1) := by decide +kernel
theorem dX7_join_93 : decode cX7_join 93 = .ok (.invokevirtual 89, 3) := by decide +kernel
theorem dX7_join_96 : decode cX7_join 96 = .ok (.invokevirtual 138, 3) := by decide +kernel
theorem dX7_join_99 : decode cX7_join 99 = .ok (.ireturn, 1) := by decide +kernel
theorem dX7_leave_0 : decode cX7_leave 0 = .ok (.aload_n 0, 1) := by decide +kernel
theorem dX7_leave_1 : decode cX7_leave 1 = .ok (.iload_n 1, 1) := by decide +kernel
theorem dX7_leave_2 : decode cX7_leave 2 = .ok (.iconst 1, 1) := by decide +kernel
theorem dX7_leave_3 : decode cX7_leave 3 = .ok (.invokevirtual 141, 3) := by decide +kernel
theorem dX7_leave_6 : decode cX7_leave 6 = .ok (.istore_n 2, 1) := by decide +kernel
theorem dX7_leave_7 : decode cX7_leave 7 = .ok (.iload_n 2, 1) := by decide +kernel
theorem dX7_leave_8 : decode cX7_leave 8 = .ok (.ifCond .eq 9, 3) := by decide +kernel
theorem dX7_leave_11 : decode cX7_leave 11 = .ok (.aload_n 0, 1) := by decide +kernel
theorem dX7_leave_12 : decode cX7_leave 12 = .ok (.iload_n 2, 1) := by decide +kernel
theorem dX7_leave_13 : decode cX7_leave 13 = .ok (.invokevirtual 132, 3) := by decide +kernel
theorem dX7_leave_16 : decode cX7_leave 16 = .ok (.ireturn, 1) := by decide +kernel
theorem dX7_leave_17 : decode cX7_leave 17 = .ok (.aload_n 0, 1) := by decide +kernel
theorem dX7_leave_18 : decode cX7_leave 18 = .ok (.iload_n 1, 1) := by decide +kernel
theorem dX7_leave_19 : decode cX7_leave 19 = .ok (.iload_n 1, 1) := by decide +kernel
theorem dX7_leave_20 : decode cX7_leave 20 = .ok (.iconst 4, 1) := by decide +kernel
theorem dX7_leave_21 : decode cX7_leave 21 = .ok (.aload_n 0, 1) := by decide +kernel
theorem dX7_leave_22 : decode cX7_leave 22 = .ok (.iload_n 1, 1) := by decide +kernel
theorem dX7_leave_23 : decode cX7_leave 23 = .ok (.iconst 1, 1) := by decide +kernel
theorem dX7_leave_24 : decode cX7_leave 24 = .ok (.invokevirtual 48, 3) := by decide +kernel
theorem dX7_leave_27 : decode cX7_leave 27 = .ok (.iconst (-1), 1) := by decide +kernel
theorem dX7_leave_28 : decode cX7_leave 28 = .ok (.invokevirtual 67, 3) := by decide +kernel
theorem dX7_leave_31 : decode cX7_leave 31 = .ok (.aload_n 0, 1) := by decide +kernel
theorem dX7_leave_32 : decode cX7_leave 32 = .ok (.iload_n 1, 1) := by decide +kernel
theorem dX7_leave_33 : decode cX7_leave 33 = .ok (.iconst 0, 1) := by decide +kernel
theorem dX7_leave_34 : decode cX7_leave 34 = .ok (.iconst 3, 1) := by decide +kernel
theorem dX7_leave_35 : decode cX7_leave 35 = .ok (.invokevirtual 63, 3) := by decide +kernel
theorem dX7_leave_38 : decode cX7_leave 38 = .ok (.aload_n 0, 1) := by decide +kernel
theorem dX7_leave_39 : decode cX7_leave 39 = .ok (.iload_n 1, 1) := by decide +kernel
theorem dX7_leave_40 : decode cX7_leave 40 = .ok (.iconst (-1), 1) := by decide +kernel
theorem dX7_leave_41 : decode cX7_leave 41 = .ok (.bipush 6, 2) := by decide +kernel
theorem dX7_leave_43 : decode cX7_leave 43 = .ok (.iconst (-1), 1) := by decide +kernel
theorem dX7_leave_44 : decode cX7_leave 44 = .ok (.invokevirtual 115, 3) := by decide +kernel
theorem dX7_leave_47 : decode cX7_leave 47 = .ok (.istore_n 3, 1) := by decide +kernel
theorem dX7_leave_48 : decode cX7_leave 48 = .ok (.aload_n 0, 1) := by decide +kernel
theorem dX7_leave_49 : decode cX7_leave 49 = .ok (.iload_n 1, 1) := by decide +kernel
theorem dX7_leave_50 : decode cX7_leave 50 = .ok (.invokevirtual 135, 3) := by decide +kernel
theorem dX7_leave_53 : decode cX7_leave 53 = .ok (.aload_n 0, 1) := by decide +kernel
theorem dX7_leave_54 : decode cX7_leave 54 = .ok (.iload_n 3, 1) := by decide +kernel
theorem dX7_leave_55 : decode cX7_leave 55 = .ok (.invokevirtual 138, 3) := by decide +kernel
theorem dX7_leave_58 : decode cX7_leave 58 = .ok (.ireturn, 1) := by decide +kernel
theorem dX7_turn_0 : decode cX7_turn 0 = .ok (.aload_n 0, 1) := by decide +kernel
theorem dX7_turn_1 : decode cX7_turn 1 = .ok (.iload_n 1, 1) := by decide +kernel
theorem dX7_turn_2 : decode cX7_turn 2 = .ok (.iconst 1, 1) := by decide +kernel
theorem dX7_turn_3 : decode cX7_turn 3 = .ok (.invokevirtual 141, 3) := by decide +kernel
theorem dX7_turn_6 : decode cX7_turn 6 = .ok (.istore_n 2, 1) := by decide +kernel
theorem dX7_turn_7 : decode cX7_turn 7 = .ok (.iload_n 2, 1) := by decide +kernel
theorem dX7_turn_8 : decode cX7_turn 8 = .ok (.ifCond .eq 11, 3) := by decide +kernel
theorem dX7_turn_11 : decode cX7_turn 11 = .ok (.aload_n 0, 1) := by decide +kernel
theorem dX7_turn_12 : decode cX7_turn 12 = .ok (.iload_n 2, 1) := by decide +kernel
theorem dX7_turn_13 : decode cX7_turn 13 = .ok (.invokevirtual 132, 3) := by decide +kernel
theorem dX7_turn_16 : decode cX7_turn 16 = .ok (.goto 12, 3) := by decide +kernel
theorem dX7_turn_19 : decode cX7_turn 19 = .ok (.aload_n 0, 1) := by decide +kernel
theorem dX7_turn_20 : decode cX7_turn 20 = .ok (.aload_n 0, 1) := by decide +kernel
theorem dX7_turn_21 : decode cX7_turn 21 = .ok (.iload_n 1, 1) := by decide +kernel
theorem dX7_turn_22 : decode cX7_turn 22 = .ok (.invokevirtual 144, 3) := by decide +kernel
theorem dX7_turn_25 : decode cX7_turn 25 = .ok (.invokevirtual 138, 3) := by decide +kernel
theorem dX7_turn_28 : decode cX7_turn 28 = .ok (.ireturn, 1) := by decide +kernel
theorem dX7_fall_0 : decode cX7_fall 0 = .ok (.aload_n 0, 1) := by decide +kernel
theorem dX7_fall_1 : decode cX7_fall 1 = .ok (.iload_n 1, 1) := by decide +kernel
theorem dX7_fall_2 : decode cX7_fall 2 = .ok (.iconst 1, 1) := by decide +kernel
theorem dX7_fall_3 : decode cX7_fall 3 = .ok (.invokevirtual 141, 3) := by decide +kernel
theorem dX7_fall_6 : decode cX7_fall 6 = .ok (.istore_n 2, 1) := by decide +kernel
theorem dX7_fall_7 : decode cX7_fall 7 = .ok (.iload_n 2, 1) := by decide +kernel
theorem dX7_fall_8 : decode cX7_fall 8 = .ok (.ifCond .eq 9, 3) := by decide +kernel
theorem dX7_fall_11 : decode cX7_fall 11 = .ok (.aload_n 0, 1) := by decide +kernel
theorem dX7_fall_12 : decode cX7_fall 12 = .ok (.iload_n 2, 1) := by decide +kernel
theorem dX7_fall_13 : decode cX7_fall 13 = .ok (.invokevirtual 132, 3) := by decide +kernel
theorem dX7_fall_16 : decode cX7_fall 16 = .ok (.ireturn, 1) := by decide +kernel
theorem dX7_fall_17 : decode cX7_fall 17 = .ok (.aload_n 0, 1) := by decide +kernel
theorem dX7_fall_18 : decode cX7_fall 18 = .ok (.iload_n 1, 1) := by decide +kernel
theorem dX7_fall_19 : decode cX7_fall 19 = .ok (.iconst 0, 1) := by decide +kernel
theorem dX7_fall_20 : decode cX7_fall 20 = .ok (.iconst 2, 1) := by decide +kernel
theorem dX7_fall_21 : decode cX7_fall 21 = .ok (.invokevirtual 63, 3) := by decide +kernel
theorem dX7_fall_24 : decode cX7_fall 24 = .ok (.iconst 0, 1) := by decide +kernel
theorem dX7_fall_25 : decode cX7_fall 25 = .ok (.istore_n 3, 1) := by decide +kernel
theorem dX7_fall_26 : decode cX7_fall 26 = .ok (.iload_n 3, 1) := by decide +kernel
theorem dX7_fall_27 : decode cX7_fall 27 = .ok (.bipush 64, 2) := by decide +kernel
theorem dX7_fall_29 : decode cX7_fall 29 = .ok (.if_icmp .ge 20, 3) := by decide +kernel
theorem dX7_fall_32 : decode cX7_fall 32 = .ok (.aload_n 0, 1) := by decide +kernel
theorem dX7_fall_33 : decode cX7_fall 33 = .ok (.getfield 8, 3) := by decide +kernel
theorem dX7_fall_36 : decode cX7_fall 36 = .ok (.iload_n 1, 1) := by decide +kernel
theorem dX7_fall_37 : decode cX7_fall 37 = .ok (.iload_n 3, 1) := by decide +kernel
theorem dX7_fall_38 : decode cX7_fall 38 = .ok (.invokestatic 44, 3) := by decide +kernel
theorem dX7_fall_41 : decode cX7_fall 41 = .ok (.iconst 0, 1) := by decide +kernel
theorem dX7_fall_42 : decode cX7_fall 42 = .ok (.iastore, 1) := by decide +kernel
theorem dX7_fall_43 : decode cX7_fall 43 = .ok (.iinc 3 1, 3) := by decide +kernel
theorem dX7_fall_46 : decode cX7_fall 46 = .ok (.goto (-20), 3) := by decide +kernel
theorem dX7_fall_49 : decode cX7_fall 49 = .ok (.aload_n 0, 1) := by decide +kernel
theorem dX7_fall_50 : decode cX7_fall 50 = .ok (.iload_n 1, 1) := by decide +kernel
theorem dX7_fall_51 : decode cX7_fall 51 = .ok (.iload_n 1, 1) := by decide +kernel
theorem dX7_fall_52 : decode cX7_fall 52 = .ok (.iconst 1, 1) := by decide +kernel
theorem dX7_fall_53 : decode cX7_fall 53 = .ok (.aload_n 0, 1) := by decide +kernel
theorem dX7_fall_54 : decode cX7_fall 54 = .ok (.iload_n 1, 1) := by decide +kernel
theorem dX7_fall_55 : decode cX7_fall 55 = .ok (.iconst 1, 1) := by decide +kernel
theorem dX7_fall_56 : decode cX7_fall 56 = .ok (.invokevirtual 48, 3) := by decide +kernel
theorem dX7_fall_59 : decode cX7_fall 59 = .ok (.iconst (-1), 1) := by decide +kernel
theorem dX7_fall_60 : decode cX7_fall 60 = .ok (.invokevirtual 67, 3) := by decide +kernel
theorem dX7_fall_63 : decode cX7_fall 63 = .ok (.aload_n 0, 1) := by decide +kernel
theorem dX7_fall_64 : decode cX7_fall 64 = .ok (.iload_n 1, 1) := by decide +kernel
theorem dX7_fall_65 : decode cX7_fall 65 = .ok (.invokevirtual 135, 3) := by decide +kernel
theorem dX7_fall_68 : decode cX7_fall 68 = .ok (.aload_n 0, 1) := by decide +kernel
theorem dX7_fall_69 : decode cX7_fall 69 = .ok (.aload_n 0, 1) := by decide +kernel
theorem dX7_fall_70 : decode cX7_fall 70 = .ok (.iload_n 1, 1) := by decide +kernel
theorem dX7_fall_71 : decode cX7_fall 71 = .ok (.iconst 1, 1) := by decide +kernel
theorem dX7_fall_72 : decode cX7_fall 72 = .ok (.invokevirtual 48, 3) := by decide +kernel
theorem dX7_fall_75 : decode cX7_fall 75 = .ok (.invokevirtual 138, 3) := by decide +kernel
theorem dX7_fall_78 : decode cX7_fall 78 = .ok (.ireturn, 1) := by decide +kernel
theorem dX7_rise_0 : decode cX7_rise 0 = .ok (.aload_n 0, 1) := by decide +kernel
theorem dX7_rise_1 : decode cX7_rise 1 = .ok (.iload_n 1, 1) := by decide +kernel
theorem dX7_rise_2 : decode cX7_rise 2 = .ok (.iconst 2, 1) := by decide +kernel
theorem dX7_rise_3 : decode cX7_rise 3 = .ok (.invokevirtual 141, 3) := by decide +kernel
theorem dX7_rise_6 : decode cX7_rise 6 = .ok (.istore_n 2, 1) := by decide +kernel
theorem dX7_rise_7 : decode cX7_rise 7 = .ok (.iload_n 2, 1) := by decide +kernel
theorem dX7_rise_8 : decode cX7_rise 8 = .ok (.ifCond .eq 9, 3) := by decide +kernel
theorem dX7_rise_11 : decode cX7_rise 11 = .ok (.aload_n 0, 1) := by decide +kernel
theorem dX7_rise_12 : decode cX7_rise 12 = .ok (.iload_n 2, 1) := by decide +kernel
theorem dX7_rise_13 : decode cX7_rise 13 = .ok (.invokevirtual 132, 3) := by decide +kernel
theorem dX7_rise_16 : decode cX7_rise 16 = .ok (.ireturn, 1) := by decide +kernel
theorem dX7_rise_17 : decode cX7_rise 17 = .ok (.aload_n 0, 1) := by decide +kernel
theorem dX7_rise_18 : decode cX7_rise 18 = .ok (.iload_n 1, 1) := by decide +kernel
theorem dX7_rise_19 : decode cX7_rise 19 = .ok (.iconst 0, 1) := by decide +kernel
theorem dX7_rise_20 : decode cX7_rise 20 = .ok (.iconst 1, 1) := by decide +kernel
theorem dX7_rise_21 : decode cX7_rise 21 = .ok (.invokevirtual 63, 3) := by decide +kernel
theorem dX7_rise_24 : decode cX7_rise 24 = .ok (.aload_n 0, 1) := by decide +kernel
theorem dX7_rise_25 : decode cX7_rise 25 = .ok (.iload_n 1, 1) := by decide +kernel
theorem dX7_rise_26 : decode cX7_rise 26 = .ok (.iconst 1, 1) := by decide +kernel
theorem dX7_rise_27 : decode cX7_rise 27 = .ok (.aload_n 0, 1) := by decide +kernel
theorem dX7_rise_28 : decode cX7_rise 28 = .ok (.iload_n 1, 1) := by decide +kernel
theorem dX7_rise_29 : decode cX7_rise 29 = .ok (.iconst 1, 1) := by decide +kernel
theorem dX7_rise_30 : decode cX7_rise 30 = .ok (.invokevirtual 48, 3) := by decide +kernel
theorem dX7_rise_33 : decode cX7_rise 33 = .ok (.iconst 1, 1) := by decide +kernel
theorem dX7_rise_34 : decode cX7_rise 34 = .ok (.iadd, 1) := by decide +kernel
theorem dX7_rise_35 : decode cX7_rise 35 = .ok (.invokevirtual 63, 3) := by decide +kernel
theorem dX7_rise_38 : decode cX7_rise 38 = .ok (.aload_n 0, 1) := by decide +kernel
theorem dX7_rise_39 : decode cX7_rise 39 = .ok (.iload_n 1, 1) := by decide +kernel
theorem dX7_rise_40 : decode cX7_rise 40 = .ok (.iload_n 1, 1) := by decide +kernel
theorem dX7_rise_41 : decode cX7_rise 41 = .ok (.iconst 1, 1) := by decide +kernel
theorem dX7_rise_42 : decode cX7_rise 42 = .ok (.aload_n 0, 1) := by decide +kernel
theorem dX7_rise_43 : decode cX7_rise 43 = .ok (.iload_n 1, 1) := by decide +kernel
theorem dX7_rise_44 : decode cX7_rise 44 = .ok (.iconst 1, 1) := by decide +kernel
theorem dX7_rise_45 : decode cX7_rise 45 = .ok (.invokevirtual 48, 3) := by decide +kernel
theorem dX7_rise_48 : decode cX7_rise 48 = .ok (.iconst (-1), 1) := by decide +kernel
theorem dX7_rise_49 : decode cX7_rise 49 = .ok (.invokevirtual 67, 3) := by decide +kernel
theorem dX7_rise_52 : decode cX7_rise 52 = .ok (.aload_n 0, 1) := by decide +kernel
theorem dX7_rise_53 : decode cX7_rise 53 = .ok (.aload_n 0, 1) := by decide +kernel
theorem dX7_rise_54 : decode cX7_rise 54 = .ok (.iload_n 1, 1) := by decide +kernel
theorem dX7_rise_55 : decode cX7_rise 55 = .ok (.iconst 1, 1) := by decide +kernel
theorem dX7_rise_56 : decode cX7_rise 56 = .ok (.invokevirtual 48, 3) := by decide +kernel
theorem dX7_rise_59 : decode cX7_rise 59 = .ok (.invokevirtual 138, 3) := by decide +kernel
theorem dX7_rise_62 : decode cX7_rise 62 = .ok (.ireturn, 1) := by decide +kernel
theorem dX7_whyLetter_0 : decode cX7_whyLetter 0 = .ok (.aload_n 0, 1) := by decide +kernel
theorem dX7_whyLetter_1 : decode cX7_whyLetter 1 = .ok (.iload_n 1, 1) := by decide +kernel
theorem dX7_whyLetter_2 : decode cX7_whyLetter 2 = .ok (.invokevirtual 147, 3) := by decide +kernel
theorem dX7_whyLetter_5 : decode cX7_whyLetter 5 = .ok (.ifCond .ne 6, 3) := by decide +kernel
theorem dX7_whyLetter_8 : decode cX7_whyLetter 8 = .ok (.bipush (-3), 2) := by decide +kernel
theorem dX7_whyLetter_10 : decode cX7_whyLetter 10 = .ok (.ireturn, 1) := by decide +kernel
theorem dX7_whyLetter_11 : decode cX7_whyLetter 11 = .ok (.aload_n 0, 1) := by decide +kernel
theorem dX7_whyLetter_12 : decode cX7_whyLetter 12 = .ok (.iload_n 1, 1) := by decide +kernel
theorem dX7_whyLetter_13 : decode cX7_whyLetter 13 = .ok (.bipush 6, 2) := by decide +kernel
theorem dX7_whyLetter_15 : decode cX7_whyLetter 15 = .ok (.invokevirtual 83, 3) := by decide +kernel
theorem dX7_whyLetter_18 : decode cX7_whyLetter 18 = .ok (.ifCond .eq 6, 3) := by decide +kernel
theorem dX7_whyLetter_21 : decode cX7_whyLetter 21 = .ok (.bipush (-2), 2) := by decide +kernel
theorem dX7_whyLetter_23 : decode cX7_whyLetter 23 = .ok (.ireturn, 1) := by decide +kernel
theorem dX7_whyLetter_24 : decode cX7_whyLetter 24 = .ok (.aload_n 0, 1) := by decide +kernel
theorem dX7_whyLetter_25 : decode cX7_whyLetter 25 = .ok (.invokevirtual 128, 3) := by decide +kernel
theorem dX7_whyLetter_28 : decode cX7_whyLetter 28 = .ok (.ifCond .eq 8, 3) := by decide +kernel
theorem dX7_whyLetter_31 : decode cX7_whyLetter 31 = .ok (.bipush (-10), 2) := by decide +kernel
theorem dX7_whyLetter_33 : decode cX7_whyLetter 33 = .ok (.goto 4, 3) := by decide +kernel
theorem dX7_whyLetter_36 : decode cX7_whyLetter 36 = .ok (.iconst 0, 1) := by decide +kernel
theorem dX7_whyLetter_37 : decode cX7_whyLetter 37 = .ok (.ireturn, 1) := by decide +kernel
theorem dX7_deliver_0 : decode cX7_deliver 0 = .ok (.aload_n 0, 1) := by decide +kernel
theorem dX7_deliver_1 : decode cX7_deliver 1 = .ok (.iload_n 1, 1) := by decide +kernel
theorem dX7_deliver_2 : decode cX7_deliver 2 = .ok (.invokevirtual 150, 3) := by decide +kernel
theorem dX7_deliver_5 : decode cX7_deliver 5 = .ok (.istore_n 2, 1) := by decide +kernel
theorem dX7_deliver_6 : decode cX7_deliver 6 = .ok (.iload_n 2, 1) := by decide +kernel
theorem dX7_deliver_7 : decode cX7_deliver 7 = .ok (.ifCond .eq 9, 3) := by decide +kernel
theorem dX7_deliver_10 : decode cX7_deliver 10 = .ok (.aload_n 0, 1) := by decide +kernel
theorem dX7_deliver_11 : decode cX7_deliver 11 = .ok (.iload_n 2, 1) := by decide +kernel
theorem dX7_deliver_12 : decode cX7_deliver 12 = .ok (.invokevirtual 132, 3) := by decide +kernel
theorem dX7_deliver_15 : decode cX7_deliver 15 = .ok (.ireturn, 1) := by decide +kernel
theorem dX7_deliver_16 : decode cX7_deliver 16 = .ok (.aload_n 0, 1) := by decide +kernel
theorem dX7_deliver_17 : decode cX7_deliver 17 = .ok (.iload_n 1, 1) := by decide +kernel
theorem dX7_deliver_18 : decode cX7_deliver 18 = .ok (.iconst 1, 1) := by decide +kernel
theorem dX7_deliver_19 : decode cX7_deliver 19 = .ok (.invokevirtual 83, 3) := by decide +kernel
theorem dX7_deliver_22 : decode cX7_deliver 22 = .ok (.istore_n 3, 1) := by decide +kernel
theorem dX7_deliver_23 : decode cX7_deliver 23 = .ok (.aload_n 0, 1) := by decide +kernel
theorem dX7_deliver_24 : decode cX7_deliver 24 = .ok (.iload_n 1, 1) := by decide +kernel
theorem dX7_deliver_25 : decode cX7_deliver 25 = .ok (.iconst 2, 1) := by decide +kernel
theorem dX7_deliver_26 : decode cX7_deliver 26 = .ok (.invokevirtual 83, 3) := by decide +kernel
theorem dX7_deliver_29 : decode cX7_deliver 29 = .ok (.istore 4, 2) := by decide +kernel
theorem dX7_deliver_31 : decode cX7_deliver 31 = .ok (.aload_n 0, 1) := by decide +kernel
theorem dX7_deliver_32 : decode cX7_deliver 32 = .ok (.getfield 8, 3) := by decide +kernel
theorem dX7_deliver_35 : decode cX7_deliver 35 = .ok (.sipush 25024, 3) := by decide +kernel
theorem dX7_deliver_38 : decode cX7_deliver 38 = .ok (.bipush 64, 2) := by decide +kernel
theorem dX7_deliver_40 : decode cX7_deliver 40 = .ok (.iload_n 3, 1) := by decide +kernel
theorem dX7_deliver_41 : decode cX7_deliver 41 = .ok (.imul, 1) := by decide +kernel
theorem dX7_deliver_42 : decode cX7_deliver 42 = .ok (.iadd, 1) := by decide +kernel
theorem dX7_deliver_43 : decode cX7_deliver 43 = .ok (.iload 4, 2) := by decide +kernel
theorem dX7_deliver_45 : decode cX7_deliver 45 = .ok (.iadd, 1) := by decide +kernel
theorem dX7_deliver_46 : decode cX7_deliver 46 = .ok (.iaload, 1) := by decide +kernel
theorem dX7_deliver_47 : decode cX7_deliver 47 = .ok (.iconst 1, 1) := by decide +kernel
theorem dX7_deliver_48 : decode cX7_deliver 48 = .ok (.if_icmp .eq 14, 3) := by decide +kernel
theorem dX7_deliver_51 : decode cX7_deliver 51 = .ok (.aload_n 0, 1) := by decide +kernel
theorem dX7_deliver_52 : decode cX7_deliver 52 = .ok (.iload 4, 2) := by decide +kernel
theorem dX7_deliver_54 : decode cX7_deliver 54 = .ok (.iconst 0, 1) := by decide +kernel
theorem dX7_deliver_55 : decode cX7_deliver 55 = .ok (.invokevirtual 48, 3) := by decide +kernel
theorem dX7_deliver_58 : decode cX7_deliver 58 = .ok (.iconst 1, 1) := by decide +kernel
theorem dX7_deliver_59 : decode cX7_deliver 59 = .ok (.if_icmp .eq 7, 3) := by decide +kernel
theorem dX7_deliver_62 : decode cX7_deliver 62 = .ok (.iconst 1, 1) := by decide +kernel
theorem dX7_deliver_63 : decode cX7_deliver 63 = .ok (.goto 4, 3) := by decide +kernel
theorem dX7_deliver_66 : decode cX7_deliver 66 = .ok (.iconst 0, 1) := by decide +kernel
theorem dX7_deliver_67 : decode cX7_deliver 67 = .ok (.istore 5, 2) := by decide +kernel
theorem dX7_deliver_69 : decode cX7_deliver 69 = .ok (.aload_n 0, 1) := by decide +kernel
theorem dX7_deliver_70 : decode cX7_deliver 70 = .ok (.getfield 8, 3) := by decide +kernel
theorem dX7_deliver_73 : decode cX7_deliver 73 = .ok (.sipush 29120, 3) := by decide +kernel
theorem dX7_deliver_76 : decode cX7_deliver 76 = .ok (.bipush 8, 2) := by decide +kernel
theorem dX7_deliver_78 : decode cX7_deliver 78 = .ok (.iload_n 1, 1) := by decide +kernel
theorem dX7_deliver_79 : decode cX7_deliver 79 = .ok (.imul, 1) := by decide +kernel
theorem dX7_deliver_80 : decode cX7_deliver 80 = .ok (.iadd, 1) := by decide +kernel
theorem dX7_deliver_81 : decode cX7_deliver 81 = .ok (.bipush 6, 2) := by decide +kernel
theorem dX7_deliver_83 : decode cX7_deliver 83 = .ok (.iadd, 1) := by decide +kernel
theorem dX7_deliver_84 : decode cX7_deliver 84 = .ok (.iload 5, 2) := by decide +kernel
theorem dX7_deliver_86 : decode cX7_deliver 86 = .ok (.ifCond .eq 7, 3) := by decide +kernel
theorem dX7_deliver_89 : decode cX7_deliver 89 = .ok (.iconst 2, 1) := by decide +kernel
theorem dX7_deliver_90 : decode cX7_deliver 90 = .ok (.goto 4, 3) := by decide +kernel
theorem dX7_deliver_93 : decode cX7_deliver 93 = .ok (.iconst 1, 1) := by decide +kernel
theorem dX7_deliver_94 : decode cX7_deliver 94 = .ok (.iastore, 1) := by decide +kernel
theorem dX7_deliver_95 : decode cX7_deliver 95 = .ok (.aload_n 0, 1) := by decide +kernel
theorem dX7_deliver_96 : decode cX7_deliver 96 = .ok (.iload 5, 2) := by decide +kernel
theorem dX7_deliver_98 : decode cX7_deliver 98 = .ok (.ifCond .eq 7, 3) := by decide +kernel
theorem dX7_deliver_101 : decode cX7_deliver 101 = .ok (.iconst (-1), 1) := by decide +kernel
theorem dX7_deliver_102 : decode cX7_deliver 102 = .ok (.goto 8, 3) := by decide +kernel
theorem dX7_deliver_105 : decode cX7_deliver 105 = .ok (.aload_n 0, 1) := by decide +kernel
theorem dX7_deliver_106 : decode cX7_deliver 106 = .ok (.iload_n 1, 1) := by decide +kernel
theorem dX7_deliver_107 : decode cX7_deliver 107 = .ok (.invokevirtual 153, 3) := by decide +kernel
theorem dX7_deliver_110 : decode cX7_deliver 110 = .ok (.invokevirtual 138, 3) := by decide +kernel
theorem dX7_deliver_113 : decode cX7_deliver 113 = .ok (.ireturn, 1) := by decide +kernel
theorem dX7_withState_0 : decode cX7_withState 0 = .ok (.iconst 0, 1) := by decide +kernel
theorem dX7_withState_1 : decode cX7_withState 1 = .ok (.istore_n 2, 1) := by decide +kernel
theorem dX7_withState_2 : decode cX7_withState 2 = .ok (.iconst 0, 1) := by decide +kernel
theorem dX7_withState_3 : decode cX7_withState 3 = .ok (.istore_n 3, 1) := by decide +kernel
theorem dX7_withState_4 : decode cX7_withState 4 = .ok (.iload_n 3, 1) := by decide +kernel
theorem dX7_withState_5 : decode cX7_withState 5 = .ok (.aload_n 0, 1) := by decide +kernel
theorem dX7_withState_6 : decode cX7_withState 6 = .ok (.getfield 8, 3) := by decide +kernel
theorem dX7_withState_9 : decode cX7_withState 9 = .ok (.ldc 51, 2) := by decide +kernel
theorem dX7_withState_11 : decode cX7_withState 11 = .ok (.iaload, 1) := by decide +kernel
theorem dX7_withState_12 : decode cX7_withState 12 = .ok (.if_icmp .ge 28, 3) := by decide +kernel
theorem dX7_withState_15 : decode cX7_withState 15 = .ok (.iload_n 2, 1) := by decide +kernel
theorem dX7_withState_16 : decode cX7_withState 16 = .ok (.aload_n 0, 1) := by decide +kernel
theorem dX7_withState_17 : decode cX7_withState 17 = .ok (.iload_n 3, 1) := by decide +kernel
theorem dX7_withState_18 : decode cX7_withState 18 = .ok (.bipush 6, 2) := by decide +kernel
theorem dX7_withState_20 : decode cX7_withState 20 = .ok (.invokevirtual 83, 3) := by decide +kernel
theorem dX7_withState_23 : decode cX7_withState 23 = .ok (.iload_n 1, 1) := by decide +kernel
theorem dX7_withState_24 : decode cX7_withState 24 = .ok (.if_icmp .ne 7, 3) := by decide +kernel
theorem dX7_withState_27 : decode cX7_withState 27 = .ok (.iconst 1, 1) := by decide +kernel
theorem dX7_withState_28 : decode cX7_withState 28 = .ok (.goto 4, 3) := by decide +kernel
theorem dX7_withState_31 : decode cX7_withState 31 = .ok (.iconst 0, 1) := by decide +kernel
theorem dX7_withState_32 : decode cX7_withState 32 = .ok (.iadd, 1) := by decide +kernel
theorem dX7_withState_33 : decode cX7_withState 33 = .ok (.istore_n 2, 1) := by decide +kernel
theorem dX7_withState_34 : decode cX7_withState 34 = .ok (.iinc 3 1, 3) := by decide +kernel
theorem dX7_withState_37 : decode cX7_withState 37 = .ok (.goto (-33), 3) := by decide +kernel
theorem dX7_withState_40 : decode cX7_withState 40 = .ok (.iload_n 2, 1) := by decide +kernel
theorem dX7_withState_41 : decode cX7_withState 41 = .ok (.ireturn, 1) := by decide +kernel
theorem dX7_lose_0 : decode cX7_lose 0 = .ok (.aload_n 0, 1) := by decide +kernel
theorem dX7_lose_1 : decode cX7_lose 1 = .ok (.iload_n 1, 1) := by decide +kernel
theorem dX7_lose_2 : decode cX7_lose 2 = .ok (.invokevirtual 150, 3) := by decide +kernel
theorem dX7_lose_5 : decode cX7_lose 5 = .ok (.istore_n 2, 1) := by decide +kernel
theorem dX7_lose_6 : decode cX7_lose 6 = .ok (.iload_n 2, 1) := by decide +kernel
theorem dX7_lose_7 : decode cX7_lose 7 = .ok (.ifCond .eq 9, 3) := by decide +kernel
theorem dX7_lose_10 : decode cX7_lose 10 = .ok (.aload_n 0, 1) := by decide +kernel
theorem dX7_lose_11 : decode cX7_lose 11 = .ok (.iload_n 2, 1) := by decide +kernel
theorem dX7_lose_12 : decode cX7_lose 12 = .ok (.invokevirtual 132, 3) := by decide +kernel
theorem dX7_lose_15 : decode cX7_lose 15 = .ok (.ireturn, 1) := by decide +kernel
theorem dX7_lose_16 : decode cX7_lose 16 = .ok (.aload_n 0, 1) := by decide +kernel
theorem dX7_lose_17 : decode cX7_lose 17 = .ok (.getfield 8, 3) := by decide +kernel
theorem dX7_lose_20 : decode cX7_lose 20 = .ok (.sipush 29120, 3) := by decide +kernel
theorem dX7_lose_23 : decode cX7_lose 23 = .ok (.bipush 8, 2) := by decide +kernel
theorem dX7_lose_25 : decode cX7_lose 25 = .ok (.iload_n 1, 1) := by decide +kernel
theorem dX7_lose_26 : decode cX7_lose 26 = .ok (.imul, 1) := by decide +kernel
theorem dX7_lose_27 : decode cX7_lose 27 = .ok (.iadd, 1) := by decide +kernel
theorem dX7_lose_28 : decode cX7_lose 28 = .ok (.bipush 6, 2) := by decide +kernel
theorem dX7_lose_30 : decode cX7_lose 30 = .ok (.iadd, 1) := by decide +kernel
theorem dX7_lose_31 : decode cX7_lose 31 = .ok (.iconst 2, 1) := by decide +kernel
theorem dX7_lose_32 : decode cX7_lose 32 = .ok (.iastore, 1) := by decide +kernel
theorem dX7_lose_33 : decode cX7_lose 33 = .ok (.aload_n 0, 1) := by decide +kernel
theorem dX7_lose_34 : decode cX7_lose 34 = .ok (.aload_n 0, 1) := by decide +kernel
theorem dX7_lose_35 : decode cX7_lose 35 = .ok (.iconst 0, 1) := by decide +kernel
theorem dX7_lose_36 : decode cX7_lose 36 = .ok (.invokevirtual 156, 3) := by decide +kernel
theorem dX7_lose_39 : decode cX7_lose 39 = .ok (.invokevirtual 138, 3) := by decide +kernel
theorem dX7_lose_42 : decode cX7_lose 42 = .ok (.ireturn, 1) := by decide +kernel
theorem dX7_twice_0 : decode cX7_twice 0 = .ok (.aload_n 0, 1) := by decide +kernel
theorem dX7_twice_1 : decode cX7_twice 1 = .ok (.iload_n 1, 1) := by decide +kernel
theorem dX7_twice_2 : decode cX7_twice 2 = .ok (.invokevirtual 150, 3) := by decide +kernel
theorem dX7_twice_5 : decode cX7_twice 5 = .ok (.istore_n 2, 1) := by decide +kernel
theorem dX7_twice_6 : decode cX7_twice 6 = .ok (.iload_n 2, 1) := by decide +kernel
theorem dX7_twice_7 : decode cX7_twice 7 = .ok (.ifCond .eq 9, 3) := by decide +kernel
theorem dX7_twice_10 : decode cX7_twice 10 = .ok (.aload_n 0, 1) := by decide +kernel
theorem dX7_twice_11 : decode cX7_twice 11 = .ok (.iload_n 2, 1) := by decide +kernel
theorem dX7_twice_12 : decode cX7_twice 12 = .ok (.invokevirtual 132, 3) := by decide +kernel
theorem dX7_twice_15 : decode cX7_twice 15 = .ok (.ireturn, 1) := by decide +kernel
theorem dX7_twice_16 : decode cX7_twice 16 = .ok (.aload_n 0, 1) := by decide +kernel
theorem dX7_twice_17 : decode cX7_twice 17 = .ok (.getfield 8, 3) := by decide +kernel
theorem dX7_twice_20 : decode cX7_twice 20 = .ok (.ldc 51, 2) := by decide +kernel
theorem dX7_twice_22 : decode cX7_twice 22 = .ok (.iaload, 1) := by decide +kernel
theorem dX7_twice_23 : decode cX7_twice 23 = .ok (.istore_n 3, 1) := by decide +kernel
theorem dX7_twice_24 : decode cX7_twice 24 = .ok (.aload_n 0, 1) := by decide +kernel
theorem dX7_twice_25 : decode cX7_twice 25 = .ok (.getfield 8, 3) := by decide +kernel
theorem dX7_twice_28 : decode cX7_twice 28 = .ok (.ldc 51, 2) := by decide +kernel
theorem dX7_twice_30 : decode cX7_twice 30 = .ok (.dup2, 1) := by decide +kernel
theorem dX7_twice_31 : decode cX7_twice 31 = .ok (.iaload, 1) := by decide +kernel
theorem dX7_twice_32 : decode cX7_twice 32 = .ok (.iconst 1, 1) := by decide +kernel
theorem dX7_twice_33 : decode cX7_twice 33 = .ok (.iadd, 1) := by decide +kernel
theorem dX7_twice_34 : decode cX7_twice 34 = .ok (.iastore, 1) := by decide +kernel
theorem dX7_twice_35 : decode cX7_twice 35 = .ok (.iconst 0, 1) := by decide +kernel
theorem dX7_twice_36 : decode cX7_twice 36 = .ok (.istore 4, 2) := by decide +kernel
theorem dX7_twice_38 : decode cX7_twice 38 = .ok (.iload 4, 2) := by decide +kernel
theorem dX7_twice_40 : decode cX7_twice 40 = .ok (.bipush 8, 2) := by decide +kernel
theorem dX7_twice_42 : decode cX7_twice 42 = .ok (.if_icmp .ge 32, 3) := by decide +kernel
theorem dX7_twice_45 : decode cX7_twice 45 = .ok (.aload_n 0, 1) := by decide +kernel
theorem dX7_twice_46 : decode cX7_twice 46 = .ok (.getfield 8, 3) := by decide +kernel
theorem dX7_twice_49 : decode cX7_twice 49 = .ok (.sipush 29120, 3) := by decide +kernel
theorem dX7_twice_52 : decode cX7_twice 52 = .ok (.bipush 8, 2) := by decide +kernel
theorem dX7_twice_54 : decode cX7_twice 54 = .ok (.iload_n 3, 1) := by decide +kernel
theorem dX7_twice_55 : decode cX7_twice 55 = .ok (.imul, 1) := by decide +kernel
theorem dX7_twice_56 : decode cX7_twice 56 = .ok (.iadd, 1) := by decide +kernel
theorem dX7_twice_57 : decode cX7_twice 57 = .ok (.iload 4, 2) := by decide +kernel
theorem dX7_twice_59 : decode cX7_twice 59 = .ok (.iadd, 1) := by decide +kernel
theorem dX7_twice_60 : decode cX7_twice 60 = .ok (.aload_n 0, 1) := by decide +kernel
theorem dX7_twice_61 : decode cX7_twice 61 = .ok (.iload_n 1, 1) := by decide +kernel
theorem dX7_twice_62 : decode cX7_twice 62 = .ok (.iload 4, 2) := by decide +kernel
theorem dX7_twice_64 : decode cX7_twice 64 = .ok (.invokevirtual 83, 3) := by decide +kernel
theorem dX7_twice_67 : decode cX7_twice 67 = .ok (.iastore, 1) := by decide +kernel
theorem dX7_twice_68 : decode cX7_twice 68 = .ok (.iinc 4 1, 3) := by decide +kernel
theorem dX7_twice_71 : decode cX7_twice 71 = .ok (.goto (-33), 3) := by decide +kernel
theorem dX7_twice_74 : decode cX7_twice 74 = .ok (.aload_n 0, 1) := by decide +kernel
theorem dX7_twice_75 : decode cX7_twice 75 = .ok (.getfield 8, 3) := by decide +kernel
theorem dX7_twice_78 : decode cX7_twice 78 = .ok (.sipush 29120, 3) := by decide +kernel
theorem dX7_twice_81 : decode cX7_twice 81 = .ok (.bipush 8, 2) := by decide +kernel
theorem dX7_twice_83 : decode cX7_twice 83 = .ok (.iload_n 3, 1) := by decide +kernel
theorem dX7_twice_84 : decode cX7_twice 84 = .ok (.imul, 1) := by decide +kernel
theorem dX7_twice_85 : decode cX7_twice 85 = .ok (.iadd, 1) := by decide +kernel
theorem dX7_twice_86 : decode cX7_twice 86 = .ok (.bipush 7, 2) := by decide +kernel
theorem dX7_twice_88 : decode cX7_twice 88 = .ok (.iadd, 1) := by decide +kernel
theorem dX7_twice_89 : decode cX7_twice 89 = .ok (.iload_n 1, 1) := by decide +kernel
theorem dX7_twice_90 : decode cX7_twice 90 = .ok (.iastore, 1) := by decide +kernel
theorem dX7_twice_91 : decode cX7_twice 91 = .ok (.aload_n 0, 1) := by decide +kernel
theorem dX7_twice_92 : decode cX7_twice 92 = .ok (.getfield 8, 3) := by decide +kernel
theorem dX7_twice_95 : decode cX7_twice 95 = .ok (.sipush 29120, 3) := by decide +kernel
theorem dX7_twice_98 : decode cX7_twice 98 = .ok (.bipush 8, 2) := by decide +kernel
theorem dX7_twice_100 : decode cX7_twice 100 = .ok (.iload_n 3, 1) := by decide +kernel
theorem dX7_twice_101 : decode cX7_twice 101 = .ok (.imul, 1) := by decide +kernel
theorem dX7_twice_102 : decode cX7_twice 102 = .ok (.iadd, 1) := by decide +kernel
theorem dX7_twice_103 : decode cX7_twice 103 = .ok (.iconst 4, 1) := by decide +kernel
theorem dX7_twice_104 : decode cX7_twice 104 = .ok (.iadd, 1) := by decide +kernel
theorem dX7_twice_105 : decode cX7_twice 105 = .ok (.aload_n 0, 1) := by decide +kernel
theorem dX7_twice_106 : decode cX7_twice 106 = .ok (.getfield 8, 3) := by decide +kernel
theorem dX7_twice_109 : decode cX7_twice 109 = .ok (.ldc 52, 2) := by decide +kernel
theorem dX7_twice_111 : decode cX7_twice 111 = .ok (.iaload, 1) := by decide +kernel
theorem dX7_twice_112 : decode cX7_twice 112 = .ok (.iastore, 1) := by decide +kernel
theorem dX7_twice_113 : decode cX7_twice 113 = .ok (.iconst 0, 1) := by decide +kernel
theorem dX7_twice_114 : decode cX7_twice 114 = .ok (.istore 4, 2) := by decide +kernel
theorem dX7_twice_116 : decode cX7_twice 116 = .ok (.iload 4, 2) := by decide +kernel
theorem dX7_twice_118 : decode cX7_twice 118 = .ok (.iconst 4, 1) := by decide +kernel
theorem dX7_twice_119 : decode cX7_twice 119 = .ok (.aload_n 0, 1) := by decide +kernel
theorem dX7_twice_120 : decode cX7_twice 120 = .ok (.iload_n 1, 1) := by decide +kernel
theorem dX7_twice_121 : decode cX7_twice 121 = .ok (.iconst 5, 1) := by decide +kernel
theorem dX7_twice_122 : decode cX7_twice 122 = .ok (.invokevirtual 83, 3) := by decide +kernel
theorem dX7_twice_125 : decode cX7_twice 125 = .ok (.imul, 1) := by decide +kernel
theorem dX7_twice_126 : decode cX7_twice 126 = .ok (.if_icmp .ge 48, 3) := by decide +kernel
theorem dX7_twice_129 : decode cX7_twice 129 = .ok (.aload_n 0, 1) := by decide +kernel
theorem dX7_twice_130 : decode cX7_twice 130 = .ok (.getfield 8, 3) := by decide +kernel
theorem dX7_twice_133 : decode cX7_twice 133 = .ok (.ldc 71, 2) := by decide +kernel
theorem dX7_twice_135 : decode cX7_twice 135 = .ok (.iconst 4, 1) := by decide +kernel
theorem dX7_twice_136 : decode cX7_twice 136 = .ok (.aload_n 0, 1) := by decide +kernel
theorem dX7_twice_137 : decode cX7_twice 137 = .ok (.getfield 8, 3) := by decide +kernel
theorem dX7_twice_140 : decode cX7_twice 140 = .ok (.ldc 52, 2) := by decide +kernel
theorem dX7_twice_142 : decode cX7_twice 142 = .ok (.iaload, 1) := by decide +kernel
theorem dX7_twice_143 : decode cX7_twice 143 = .ok (.imul, 1) := by decide +kernel
theorem dX7_twice_144 : decode cX7_twice 144 = .ok (.iadd, 1) := by decide +kernel
theorem dX7_twice_145 : decode cX7_twice 145 = .ok (.iload 4, 2) := by decide +kernel
theorem dX7_twice_147 : decode cX7_twice 147 = .ok (.iadd, 1) := by decide +kernel
theorem dX7_twice_148 : decode cX7_twice 148 = .ok (.aload_n 0, 1) := by decide +kernel
theorem dX7_twice_149 : decode cX7_twice 149 = .ok (.getfield 8, 3) := by decide +kernel
theorem dX7_twice_152 : decode cX7_twice 152 = .ok (.ldc 71, 2) := by decide +kernel
theorem dX7_twice_154 : decode cX7_twice 154 = .ok (.iconst 4, 1) := by decide +kernel
theorem dX7_twice_155 : decode cX7_twice 155 = .ok (.aload_n 0, 1) := by decide +kernel
theorem dX7_twice_156 : decode cX7_twice 156 = .ok (.iload_n 1, 1) := by decide +kernel
theorem dX7_twice_157 : decode cX7_twice 157 = .ok (.iconst 4, 1) := by decide +kernel
theorem dX7_twice_158 : decode cX7_twice 158 = .ok (.invokevirtual 83, 3) := by decide +kernel
theorem dX7_twice_161 : decode cX7_twice 161 = .ok (.imul, 1) := by decide +kernel
theorem dX7_twice_162 : decode cX7_twice 162 = .ok (.iadd, 1) := by decide +kernel
theorem dX7_twice_163 : decode cX7_twice 163 = .ok (.iload 4, 2) := by decide +kernel
theorem dX7_twice_165 : decode cX7_twice 165 = .ok (.iadd, 1) := by decide +kernel
theorem dX7_twice_166 : decode cX7_twice 166 = .ok (.iaload, 1) := by decide +kernel
theorem dX7_twice_167 : decode cX7_twice 167 = .ok (.iastore, 1) := by decide +kernel
theorem dX7_twice_168 : decode cX7_twice 168 = .ok (.iinc 4 1, 3) := by decide +kernel
theorem dX7_twice_171 : decode cX7_twice 171 = .ok (.goto (-55), 3) := by decide +kernel
theorem dX7_twice_174 : decode cX7_twice 174 = .ok (.aload_n 0, 1) := by decide +kernel
theorem dX7_twice_175 : decode cX7_twice 175 = .ok (.getfield 8, 3) := by decide +kernel
theorem dX7_twice_178 : decode cX7_twice 178 = .ok (.ldc 52, 2) := by decide +kernel
theorem dX7_twice_180 : decode cX7_twice 180 = .ok (.dup2, 1) := by decide +kernel
theorem dX7_twice_181 : decode cX7_twice 181 = .ok (.iaload, 1) := by decide +kernel
theorem dX7_twice_182 : decode cX7_twice 182 = .ok (.aload_n 0, 1) := by decide +kernel
theorem dX7_twice_183 : decode cX7_twice 183 = .ok (.iload_n 1, 1) := by decide +kernel
theorem dX7_twice_184 : decode cX7_twice 184 = .ok (.iconst 5, 1) := by decide +kernel
theorem dX7_twice_185 : decode cX7_twice 185 = .ok (.invokevirtual 83, 3) := by decide +kernel
theorem dX7_twice_188 : decode cX7_twice 188 = .ok (.iadd, 1) := by decide +kernel
theorem dX7_twice_189 : decode cX7_twice 189 = .ok (.iastore, 1) := by decide +kernel
theorem dX7_twice_190 : decode cX7_twice 190 = .ok (.aload_n 0, 1) := by decide +kernel
theorem dX7_twice_191 : decode cX7_twice 191 = .ok (.iload_n 3, 1) := by decide +kernel
theorem dX7_twice_192 : decode cX7_twice 192 = .ok (.invokevirtual 138, 3) := by decide +kernel
theorem dX7_twice_195 : decode cX7_twice 195 = .ok (.ireturn, 1) := by decide +kernel
theorem dX7_links_0 : decode cX7_links 0 = .ok (.iload_n 1, 1) := by decide +kernel
theorem dX7_links_1 : decode cX7_links 1 = .ok (.invokestatic 121, 3) := by decide +kernel
theorem dX7_links_4 : decode cX7_links 4 = .ok (.ifCond .eq 10, 3) := by decide +kernel
theorem dX7_links_7 : decode cX7_links 7 = .ok (.iload_n 2, 1) := by decide +kernel
theorem dX7_links_8 : decode cX7_links 8 = .ok (.invokestatic 121, 3) := by decide +kernel
theorem dX7_links_11 : decode cX7_links 11 = .ok (.ifCond .ne 10, 3) := by decide +kernel
theorem dX7_links_14 : decode cX7_links 14 = .ok (.aload_n 0, 1) := by decide +kernel
theorem dX7_links_15 : decode cX7_links 15 = .ok (.bipush (-3), 2) := by decide +kernel
theorem dX7_links_17 : decode cX7_links 17 = .ok (.invokevirtual 132, 3) := by decide +kernel
theorem dX7_links_20 : decode cX7_links 20 = .ok (.ireturn, 1) := by decide +kernel
theorem dX7_links_21 : decode cX7_links 21 = .ok (.iload_n 1, 1) := by decide +kernel
theorem dX7_links_22 : decode cX7_links 22 = .ok (.iload_n 2, 1) := by decide +kernel
theorem dX7_links_23 : decode cX7_links 23 = .ok (.if_icmp .ne 10, 3) := by decide +kernel
theorem dX7_links_26 : decode cX7_links 26 = .ok (.aload_n 0, 1) := by decide +kernel
theorem dX7_links_27 : decode cX7_links 27 = .ok (.bipush (-9), 2) := by decide +kernel
theorem dX7_links_29 : decode cX7_links 29 = .ok (.invokevirtual 132, 3) := by decide +kernel
theorem dX7_links_32 : decode cX7_links 32 = .ok (.ireturn, 1) := by decide +kernel
theorem dX7_links_33 : decode cX7_links 33 = .ok (.aload_n 0, 1) := by decide +kernel
theorem dX7_links_34 : decode cX7_links 34 = .ok (.invokevirtual 128, 3) := by decide +kernel
theorem dX7_links_37 : decode cX7_links 37 = .ok (.ifCond .eq 10, 3) := by decide +kernel
theorem dX7_links_40 : decode cX7_links 40 = .ok (.aload_n 0, 1) := by decide +kernel
theorem dX7_links_41 : decode cX7_links 41 = .ok (.bipush (-10), 2) := by decide +kernel
theorem dX7_links_43 : decode cX7_links 43 = .ok (.invokevirtual 132, 3) := by decide +kernel
theorem dX7_links_46 : decode cX7_links 46 = .ok (.ireturn, 1) := by decide +kernel
theorem dX7_links_47 : decode cX7_links 47 = .ok (.aload_n 0, 1) := by decide +kernel
theorem dX7_links_48 : decode cX7_links 48 = .ok (.getfield 8, 3) := by decide +kernel
theorem dX7_links_51 : decode cX7_links 51 = .ok (.sipush 25024, 3) := by decide +kernel
theorem dX7_links_54 : decode cX7_links 54 = .ok (.bipush 64, 2) := by decide +kernel
theorem dX7_links_56 : decode cX7_links 56 = .ok (.iload_n 1, 1) := by decide +kernel
theorem dX7_links_57 : decode cX7_links 57 = .ok (.imul, 1) := by decide +kernel
theorem dX7_links_58 : decode cX7_links 58 = .ok (.iadd, 1) := by decide +kernel
theorem dX7_links_59 : decode cX7_links 59 = .ok (.iload_n 2, 1) := by decide +kernel
theorem dX7_links_60 : decode cX7_links 60 = .ok (.iadd, 1) := by decide +kernel
theorem dX7_links_61 : decode cX7_links 61 = .ok (.iaload, 1) := by decide +kernel
theorem dX7_links_62 : decode cX7_links 62 = .ok (.istore 4, 2) := by decide +kernel
theorem dX7_links_64 : decode cX7_links 64 = .ok (.aload_n 0, 1) := by decide +kernel
theorem dX7_links_65 : decode cX7_links 65 = .ok (.getfield 8, 3) := by decide +kernel
theorem dX7_links_68 : decode cX7_links 68 = .ok (.sipush 25024, 3) := by decide +kernel
theorem dX7_links_71 : decode cX7_links 71 = .ok (.bipush 64, 2) := by decide +kernel
theorem dX7_links_73 : decode cX7_links 73 = .ok (.iload_n 1, 1) := by decide +kernel
theorem dX7_links_74 : decode cX7_links 74 = .ok (.imul, 1) := by decide +kernel
theorem dX7_links_75 : decode cX7_links 75 = .ok (.iadd, 1) := by decide +kernel
theorem dX7_links_76 : decode cX7_links 76 = .ok (.iload_n 2, 1) := by decide +kernel
theorem dX7_links_77 : decode cX7_links 77 = .ok (.iadd, 1) := by decide +kernel
theorem dX7_links_78 : decode cX7_links 78 = .ok (.iload_n 3, 1) := by decide +kernel
theorem dX7_links_79 : decode cX7_links 79 = .ok (.iastore, 1) := by decide +kernel
theorem dX7_links_80 : decode cX7_links 80 = .ok (.aload_n 0, 1) := by decide +kernel
theorem dX7_links_81 : decode cX7_links 81 = .ok (.getfield 8, 3) := by decide +kernel
theorem dX7_links_84 : decode cX7_links 84 = .ok (.sipush 25024, 3) := by decide +kernel
theorem dX7_links_87 : decode cX7_links 87 = .ok (.bipush 64, 2) := by decide +kernel
theorem dX7_links_89 : decode cX7_links 89 = .ok (.iload_n 2, 1) := by decide +kernel
theorem dX7_links_90 : decode cX7_links 90 = .ok (.imul, 1) := by decide +kernel
theorem dX7_links_91 : decode cX7_links 91 = .ok (.iadd, 1) := by decide +kernel
theorem dX7_links_92 : decode cX7_links 92 = .ok (.iload_n 1, 1) := by decide +kernel
theorem dX7_links_93 : decode cX7_links 93 = .ok (.iadd, 1) := by decide +kernel
theorem dX7_links_94 : decode cX7_links 94 = .ok (.iload_n 3, 1) := by decide +kernel
theorem dX7_links_95 : decode cX7_links 95 = .ok (.iastore, 1) := by decide +kernel
theorem dX7_links_96 : decode cX7_links 96 = .ok (.aload_n 0, 1) := by decide +kernel
theorem dX7_links_97 : decode cX7_links 97 = .ok (.iload 4, 2) := by decide +kernel
theorem dX7_links_99 : decode cX7_links 99 = .ok (.iload_n 3, 1) := by decide +kernel
theorem dX7_links_100 : decode cX7_links 100 = .ok (.if_icmp .ne 7, 3) := by decide +kernel
theorem dX7_links_103 : decode cX7_links 103 = .ok (.iconst 0, 1) := by decide +kernel
theorem dX7_links_104 : decode cX7_links 104 = .ok (.goto 4, 3) := by decide +kernel
theorem dX7_links_107 : decode cX7_links 107 = .ok (.iconst 1, 1) := by decide +kernel
theorem dX7_links_108 : decode cX7_links 108 = .ok (.invokevirtual 138, 3) := by decide +kernel
theorem dX7_links_111 : decode cX7_links 111 = .ok (.ireturn, 1) := by decide +kernel
theorem dX7_cut_0 : decode cX7_cut 0 = .ok (.aload_n 0, 1) := by decide +kernel
theorem dX7_cut_1 : decode cX7_cut 1 = .ok (.iload_n 1, 1) := by decide +kernel
theorem dX7_cut_2 : decode cX7_cut 2 = .ok (.iload_n 2, 1) := by decide +kernel
theorem dX7_cut_3 : decode cX7_cut 3 = .ok (.iconst 1, 1) := by decide +kernel
theorem dX7_cut_4 : decode cX7_cut 4 = .ok (.invokevirtual 159, 3) := by decide +kernel
theorem dX7_cut_7 : decode cX7_cut 7 = .ok (.ireturn, 1) := by decide +kernel
theorem dX7_heal_0 : decode cX7_heal 0 = .ok (.aload_n 0, 1) := by decide +kernel
theorem dX7_heal_1 : decode cX7_heal 1 = .ok (.iload_n 1, 1) := by decide +kernel
theorem dX7_heal_2 : decode cX7_heal 2 = .ok (.iload_n 2, 1) := by decide +kernel
theorem dX7_heal_3 : decode cX7_heal 3 = .ok (.iconst 0, 1) := by decide +kernel
theorem dX7_heal_4 : decode cX7_heal 4 = .ok (.invokevirtual 159, 3) := by decide +kernel
theorem dX7_heal_7 : decode cX7_heal 7 = .ok (.ireturn, 1) := by decide +kernel
theorem dX7_letters_0 : decode cX7_letters 0 = .ok (.iload_n 1, 1) := by decide +kernel
theorem dX7_letters_1 : decode cX7_letters 1 = .ok (.i2l, 1) := by decide +kernel
theorem dX7_letters_2 : decode cX7_letters 2 = .ok (.lconst 0, 1) := by decide +kernel
theorem dX7_letters_3 : decode cX7_letters 3 = .ok (.ldc2_w 163, 3) := by decide +kernel
theorem dX7_letters_6 : decode cX7_letters 6 = .ok (.invokestatic 165, 3) := by decide +kernel
theorem dX7_letters_9 : decode cX7_letters 9 = .ok (.ifCond .ne 10, 3) := by decide +kernel
theorem dX7_letters_12 : decode cX7_letters 12 = .ok (.aload_n 0, 1) := by decide +kernel
theorem dX7_letters_13 : decode cX7_letters 13 = .ok (.bipush (-9), 2) := by decide +kernel
theorem dX7_letters_15 : decode cX7_letters 15 = .ok (.invokevirtual 132, 3) := by decide +kernel
theorem dX7_letters_18 : decode cX7_letters 18 = .ok (.ireturn, 1) := by decide +kernel
theorem dX7_letters_19 : decode cX7_letters 19 = .ok (.iload_n 1, 1) := by decide +kernel
theorem dX7_letters_20 : decode cX7_letters 20 = .ok (.ifCond .ne 13, 3) := by decide +kernel
theorem dX7_letters_23 : decode cX7_letters 23 = .ok (.aload_n 0, 1) := by decide +kernel
theorem dX7_letters_24 : decode cX7_letters 24 = .ok (.getfield 8, 3) := by decide +kernel
theorem dX7_letters_27 : decode cX7_letters 27 = .ok (.ldc 51, 2) := by decide +kernel
theorem dX7_letters_29 : decode cX7_letters 29 = .ok (.iaload, 1) := by decide +kernel
theorem dX7_letters_30 : decode cX7_letters 30 = .ok (.goto 25, 3) := by decide +kernel
theorem dX7_letters_33 : decode cX7_letters 33 = .ok (.iload_n 1, 1) := by decide +kernel
theorem dX7_letters_34 : decode cX7_letters 34 = .ok (.iconst 4, 1) := by decide +kernel
theorem dX7_letters_35 : decode cX7_letters 35 = .ok (.if_icmp .ne 13, 3) := by decide +kernel
theorem dX7_letters_38 : decode cX7_letters 38 = .ok (.aload_n 0, 1) := by decide +kernel
theorem dX7_letters_39 : decode cX7_letters 39 = .ok (.getfield 8, 3) := by decide +kernel
theorem dX7_letters_42 : decode cX7_letters 42 = .ok (.ldc 52, 2) := by decide +kernel
theorem dX7_letters_44 : decode cX7_letters 44 = .ok (.iaload, 1) := by decide +kernel
theorem dX7_letters_45 : decode cX7_letters 45 = .ok (.goto 10, 3) := by decide +kernel
theorem dX7_letters_48 : decode cX7_letters 48 = .ok (.aload_n 0, 1) := by decide +kernel
theorem dX7_letters_49 : decode cX7_letters 49 = .ok (.iload_n 1, 1) := by decide +kernel
theorem dX7_letters_50 : decode cX7_letters 50 = .ok (.iconst 1, 1) := by decide +kernel
theorem dX7_letters_51 : decode cX7_letters 51 = .ok (.isub, 1) := by decide +kernel
theorem dX7_letters_52 : decode cX7_letters 52 = .ok (.invokevirtual 156, 3) := by decide +kernel
theorem dX7_letters_55 : decode cX7_letters 55 = .ok (.ireturn, 1) := by decide +kernel
theorem dX7_underWay_0 : decode cX7_underWay 0 = .ok (.iload_n 1, 1) := by decide +kernel
theorem dX7_underWay_1 : decode cX7_underWay 1 = .ok (.ifCond .ge 10, 3) := by decide +kernel
theorem dX7_underWay_4 : decode cX7_underWay 4 = .ok (.aload_n 0, 1) := by decide +kernel
theorem dX7_underWay_5 : decode cX7_underWay 5 = .ok (.bipush (-3), 2) := by decide +kernel
theorem dX7_underWay_7 : decode cX7_underWay 7 = .ok (.invokevirtual 132, 3) := by decide +kernel
theorem dX7_underWay_10 : decode cX7_underWay 10 = .ok (.ireturn, 1) := by decide +kernel
theorem dX7_underWay_11 : decode cX7_underWay 11 = .ok (.iload_n 1, 1) := by decide +kernel
theorem dX7_underWay_12 : decode cX7_underWay 12 = .ok (.istore_n 2, 1) := by decide +kernel
theorem dX7_underWay_13 : decode cX7_underWay 13 = .ok (.iconst 0, 1) := by decide +kernel
theorem dX7_underWay_14 : decode cX7_underWay 14 = .ok (.istore_n 3, 1) := by decide +kernel
theorem dX7_underWay_15 : decode cX7_underWay 15 = .ok (.iload_n 3, 1) := by decide +kernel
theorem dX7_underWay_16 : decode cX7_underWay 16 = .ok (.aload_n 0, 1) := by decide +kernel
theorem dX7_underWay_17 : decode cX7_underWay 17 = .ok (.getfield 8, 3) := by decide +kernel
theorem dX7_underWay_20 : decode cX7_underWay 20 = .ok (.ldc 51, 2) := by decide +kernel
theorem dX7_underWay_22 : decode cX7_underWay 22 = .ok (.iaload, 1) := by decide +kernel
theorem dX7_underWay_23 : decode cX7_underWay 23 = .ok (.if_icmp .ge 31, 3) := by decide +kernel
theorem dX7_underWay_26 : decode cX7_underWay 26 = .ok (.aload_n 0, 1) := by decide +kernel
theorem dX7_underWay_27 : decode cX7_underWay 27 = .ok (.iload_n 3, 1) := by decide +kernel
theorem dX7_underWay_28 : decode cX7_underWay 28 = .ok (.bipush 6, 2) := by decide +kernel
theorem dX7_underWay_30 : decode cX7_underWay 30 = .ok (.invokevirtual 83, 3) := by decide +kernel
theorem dX7_underWay_33 : decode cX7_underWay 33 = .ok (.ifCond .eq 6, 3) := by decide +kernel
theorem dX7_underWay_36 : decode cX7_underWay 36 = .ok (.goto 12, 3) := by decide +kernel
theorem dX7_underWay_39 : decode cX7_underWay 39 = .ok (.iload_n 2, 1) := by decide +kernel
theorem dX7_underWay_40 : decode cX7_underWay 40 = .ok (.ifCond .ne 5, 3) := by decide +kernel
theorem dX7_underWay_43 : decode cX7_underWay 43 = .ok (.iload_n 3, 1) := by decide +kernel
theorem dX7_underWay_44 : decode cX7_underWay 44 = .ok (.ireturn, 1) := by decide +kernel
theorem dX7_underWay_45 : decode cX7_underWay 45 = .ok (.iinc 2 (-1), 3) := by decide +kernel
theorem dX7_underWay_48 : decode cX7_underWay 48 = .ok (.iinc 3 1, 3) := by decide +kernel
theorem dX7_underWay_51 : decode cX7_underWay 51 = .ok (.goto (-36), 3) := by decide +kernel
theorem dX7_underWay_54 : decode cX7_underWay 54 = .ok (.iconst (-1), 1) := by decide +kernel
theorem dX7_underWay_55 : decode cX7_underWay 55 = .ok (.ireturn, 1) := by decide +kernel
theorem dX7_letter_0 : decode cX7_letter 0 = .ok (.aload_n 0, 1) := by decide +kernel
theorem dX7_letter_1 : decode cX7_letter 1 = .ok (.iload_n 1, 1) := by decide +kernel
theorem dX7_letter_2 : decode cX7_letter 2 = .ok (.invokevirtual 147, 3) := by decide +kernel
theorem dX7_letter_5 : decode cX7_letter 5 = .ok (.ifCond .ne 10, 3) := by decide +kernel
theorem dX7_letter_8 : decode cX7_letter 8 = .ok (.aload_n 0, 1) := by decide +kernel
theorem dX7_letter_9 : decode cX7_letter 9 = .ok (.bipush (-3), 2) := by decide +kernel
theorem dX7_letter_11 : decode cX7_letter 11 = .ok (.invokevirtual 132, 3) := by decide +kernel
theorem dX7_letter_14 : decode cX7_letter 14 = .ok (.ireturn, 1) := by decide +kernel
theorem dX7_letter_15 : decode cX7_letter 15 = .ok (.iload_n 2, 1) := by decide +kernel
theorem dX7_letter_16 : decode cX7_letter 16 = .ok (.i2l, 1) := by decide +kernel
theorem dX7_letter_17 : decode cX7_letter 17 = .ok (.lconst 0, 1) := by decide +kernel
theorem dX7_letter_18 : decode cX7_letter 18 = .ok (.ldc2_w 169, 3) := by decide +kernel
theorem dX7_letter_21 : decode cX7_letter 21 = .ok (.invokestatic 165, 3) := by decide +kernel
theorem dX7_letter_24 : decode cX7_letter 24 = .ok (.ifCond .ne 10, 3) := by decide +kernel
theorem dX7_letter_27 : decode cX7_letter 27 = .ok (.aload_n 0, 1) := by decide +kernel
theorem dX7_letter_28 : decode cX7_letter 28 = .ok (.bipush (-9), 2) := by decide +kernel
theorem dX7_letter_30 : decode cX7_letter 30 = .ok (.invokevirtual 132, 3) := by decide +kernel
theorem dX7_letter_33 : decode cX7_letter 33 = .ok (.ireturn, 1) := by decide +kernel
theorem dX7_letter_34 : decode cX7_letter 34 = .ok (.aload_n 0, 1) := by decide +kernel
theorem dX7_letter_35 : decode cX7_letter 35 = .ok (.iload_n 1, 1) := by decide +kernel
theorem dX7_letter_36 : decode cX7_letter 36 = .ok (.iload_n 2, 1) := by decide +kernel
theorem dX7_letter_37 : decode cX7_letter 37 = .ok (.iconst 4, 1) := by decide +kernel
theorem dX7_letter_38 : decode cX7_letter 38 = .ok (.if_icmp .ge 7, 3) := by decide +kernel
theorem dX7_letter_41 : decode cX7_letter 41 = .ok (.iload_n 2, 1) := by decide +kernel
theorem dX7_letter_42 : decode cX7_letter 42 = .ok (.goto 6, 3) := by decide +kernel
theorem dX7_letter_45 : decode cX7_letter 45 = .ok (.iload_n 2, 1) := by decide +kernel
theorem dX7_letter_46 : decode cX7_letter 46 = .ok (.iconst 1, 1) := by decide +kernel
theorem dX7_letter_47 : decode cX7_letter 47 = .ok (.iadd, 1) := by decide +kernel
theorem dX7_letter_48 : decode cX7_letter 48 = .ok (.invokevirtual 83, 3) := by decide +kernel
theorem dX7_letter_51 : decode cX7_letter 51 = .ok (.ireturn, 1) := by decide +kernel
theorem dX7_carries_0 : decode cX7_carries 0 = .ok (.aload_n 0, 1) := by decide +kernel
theorem dX7_carries_1 : decode cX7_carries 1 = .ok (.iload_n 1, 1) := by decide +kernel
theorem dX7_carries_2 : decode cX7_carries 2 = .ok (.invokevirtual 147, 3) := by decide +kernel
theorem dX7_carries_5 : decode cX7_carries 5 = .ok (.ifCond .eq 21, 3) := by decide +kernel
theorem dX7_carries_8 : decode cX7_carries 8 = .ok (.iload_n 2, 1) := by decide +kernel
theorem dX7_carries_9 : decode cX7_carries 9 = .ok (.i2l, 1) := by decide +kernel
theorem dX7_carries_10 : decode cX7_carries 10 = .ok (.lconst 0, 1) := by decide +kernel
theorem dX7_carries_11 : decode cX7_carries 11 = .ok (.aload_n 0, 1) := by decide +kernel
theorem dX7_carries_12 : decode cX7_carries 12 = .ok (.iload_n 1, 1) := by decide +kernel
theorem dX7_carries_13 : decode cX7_carries 13 = .ok (.iconst 5, 1) := by decide +kernel
theorem dX7_carries_14 : decode cX7_carries 14 = .ok (.invokevirtual 83, 3) := by decide +kernel
theorem dX7_carries_17 : decode cX7_carries 17 = .ok (.iconst 1, 1) := by decide +kernel
theorem dX7_carries_18 : decode cX7_carries 18 = .ok (.isub, 1) := by decide +kernel
theorem dX7_carries_19 : decode cX7_carries 19 = .ok (.i2l, 1) := by decide +kernel
theorem dX7_carries_20 : decode cX7_carries 20 = .ok (.invokestatic 165, 3) := by decide +kernel
theorem dX7_carries_23 : decode cX7_carries 23 = .ok (.ifCond .ne 10, 3) := by decide +kernel
theorem dX7_carries_26 : decode cX7_carries 26 = .ok (.aload_n 0, 1) := by decide +kernel
theorem dX7_carries_27 : decode cX7_carries 27 = .ok (.bipush (-3), 2) := by decide +kernel
theorem dX7_carries_29 : decode cX7_carries 29 = .ok (.invokevirtual 132, 3) := by decide +kernel
theorem dX7_carries_32 : decode cX7_carries 32 = .ok (.ireturn, 1) := by decide +kernel
theorem dX7_carries_33 : decode cX7_carries 33 = .ok (.iload_n 3, 1) := by decide +kernel
theorem dX7_carries_34 : decode cX7_carries 34 = .ok (.i2l, 1) := by decide +kernel
theorem dX7_carries_35 : decode cX7_carries 35 = .ok (.lconst 0, 1) := by decide +kernel
theorem dX7_carries_36 : decode cX7_carries 36 = .ok (.ldc2_w 171, 3) := by decide +kernel
theorem dX7_carries_39 : decode cX7_carries 39 = .ok (.invokestatic 165, 3) := by decide +kernel
theorem dX7_carries_42 : decode cX7_carries 42 = .ok (.ifCond .ne 10, 3) := by decide +kernel
theorem dX7_carries_45 : decode cX7_carries 45 = .ok (.aload_n 0, 1) := by decide +kernel
theorem dX7_carries_46 : decode cX7_carries 46 = .ok (.bipush (-9), 2) := by decide +kernel
theorem dX7_carries_48 : decode cX7_carries 48 = .ok (.invokevirtual 132, 3) := by decide +kernel
theorem dX7_carries_51 : decode cX7_carries 51 = .ok (.ireturn, 1) := by decide +kernel
theorem dX7_carries_52 : decode cX7_carries 52 = .ok (.aload_n 0, 1) := by decide +kernel
theorem dX7_carries_53 : decode cX7_carries 53 = .ok (.getfield 8, 3) := by decide +kernel
theorem dX7_carries_56 : decode cX7_carries 56 = .ok (.ldc 71, 2) := by decide +kernel
theorem dX7_carries_58 : decode cX7_carries 58 = .ok (.iconst 4, 1) := by decide +kernel
theorem dX7_carries_59 : decode cX7_carries 59 = .ok (.aload_n 0, 1) := by decide +kernel
theorem dX7_carries_60 : decode cX7_carries 60 = .ok (.iload_n 1, 1) := by decide +kernel
theorem dX7_carries_61 : decode cX7_carries 61 = .ok (.iconst 4, 1) := by decide +kernel
theorem dX7_carries_62 : decode cX7_carries 62 = .ok (.invokevirtual 83, 3) := by decide +kernel
theorem dX7_carries_65 : decode cX7_carries 65 = .ok (.iload_n 2, 1) := by decide +kernel
theorem dX7_carries_66 : decode cX7_carries 66 = .ok (.iadd, 1) := by decide +kernel
theorem dX7_carries_67 : decode cX7_carries 67 = .ok (.imul, 1) := by decide +kernel
theorem dX7_carries_68 : decode cX7_carries 68 = .ok (.iadd, 1) := by decide +kernel
theorem dX7_carries_69 : decode cX7_carries 69 = .ok (.iload_n 3, 1) := by decide +kernel
theorem dX7_carries_70 : decode cX7_carries 70 = .ok (.iadd, 1) := by decide +kernel
theorem dX7_carries_71 : decode cX7_carries 71 = .ok (.iaload, 1) := by decide +kernel
theorem dX7_carries_72 : decode cX7_carries 72 = .ok (.ireturn, 1) := by decide +kernel
theorem dX7_state_0 : decode cX7_state 0 = .ok (.iload_n 1, 1) := by decide +kernel
theorem dX7_state_1 : decode cX7_state 1 = .ok (.invokestatic 121, 3) := by decide +kernel
theorem dX7_state_4 : decode cX7_state 4 = .ok (.ifCond .ne 10, 3) := by decide +kernel
theorem dX7_state_7 : decode cX7_state 7 = .ok (.aload_n 0, 1) := by decide +kernel
theorem dX7_state_8 : decode cX7_state 8 = .ok (.bipush (-3), 2) := by decide +kernel
theorem dX7_state_10 : decode cX7_state 10 = .ok (.invokevirtual 132, 3) := by decide +kernel
theorem dX7_state_13 : decode cX7_state 13 = .ok (.ireturn, 1) := by decide +kernel
theorem dX7_state_14 : decode cX7_state 14 = .ok (.aload_n 0, 1) := by decide +kernel
theorem dX7_state_15 : decode cX7_state 15 = .ok (.iload_n 1, 1) := by decide +kernel
theorem dX7_state_16 : decode cX7_state 16 = .ok (.invokevirtual 125, 3) := by decide +kernel
theorem dX7_state_19 : decode cX7_state 19 = .ok (.ifCond .ne 10, 3) := by decide +kernel
theorem dX7_state_22 : decode cX7_state 22 = .ok (.aload_n 0, 1) := by decide +kernel
theorem dX7_state_23 : decode cX7_state 23 = .ok (.bipush (-2), 2) := by decide +kernel
theorem dX7_state_25 : decode cX7_state 25 = .ok (.invokevirtual 132, 3) := by decide +kernel
theorem dX7_state_28 : decode cX7_state 28 = .ok (.ireturn, 1) := by decide +kernel
theorem dX7_state_29 : decode cX7_state 29 = .ok (.iload_n 2, 1) := by decide +kernel
theorem dX7_state_30 : decode cX7_state 30 = .ok (.i2l, 1) := by decide +kernel
theorem dX7_state_31 : decode cX7_state 31 = .ok (.lconst 0, 1) := by decide +kernel
theorem dX7_state_32 : decode cX7_state 32 = .ok (.ldc2_w 173, 3) := by decide +kernel
theorem dX7_state_35 : decode cX7_state 35 = .ok (.invokestatic 165, 3) := by decide +kernel
theorem dX7_state_38 : decode cX7_state 38 = .ok (.ifCond .ne 10, 3) := by decide +kernel
theorem dX7_state_41 : decode cX7_state 41 = .ok (.aload_n 0, 1) := by decide +kernel
theorem dX7_state_42 : decode cX7_state 42 = .ok (.bipush (-9), 2) := by decide +kernel
theorem dX7_state_44 : decode cX7_state 44 = .ok (.invokevirtual 132, 3) := by decide +kernel
theorem dX7_state_47 : decode cX7_state 47 = .ok (.ireturn, 1) := by decide +kernel
theorem dX7_state_48 : decode cX7_state 48 = .ok (.iload_n 2, 1) := by decide +kernel
theorem dX7_state_49 : decode cX7_state 49 = .ok (.ifCond .ne 12, 3) := by decide +kernel
theorem dX7_state_52 : decode cX7_state 52 = .ok (.aload_n 0, 1) := by decide +kernel
theorem dX7_state_53 : decode cX7_state 53 = .ok (.iload_n 1, 1) := by decide +kernel
theorem dX7_state_54 : decode cX7_state 54 = .ok (.iconst 0, 1) := by decide +kernel
theorem dX7_state_55 : decode cX7_state 55 = .ok (.invokevirtual 48, 3) := by decide +kernel
theorem dX7_state_58 : decode cX7_state 58 = .ok (.iconst 1, 1) := by decide +kernel
theorem dX7_state_59 : decode cX7_state 59 = .ok (.isub, 1) := by decide +kernel
theorem dX7_state_60 : decode cX7_state 60 = .ok (.ireturn, 1) := by decide +kernel
theorem dX7_state_61 : decode cX7_state 61 = .ok (.iload_n 2, 1) := by decide +kernel
theorem dX7_state_62 : decode cX7_state 62 = .ok (.iconst 3, 1) := by decide +kernel
theorem dX7_state_63 : decode cX7_state 63 = .ok (.if_icmp .ge 10, 3) := by decide +kernel
theorem dX7_state_66 : decode cX7_state 66 = .ok (.aload_n 0, 1) := by decide +kernel
theorem dX7_state_67 : decode cX7_state 67 = .ok (.iload_n 1, 1) := by decide +kernel
theorem dX7_state_68 : decode cX7_state 68 = .ok (.iload_n 2, 1) := by decide +kernel
theorem dX7_state_69 : decode cX7_state 69 = .ok (.invokevirtual 48, 3) := by decide +kernel
theorem dX7_state_72 : decode cX7_state 72 = .ok (.ireturn, 1) := by decide +kernel
theorem dX7_state_73 : decode cX7_state 73 = .ok (.iload_n 2, 1) := by decide +kernel
theorem dX7_state_74 : decode cX7_state 74 = .ok (.bipush 7, 2) := by decide +kernel
theorem dX7_state_76 : decode cX7_state 76 = .ok (.if_icmp .le 12, 3) := by decide +kernel
theorem dX7_state_79 : decode cX7_state 79 = .ok (.aload_n 0, 1) := by decide +kernel
theorem dX7_state_80 : decode cX7_state 80 = .ok (.iload_n 1, 1) := by decide +kernel
theorem dX7_state_81 : decode cX7_state 81 = .ok (.iload_n 2, 1) := by decide +kernel
theorem dX7_state_82 : decode cX7_state 82 = .ok (.iconst 5, 1) := by decide +kernel
theorem dX7_state_83 : decode cX7_state 83 = .ok (.isub, 1) := by decide +kernel
theorem dX7_state_84 : decode cX7_state 84 = .ok (.invokevirtual 48, 3) := by decide +kernel
theorem dX7_state_87 : decode cX7_state 87 = .ok (.ireturn, 1) := by decide +kernel
theorem dX7_state_88 : decode cX7_state 88 = .ok (.iconst 0, 1) := by decide +kernel
theorem dX7_state_89 : decode cX7_state 89 = .ok (.istore_n 3, 1) := by decide +kernel
theorem dX7_state_90 : decode cX7_state 90 = .ok (.iconst 0, 1) := by decide +kernel
theorem dX7_state_91 : decode cX7_state 91 = .ok (.istore 4, 2) := by decide +kernel
theorem dX7_state_93 : decode cX7_state 93 = .ok (.iload 4, 2) := by decide +kernel
theorem dX7_state_95 : decode cX7_state 95 = .ok (.bipush 64, 2) := by decide +kernel
theorem dX7_state_97 : decode cX7_state 97 = .ok (.if_icmp .ge 48, 3) := by decide +kernel
theorem dX7_state_100 : decode cX7_state 100 = .ok (.iload_n 3, 1) := by decide +kernel
theorem dX7_state_101 : decode cX7_state 101 = .ok (.iload_n 2, 1) := by decide +kernel
theorem dX7_state_102 : decode cX7_state 102 = .ok (.iconst 3, 1) := by decide +kernel
theorem dX7_state_103 : decode cX7_state 103 = .ok (.if_icmp .ne 16, 3) := by decide +kernel
theorem dX7_state_106 : decode cX7_state 106 = .ok (.aload_n 0, 1) := by decide +kernel
theorem dX7_state_107 : decode cX7_state 107 = .ok (.iload_n 1, 1) := by decide +kernel
theorem dX7_state_108 : decode cX7_state 108 = .ok (.iload 4, 2) := by decide +kernel
theorem dX7_state_110 : decode cX7_state 110 = .ok (.invokevirtual 72, 3) := by decide +kernel
theorem dX7_state_113 : decode cX7_state 113 = .ok (.ifCond .eq 23, 3) := by decide +kernel
theorem dX7_state_116 : decode cX7_state 116 = .ok (.goto 16, 3) := by decide +kernel
theorem dX7_state_119 : decode cX7_state 119 = .ok (.aload_n 0, 1) := by decide +kernel
theorem dX7_state_120 : decode cX7_state 120 = .ok (.iload_n 1, 1) := by decide +kernel
theorem dX7_state_121 : decode cX7_state 121 = .ok (.iload 4, 2) := by decide +kernel
theorem dX7_state_123 : decode cX7_state 123 = .ok (.invokevirtual 72, 3) := by decide +kernel
theorem dX7_state_126 : decode cX7_state 126 = .ok (.iload_n 2, 1) := by decide +kernel
theorem dX7_state_127 : decode cX7_state 127 = .ok (.iconst 3, 1) := by decide +kernel
theorem dX7_state_128 : decode cX7_state 128 = .ok (.isub, 1) := by decide +kernel
theorem dX7_state_129 : decode cX7_state 129 = .ok (.if_icmp .ne 7, 3) := by decide +kernel
theorem dX7_state_132 : decode cX7_state 132 = .ok (.iconst 1, 1) := by decide +kernel
theorem dX7_state_133 : decode cX7_state 133 = .ok (.goto 4, 3) := by decide +kernel
theorem dX7_state_136 : decode cX7_state 136 = .ok (.iconst 0, 1) := by decide +kernel
theorem dX7_state_137 : decode cX7_state 137 = .ok (.iadd, 1) := by decide +kernel
theorem dX7_state_138 : decode cX7_state 138 = .ok (.istore_n 3, 1) := by decide +kernel
theorem dX7_state_139 : decode cX7_state 139 = .ok (.iinc 4 1, 3) := by decide +kernel
theorem dX7_state_142 : decode cX7_state 142 = .ok (.goto (-49), 3) := by decide +kernel
theorem dX7_state_145 : decode cX7_state 145 = .ok (.iload_n 3, 1) := by decide +kernel
theorem dX7_state_146 : decode cX7_state 146 = .ok (.ireturn, 1) := by decide +kernel
theorem dX7_whyNews_0 : decode cX7_whyNews 0 = .ok (.iload_n 1, 1) := by decide +kernel
theorem dX7_whyNews_1 : decode cX7_whyNews 1 = .ok (.invokestatic 121, 3) := by decide +kernel
theorem dX7_whyNews_4 : decode cX7_whyNews 4 = .ok (.ifCond .eq 10, 3) := by decide +kernel
theorem dX7_whyNews_7 : decode cX7_whyNews 7 = .ok (.iload_n 2, 1) := by decide +kernel
theorem dX7_whyNews_8 : decode cX7_whyNews 8 = .ok (.invokestatic 121, 3) := by decide +kernel
theorem dX7_whyNews_11 : decode cX7_whyNews 11 = .ok (.ifCond .ne 6, 3) := by decide +kernel
theorem dX7_whyNews_14 : decode cX7_whyNews 14 = .ok (.bipush (-3), 2) := by decide +kernel
theorem dX7_whyNews_16 : decode cX7_whyNews 16 = .ok (.ireturn, 1) := by decide +kernel
theorem dX7_whyNews_17 : decode cX7_whyNews 17 = .ok (.aload_n 0, 1) := by decide +kernel
theorem dX7_whyNews_18 : decode cX7_whyNews 18 = .ok (.iload_n 1, 1) := by decide +kernel
theorem dX7_whyNews_19 : decode cX7_whyNews 19 = .ok (.invokevirtual 125, 3) := by decide +kernel
theorem dX7_whyNews_22 : decode cX7_whyNews 22 = .ok (.ifCond .eq 12, 3) := by decide +kernel
theorem dX7_whyNews_25 : decode cX7_whyNews 25 = .ok (.aload_n 0, 1) := by decide +kernel
theorem dX7_whyNews_26 : decode cX7_whyNews 26 = .ok (.iload_n 1, 1) := by decide +kernel
theorem dX7_whyNews_27 : decode cX7_whyNews 27 = .ok (.iload_n 2, 1) := by decide +kernel
theorem dX7_whyNews_28 : decode cX7_whyNews 28 = .ok (.invokevirtual 72, 3) := by decide +kernel
theorem dX7_whyNews_31 : decode cX7_whyNews 31 = .ok (.ifCond .ne 8, 3) := by decide +kernel
theorem dX7_whyNews_34 : decode cX7_whyNews 34 = .ok (.bipush (-2), 2) := by decide +kernel
theorem dX7_whyNews_36 : decode cX7_whyNews 36 = .ok (.goto 4, 3) := by decide +kernel
theorem dX7_whyNews_39 : decode cX7_whyNews 39 = .ok (.iconst 0, 1) := by decide +kernel
theorem dX7_whyNews_40 : decode cX7_whyNews 40 = .ok (.ireturn, 1) := by decide +kernel
theorem dX7_news_0 : decode cX7_news 0 = .ok (.aload_n 0, 1) := by decide +kernel
theorem dX7_news_1 : decode cX7_news 1 = .ok (.iload_n 1, 1) := by decide +kernel
theorem dX7_news_2 : decode cX7_news 2 = .ok (.iload_n 2, 1) := by decide +kernel
theorem dX7_news_3 : decode cX7_news 3 = .ok (.invokevirtual 175, 3) := by decide +kernel
theorem dX7_news_6 : decode cX7_news 6 = .ok (.istore 4, 2) := by decide +kernel
theorem dX7_news_8 : decode cX7_news 8 = .ok (.iload 4, 2) := by decide +kernel
theorem dX7_news_10 : decode cX7_news 10 = .ok (.ifCond .eq 10, 3) := by decide +kernel
theorem dX7_news_13 : decode cX7_news 13 = .ok (.aload_n 0, 1) := by decide +kernel
theorem dX7_news_14 : decode cX7_news 14 = .ok (.iload 4, 2) := by decide +kernel
theorem dX7_news_16 : decode cX7_news 16 = .ok (.invokevirtual 132, 3) := by decide +kernel
theorem dX7_news_19 : decode cX7_news 19 = .ok (.ireturn, 1) := by decide +kernel
theorem dX7_news_20 : decode cX7_news 20 = .ok (.iload_n 3, 1) := by decide +kernel
theorem dX7_news_21 : decode cX7_news 21 = .ok (.i2l, 1) := by decide +kernel
theorem dX7_news_22 : decode cX7_news 22 = .ok (.lconst 0, 1) := by decide +kernel
theorem dX7_news_23 : decode cX7_news 23 = .ok (.ldc2_w 163, 3) := by decide +kernel
theorem dX7_news_26 : decode cX7_news 26 = .ok (.invokestatic 165, 3) := by decide +kernel
theorem dX7_news_29 : decode cX7_news 29 = .ok (.ifCond .eq 18, 3) := by decide +kernel
theorem dX7_news_32 : decode cX7_news 32 = .ok (.aload_n 0, 1) := by decide +kernel
theorem dX7_news_33 : decode cX7_news 33 = .ok (.getfield 8, 3) := by decide +kernel
theorem dX7_news_36 : decode cX7_news 36 = .ok (.iload_n 1, 1) := by decide +kernel
theorem dX7_news_37 : decode cX7_news 37 = .ok (.iload_n 2, 1) := by decide +kernel
theorem dX7_news_38 : decode cX7_news 38 = .ok (.invokestatic 44, 3) := by decide +kernel
theorem dX7_news_41 : decode cX7_news 41 = .ok (.iload_n 3, 1) := by decide +kernel
theorem dX7_news_42 : decode cX7_news 42 = .ok (.iadd, 1) := by decide +kernel
theorem dX7_news_43 : decode cX7_news 43 = .ok (.iaload, 1) := by decide +kernel
theorem dX7_news_44 : decode cX7_news 44 = .ok (.goto 9, 3) := by decide +kernel
theorem dX7_news_47 : decode cX7_news 47 = .ok (.aload_n 0, 1) := by decide +kernel
theorem dX7_news_48 : decode cX7_news 48 = .ok (.bipush (-9), 2) := by decide +kernel
theorem dX7_news_50 : decode cX7_news 50 = .ok (.invokevirtual 132, 3) := by decide +kernel
theorem dX7_news_53 : decode cX7_news 53 = .ok (.ireturn, 1) := by decide +kernel
theorem dX7_as_0 : decode cX7_as 0 = .ok (.aload_n 0, 1) := by decide +kernel
theorem dX7_as_1 : decode cX7_as 1 = .ok (.iload_n 1, 1) := by decide +kernel
theorem dX7_as_2 : decode cX7_as 2 = .ok (.iload_n 2, 1) := by decide +kernel
theorem dX7_as_3 : decode cX7_as 3 = .ok (.invokevirtual 175, 3) := by decide +kernel
theorem dX7_as_6 : decode cX7_as 6 = .ok (.istore 4, 2) := by decide +kernel
theorem dX7_as_8 : decode cX7_as 8 = .ok (.iload 4, 2) := by decide +kernel
theorem dX7_as_10 : decode cX7_as 10 = .ok (.ifCond .eq 10, 3) := by decide +kernel
theorem dX7_as_13 : decode cX7_as 13 = .ok (.aload_n 0, 1) := by decide +kernel
theorem dX7_as_14 : decode cX7_as 14 = .ok (.iload 4, 2) := by decide +kernel
theorem dX7_as_16 : decode cX7_as 16 = .ok (.invokevirtual 132, 3) := by decide +kernel
theorem dX7_as_19 : decode cX7_as 19 = .ok (.ireturn, 1) := by decide +kernel
theorem dX7_as_20 : decode cX7_as 20 = .ok (.iload_n 3, 1) := by decide +kernel
theorem dX7_as_21 : decode cX7_as 21 = .ok (.i2l, 1) := by decide +kernel
theorem dX7_as_22 : decode cX7_as 22 = .ok (.lconst 1, 1) := by decide +kernel
theorem dX7_as_23 : decode cX7_as 23 = .ok (.ldc2_w 163, 3) := by decide +kernel
theorem dX7_as_26 : decode cX7_as 26 = .ok (.invokestatic 165, 3) := by decide +kernel
theorem dX7_as_29 : decode cX7_as 29 = .ok (.ifCond .ne 10, 3) := by decide +kernel
theorem dX7_as_32 : decode cX7_as 32 = .ok (.aload_n 0, 1) := by decide +kernel
theorem dX7_as_33 : decode cX7_as 33 = .ok (.bipush (-9), 2) := by decide +kernel
theorem dX7_as_35 : decode cX7_as 35 = .ok (.invokevirtual 132, 3) := by decide +kernel
theorem dX7_as_38 : decode cX7_as 38 = .ok (.ireturn, 1) := by decide +kernel
theorem dX7_as_39 : decode cX7_as 39 = .ok (.aload_n 0, 1) := by decide +kernel
theorem dX7_as_40 : decode cX7_as 40 = .ok (.iload_n 1, 1) := by decide +kernel
theorem dX7_as_41 : decode cX7_as 41 = .ok (.iload_n 2, 1) := by decide +kernel
theorem dX7_as_42 : decode cX7_as 42 = .ok (.invokevirtual 72, 3) := by decide +kernel
theorem dX7_as_45 : decode cX7_as 45 = .ok (.iload_n 3, 1) := by decide +kernel
theorem dX7_as_46 : decode cX7_as 46 = .ok (.if_icmp .lt 18, 3) := by decide +kernel
theorem dX7_as_49 : decode cX7_as 49 = .ok (.aload_n 0, 1) := by decide +kernel
theorem dX7_as_50 : decode cX7_as 50 = .ok (.getfield 8, 3) := by decide +kernel
theorem dX7_as_53 : decode cX7_as 53 = .ok (.iload_n 1, 1) := by decide +kernel
theorem dX7_as_54 : decode cX7_as 54 = .ok (.iload_n 2, 1) := by decide +kernel
theorem dX7_as_55 : decode cX7_as 55 = .ok (.invokestatic 44, 3) := by decide +kernel
theorem dX7_as_58 : decode cX7_as 58 = .ok (.iconst 1, 1) := by decide +kernel
theorem dX7_as_59 : decode cX7_as 59 = .ok (.iadd, 1) := by decide +kernel
theorem dX7_as_60 : decode cX7_as 60 = .ok (.iaload, 1) := by decide +kernel
theorem dX7_as_61 : decode cX7_as 61 = .ok (.goto 9, 3) := by decide +kernel
theorem dX7_as_64 : decode cX7_as 64 = .ok (.aload_n 0, 1) := by decide +kernel
theorem dX7_as_65 : decode cX7_as 65 = .ok (.bipush (-5), 2) := by decide +kernel
theorem dX7_as_67 : decode cX7_as 67 = .ok (.invokevirtual 132, 3) := by decide +kernel
theorem dX7_as_70 : decode cX7_as 70 = .ok (.ireturn, 1) := by decide +kernel
theorem dX7_round_0 : decode cX7_round 0 = .ok (.iload_n 1, 1) := by decide +kernel
theorem dX7_round_1 : decode cX7_round 1 = .ok (.invokestatic 121, 3) := by decide +kernel
theorem dX7_round_4 : decode cX7_round 4 = .ok (.ifCond .ne 10, 3) := by decide +kernel
theorem dX7_round_7 : decode cX7_round 7 = .ok (.aload_n 0, 1) := by decide +kernel
theorem dX7_round_8 : decode cX7_round 8 = .ok (.bipush (-3), 2) := by decide +kernel
theorem dX7_round_10 : decode cX7_round 10 = .ok (.invokevirtual 132, 3) := by decide +kernel
theorem dX7_round_13 : decode cX7_round 13 = .ok (.ireturn, 1) := by decide +kernel
theorem dX7_round_14 : decode cX7_round 14 = .ok (.aload_n 0, 1) := by decide +kernel
theorem dX7_round_15 : decode cX7_round 15 = .ok (.iload_n 1, 1) := by decide +kernel
theorem dX7_round_16 : decode cX7_round 16 = .ok (.invokevirtual 125, 3) := by decide +kernel
theorem dX7_round_19 : decode cX7_round 19 = .ok (.ifCond .ne 10, 3) := by decide +kernel
theorem dX7_round_22 : decode cX7_round 22 = .ok (.aload_n 0, 1) := by decide +kernel
theorem dX7_round_23 : decode cX7_round 23 = .ok (.bipush (-2), 2) := by decide +kernel
theorem dX7_round_25 : decode cX7_round 25 = .ok (.invokevirtual 132, 3) := by decide +kernel
theorem dX7_round_28 : decode cX7_round 28 = .ok (.ireturn, 1) := by decide +kernel
theorem dX7_round_29 : decode cX7_round 29 = .ok (.iload_n 2, 1) := by decide +kernel
theorem dX7_round_30 : decode cX7_round 30 = .ok (.i2l, 1) := by decide +kernel
theorem dX7_round_31 : decode cX7_round 31 = .ok (.lconst 0, 1) := by decide +kernel
theorem dX7_round_32 : decode cX7_round 32 = .ok (.aload_n 0, 1) := by decide +kernel
theorem dX7_round_33 : decode cX7_round 33 = .ok (.iload_n 1, 1) := by decide +kernel
theorem dX7_round_34 : decode cX7_round 34 = .ok (.iconst 5, 1) := by decide +kernel
theorem dX7_round_35 : decode cX7_round 35 = .ok (.invokevirtual 48, 3) := by decide +kernel
theorem dX7_round_38 : decode cX7_round 38 = .ok (.iconst 1, 1) := by decide +kernel
theorem dX7_round_39 : decode cX7_round 39 = .ok (.isub, 1) := by decide +kernel
theorem dX7_round_40 : decode cX7_round 40 = .ok (.i2l, 1) := by decide +kernel
theorem dX7_round_41 : decode cX7_round 41 = .ok (.invokestatic 165, 3) := by decide +kernel
theorem dX7_round_44 : decode cX7_round 44 = .ok (.ifCond .eq 21, 3) := by decide +kernel
theorem dX7_round_47 : decode cX7_round 47 = .ok (.aload_n 0, 1) := by decide +kernel
theorem dX7_round_48 : decode cX7_round 48 = .ok (.getfield 8, 3) := by decide +kernel
theorem dX7_round_51 : decode cX7_round 51 = .ok (.sipush 20928, 3) := by decide +kernel
theorem dX7_round_54 : decode cX7_round 54 = .ok (.bipush 64, 2) := by decide +kernel
theorem dX7_round_56 : decode cX7_round 56 = .ok (.iload_n 1, 1) := by decide +kernel
theorem dX7_round_57 : decode cX7_round 57 = .ok (.imul, 1) := by decide +kernel
theorem dX7_round_58 : decode cX7_round 58 = .ok (.iadd, 1) := by decide +kernel
theorem dX7_round_59 : decode cX7_round 59 = .ok (.iload_n 2, 1) := by decide +kernel
theorem dX7_round_60 : decode cX7_round 60 = .ok (.iadd, 1) := by decide +kernel
theorem dX7_round_61 : decode cX7_round 61 = .ok (.iaload, 1) := by decide +kernel
theorem dX7_round_62 : decode cX7_round 62 = .ok (.goto 9, 3) := by decide +kernel
theorem dX7_round_65 : decode cX7_round 65 = .ok (.aload_n 0, 1) := by decide +kernel
theorem dX7_round_66 : decode cX7_round 66 = .ok (.bipush (-3), 2) := by decide +kernel
theorem dX7_round_68 : decode cX7_round 68 = .ok (.invokevirtual 132, 3) := by decide +kernel
theorem dX7_round_71 : decode cX7_round 71 = .ok (.ireturn, 1) := by decide +kernel
theorem dX7_next_0 : decode cX7_next 0 = .ok (.iload_n 1, 1) := by decide +kernel
theorem dX7_next_1 : decode cX7_next 1 = .ok (.invokestatic 121, 3) := by decide +kernel
theorem dX7_next_4 : decode cX7_next 4 = .ok (.ifCond .ne 10, 3) := by decide +kernel
theorem dX7_next_7 : decode cX7_next 7 = .ok (.aload_n 0, 1) := by decide +kernel
theorem dX7_next_8 : decode cX7_next 8 = .ok (.bipush (-3), 2) := by decide +kernel
theorem dX7_next_10 : decode cX7_next 10 = .ok (.invokevirtual 132, 3) := by decide +kernel
theorem dX7_next_13 : decode cX7_next 13 = .ok (.ireturn, 1) := by decide +kernel
theorem dX7_next_14 : decode cX7_next 14 = .ok (.aload_n 0, 1) := by decide +kernel
theorem dX7_next_15 : decode cX7_next 15 = .ok (.iload_n 1, 1) := by decide +kernel
theorem dX7_next_16 : decode cX7_next 16 = .ok (.invokevirtual 125, 3) := by decide +kernel
theorem dX7_next_19 : decode cX7_next 19 = .ok (.ifCond .ne 10, 3) := by decide +kernel
theorem dX7_next_22 : decode cX7_next 22 = .ok (.aload_n 0, 1) := by decide +kernel
theorem dX7_next_23 : decode cX7_next 23 = .ok (.bipush (-2), 2) := by decide +kernel
theorem dX7_next_25 : decode cX7_next 25 = .ok (.invokevirtual 132, 3) := by decide +kernel
theorem dX7_next_28 : decode cX7_next 28 = .ok (.ireturn, 1) := by decide +kernel
theorem dX7_next_29 : decode cX7_next 29 = .ok (.aload_n 0, 1) := by decide +kernel
theorem dX7_next_30 : decode cX7_next 30 = .ok (.iload_n 1, 1) := by decide +kernel
theorem dX7_next_31 : decode cX7_next 31 = .ok (.iconst 0, 1) := by decide +kernel
theorem dX7_next_32 : decode cX7_next 32 = .ok (.invokevirtual 48, 3) := by decide +kernel
theorem dX7_next_35 : decode cX7_next 35 = .ok (.iconst 1, 1) := by decide +kernel
theorem dX7_next_36 : decode cX7_next 36 = .ok (.if_icmp .eq 10, 3) := by decide +kernel
theorem dX7_next_39 : decode cX7_next 39 = .ok (.aload_n 0, 1) := by decide +kernel
theorem dX7_next_40 : decode cX7_next 40 = .ok (.bipush (-8), 2) := by decide +kernel
theorem dX7_next_42 : decode cX7_next 42 = .ok (.invokevirtual 132, 3) := by decide +kernel
theorem dX7_next_45 : decode cX7_next 45 = .ok (.ireturn, 1) := by decide +kernel
theorem dX7_next_46 : decode cX7_next 46 = .ok (.aload_n 0, 1) := by decide +kernel
theorem dX7_next_47 : decode cX7_next 47 = .ok (.iload_n 1, 1) := by decide +kernel
theorem dX7_next_48 : decode cX7_next 48 = .ok (.invokevirtual 109, 3) := by decide +kernel
theorem dX7_next_51 : decode cX7_next 51 = .ok (.istore_n 2, 1) := by decide +kernel
theorem dX7_next_52 : decode cX7_next 52 = .ok (.iload_n 2, 1) := by decide +kernel
theorem dX7_next_53 : decode cX7_next 53 = .ok (.ifCond .lt 19, 3) := by decide +kernel
theorem dX7_next_56 : decode cX7_next 56 = .ok (.aload_n 0, 1) := by decide +kernel
theorem dX7_next_57 : decode cX7_next 57 = .ok (.getfield 8, 3) := by decide +kernel
theorem dX7_next_60 : decode cX7_next 60 = .ok (.sipush 20928, 3) := by decide +kernel
theorem dX7_next_63 : decode cX7_next 63 = .ok (.bipush 64, 2) := by decide +kernel
theorem dX7_next_65 : decode cX7_next 65 = .ok (.iload_n 1, 1) := by decide +kernel
theorem dX7_next_66 : decode cX7_next 66 = .ok (.imul, 1) := by decide +kernel
theorem dX7_next_67 : decode cX7_next 67 = .ok (.iadd, 1) := by decide +kernel
theorem dX7_next_68 : decode cX7_next 68 = .ok (.iload_n 2, 1) := by decide +kernel
theorem dX7_next_69 : decode cX7_next 69 = .ok (.iadd, 1) := by decide +kernel
theorem dX7_next_70 : decode cX7_next 70 = .ok (.iaload, 1) := by decide +kernel
theorem dX7_next_71 : decode cX7_next 71 = .ok (.ireturn, 1) := by decide +kernel
theorem dX7_next_72 : decode cX7_next 72 = .ok (.aload_n 0, 1) := by decide +kernel
theorem dX7_next_73 : decode cX7_next 73 = .ok (.getfield 17, 3) := by decide +kernel
theorem dX7_next_76 : decode cX7_next 76 = .ok (.iload_n 1, 1) := by decide +kernel
theorem dX7_next_77 : decode cX7_next 77 = .ok (.laload, 1) := by decide +kernel
theorem dX7_next_78 : decode cX7_next 78 = .ok (.lstore_n 3, 1) := by decide +kernel
theorem dX7_next_79 : decode cX7_next 79 = .ok (.aload_n 0, 1) := by decide +kernel
theorem dX7_next_80 : decode cX7_next 80 = .ok (.iload_n 1, 1) := by decide +kernel
theorem dX7_next_81 : decode cX7_next 81 = .ok (.invokevirtual 112, 3) := by decide +kernel
theorem dX7_next_84 : decode cX7_next 84 = .ok (.aload_n 0, 1) := by decide +kernel
theorem dX7_next_85 : decode cX7_next 85 = .ok (.getfield 17, 3) := by decide +kernel
theorem dX7_next_88 : decode cX7_next 88 = .ok (.iload_n 1, 1) := by decide +kernel
theorem dX7_next_89 : decode cX7_next 89 = .ok (.lload_n 3, 1) := by decide +kernel
theorem dX7_next_90 : decode cX7_next 90 = .ok (.lastore, 1) := by decide +kernel
theorem dX7_next_91 : decode cX7_next 91 = .ok (.aload_n 0, 1) := by decide +kernel
theorem dX7_next_92 : decode cX7_next 92 = .ok (.getfield 96, 3) := by decide +kernel
theorem dX7_next_95 : decode cX7_next 95 = .ok (.ifCond .ne 7, 3) := by decide +kernel
theorem dX7_next_98 : decode cX7_next 98 = .ok (.iconst (-1), 1) := by decide +kernel
theorem dX7_next_99 : decode cX7_next 99 = .ok (.goto 9, 3) := by decide +kernel
theorem dX7_next_102 : decode cX7_next 102 = .ok (.aload_n 0, 1) := by decide +kernel
theorem dX7_next_103 : decode cX7_next 103 = .ok (.getfield 33, 3) := by decide +kernel
theorem dX7_next_106 : decode cX7_next 106 = .ok (.iconst 0, 1) := by decide +kernel
theorem dX7_next_107 : decode cX7_next 107 = .ok (.iaload, 1) := by decide +kernel
theorem dX7_next_108 : decode cX7_next 108 = .ok (.ireturn, 1) := by decide +kernel
theorem dX7_copy_0 : decode cX7_copy 0 = .ok (.iload_n 1, 1) := by decide +kernel
theorem dX7_copy_1 : decode cX7_copy 1 = .ok (.invokestatic 121, 3) := by decide +kernel
theorem dX7_copy_4 : decode cX7_copy 4 = .ok (.ifCond .ne 10, 3) := by decide +kernel
theorem dX7_copy_7 : decode cX7_copy 7 = .ok (.aload_n 0, 1) := by decide +kernel
theorem dX7_copy_8 : decode cX7_copy 8 = .ok (.bipush (-3), 2) := by decide +kernel
theorem dX7_copy_10 : decode cX7_copy 10 = .ok (.invokevirtual 132, 3) := by decide +kernel
theorem dX7_copy_13 : decode cX7_copy 13 = .ok (.ireturn, 1) := by decide +kernel
theorem dX7_copy_14 : decode cX7_copy 14 = .ok (.aload_n 0, 1) := by decide +kernel
theorem dX7_copy_15 : decode cX7_copy 15 = .ok (.iload_n 1, 1) := by decide +kernel
theorem dX7_copy_16 : decode cX7_copy 16 = .ok (.invokevirtual 125, 3) := by decide +kernel
theorem dX7_copy_19 : decode cX7_copy 19 = .ok (.ifCond .ne 10, 3) := by decide +kernel
theorem dX7_copy_22 : decode cX7_copy 22 = .ok (.aload_n 0, 1) := by decide +kernel
theorem dX7_copy_23 : decode cX7_copy 23 = .ok (.bipush (-2), 2) := by decide +kernel
theorem dX7_copy_25 : decode cX7_copy 25 = .ok (.invokevirtual 132, 3) := by decide +kernel
theorem dX7_copy_28 : decode cX7_copy 28 = .ok (.ireturn, 1) := by decide +kernel
theorem dX7_copy_29 : decode cX7_copy 29 = .ok (.iload_n 3, 1) := by decide +kernel
theorem dX7_copy_30 : decode cX7_copy 30 = .ok (.ifCond .ge 10, 3) := by decide +kernel
theorem dX7_copy_33 : decode cX7_copy 33 = .ok (.aload_n 0, 1) := by decide +kernel
theorem dX7_copy_34 : decode cX7_copy 34 = .ok (.bipush (-4), 2) := by decide +kernel
theorem dX7_copy_36 : decode cX7_copy 36 = .ok (.invokevirtual 132, 3) := by decide +kernel
theorem dX7_copy_39 : decode cX7_copy 39 = .ok (.ireturn, 1) := by decide +kernel
theorem dX7_copy_40 : decode cX7_copy 40 = .ok (.iload_n 2, 1) := by decide +kernel
theorem dX7_copy_41 : decode cX7_copy 41 = .ok (.ifCond .lt 37, 3) := by decide +kernel
theorem dX7_copy_44 : decode cX7_copy 44 = .ok (.iload 4, 2) := by decide +kernel
theorem dX7_copy_46 : decode cX7_copy 46 = .ok (.ifCond .lt 32, 3) := by decide +kernel
theorem dX7_copy_49 : decode cX7_copy 49 = .ok (.iload_n 2, 1) := by decide +kernel
theorem dX7_copy_50 : decode cX7_copy 50 = .ok (.i2l, 1) := by decide +kernel
theorem dX7_copy_51 : decode cX7_copy 51 = .ok (.iload_n 3, 1) := by decide +kernel
theorem dX7_copy_52 : decode cX7_copy 52 = .ok (.i2l, 1) := by decide +kernel
theorem dX7_copy_53 : decode cX7_copy 53 = .ok (.ladd, 1) := by decide +kernel
theorem dX7_copy_54 : decode cX7_copy 54 = .ok (.aload_n 0, 1) := by decide +kernel
theorem dX7_copy_55 : decode cX7_copy 55 = .ok (.iload_n 1, 1) := by decide +kernel
theorem dX7_copy_56 : decode cX7_copy 56 = .ok (.iconst 5, 1) := by decide +kernel
theorem dX7_copy_57 : decode cX7_copy 57 = .ok (.invokevirtual 48, 3) := by decide +kernel
theorem dX7_copy_60 : decode cX7_copy 60 = .ok (.i2l, 1) := by decide +kernel
theorem dX7_copy_61 : decode cX7_copy 61 = .ok (.lcmp, 1) := by decide +kernel
theorem dX7_copy_62 : decode cX7_copy 62 = .ok (.ifCond .gt 16, 3) := by decide +kernel
theorem dX7_copy_65 : decode cX7_copy 65 = .ok (.iload 4, 2) := by decide +kernel
theorem dX7_copy_67 : decode cX7_copy 67 = .ok (.i2l, 1) := by decide +kernel
theorem dX7_copy_68 : decode cX7_copy 68 = .ok (.iload_n 3, 1) := by decide +kernel
theorem dX7_copy_69 : decode cX7_copy 69 = .ok (.i2l, 1) := by decide +kernel
theorem dX7_copy_70 : decode cX7_copy 70 = .ok (.ladd, 1) := by decide +kernel
theorem dX7_copy_71 : decode cX7_copy 71 = .ok (.ldc2_w 178, 3) := by decide +kernel
theorem dX7_copy_74 : decode cX7_copy 74 = .ok (.lcmp, 1) := by decide +kernel
theorem dX7_copy_75 : decode cX7_copy 75 = .ok (.ifCond .le 10, 3) := by decide +kernel
theorem dX7_copy_78 : decode cX7_copy 78 = .ok (.aload_n 0, 1) := by decide +kernel
theorem dX7_copy_79 : decode cX7_copy 79 = .ok (.bipush (-6), 2) := by decide +kernel
theorem dX7_copy_81 : decode cX7_copy 81 = .ok (.invokevirtual 132, 3) := by decide +kernel
theorem dX7_copy_84 : decode cX7_copy 84 = .ok (.ireturn, 1) := by decide +kernel
theorem dX7_copy_85 : decode cX7_copy 85 = .ok (.iconst 0, 1) := by decide +kernel
theorem dX7_copy_86 : decode cX7_copy 86 = .ok (.istore 5, 2) := by decide +kernel
theorem dX7_copy_88 : decode cX7_copy 88 = .ok (.iload 5, 2) := by decide +kernel
theorem dX7_copy_90 : decode cX7_copy 90 = .ok (.iload_n 3, 1) := by decide +kernel
theorem dX7_copy_91 : decode cX7_copy 91 = .ok (.if_icmp .ge 37, 3) := by decide +kernel
theorem dX7_copy_94 : decode cX7_copy 94 = .ok (.aload_n 0, 1) := by decide +kernel
theorem dX7_copy_95 : decode cX7_copy 95 = .ok (.getfield 24, 3) := by decide +kernel
theorem dX7_copy_98 : decode cX7_copy 98 = .ok (.iload 4, 2) := by decide +kernel
theorem dX7_copy_100 : decode cX7_copy 100 = .ok (.iload 5, 2) := by decide +kernel
theorem dX7_copy_102 : decode cX7_copy 102 = .ok (.iadd, 1) := by decide +kernel
theorem dX7_copy_103 : decode cX7_copy 103 = .ok (.aload_n 0, 1) := by decide +kernel
theorem dX7_copy_104 : decode cX7_copy 104 = .ok (.getfield 8, 3) := by decide +kernel
theorem dX7_copy_107 : decode cX7_copy 107 = .ok (.sipush 20928, 3) := by decide +kernel
theorem dX7_copy_110 : decode cX7_copy 110 = .ok (.bipush 64, 2) := by decide +kernel
theorem dX7_copy_112 : decode cX7_copy 112 = .ok (.iload_n 1, 1) := by decide +kernel
theorem dX7_copy_113 : decode cX7_copy 113 = .ok (.imul, 1) := by decide +kernel
theorem dX7_copy_114 : decode cX7_copy 114 = .ok (.iadd, 1) := by decide +kernel
theorem dX7_copy_115 : decode cX7_copy 115 = .ok (.iload_n 2, 1) := by decide +kernel
theorem dX7_copy_116 : decode cX7_copy 116 = .ok (.iadd, 1) := by decide +kernel
theorem dX7_copy_117 : decode cX7_copy 117 = .ok (.iload 5, 2) := by decide +kernel
theorem dX7_copy_119 : decode cX7_copy 119 = .ok (.iadd, 1) := by decide +kernel
theorem dX7_copy_120 : decode cX7_copy 120 = .ok (.iaload, 1) := by decide +kernel
theorem dX7_copy_121 : decode cX7_copy 121 = .ok (.iastore, 1) := by decide +kernel
theorem dX7_copy_122 : decode cX7_copy 122 = .ok (.iinc 5 1, 3) := by decide +kernel
theorem dX7_copy_125 : decode cX7_copy 125 = .ok (.goto (-37), 3) := by decide +kernel
theorem dX7_copy_128 : decode cX7_copy 128 = .ok (.iload_n 3, 1) := by decide +kernel
theorem dX7_copy_129 : decode cX7_copy 129 = .ok (.ireturn, 1) := by decide +kernel
theorem dX7_table_0 : decode cX7_table 0 = .ok (.iload_n 1, 1) := by decide +kernel
theorem dX7_table_1 : decode cX7_table 1 = .ok (.i2l, 1) := by decide +kernel
theorem dX7_table_2 : decode cX7_table 2 = .ok (.lconst 0, 1) := by decide +kernel
theorem dX7_table_3 : decode cX7_table 3 = .ok (.ldc2_w 180, 3) := by decide +kernel
theorem dX7_table_6 : decode cX7_table 6 = .ok (.invokestatic 165, 3) := by decide +kernel
theorem dX7_table_9 : decode cX7_table 9 = .ok (.ifCond .eq 12, 3) := by decide +kernel
theorem dX7_table_12 : decode cX7_table 12 = .ok (.aload_n 0, 1) := by decide +kernel
theorem dX7_table_13 : decode cX7_table 13 = .ok (.getfield 24, 3) := by decide +kernel
theorem dX7_table_16 : decode cX7_table 16 = .ok (.iload_n 1, 1) := by decide +kernel
theorem dX7_table_17 : decode cX7_table 17 = .ok (.iaload, 1) := by decide +kernel
theorem dX7_table_18 : decode cX7_table 18 = .ok (.goto 9, 3) := by decide +kernel
theorem dX7_table_21 : decode cX7_table 21 = .ok (.aload_n 0, 1) := by decide +kernel
theorem dX7_table_22 : decode cX7_table 22 = .ok (.bipush (-3), 2) := by decide +kernel
theorem dX7_table_24 : decode cX7_table 24 = .ok (.invokevirtual 132, 3) := by decide +kernel
theorem dX7_table_27 : decode cX7_table 27 = .ok (.ireturn, 1) := by decide +kernel
theorem dX7_differ_0 : decode cX7_differ 0 = .ok (.iload_n 1, 1) := by decide +kernel
theorem dX7_differ_1 : decode cX7_differ 1 = .ok (.iload_n 3, 1) := by decide +kernel
theorem dX7_differ_2 : decode cX7_differ 2 = .ok (.invokestatic 44, 3) := by decide +kernel
theorem dX7_differ_5 : decode cX7_differ 5 = .ok (.istore 4, 2) := by decide +kernel
theorem dX7_differ_7 : decode cX7_differ 7 = .ok (.iload_n 2, 1) := by decide +kernel
theorem dX7_differ_8 : decode cX7_differ 8 = .ok (.iload_n 3, 1) := by decide +kernel
theorem dX7_differ_9 : decode cX7_differ 9 = .ok (.invokestatic 44, 3) := by decide +kernel
theorem dX7_differ_12 : decode cX7_differ 12 = .ok (.istore 5, 2) := by decide +kernel
theorem dX7_differ_14 : decode cX7_differ 14 = .ok (.aload_n 0, 1) := by decide +kernel
theorem dX7_differ_15 : decode cX7_differ 15 = .ok (.getfield 8, 3) := by decide +kernel
theorem dX7_differ_18 : decode cX7_differ 18 = .ok (.iload 4, 2) := by decide +kernel
theorem dX7_differ_20 : decode cX7_differ 20 = .ok (.iaload, 1) := by decide +kernel
theorem dX7_differ_21 : decode cX7_differ 21 = .ok (.aload_n 0, 1) := by decide +kernel
theorem dX7_differ_22 : decode cX7_differ 22 = .ok (.getfield 8, 3) := by decide +kernel
theorem dX7_differ_25 : decode cX7_differ 25 = .ok (.iload 5, 2) := by decide +kernel
theorem dX7_differ_27 : decode cX7_differ 27 = .ok (.iaload, 1) := by decide +kernel
theorem dX7_differ_28 : decode cX7_differ 28 = .ok (.if_icmp .ne 34, 3) := by decide +kernel
theorem dX7_differ_31 : decode cX7_differ 31 = .ok (.aload_n 0, 1) := by decide +kernel
theorem dX7_differ_32 : decode cX7_differ 32 = .ok (.getfield 8, 3) := by decide +kernel
theorem dX7_differ_35 : decode cX7_differ 35 = .ok (.iload 4, 2) := by decide +kernel
theorem dX7_differ_37 : decode cX7_differ 37 = .ok (.iaload, 1) := by decide +kernel
theorem dX7_differ_38 : decode cX7_differ 38 = .ok (.ifCond .eq 28, 3) := by decide +kernel
theorem dX7_differ_41 : decode cX7_differ 41 = .ok (.aload_n 0, 1) := by decide +kernel
theorem dX7_differ_42 : decode cX7_differ 42 = .ok (.getfield 8, 3) := by decide +kernel
theorem dX7_differ_45 : decode cX7_differ 45 = .ok (.iload 4, 2) := by decide +kernel
theorem dX7_differ_47 : decode cX7_differ 47 = .ok (.iconst 1, 1) := by decide +kernel
theorem dX7_differ_48 : decode cX7_differ 48 = .ok (.iadd, 1) := by decide +kernel
theorem dX7_differ_49 : decode cX7_differ 49 = .ok (.iaload, 1) := by decide +kernel
theorem dX7_differ_50 : decode cX7_differ 50 = .ok (.aload_n 0, 1) := by decide +kernel
theorem dX7_differ_51 : decode cX7_differ 51 = .ok (.getfield 8, 3) := by decide +kernel
theorem dX7_differ_54 : decode cX7_differ 54 = .ok (.iload 5, 2) := by decide +kernel
theorem dX7_differ_56 : decode cX7_differ 56 = .ok (.iconst 1, 1) := by decide +kernel
theorem dX7_differ_57 : decode cX7_differ 57 = .ok (.iadd, 1) := by decide +kernel
theorem dX7_differ_58 : decode cX7_differ 58 = .ok (.iaload, 1) := by decide +kernel
theorem dX7_differ_59 : decode cX7_differ 59 = .ok (.if_icmp .eq 7, 3) := by decide +kernel
theorem dX7_differ_62 : decode cX7_differ 62 = .ok (.iconst 1, 1) := by decide +kernel
theorem dX7_differ_63 : decode cX7_differ 63 = .ok (.goto 4, 3) := by decide +kernel
theorem dX7_differ_66 : decode cX7_differ 66 = .ok (.iconst 0, 1) := by decide +kernel
theorem dX7_differ_67 : decode cX7_differ 67 = .ok (.ireturn, 1) := by decide +kernel
theorem dX7_isApart_0 : decode cX7_isApart 0 = .ok (.iconst 0, 1) := by decide +kernel
theorem dX7_isApart_1 : decode cX7_isApart 1 = .ok (.istore_n 1, 1) := by decide +kernel
theorem dX7_isApart_2 : decode cX7_isApart 2 = .ok (.iload_n 1, 1) := by decide +kernel
theorem dX7_isApart_3 : decode cX7_isApart 3 = .ok (.bipush 64, 2) := by decide +kernel
theorem dX7_isApart_5 : decode cX7_isApart 5 = .ok (.if_icmp .ge 92, 3) := by decide +kernel
theorem dX7_isApart_8 : decode cX7_isApart 8 = .ok (.iload_n 1, 1) := by decide +kernel
theorem dX7_isApart_9 : decode cX7_isApart 9 = .ok (.iconst 1, 1) := by decide +kernel
theorem dX7_isApart_10 : decode cX7_isApart 10 = .ok (.iadd, 1) := by decide +kernel
theorem dX7_isApart_11 : decode cX7_isApart 11 = .ok (.istore_n 2, 1) := by decide +kernel
theorem dX7_isApart_12 : decode cX7_isApart 12 = .ok (.iload_n 2, 1) := by decide +kernel
theorem dX7_isApart_13 : decode cX7_isApart 13 = .ok (.bipush 64, 2) := by decide +kernel
theorem dX7_isApart_15 : decode cX7_isApart 15 = .ok (.if_icmp .ge 76, 3) := by decide +kernel
theorem dX7_isApart_18 : decode cX7_isApart 18 = .ok (.aload_n 0, 1) := by decide +kernel
theorem dX7_isApart_19 : decode cX7_isApart 19 = .ok (.iload_n 1, 1) := by decide +kernel
theorem dX7_isApart_20 : decode cX7_isApart 20 = .ok (.iconst 0, 1) := by decide +kernel
theorem dX7_isApart_21 : decode cX7_isApart 21 = .ok (.invokevirtual 48, 3) := by decide +kernel
theorem dX7_isApart_24 : decode cX7_isApart 24 = .ok (.iconst 1, 1) := by decide +kernel
theorem dX7_isApart_25 : decode cX7_isApart 25 = .ok (.if_icmp .ne 60, 3) := by decide +kernel
theorem dX7_isApart_28 : decode cX7_isApart 28 = .ok (.aload_n 0, 1) := by decide +kernel
theorem dX7_isApart_29 : decode cX7_isApart 29 = .ok (.iload_n 2, 1) := by decide +kernel
theorem dX7_isApart_30 : decode cX7_isApart 30 = .ok (.iconst 0, 1) := by decide +kernel
theorem dX7_isApart_31 : decode cX7_isApart 31 = .ok (.invokevirtual 48, 3) := by decide +kernel
theorem dX7_isApart_34 : decode cX7_isApart 34 = .ok (.iconst 1, 1) := by decide +kernel
theorem dX7_isApart_35 : decode cX7_isApart 35 = .ok (.if_icmp .eq 6, 3) := by decide +kernel
theorem dX7_isApart_38 : decode cX7_isApart 38 = .ok (.goto 47, 3) := by decide +kernel
theorem dX7_isApart_41 : decode cX7_isApart 41 = .ok (.iconst 0, 1) := by decide +kernel
theorem dX7_isApart_42 : decode cX7_isApart 42 = .ok (.istore_n 3, 1) := by decide +kernel
theorem dX7_isApart_43 : decode cX7_isApart 43 = .ok (.iload_n 3, 1) := by decide +kernel
theorem dX7_isApart_44 : decode cX7_isApart 44 = .ok (.bipush 64, 2) := by decide +kernel
theorem dX7_isApart_46 : decode cX7_isApart 46 = .ok (.if_icmp .ge 39, 3) := by decide +kernel
theorem dX7_isApart_49 : decode cX7_isApart 49 = .ok (.aload_n 0, 1) := by decide +kernel
theorem dX7_isApart_50 : decode cX7_isApart 50 = .ok (.iload_n 1, 1) := by decide +kernel
theorem dX7_isApart_51 : decode cX7_isApart 51 = .ok (.iload_n 2, 1) := by decide +kernel
theorem dX7_isApart_52 : decode cX7_isApart 52 = .ok (.iload_n 3, 1) := by decide +kernel
theorem dX7_isApart_53 : decode cX7_isApart 53 = .ok (.invokevirtual 182, 3) := by decide +kernel
theorem dX7_isApart_56 : decode cX7_isApart 56 = .ok (.ifCond .ne 6, 3) := by decide +kernel
theorem dX7_isApart_59 : decode cX7_isApart 59 = .ok (.goto 20, 3) := by decide +kernel
theorem dX7_isApart_62 : decode cX7_isApart 62 = .ok (.aload_n 0, 1) := by decide +kernel
theorem dX7_isApart_63 : decode cX7_isApart 63 = .ok (.iload_n 1, 1) := by decide +kernel
theorem dX7_isApart_64 : decode cX7_isApart 64 = .ok (.putfield 186, 3) := by decide +kernel
theorem dX7_isApart_67 : decode cX7_isApart 67 = .ok (.aload_n 0, 1) := by decide +kernel
theorem dX7_isApart_68 : decode cX7_isApart 68 = .ok (.iload_n 2, 1) := by decide +kernel
theorem dX7_isApart_69 : decode cX7_isApart 69 = .ok (.putfield 189, 3) := by decide +kernel
theorem dX7_isApart_72 : decode cX7_isApart 72 = .ok (.aload_n 0, 1) := by decide +kernel
theorem dX7_isApart_73 : decode cX7_isApart 73 = .ok (.iload_n 3, 1) := by decide +kernel
theorem dX7_isApart_74 : decode cX7_isApart 74 = .ok (.putfield 192, 3) := by decide +kernel
theorem dX7_isApart_77 : decode cX7_isApart 77 = .ok (.iconst 1, 1) := by decide +kernel
theorem dX7_isApart_78 : decode cX7_isApart 78 = .ok (.ireturn, 1) := by decide +kernel
theorem dX7_isApart_79 : decode cX7_isApart 79 = .ok (.iinc 3 1, 3) := by decide +kernel
theorem dX7_isApart_82 : decode cX7_isApart 82 = .ok (.goto (-39), 3) := by decide +kernel
theorem dX7_isApart_85 : decode cX7_isApart 85 = .ok (.iinc 2 1, 3) := by decide +kernel
theorem dX7_isApart_88 : decode cX7_isApart 88 = .ok (.goto (-76), 3) := by decide +kernel
theorem dX7_isApart_91 : decode cX7_isApart 91 = .ok (.iinc 1 1, 3) := by decide +kernel
theorem dX7_isApart_94 : decode cX7_isApart 94 = .ok (.goto (-92), 3) := by decide +kernel
theorem dX7_isApart_97 : decode cX7_isApart 97 = .ok (.iconst 0, 1) := by decide +kernel
theorem dX7_isApart_98 : decode cX7_isApart 98 = .ok (.ireturn, 1) := by decide +kernel
theorem dX7_agree_0 : decode cX7_agree 0 = .ok (.aload_n 0, 1) := by decide +kernel
theorem dX7_agree_1 : decode cX7_agree 1 = .ok (.invokevirtual 195, 3) := by decide +kernel
theorem dX7_agree_4 : decode cX7_agree 4 = .ok (.ifCond .eq 7, 3) := by decide +kernel
theorem dX7_agree_7 : decode cX7_agree 7 = .ok (.iconst 0, 1) := by decide +kernel
theorem dX7_agree_8 : decode cX7_agree 8 = .ok (.goto 4, 3) := by decide +kernel
theorem dX7_agree_11 : decode cX7_agree 11 = .ok (.iconst 1, 1) := by decide +kernel
theorem dX7_agree_12 : decode cX7_agree 12 = .ok (.ireturn, 1) := by decide +kernel
theorem dX7_apart_0 : decode cX7_apart 0 = .ok (.iload_n 1, 1) := by decide +kernel
theorem dX7_apart_1 : decode cX7_apart 1 = .ok (.i2l, 1) := by decide +kernel
theorem dX7_apart_2 : decode cX7_apart 2 = .ok (.lconst 0, 1) := by decide +kernel
theorem dX7_apart_3 : decode cX7_apart 3 = .ok (.ldc2_w 198, 3) := by decide +kernel
theorem dX7_apart_6 : decode cX7_apart 6 = .ok (.invokestatic 165, 3) := by decide +kernel
theorem dX7_apart_9 : decode cX7_apart 9 = .ok (.ifCond .ne 10, 3) := by decide +kernel
theorem dX7_apart_12 : decode cX7_apart 12 = .ok (.aload_n 0, 1) := by decide +kernel
theorem dX7_apart_13 : decode cX7_apart 13 = .ok (.bipush (-9), 2) := by decide +kernel
theorem dX7_apart_15 : decode cX7_apart 15 = .ok (.invokevirtual 132, 3) := by decide +kernel
theorem dX7_apart_18 : decode cX7_apart 18 = .ok (.ireturn, 1) := by decide +kernel
theorem dX7_apart_19 : decode cX7_apart 19 = .ok (.aload_n 0, 1) := by decide +kernel
theorem dX7_apart_20 : decode cX7_apart 20 = .ok (.invokevirtual 195, 3) := by decide +kernel
theorem dX7_apart_23 : decode cX7_apart 23 = .ok (.ifCond .ne 5, 3) := by decide +kernel
theorem dX7_apart_26 : decode cX7_apart 26 = .ok (.iconst (-1), 1) := by decide +kernel
theorem dX7_apart_27 : decode cX7_apart 27 = .ok (.ireturn, 1) := by decide +kernel
theorem dX7_apart_28 : decode cX7_apart 28 = .ok (.iload_n 1, 1) := by decide +kernel
theorem dX7_apart_29 : decode cX7_apart 29 = .ok (.ifCond .ne 10, 3) := by decide +kernel
theorem dX7_apart_32 : decode cX7_apart 32 = .ok (.aload_n 0, 1) := by decide +kernel
theorem dX7_apart_33 : decode cX7_apart 33 = .ok (.getfield 186, 3) := by decide +kernel
theorem dX7_apart_36 : decode cX7_apart 36 = .ok (.goto 19, 3) := by decide +kernel
theorem dX7_apart_39 : decode cX7_apart 39 = .ok (.iload_n 1, 1) := by decide +kernel
theorem dX7_apart_40 : decode cX7_apart 40 = .ok (.iconst 1, 1) := by decide +kernel
theorem dX7_apart_41 : decode cX7_apart 41 = .ok (.if_icmp .ne 10, 3) := by decide +kernel
theorem dX7_apart_44 : decode cX7_apart 44 = .ok (.aload_n 0, 1) := by decide +kernel
theorem dX7_apart_45 : decode cX7_apart 45 = .ok (.getfield 189, 3) := by decide +kernel
theorem dX7_apart_48 : decode cX7_apart 48 = .ok (.goto 7, 3) := by decide +kernel
theorem dX7_apart_51 : decode cX7_apart 51 = .ok (.aload_n 0, 1) := by decide +kernel
theorem dX7_apart_52 : decode cX7_apart 52 = .ok (.getfield 192, 3) := by decide +kernel
theorem dX7_apart_55 : decode cX7_apart 55 = .ok (.ireturn, 1) := by decide +kernel
theorem dX7_count_0 : decode cX7_count 0 = .ok (.iload_n 1, 1) := by decide +kernel
theorem dX7_count_1 : decode cX7_count 1 = .ok (.invokestatic 121, 3) := by decide +kernel
theorem dX7_count_4 : decode cX7_count 4 = .ok (.ifCond .ne 10, 3) := by decide +kernel
theorem dX7_count_7 : decode cX7_count 7 = .ok (.aload_n 0, 1) := by decide +kernel
theorem dX7_count_8 : decode cX7_count 8 = .ok (.bipush (-3), 2) := by decide +kernel
theorem dX7_count_10 : decode cX7_count 10 = .ok (.invokevirtual 132, 3) := by decide +kernel
theorem dX7_count_13 : decode cX7_count 13 = .ok (.ireturn, 1) := by decide +kernel
theorem dX7_count_14 : decode cX7_count 14 = .ok (.iload_n 2, 1) := by decide +kernel
theorem dX7_count_15 : decode cX7_count 15 = .ok (.i2l, 1) := by decide +kernel
theorem dX7_count_16 : decode cX7_count 16 = .ok (.lconst 0, 1) := by decide +kernel
theorem dX7_count_17 : decode cX7_count 17 = .ok (.ldc2_w 163, 3) := by decide +kernel
theorem dX7_count_20 : decode cX7_count 20 = .ok (.invokestatic 165, 3) := by decide +kernel
theorem dX7_count_23 : decode cX7_count 23 = .ok (.ifCond .ne 10, 3) := by decide +kernel
theorem dX7_count_26 : decode cX7_count 26 = .ok (.aload_n 0, 1) := by decide +kernel
theorem dX7_count_27 : decode cX7_count 27 = .ok (.bipush (-9), 2) := by decide +kernel
theorem dX7_count_29 : decode cX7_count 29 = .ok (.invokevirtual 132, 3) := by decide +kernel
theorem dX7_count_32 : decode cX7_count 32 = .ok (.ireturn, 1) := by decide +kernel
theorem dX7_count_33 : decode cX7_count 33 = .ok (.iconst 0, 1) := by decide +kernel
theorem dX7_count_34 : decode cX7_count 34 = .ok (.istore_n 3, 1) := by decide +kernel
theorem dX7_count_35 : decode cX7_count 35 = .ok (.iconst 0, 1) := by decide +kernel
theorem dX7_count_36 : decode cX7_count 36 = .ok (.istore 4, 2) := by decide +kernel
theorem dX7_count_38 : decode cX7_count 38 = .ok (.iload 4, 2) := by decide +kernel
theorem dX7_count_40 : decode cX7_count 40 = .ok (.bipush 64, 2) := by decide +kernel
theorem dX7_count_42 : decode cX7_count 42 = .ok (.if_icmp .ge 45, 3) := by decide +kernel
theorem dX7_count_45 : decode cX7_count 45 = .ok (.iload_n 3, 1) := by decide +kernel
theorem dX7_count_46 : decode cX7_count 46 = .ok (.iload 4, 2) := by decide +kernel
theorem dX7_count_48 : decode cX7_count 48 = .ok (.iload_n 1, 1) := by decide +kernel
theorem dX7_count_49 : decode cX7_count 49 = .ok (.if_icmp .eq 29, 3) := by decide +kernel
theorem dX7_count_52 : decode cX7_count 52 = .ok (.aload_n 0, 1) := by decide +kernel
theorem dX7_count_53 : decode cX7_count 53 = .ok (.iload 4, 2) := by decide +kernel
theorem dX7_count_55 : decode cX7_count 55 = .ok (.iconst 0, 1) := by decide +kernel
theorem dX7_count_56 : decode cX7_count 56 = .ok (.invokevirtual 48, 3) := by decide +kernel
theorem dX7_count_59 : decode cX7_count 59 = .ok (.iconst 1, 1) := by decide +kernel
theorem dX7_count_60 : decode cX7_count 60 = .ok (.if_icmp .ne 18, 3) := by decide +kernel
theorem dX7_count_63 : decode cX7_count 63 = .ok (.aload_n 0, 1) := by decide +kernel
theorem dX7_count_64 : decode cX7_count 64 = .ok (.iload 4, 2) := by decide +kernel
theorem dX7_count_66 : decode cX7_count 66 = .ok (.iload_n 1, 1) := by decide +kernel
theorem dX7_count_67 : decode cX7_count 67 = .ok (.invokevirtual 72, 3) := by decide +kernel
theorem dX7_count_70 : decode cX7_count 70 = .ok (.iload_n 2, 1) := by decide +kernel
theorem dX7_count_71 : decode cX7_count 71 = .ok (.if_icmp .ne 7, 3) := by decide +kernel
theorem dX7_count_74 : decode cX7_count 74 = .ok (.iconst 1, 1) := by decide +kernel
theorem dX7_count_75 : decode cX7_count 75 = .ok (.goto 4, 3) := by decide +kernel
theorem dX7_count_78 : decode cX7_count 78 = .ok (.iconst 0, 1) := by decide +kernel
theorem dX7_count_79 : decode cX7_count 79 = .ok (.iadd, 1) := by decide +kernel
theorem dX7_count_80 : decode cX7_count 80 = .ok (.istore_n 3, 1) := by decide +kernel
theorem dX7_count_81 : decode cX7_count 81 = .ok (.iinc 4 1, 3) := by decide +kernel
theorem dX7_count_84 : decode cX7_count 84 = .ok (.goto (-46), 3) := by decide +kernel
theorem dX7_count_87 : decode cX7_count 87 = .ok (.iload_n 3, 1) := by decide +kernel
theorem dX7_count_88 : decode cX7_count 88 = .ok (.ireturn, 1) := by decide +kernel
theorem dX7_pieceOf_0 : decode cX7_pieceOf 0 = .ok (.iconst 0, 1) := by decide +kernel
theorem dX7_pieceOf_1 : decode cX7_pieceOf 1 = .ok (.istore_n 3, 1) := by decide +kernel
theorem dX7_pieceOf_2 : decode cX7_pieceOf 2 = .ok (.iload_n 3, 1) := by decide +kernel
theorem dX7_pieceOf_3 : decode cX7_pieceOf 3 = .ok (.aload_n 0, 1) := by decide +kernel
theorem dX7_pieceOf_4 : decode cX7_pieceOf 4 = .ok (.iload_n 1, 1) := by decide +kernel
theorem dX7_pieceOf_5 : decode cX7_pieceOf 5 = .ok (.iconst 5, 1) := by decide +kernel
theorem dX7_pieceOf_6 : decode cX7_pieceOf 6 = .ok (.invokevirtual 83, 3) := by decide +kernel
theorem dX7_pieceOf_9 : decode cX7_pieceOf 9 = .ok (.if_icmp .ge 38, 3) := by decide +kernel
theorem dX7_pieceOf_12 : decode cX7_pieceOf 12 = .ok (.ldc 71, 2) := by decide +kernel
theorem dX7_pieceOf_14 : decode cX7_pieceOf 14 = .ok (.iconst 4, 1) := by decide +kernel
theorem dX7_pieceOf_15 : decode cX7_pieceOf 15 = .ok (.aload_n 0, 1) := by decide +kernel
theorem dX7_pieceOf_16 : decode cX7_pieceOf 16 = .ok (.iload_n 1, 1) := by decide +kernel
theorem dX7_pieceOf_17 : decode cX7_pieceOf 17 = .ok (.iconst 4, 1) := by decide +kernel
theorem dX7_pieceOf_18 : decode cX7_pieceOf 18 = .ok (.invokevirtual 83, 3) := by decide +kernel
theorem dX7_pieceOf_21 : decode cX7_pieceOf 21 = .ok (.iload_n 3, 1) := by decide +kernel
theorem dX7_pieceOf_22 : decode cX7_pieceOf 22 = .ok (.iadd, 1) := by decide +kernel
theorem dX7_pieceOf_23 : decode cX7_pieceOf 23 = .ok (.imul, 1) := by decide +kernel
theorem dX7_pieceOf_24 : decode cX7_pieceOf 24 = .ok (.iadd, 1) := by decide +kernel
theorem dX7_pieceOf_25 : decode cX7_pieceOf 25 = .ok (.istore 4, 2) := by decide +kernel
theorem dX7_pieceOf_27 : decode cX7_pieceOf 27 = .ok (.aload_n 0, 1) := by decide +kernel
theorem dX7_pieceOf_28 : decode cX7_pieceOf 28 = .ok (.getfield 8, 3) := by decide +kernel
theorem dX7_pieceOf_31 : decode cX7_pieceOf 31 = .ok (.iload 4, 2) := by decide +kernel
theorem dX7_pieceOf_33 : decode cX7_pieceOf 33 = .ok (.iaload, 1) := by decide +kernel
theorem dX7_pieceOf_34 : decode cX7_pieceOf 34 = .ok (.iload_n 2, 1) := by decide +kernel
theorem dX7_pieceOf_35 : decode cX7_pieceOf 35 = .ok (.if_icmp .ne 6, 3) := by decide +kernel
theorem dX7_pieceOf_38 : decode cX7_pieceOf 38 = .ok (.iload 4, 2) := by decide +kernel
theorem dX7_pieceOf_40 : decode cX7_pieceOf 40 = .ok (.ireturn, 1) := by decide +kernel
theorem dX7_pieceOf_41 : decode cX7_pieceOf 41 = .ok (.iinc 3 1, 3) := by decide +kernel
theorem dX7_pieceOf_44 : decode cX7_pieceOf 44 = .ok (.goto (-42), 3) := by decide +kernel
theorem dX7_pieceOf_47 : decode cX7_pieceOf 47 = .ok (.iconst (-1), 1) := by decide +kernel
theorem dX7_pieceOf_48 : decode cX7_pieceOf 48 = .ok (.ireturn, 1) := by decide +kernel
theorem dX7_way_0 : decode cX7_way 0 = .ok (.aload_n 0, 1) := by decide +kernel
theorem dX7_way_1 : decode cX7_way 1 = .ok (.iload_n 1, 1) := by decide +kernel
theorem dX7_way_2 : decode cX7_way 2 = .ok (.iload_n 2, 1) := by decide +kernel
theorem dX7_way_3 : decode cX7_way 3 = .ok (.invokevirtual 175, 3) := by decide +kernel
theorem dX7_way_6 : decode cX7_way 6 = .ok (.istore_n 3, 1) := by decide +kernel
theorem dX7_way_7 : decode cX7_way 7 = .ok (.iload_n 3, 1) := by decide +kernel
theorem dX7_way_8 : decode cX7_way 8 = .ok (.ifCond .eq 9, 3) := by decide +kernel
theorem dX7_way_11 : decode cX7_way 11 = .ok (.aload_n 0, 1) := by decide +kernel
theorem dX7_way_12 : decode cX7_way 12 = .ok (.iload_n 3, 1) := by decide +kernel
theorem dX7_way_13 : decode cX7_way 13 = .ok (.invokevirtual 132, 3) := by decide +kernel
theorem dX7_way_16 : decode cX7_way 16 = .ok (.ireturn, 1) := by decide +kernel
theorem dX7_way_17 : decode cX7_way 17 = .ok (.aload_n 0, 1) := by decide +kernel
theorem dX7_way_18 : decode cX7_way 18 = .ok (.iconst 0, 1) := by decide +kernel
theorem dX7_way_19 : decode cX7_way 19 = .ok (.putfield 200, 3) := by decide +kernel
theorem dX7_way_22 : decode cX7_way 22 = .ok (.aload_n 0, 1) := by decide +kernel
theorem dX7_way_23 : decode cX7_way 23 = .ok (.getfield 8, 3) := by decide +kernel
theorem dX7_way_26 : decode cX7_way 26 = .ok (.iload_n 1, 1) := by decide +kernel
theorem dX7_way_27 : decode cX7_way 27 = .ok (.iload_n 2, 1) := by decide +kernel
theorem dX7_way_28 : decode cX7_way 28 = .ok (.invokestatic 44, 3) := by decide +kernel
theorem dX7_way_31 : decode cX7_way 31 = .ok (.iconst 4, 1) := by decide +kernel
theorem dX7_way_32 : decode cX7_way 32 = .ok (.iadd, 1) := by decide +kernel
theorem dX7_way_33 : decode cX7_way 33 = .ok (.iaload, 1) := by decide +kernel
theorem dX7_way_34 : decode cX7_way 34 = .ok (.istore 4, 2) := by decide +kernel
theorem dX7_way_36 : decode cX7_way 36 = .ok (.iload 4, 2) := by decide +kernel
theorem dX7_way_38 : decode cX7_way 38 = .ok (.ifCond .lt 43, 3) := by decide +kernel
theorem dX7_way_41 : decode cX7_way 41 = .ok (.aload_n 0, 1) := by decide +kernel
theorem dX7_way_42 : decode cX7_way 42 = .ok (.getfield 27, 3) := by decide +kernel
theorem dX7_way_45 : decode cX7_way 45 = .ok (.aload_n 0, 1) := by decide +kernel
theorem dX7_way_46 : decode cX7_way 46 = .ok (.getfield 200, 3) := by decide +kernel
theorem dX7_way_49 : decode cX7_way 49 = .ok (.iload 4, 2) := by decide +kernel
theorem dX7_way_51 : decode cX7_way 51 = .ok (.iastore, 1) := by decide +kernel
theorem dX7_way_52 : decode cX7_way 52 = .ok (.aload_n 0, 1) := by decide +kernel
theorem dX7_way_53 : decode cX7_way 53 = .ok (.dup, 1) := by decide +kernel
theorem dX7_way_54 : decode cX7_way 54 = .ok (.getfield 200, 3) := by decide +kernel
theorem dX7_way_57 : decode cX7_way 57 = .ok (.iconst 1, 1) := by decide +kernel
theorem dX7_way_58 : decode cX7_way 58 = .ok (.iadd, 1) := by decide +kernel
theorem dX7_way_59 : decode cX7_way 59 = .ok (.putfield 200, 3) := by decide +kernel
theorem dX7_way_62 : decode cX7_way 62 = .ok (.aload_n 0, 1) := by decide +kernel
theorem dX7_way_63 : decode cX7_way 63 = .ok (.getfield 8, 3) := by decide +kernel
theorem dX7_way_66 : decode cX7_way 66 = .ok (.aload_n 0, 1) := by decide +kernel
theorem dX7_way_67 : decode cX7_way 67 = .ok (.iload 4, 2) := by decide +kernel
theorem dX7_way_69 : decode cX7_way 69 = .ok (.iload_n 2, 1) := by decide +kernel
theorem dX7_way_70 : decode cX7_way 70 = .ok (.invokevirtual 203, 3) := by decide +kernel
theorem dX7_way_73 : decode cX7_way 73 = .ok (.iconst 3, 1) := by decide +kernel
theorem dX7_way_74 : decode cX7_way 74 = .ok (.iadd, 1) := by decide +kernel
theorem dX7_way_75 : decode cX7_way 75 = .ok (.iaload, 1) := by decide +kernel
theorem dX7_way_76 : decode cX7_way 76 = .ok (.istore 4, 2) := by decide +kernel
theorem dX7_way_78 : decode cX7_way 78 = .ok (.goto (-42), 3) := by decide +kernel
theorem dX7_way_81 : decode cX7_way 81 = .ok (.aload_n 0, 1) := by decide +kernel
theorem dX7_way_82 : decode cX7_way 82 = .ok (.getfield 200, 3) := by decide +kernel
theorem dX7_way_85 : decode cX7_way 85 = .ok (.ireturn, 1) := by decide +kernel
theorem dX7_isStep_0 : decode cX7_isStep 0 = .ok (.iload_n 1, 1) := by decide +kernel
theorem dX7_isStep_1 : decode cX7_isStep 1 = .ok (.ifCond .lt 15, 3) := by decide +kernel
theorem dX7_isStep_4 : decode cX7_isStep 4 = .ok (.iload_n 1, 1) := by decide +kernel
theorem dX7_isStep_5 : decode cX7_isStep 5 = .ok (.aload_n 0, 1) := by decide +kernel
theorem dX7_isStep_6 : decode cX7_isStep 6 = .ok (.getfield 200, 3) := by decide +kernel
theorem dX7_isStep_9 : decode cX7_isStep 9 = .ok (.if_icmp .ge 7, 3) := by decide +kernel
theorem dX7_isStep_12 : decode cX7_isStep 12 = .ok (.iconst 1, 1) := by decide +kernel
theorem dX7_isStep_13 : decode cX7_isStep 13 = .ok (.goto 4, 3) := by decide +kernel
theorem dX7_isStep_16 : decode cX7_isStep 16 = .ok (.iconst 0, 1) := by decide +kernel
theorem dX7_isStep_17 : decode cX7_isStep 17 = .ok (.ireturn, 1) := by decide +kernel
theorem dX7_wayAt_0 : decode cX7_wayAt 0 = .ok (.aload_n 0, 1) := by decide +kernel
theorem dX7_wayAt_1 : decode cX7_wayAt 1 = .ok (.iload_n 1, 1) := by decide +kernel
theorem dX7_wayAt_2 : decode cX7_wayAt 2 = .ok (.invokevirtual 206, 3) := by decide +kernel
theorem dX7_wayAt_5 : decode cX7_wayAt 5 = .ok (.ifCond .eq 12, 3) := by decide +kernel
theorem dX7_wayAt_8 : decode cX7_wayAt 8 = .ok (.aload_n 0, 1) := by decide +kernel
theorem dX7_wayAt_9 : decode cX7_wayAt 9 = .ok (.getfield 27, 3) := by decide +kernel
theorem dX7_wayAt_12 : decode cX7_wayAt 12 = .ok (.iload_n 1, 1) := by decide +kernel
theorem dX7_wayAt_13 : decode cX7_wayAt 13 = .ok (.iaload, 1) := by decide +kernel
theorem dX7_wayAt_14 : decode cX7_wayAt 14 = .ok (.goto 9, 3) := by decide +kernel
theorem dX7_wayAt_17 : decode cX7_wayAt 17 = .ok (.aload_n 0, 1) := by decide +kernel
theorem dX7_wayAt_18 : decode cX7_wayAt 18 = .ok (.bipush (-3), 2) := by decide +kernel
theorem dX7_wayAt_20 : decode cX7_wayAt 20 = .ok (.invokevirtual 132, 3) := by decide +kernel
theorem dX7_wayAt_23 : decode cX7_wayAt 23 = .ok (.ireturn, 1) := by decide +kernel
theorem dX7_forge_0 : decode cX7_forge 0 = .ok (.aload_n 0, 1) := by decide +kernel
theorem dX7_forge_1 : decode cX7_forge 1 = .ok (.iload_n 1, 1) := by decide +kernel
theorem dX7_forge_2 : decode cX7_forge 2 = .ok (.invokevirtual 206, 3) := by decide +kernel
theorem dX7_forge_5 : decode cX7_forge 5 = .ok (.ifCond .ne 10, 3) := by decide +kernel
theorem dX7_forge_8 : decode cX7_forge 8 = .ok (.aload_n 0, 1) := by decide +kernel
theorem dX7_forge_9 : decode cX7_forge 9 = .ok (.bipush (-3), 2) := by decide +kernel
theorem dX7_forge_11 : decode cX7_forge 11 = .ok (.invokevirtual 132, 3) := by decide +kernel
theorem dX7_forge_14 : decode cX7_forge 14 = .ok (.ireturn, 1) := by decide +kernel
theorem dX7_forge_15 : decode cX7_forge 15 = .ok (.aload_n 0, 1) := by decide +kernel
theorem dX7_forge_16 : decode cX7_forge 16 = .ok (.getfield 27, 3) := by decide +kernel
theorem dX7_forge_19 : decode cX7_forge 19 = .ok (.iload_n 1, 1) := by decide +kernel
theorem dX7_forge_20 : decode cX7_forge 20 = .ok (.iload_n 2, 1) := by decide +kernel
theorem dX7_forge_21 : decode cX7_forge 21 = .ok (.iastore, 1) := by decide +kernel
theorem dX7_forge_22 : decode cX7_forge 22 = .ok (.iconst 1, 1) := by decide +kernel
theorem dX7_forge_23 : decode cX7_forge 23 = .ok (.ireturn, 1) := by decide +kernel
theorem dX7_stands_0 : decode cX7_stands 0 = .ok (.aload_n 0, 1) := by decide +kernel
theorem dX7_stands_1 : decode cX7_stands 1 = .ok (.getfield 27, 3) := by decide +kernel
theorem dX7_stands_4 : decode cX7_stands 4 = .ok (.iload_n 1, 1) := by decide +kernel
theorem dX7_stands_5 : decode cX7_stands 5 = .ok (.iaload, 1) := by decide +kernel
theorem dX7_stands_6 : decode cX7_stands 6 = .ok (.istore 6, 2) := by decide +kernel
theorem dX7_stands_8 : decode cX7_stands 8 = .ok (.aload_n 0, 1) := by decide +kernel
theorem dX7_stands_9 : decode cX7_stands 9 = .ok (.iload 6, 2) := by decide +kernel
theorem dX7_stands_11 : decode cX7_stands 11 = .ok (.invokevirtual 147, 3) := by decide +kernel
theorem dX7_stands_14 : decode cX7_stands 14 = .ok (.ifCond .eq 26, 3) := by decide +kernel
theorem dX7_stands_17 : decode cX7_stands 17 = .ok (.aload_n 0, 1) := by decide +kernel
theorem dX7_stands_18 : decode cX7_stands 18 = .ok (.iload 6, 2) := by decide +kernel
theorem dX7_stands_20 : decode cX7_stands 20 = .ok (.bipush 6, 2) := by decide +kernel
theorem dX7_stands_22 : decode cX7_stands 22 = .ok (.invokevirtual 83, 3) := by decide +kernel
theorem dX7_stands_25 : decode cX7_stands 25 = .ok (.iconst 1, 1) := by decide +kernel
theorem dX7_stands_26 : decode cX7_stands 26 = .ok (.if_icmp .ne 14, 3) := by decide +kernel
theorem dX7_stands_29 : decode cX7_stands 29 = .ok (.aload_n 0, 1) := by decide +kernel
theorem dX7_stands_30 : decode cX7_stands 30 = .ok (.iload 6, 2) := by decide +kernel
theorem dX7_stands_32 : decode cX7_stands 32 = .ok (.iconst 2, 1) := by decide +kernel
theorem dX7_stands_33 : decode cX7_stands 33 = .ok (.invokevirtual 83, 3) := by decide +kernel
theorem dX7_stands_36 : decode cX7_stands 36 = .ok (.iload_n 2, 1) := by decide +kernel
theorem dX7_stands_37 : decode cX7_stands 37 = .ok (.if_icmp .eq 5, 3) := by decide +kernel
theorem dX7_stands_40 : decode cX7_stands 40 = .ok (.iconst 0, 1) := by decide +kernel
theorem dX7_stands_41 : decode cX7_stands 41 = .ok (.ireturn, 1) := by decide +kernel
theorem dX7_stands_42 : decode cX7_stands 42 = .ok (.aload_n 0, 1) := by decide +kernel
theorem dX7_stands_43 : decode cX7_stands 43 = .ok (.iload 6, 2) := by decide +kernel
theorem dX7_stands_45 : decode cX7_stands 45 = .ok (.iload_n 3, 1) := by decide +kernel
theorem dX7_stands_46 : decode cX7_stands 46 = .ok (.invokevirtual 203, 3) := by decide +kernel
theorem dX7_stands_49 : decode cX7_stands 49 = .ok (.istore 7, 2) := by decide +kernel
theorem dX7_stands_51 : decode cX7_stands 51 = .ok (.iload 7, 2) := by decide +kernel
theorem dX7_stands_53 : decode cX7_stands 53 = .ok (.ifCond .lt 69, 3) := by decide +kernel
theorem dX7_stands_56 : decode cX7_stands 56 = .ok (.aload_n 0, 1) := by decide +kernel
theorem dX7_stands_57 : decode cX7_stands 57 = .ok (.getfield 8, 3) := by decide +kernel
theorem dX7_stands_60 : decode cX7_stands 60 = .ok (.iload 7, 2) := by decide +kernel
theorem dX7_stands_62 : decode cX7_stands 62 = .ok (.iconst 1, 1) := by decide +kernel
theorem dX7_stands_63 : decode cX7_stands 63 = .ok (.iadd, 1) := by decide +kernel
theorem dX7_stands_64 : decode cX7_stands 64 = .ok (.iaload, 1) := by decide +kernel
theorem dX7_stands_65 : decode cX7_stands 65 = .ok (.iload 4, 2) := by decide +kernel
theorem dX7_stands_67 : decode cX7_stands 67 = .ok (.if_icmp .ne 55, 3) := by decide +kernel
theorem dX7_stands_70 : decode cX7_stands 70 = .ok (.aload_n 0, 1) := by decide +kernel
theorem dX7_stands_71 : decode cX7_stands 71 = .ok (.getfield 8, 3) := by decide +kernel
theorem dX7_stands_74 : decode cX7_stands 74 = .ok (.iload 7, 2) := by decide +kernel
theorem dX7_stands_76 : decode cX7_stands 76 = .ok (.iconst 2, 1) := by decide +kernel
theorem dX7_stands_77 : decode cX7_stands 77 = .ok (.iadd, 1) := by decide +kernel
theorem dX7_stands_78 : decode cX7_stands 78 = .ok (.iaload, 1) := by decide +kernel
theorem dX7_stands_79 : decode cX7_stands 79 = .ok (.iload 5, 2) := by decide +kernel
theorem dX7_stands_81 : decode cX7_stands 81 = .ok (.if_icmp .ne 41, 3) := by decide +kernel
theorem dX7_stands_84 : decode cX7_stands 84 = .ok (.aload_n 0, 1) := by decide +kernel
theorem dX7_stands_85 : decode cX7_stands 85 = .ok (.getfield 8, 3) := by decide +kernel
theorem dX7_stands_88 : decode cX7_stands 88 = .ok (.iload 7, 2) := by decide +kernel
theorem dX7_stands_90 : decode cX7_stands 90 = .ok (.iconst 3, 1) := by decide +kernel
theorem dX7_stands_91 : decode cX7_stands 91 = .ok (.iadd, 1) := by decide +kernel
theorem dX7_stands_92 : decode cX7_stands 92 = .ok (.iaload, 1) := by decide +kernel
theorem dX7_stands_93 : decode cX7_stands 93 = .ok (.iload_n 1, 1) := by decide +kernel
theorem dX7_stands_94 : decode cX7_stands 94 = .ok (.iconst 1, 1) := by decide +kernel
theorem dX7_stands_95 : decode cX7_stands 95 = .ok (.iadd, 1) := by decide +kernel
theorem dX7_stands_96 : decode cX7_stands 96 = .ok (.aload_n 0, 1) := by decide +kernel
theorem dX7_stands_97 : decode cX7_stands 97 = .ok (.getfield 200, 3) := by decide +kernel
theorem dX7_stands_100 : decode cX7_stands 100 = .ok (.if_icmp .ge 14, 3) := by decide +kernel
theorem dX7_stands_103 : decode cX7_stands 103 = .ok (.aload_n 0, 1) := by decide +kernel
theorem dX7_stands_104 : decode cX7_stands 104 = .ok (.getfield 27, 3) := by decide +kernel
theorem dX7_stands_107 : decode cX7_stands 107 = .ok (.iload_n 1, 1) := by decide +kernel
theorem dX7_stands_108 : decode cX7_stands 108 = .ok (.iconst 1, 1) := by decide +kernel
theorem dX7_stands_109 : decode cX7_stands 109 = .ok (.iadd, 1) := by decide +kernel
theorem dX7_stands_110 : decode cX7_stands 110 = .ok (.iaload, 1) := by decide +kernel
theorem dX7_stands_111 : decode cX7_stands 111 = .ok (.goto 4, 3) := by decide +kernel
theorem dX7_stands_114 : decode cX7_stands 114 = .ok (.iconst (-1), 1) := by decide +kernel
theorem dX7_stands_115 : decode cX7_stands 115 = .ok (.if_icmp .ne 7, 3) := by decide +kernel
theorem dX7_stands_118 : decode cX7_stands 118 = .ok (.iconst 1, 1) := by decide +kernel
theorem dX7_stands_119 : decode cX7_stands 119 = .ok (.goto 4, 3) := by decide +kernel
theorem dX7_stands_122 : decode cX7_stands 122 = .ok (.iconst 0, 1) := by decide +kernel
theorem dX7_stands_123 : decode cX7_stands 123 = .ok (.ireturn, 1) := by decide +kernel
theorem dX7_check_0 : decode cX7_check 0 = .ok (.iload_n 1, 1) := by decide +kernel
theorem dX7_check_1 : decode cX7_check 1 = .ok (.invokestatic 121, 3) := by decide +kernel
theorem dX7_check_4 : decode cX7_check 4 = .ok (.ifCond .eq 10, 3) := by decide +kernel
theorem dX7_check_7 : decode cX7_check 7 = .ok (.iload_n 2, 1) := by decide +kernel
theorem dX7_check_8 : decode cX7_check 8 = .ok (.invokestatic 121, 3) := by decide +kernel
theorem dX7_check_11 : decode cX7_check 11 = .ok (.ifCond .ne 10, 3) := by decide +kernel
theorem dX7_check_14 : decode cX7_check 14 = .ok (.aload_n 0, 1) := by decide +kernel
theorem dX7_check_15 : decode cX7_check 15 = .ok (.bipush (-3), 2) := by decide +kernel
theorem dX7_check_17 : decode cX7_check 17 = .ok (.invokevirtual 132, 3) := by decide +kernel
theorem dX7_check_20 : decode cX7_check 20 = .ok (.ireturn, 1) := by decide +kernel
theorem dX7_check_21 : decode cX7_check 21 = .ok (.aload_n 0, 1) := by decide +kernel
theorem dX7_check_22 : decode cX7_check 22 = .ok (.iload_n 1, 1) := by decide +kernel
theorem dX7_check_23 : decode cX7_check 23 = .ok (.invokevirtual 125, 3) := by decide +kernel
theorem dX7_check_26 : decode cX7_check 26 = .ok (.ifCond .ne 10, 3) := by decide +kernel
theorem dX7_check_29 : decode cX7_check 29 = .ok (.aload_n 0, 1) := by decide +kernel
theorem dX7_check_30 : decode cX7_check 30 = .ok (.bipush (-2), 2) := by decide +kernel
theorem dX7_check_32 : decode cX7_check 32 = .ok (.invokevirtual 132, 3) := by decide +kernel
theorem dX7_check_35 : decode cX7_check 35 = .ok (.ireturn, 1) := by decide +kernel
theorem dX7_check_36 : decode cX7_check 36 = .ok (.iload_n 1, 1) := by decide +kernel
theorem dX7_check_37 : decode cX7_check 37 = .ok (.iload_n 2, 1) := by decide +kernel
theorem dX7_check_38 : decode cX7_check 38 = .ok (.invokestatic 44, 3) := by decide +kernel
theorem dX7_check_41 : decode cX7_check 41 = .ok (.istore 5, 2) := by decide +kernel
theorem dX7_check_43 : decode cX7_check 43 = .ok (.aload_n 0, 1) := by decide +kernel
theorem dX7_check_44 : decode cX7_check 44 = .ok (.getfield 200, 3) := by decide +kernel
theorem dX7_check_47 : decode cX7_check 47 = .ok (.ifCond .ne 57, 3) := by decide +kernel
theorem dX7_check_50 : decode cX7_check 50 = .ok (.aload_n 0, 1) := by decide +kernel
theorem dX7_check_51 : decode cX7_check 51 = .ok (.getfield 8, 3) := by decide +kernel
theorem dX7_check_54 : decode cX7_check 54 = .ok (.iload 5, 2) := by decide +kernel
theorem dX7_check_56 : decode cX7_check 56 = .ok (.iaload, 1) := by decide +kernel
theorem dX7_check_57 : decode cX7_check 57 = .ok (.ifCond .eq 45, 3) := by decide +kernel
theorem dX7_check_60 : decode cX7_check 60 = .ok (.aload_n 0, 1) := by decide +kernel
theorem dX7_check_61 : decode cX7_check 61 = .ok (.getfield 8, 3) := by decide +kernel
theorem dX7_check_64 : decode cX7_check 64 = .ok (.iload 5, 2) := by decide +kernel
theorem dX7_check_66 : decode cX7_check 66 = .ok (.iaload, 1) := by decide +kernel
theorem dX7_check_67 : decode cX7_check 67 = .ok (.iload_n 3, 1) := by decide +kernel
theorem dX7_check_68 : decode cX7_check 68 = .ok (.if_icmp .ne 34, 3) := by decide +kernel
theorem dX7_check_71 : decode cX7_check 71 = .ok (.aload_n 0, 1) := by decide +kernel
theorem dX7_check_72 : decode cX7_check 72 = .ok (.getfield 8, 3) := by decide +kernel
theorem dX7_check_75 : decode cX7_check 75 = .ok (.iload 5, 2) := by decide +kernel
theorem dX7_check_77 : decode cX7_check 77 = .ok (.iconst 1, 1) := by decide +kernel
theorem dX7_check_78 : decode cX7_check 78 = .ok (.iadd, 1) := by decide +kernel
theorem dX7_check_79 : decode cX7_check 79 = .ok (.iaload, 1) := by decide +kernel
theorem dX7_check_80 : decode cX7_check 80 = .ok (.iload 4, 2) := by decide +kernel
theorem dX7_check_82 : decode cX7_check 82 = .ok (.if_icmp .ne 20, 3) := by decide +kernel
theorem dX7_check_85 : decode cX7_check 85 = .ok (.aload_n 0, 1) := by decide +kernel
theorem dX7_check_86 : decode cX7_check 86 = .ok (.getfield 8, 3) := by decide +kernel
theorem dX7_check_89 : decode cX7_check 89 = .ok (.iload 5, 2) := by decide +kernel
theorem dX7_check_91 : decode cX7_check 91 = .ok (.iconst 4, 1) := by decide +kernel
theorem dX7_check_92 : decode cX7_check 92 = .ok (.iadd, 1) := by decide +kernel
theorem dX7_check_93 : decode cX7_check 93 = .ok (.iaload, 1) := by decide +kernel
theorem dX7_check_94 : decode cX7_check 94 = .ok (.iconst (-1), 1) := by decide +kernel
theorem dX7_check_95 : decode cX7_check 95 = .ok (.if_icmp .ne 7, 3) := by decide +kernel
theorem dX7_check_98 : decode cX7_check 98 = .ok (.iconst 1, 1) := by decide +kernel
theorem dX7_check_99 : decode cX7_check 99 = .ok (.goto 4, 3) := by decide +kernel
theorem dX7_check_102 : decode cX7_check 102 = .ok (.iconst 0, 1) := by decide +kernel
theorem dX7_check_103 : decode cX7_check 103 = .ok (.ireturn, 1) := by decide +kernel
theorem dX7_check_104 : decode cX7_check 104 = .ok (.iload_n 1, 1) := by decide +kernel
theorem dX7_check_105 : decode cX7_check 105 = .ok (.istore 6, 2) := by decide +kernel
theorem dX7_check_107 : decode cX7_check 107 = .ok (.iconst 0, 1) := by decide +kernel
theorem dX7_check_108 : decode cX7_check 108 = .ok (.istore 7, 2) := by decide +kernel
theorem dX7_check_110 : decode cX7_check 110 = .ok (.iload 7, 2) := by decide +kernel
theorem dX7_check_112 : decode cX7_check 112 = .ok (.aload_n 0, 1) := by decide +kernel
theorem dX7_check_113 : decode cX7_check 113 = .ok (.getfield 200, 3) := by decide +kernel
theorem dX7_check_116 : decode cX7_check 116 = .ok (.if_icmp .ge 40, 3) := by decide +kernel
theorem dX7_check_119 : decode cX7_check 119 = .ok (.aload_n 0, 1) := by decide +kernel
theorem dX7_check_120 : decode cX7_check 120 = .ok (.iload 7, 2) := by decide +kernel
theorem dX7_check_122 : decode cX7_check 122 = .ok (.iload 6, 2) := by decide +kernel
theorem dX7_check_124 : decode cX7_check 124 = .ok (.iload_n 2, 1) := by decide +kernel
theorem dX7_check_125 : decode cX7_check 125 = .ok (.iload_n 3, 1) := by decide +kernel
theorem dX7_check_126 : decode cX7_check 126 = .ok (.iload 4, 2) := by decide +kernel
theorem dX7_check_128 : decode cX7_check 128 = .ok (.invokevirtual 209, 3) := by decide +kernel
theorem dX7_check_131 : decode cX7_check 131 = .ok (.ifCond .ne 5, 3) := by decide +kernel
theorem dX7_check_134 : decode cX7_check 134 = .ok (.iconst 0, 1) := by decide +kernel
theorem dX7_check_135 : decode cX7_check 135 = .ok (.ireturn, 1) := by decide +kernel
theorem dX7_check_136 : decode cX7_check 136 = .ok (.aload_n 0, 1) := by decide +kernel
theorem dX7_check_137 : decode cX7_check 137 = .ok (.aload_n 0, 1) := by decide +kernel
theorem dX7_check_138 : decode cX7_check 138 = .ok (.getfield 27, 3) := by decide +kernel
theorem dX7_check_141 : decode cX7_check 141 = .ok (.iload 7, 2) := by decide +kernel
theorem dX7_check_143 : decode cX7_check 143 = .ok (.iaload, 1) := by decide +kernel
theorem dX7_check_144 : decode cX7_check 144 = .ok (.iconst 1, 1) := by decide +kernel
theorem dX7_check_145 : decode cX7_check 145 = .ok (.invokevirtual 83, 3) := by decide +kernel
theorem dX7_check_148 : decode cX7_check 148 = .ok (.istore 6, 2) := by decide +kernel
theorem dX7_check_150 : decode cX7_check 150 = .ok (.iinc 7 1, 3) := by decide +kernel
theorem dX7_check_153 : decode cX7_check 153 = .ok (.goto (-43), 3) := by decide +kernel
theorem dX7_check_156 : decode cX7_check 156 = .ok (.iconst 1, 1) := by decide +kernel
theorem dX7_check_157 : decode cX7_check 157 = .ok (.ireturn, 1) := by decide +kernel
theorem dX7_replay_0 : decode cX7_replay 0 = .ok (.iconst 1, 1) := by decide +kernel
theorem dX7_replay_1 : decode cX7_replay 1 = .ok (.ireturn, 1) := by decide +kernel
theorem dX7_image_0 : decode cX7_image 0 = .ok (.iconst 0, 1) := by decide +kernel
theorem dX7_image_1 : decode cX7_image 1 = .ok (.istore_n 1, 1) := by decide +kernel
theorem dX7_image_2 : decode cX7_image 2 = .ok (.iload_n 1, 1) := by decide +kernel
theorem dX7_image_3 : decode cX7_image 3 = .ok (.ldc 7, 2) := by decide +kernel
theorem dX7_image_5 : decode cX7_image 5 = .ok (.if_icmp .ge 21, 3) := by decide +kernel
theorem dX7_image_8 : decode cX7_image 8 = .ok (.aload_n 0, 1) := by decide +kernel
theorem dX7_image_9 : decode cX7_image 9 = .ok (.getfield 14, 3) := by decide +kernel
theorem dX7_image_12 : decode cX7_image 12 = .ok (.iload_n 1, 1) := by decide +kernel
theorem dX7_image_13 : decode cX7_image 13 = .ok (.aload_n 0, 1) := by decide +kernel
theorem dX7_image_14 : decode cX7_image 14 = .ok (.getfield 8, 3) := by decide +kernel
theorem dX7_image_17 : decode cX7_image 17 = .ok (.iload_n 1, 1) := by decide +kernel
theorem dX7_image_18 : decode cX7_image 18 = .ok (.iaload, 1) := by decide +kernel
theorem dX7_image_19 : decode cX7_image 19 = .ok (.iastore, 1) := by decide +kernel
theorem dX7_image_20 : decode cX7_image 20 = .ok (.iinc 1 1, 3) := by decide +kernel
theorem dX7_image_23 : decode cX7_image 23 = .ok (.goto (-21), 3) := by decide +kernel
theorem dX7_image_26 : decode cX7_image 26 = .ok (.iconst 0, 1) := by decide +kernel
theorem dX7_image_27 : decode cX7_image 27 = .ok (.istore_n 1, 1) := by decide +kernel
theorem dX7_image_28 : decode cX7_image 28 = .ok (.iload_n 1, 1) := by decide +kernel
theorem dX7_image_29 : decode cX7_image 29 = .ok (.bipush 64, 2) := by decide +kernel
theorem dX7_image_31 : decode cX7_image 31 = .ok (.if_icmp .ge 21, 3) := by decide +kernel
theorem dX7_image_34 : decode cX7_image 34 = .ok (.aload_n 0, 1) := by decide +kernel
theorem dX7_image_35 : decode cX7_image 35 = .ok (.getfield 21, 3) := by decide +kernel
theorem dX7_image_38 : decode cX7_image 38 = .ok (.iload_n 1, 1) := by decide +kernel
theorem dX7_image_39 : decode cX7_image 39 = .ok (.aload_n 0, 1) := by decide +kernel
theorem dX7_image_40 : decode cX7_image 40 = .ok (.getfield 17, 3) := by decide +kernel
theorem dX7_image_43 : decode cX7_image 43 = .ok (.iload_n 1, 1) := by decide +kernel
theorem dX7_image_44 : decode cX7_image 44 = .ok (.laload, 1) := by decide +kernel
theorem dX7_image_45 : decode cX7_image 45 = .ok (.lastore, 1) := by decide +kernel
theorem dX7_image_46 : decode cX7_image 46 = .ok (.iinc 1 1, 3) := by decide +kernel
theorem dX7_image_49 : decode cX7_image 49 = .ok (.goto (-21), 3) := by decide +kernel
theorem dX7_image_52 : decode cX7_image 52 = .ok (.aload_n 0, 1) := by decide +kernel
theorem dX7_image_53 : decode cX7_image 53 = .ok (.iconst 1, 1) := by decide +kernel
theorem dX7_image_54 : decode cX7_image 54 = .ok (.putfield 213, 3) := by decide +kernel
theorem dX7_image_57 : decode cX7_image 57 = .ok (.aload_n 0, 1) := by decide +kernel
theorem dX7_image_58 : decode cX7_image 58 = .ok (.getfield 8, 3) := by decide +kernel
theorem dX7_image_61 : decode cX7_image 61 = .ok (.ldc 53, 2) := by decide +kernel
theorem dX7_image_63 : decode cX7_image 63 = .ok (.iaload, 1) := by decide +kernel
theorem dX7_image_64 : decode cX7_image 64 = .ok (.ireturn, 1) := by decide +kernel
theorem dX7_back_0 : decode cX7_back 0 = .ok (.aload_n 0, 1) := by decide +kernel
theorem dX7_back_1 : decode cX7_back 1 = .ok (.getfield 213, 3) := by decide +kernel
theorem dX7_back_4 : decode cX7_back 4 = .ok (.ifCond .ne 10, 3) := by decide +kernel
theorem dX7_back_7 : decode cX7_back 7 = .ok (.aload_n 0, 1) := by decide +kernel
theorem dX7_back_8 : decode cX7_back 8 = .ok (.bipush (-9), 2) := by decide +kernel
theorem dX7_back_10 : decode cX7_back 10 = .ok (.invokevirtual 132, 3) := by decide +kernel
theorem dX7_back_13 : decode cX7_back 13 = .ok (.ireturn, 1) := by decide +kernel
theorem dX7_back_14 : decode cX7_back 14 = .ok (.iconst 0, 1) := by decide +kernel
theorem dX7_back_15 : decode cX7_back 15 = .ok (.istore_n 1, 1) := by decide +kernel
theorem dX7_back_16 : decode cX7_back 16 = .ok (.iload_n 1, 1) := by decide +kernel
theorem dX7_back_17 : decode cX7_back 17 = .ok (.ldc 7, 2) := by decide +kernel
theorem dX7_back_19 : decode cX7_back 19 = .ok (.if_icmp .ge 21, 3) := by decide +kernel
theorem dX7_back_22 : decode cX7_back 22 = .ok (.aload_n 0, 1) := by decide +kernel
theorem dX7_back_23 : decode cX7_back 23 = .ok (.getfield 8, 3) := by decide +kernel
theorem dX7_back_26 : decode cX7_back 26 = .ok (.iload_n 1, 1) := by decide +kernel
theorem dX7_back_27 : decode cX7_back 27 = .ok (.aload_n 0, 1) := by decide +kernel
theorem dX7_back_28 : decode cX7_back 28 = .ok (.getfield 14, 3) := by decide +kernel
theorem dX7_back_31 : decode cX7_back 31 = .ok (.iload_n 1, 1) := by decide +kernel
theorem dX7_back_32 : decode cX7_back 32 = .ok (.iaload, 1) := by decide +kernel
theorem dX7_back_33 : decode cX7_back 33 = .ok (.iastore, 1) := by decide +kernel
theorem dX7_back_34 : decode cX7_back 34 = .ok (.iinc 1 1, 3) := by decide +kernel
theorem dX7_back_37 : decode cX7_back 37 = .ok (.goto (-21), 3) := by decide +kernel
theorem dX7_back_40 : decode cX7_back 40 = .ok (.iconst 0, 1) := by decide +kernel
theorem dX7_back_41 : decode cX7_back 41 = .ok (.istore_n 1, 1) := by decide +kernel
theorem dX7_back_42 : decode cX7_back 42 = .ok (.iload_n 1, 1) := by decide +kernel
theorem dX7_back_43 : decode cX7_back 43 = .ok (.bipush 64, 2) := by decide +kernel
theorem dX7_back_45 : decode cX7_back 45 = .ok (.if_icmp .ge 21, 3) := by decide +kernel
theorem dX7_back_48 : decode cX7_back 48 = .ok (.aload_n 0, 1) := by decide +kernel
theorem dX7_back_49 : decode cX7_back 49 = .ok (.getfield 17, 3) := by decide +kernel
theorem dX7_back_52 : decode cX7_back 52 = .ok (.iload_n 1, 1) := by decide +kernel
theorem dX7_back_53 : decode cX7_back 53 = .ok (.aload_n 0, 1) := by decide +kernel
theorem dX7_back_54 : decode cX7_back 54 = .ok (.getfield 21, 3) := by decide +kernel
theorem dX7_back_57 : decode cX7_back 57 = .ok (.iload_n 1, 1) := by decide +kernel
theorem dX7_back_58 : decode cX7_back 58 = .ok (.laload, 1) := by decide +kernel
theorem dX7_back_59 : decode cX7_back 59 = .ok (.lastore, 1) := by decide +kernel
theorem dX7_back_60 : decode cX7_back 60 = .ok (.iinc 1 1, 3) := by decide +kernel
theorem dX7_back_63 : decode cX7_back 63 = .ok (.goto (-21), 3) := by decide +kernel
theorem dX7_back_66 : decode cX7_back 66 = .ok (.aload_n 0, 1) := by decide +kernel
theorem dX7_back_67 : decode cX7_back 67 = .ok (.getfield 8, 3) := by decide +kernel
theorem dX7_back_70 : decode cX7_back 70 = .ok (.ldc 53, 2) := by decide +kernel
theorem dX7_back_72 : decode cX7_back 72 = .ok (.iaload, 1) := by decide +kernel
theorem dX7_back_73 : decode cX7_back 73 = .ok (.ireturn, 1) := by decide +kernel
theorem dX7_trace_0 : decode cX7_trace 0 = .ok (.iload_n 1, 1) := by decide +kernel
theorem dX7_trace_1 : decode cX7_trace 1 = .ok (.i2l, 1) := by decide +kernel
theorem dX7_trace_2 : decode cX7_trace 2 = .ok (.lconst 0, 1) := by decide +kernel
theorem dX7_trace_3 : decode cX7_trace 3 = .ok (.ldc2_w 173, 3) := by decide +kernel
theorem dX7_trace_6 : decode cX7_trace 6 = .ok (.invokestatic 165, 3) := by decide +kernel
theorem dX7_trace_9 : decode cX7_trace 9 = .ok (.ifCond .eq 15, 3) := by decide +kernel
theorem dX7_trace_12 : decode cX7_trace 12 = .ok (.aload_n 0, 1) := by decide +kernel
theorem dX7_trace_13 : decode cX7_trace 13 = .ok (.getfield 8, 3) := by decide +kernel
theorem dX7_trace_16 : decode cX7_trace 16 = .ok (.ldc 54, 2) := by decide +kernel
theorem dX7_trace_18 : decode cX7_trace 18 = .ok (.iload_n 1, 1) := by decide +kernel
theorem dX7_trace_19 : decode cX7_trace 19 = .ok (.iadd, 1) := by decide +kernel
theorem dX7_trace_20 : decode cX7_trace 20 = .ok (.iaload, 1) := by decide +kernel
theorem dX7_trace_21 : decode cX7_trace 21 = .ok (.goto 9, 3) := by decide +kernel
theorem dX7_trace_24 : decode cX7_trace 24 = .ok (.aload_n 0, 1) := by decide +kernel
theorem dX7_trace_25 : decode cX7_trace 25 = .ok (.bipush (-9), 2) := by decide +kernel
theorem dX7_trace_27 : decode cX7_trace 27 = .ok (.invokevirtual 132, 3) := by decide +kernel
theorem dX7_trace_30 : decode cX7_trace 30 = .ok (.ireturn, 1) := by decide +kernel
theorem dX7_again_0 : decode cX7_again 0 = .ok (.aload_n 0, 1) := by decide +kernel
theorem dX7_again_1 : decode cX7_again 1 = .ok (.getfield 40, 3) := by decide +kernel
theorem dX7_again_4 : decode cX7_again 4 = .ok (.ifCond .ne 6, 3) := by decide +kernel
theorem dX7_again_7 : decode cX7_again 7 = .ok (.bipush (-7), 2) := by decide +kernel
theorem dX7_again_9 : decode cX7_again 9 = .ok (.ireturn, 1) := by decide +kernel
theorem dX7_again_10 : decode cX7_again 10 = .ok (.aload_n 0, 1) := by decide +kernel
theorem dX7_again_11 : decode cX7_again 11 = .ok (.getfield 40, 3) := by decide +kernel
theorem dX7_again_14 : decode cX7_again 14 = .ok (.istore_n 1, 1) := by decide +kernel
theorem dX7_again_15 : decode cX7_again 15 = .ok (.aload_n 0, 1) := by decide +kernel
theorem dX7_again_16 : decode cX7_again 16 = .ok (.iconst 0, 1) := by decide +kernel
theorem dX7_again_17 : decode cX7_again 17 = .ok (.putfield 40, 3) := by decide +kernel
theorem dX7_again_20 : decode cX7_again 20 = .ok (.iload_n 1, 1) := by decide +kernel
theorem dX7_again_21 : decode cX7_again 21 = .ok (.ireturn, 1) := by decide +kernel
theorem dX7_status_0 : decode cX7_status 0 = .ok (.iload_n 1, 1) := by decide +kernel
theorem dX7_status_1 : decode cX7_status 1 = .ok (.ifCond .ne 11, 3) := by decide +kernel
theorem dX7_status_4 : decode cX7_status 4 = .ok (.aload_n 0, 1) := by decide +kernel
theorem dX7_status_5 : decode cX7_status 5 = .ok (.getfield 8, 3) := by decide +kernel
theorem dX7_status_8 : decode cX7_status 8 = .ok (.ldc 53, 2) := by decide +kernel
theorem dX7_status_10 : decode cX7_status 10 = .ok (.iaload, 1) := by decide +kernel
theorem dX7_status_11 : decode cX7_status 11 = .ok (.ireturn, 1) := by decide +kernel
theorem dX7_status_12 : decode cX7_status 12 = .ok (.iload_n 1, 1) := by decide +kernel
theorem dX7_status_13 : decode cX7_status 13 = .ok (.i2l, 1) := by decide +kernel
theorem dX7_status_14 : decode cX7_status 14 = .ok (.ldc2_w 217, 3) := by decide +kernel
theorem dX7_status_17 : decode cX7_status 17 = .ok (.ldc2_w 219, 3) := by decide +kernel
theorem dX7_status_20 : decode cX7_status 20 = .ok (.invokestatic 165, 3) := by decide +kernel
theorem dX7_status_23 : decode cX7_status 23 = .ok (.ifCond .eq 13, 3) := by decide +kernel
theorem dX7_status_26 : decode cX7_status 26 = .ok (.aload_n 0, 1) := by decide +kernel
theorem dX7_status_27 : decode cX7_status 27 = .ok (.getfield 30, 3) := by decide +kernel
theorem dX7_status_30 : decode cX7_status 30 = .ok (.iload_n 1, 1) := by decide +kernel
theorem dX7_status_31 : decode cX7_status 31 = .ok (.ineg, 1) := by decide +kernel
theorem dX7_status_32 : decode cX7_status 32 = .ok (.iaload, 1) := by decide +kernel
theorem dX7_status_33 : decode cX7_status 33 = .ok (.goto 9, 3) := by decide +kernel
theorem dX7_status_36 : decode cX7_status 36 = .ok (.aload_n 0, 1) := by decide +kernel
theorem dX7_status_37 : decode cX7_status 37 = .ok (.bipush (-9), 2) := by decide +kernel
theorem dX7_status_39 : decode cX7_status 39 = .ok (.invokevirtual 132, 3) := by decide +kernel
theorem dX7_status_42 : decode cX7_status 42 = .ok (.ireturn, 1) := by decide +kernel
theorem dJ9_max_7cf53_0 : decode cJ9_max_7cf53 0 = .ok (.iload_n 0, 1) := by decide +kernel
theorem dJ9_max_7cf53_1 : decode cJ9_max_7cf53 1 = .ok (.iload_n 1, 1) := by decide +kernel
theorem dJ9_max_7cf53_2 : decode cJ9_max_7cf53 2 = .ok (.if_icmp .lt 7, 3) := by decide +kernel
theorem dJ9_max_7cf53_5 : decode cJ9_max_7cf53 5 = .ok (.iload_n 0, 1) := by decide +kernel
theorem dJ9_max_7cf53_6 : decode cJ9_max_7cf53 6 = .ok (.goto 4, 3) := by decide +kernel
theorem dJ9_max_7cf53_9 : decode cJ9_max_7cf53 9 = .ok (.iload_n 1, 1) := by decide +kernel
theorem dJ9_max_7cf53_10 : decode cJ9_max_7cf53 10 = .ok (.ireturn, 1) := by decide +kernel
theorem dJ9_min_7cf53_0 : decode cJ9_min_7cf53 0 = .ok (.iload_n 0, 1) := by decide +kernel
theorem dJ9_min_7cf53_1 : decode cJ9_min_7cf53 1 = .ok (.iload_n 1, 1) := by decide +kernel
theorem dJ9_min_7cf53_2 : decode cJ9_min_7cf53 2 = .ok (.if_icmp .gt 7, 3) := by decide +kernel
theorem dJ9_min_7cf53_5 : decode cJ9_min_7cf53 5 = .ok (.iload_n 0, 1) := by decide +kernel
theorem dJ9_min_7cf53_6 : decode cJ9_min_7cf53 6 = .ok (.goto 4, 3) := by decide +kernel
theorem dJ9_min_7cf53_9 : decode cJ9_min_7cf53 9 = .ok (.iload_n 1, 1) := by decide +kernel
theorem dJ9_min_7cf53_10 : decode cJ9_min_7cf53 10 = .ok (.ireturn, 1) := by decide +kernel
theorem dJ7_fill_d0a16_0 : decode cJ7_fill_d0a16 0 = .ok (.iconst 0, 1) := by decide +kernel
theorem dJ7_fill_d0a16_1 : decode cJ7_fill_d0a16 1 = .ok (.istore_n 3, 1) := by decide +kernel
theorem dJ7_fill_d0a16_2 : decode cJ7_fill_d0a16 2 = .ok (.aload_n 0, 1) := by decide +kernel
theorem dJ7_fill_d0a16_3 : decode cJ7_fill_d0a16 3 = .ok (.arraylength, 1) := by decide +kernel
theorem dJ7_fill_d0a16_4 : decode cJ7_fill_d0a16 4 = .ok (.istore 4, 2) := by decide +kernel
theorem dJ7_fill_d0a16_6 : decode cJ7_fill_d0a16 6 = .ok (.iload_n 3, 1) := by decide +kernel
theorem dJ7_fill_d0a16_7 : decode cJ7_fill_d0a16 7 = .ok (.iload 4, 2) := by decide +kernel
theorem dJ7_fill_d0a16_9 : decode cJ7_fill_d0a16 9 = .ok (.if_icmp .ge 13, 3) := by decide +kernel
theorem dJ7_fill_d0a16_12 : decode cJ7_fill_d0a16 12 = .ok (.aload_n 0, 1) := by decide +kernel
theorem dJ7_fill_d0a16_13 : decode cJ7_fill_d0a16 13 = .ok (.iload_n 3, 1) := by decide +kernel
theorem dJ7_fill_d0a16_14 : decode cJ7_fill_d0a16 14 = .ok (.lload_n 1, 1) := by decide +kernel
theorem dJ7_fill_d0a16_15 : decode cJ7_fill_d0a16 15 = .ok (.lastore, 1) := by decide +kernel
theorem dJ7_fill_d0a16_16 : decode cJ7_fill_d0a16 16 = .ok (.iinc 3 1, 3) := by decide +kernel
theorem dJ7_fill_d0a16_19 : decode cJ7_fill_d0a16 19 = .ok (.goto (-13), 3) := by decide +kernel
theorem dJ7_fill_d0a16_22 : decode cJ7_fill_d0a16 22 = .ok (.return_, 1) := by decide +kernel
theorem dJ7_fill_53178_0 : decode cJ7_fill_53178 0 = .ok (.iconst 0, 1) := by decide +kernel
theorem dJ7_fill_53178_1 : decode cJ7_fill_53178 1 = .ok (.istore_n 2, 1) := by decide +kernel
theorem dJ7_fill_53178_2 : decode cJ7_fill_53178 2 = .ok (.aload_n 0, 1) := by decide +kernel
theorem dJ7_fill_53178_3 : decode cJ7_fill_53178 3 = .ok (.arraylength, 1) := by decide +kernel
theorem dJ7_fill_53178_4 : decode cJ7_fill_53178 4 = .ok (.istore_n 3, 1) := by decide +kernel
theorem dJ7_fill_53178_5 : decode cJ7_fill_53178 5 = .ok (.iload_n 2, 1) := by decide +kernel
theorem dJ7_fill_53178_6 : decode cJ7_fill_53178 6 = .ok (.iload_n 3, 1) := by decide +kernel
theorem dJ7_fill_53178_7 : decode cJ7_fill_53178 7 = .ok (.if_icmp .ge 13, 3) := by decide +kernel
theorem dJ7_fill_53178_10 : decode cJ7_fill_53178 10 = .ok (.aload_n 0, 1) := by decide +kernel
theorem dJ7_fill_53178_11 : decode cJ7_fill_53178 11 = .ok (.iload_n 2, 1) := by decide +kernel
theorem dJ7_fill_53178_12 : decode cJ7_fill_53178 12 = .ok (.iload_n 1, 1) := by decide +kernel
theorem dJ7_fill_53178_13 : decode cJ7_fill_53178 13 = .ok (.iastore, 1) := by decide +kernel
theorem dJ7_fill_53178_14 : decode cJ7_fill_53178 14 = .ok (.iinc 2 1, 3) := by decide +kernel
theorem dJ7_fill_53178_17 : decode cJ7_fill_53178 17 = .ok (.goto (-12), 3) := by decide +kernel
theorem dJ7_fill_53178_20 : decode cJ7_fill_53178 20 = .ok (.return_, 1) := by decide +kernel
theorem dJ7_copyOf_59c91_0 : decode cJ7_copyOf_59c91 0 = .ok (.iload_n 1, 1) := by decide +kernel
theorem dJ7_copyOf_59c91_1 : decode cJ7_copyOf_59c91 1 = .ok (.aload_n 0, 1) := by decide +kernel
theorem dJ7_copyOf_59c91_2 : decode cJ7_copyOf_59c91 2 = .ok (.arraylength, 1) := by decide +kernel
theorem dJ7_copyOf_59c91_3 : decode cJ7_copyOf_59c91 3 = .ok (.if_icmp .ne 11, 3) := by decide +kernel
theorem dJ7_copyOf_59c91_6 : decode cJ7_copyOf_59c91 6 = .ok (.aload_n 0, 1) := by decide +kernel
theorem dJ7_copyOf_59c91_7 : decode cJ7_copyOf_59c91 7 = .ok (.invokevirtual 316, 3) := by decide +kernel
theorem dJ7_copyOf_59c91_10 : decode cJ7_copyOf_59c91 10 = .ok (.checkcast 317, 3) := by decide +kernel
theorem dJ7_copyOf_59c91_13 : decode cJ7_copyOf_59c91 13 = .ok (.areturn, 1) := by decide +kernel
theorem dJ7_copyOf_59c91_14 : decode cJ7_copyOf_59c91 14 = .ok (.iload_n 1, 1) := by decide +kernel
theorem dJ7_copyOf_59c91_15 : decode cJ7_copyOf_59c91 15 = .ok (.newarray .int, 2) := by decide +kernel
theorem dJ7_copyOf_59c91_17 : decode cJ7_copyOf_59c91 17 = .ok (.astore_n 2, 1) := by decide +kernel
theorem dJ7_copyOf_59c91_18 : decode cJ7_copyOf_59c91 18 = .ok (.aload_n 0, 1) := by decide +kernel
theorem dJ7_copyOf_59c91_19 : decode cJ7_copyOf_59c91 19 = .ok (.iconst 0, 1) := by decide +kernel
theorem dJ7_copyOf_59c91_20 : decode cJ7_copyOf_59c91 20 = .ok (.aload_n 2, 1) := by decide +kernel
theorem dJ7_copyOf_59c91_21 : decode cJ7_copyOf_59c91 21 = .ok (.iconst 0, 1) := by decide +kernel
theorem dJ7_copyOf_59c91_22 : decode cJ7_copyOf_59c91 22 = .ok (.aload_n 0, 1) := by decide +kernel
theorem dJ7_copyOf_59c91_23 : decode cJ7_copyOf_59c91 23 = .ok (.arraylength, 1) := by decide +kernel
theorem dJ7_copyOf_59c91_24 : decode cJ7_copyOf_59c91 24 = .ok (.iload_n 1, 1) := by decide +kernel
theorem dJ7_copyOf_59c91_25 : decode cJ7_copyOf_59c91 25 = .ok (.invokestatic 304, 3) := by decide +kernel
theorem dJ7_copyOf_59c91_28 : decode cJ7_copyOf_59c91 28 = .ok (.invokestatic 150, 3) := by decide +kernel
theorem dJ7_copyOf_59c91_31 : decode cJ7_copyOf_59c91 31 = .ok (.aload_n 2, 1) := by decide +kernel
theorem dJ7_copyOf_59c91_32 : decode cJ7_copyOf_59c91 32 = .ok (.areturn, 1) := by decide +kernel
end
section
theorem dL_law_0 : decode cL_law 0 = .ok (.new 7, 3) := by decide +kernel
theorem dL_law_3 : decode cL_law 3 = .ok (.dup, 1) := by decide +kernel
theorem dL_law_4 : decode cL_law 4 = .ok (.invokespecial 9, 3) := by decide +kernel
theorem dL_law_7 : decode cL_law 7 = .ok (.astore_n 1, 1) := by decide +kernel
theorem dL_law_8 : decode cL_law 8 = .ok (.new 10, 3) := by decide +kernel
theorem dL_law_11 : decode cL_law 11 = .ok (.dup, 1) := by decide +kernel
theorem dL_law_12 : decode cL_law 12 = .ok (.invokespecial 12, 3) := by decide +kernel
theorem dL_law_15 : decode cL_law 15 = .ok (.astore_n 2, 1) := by decide +kernel
theorem dL_law_16 : decode cL_law 16 = .ok (.iconst 0, 1) := by decide +kernel
theorem dL_law_17 : decode cL_law 17 = .ok (.istore_n 3, 1) := by decide +kernel
theorem dL_law_18 : decode cL_law 18 = .ok (.iload_n 3, 1) := by decide +kernel
theorem dL_law_19 : decode cL_law 19 = .ok (.aload_n 0, 1) := by decide +kernel
theorem dL_law_20 : decode cL_law 20 = .ok (.arraylength, 1) := by decide +kernel
theorem dL_law_21 : decode cL_law 21 = .ok (.iconst 5, 1) := by decide +kernel
theorem dL_law_22 : decode cL_law 22 = .ok (.isub, 1) := by decide +kernel
theorem dL_law_23 : decode cL_law 23 = .ok (.if_icmp .gt 1176, 3) := by decide +kernel
theorem dL_law_26 : decode cL_law 26 = .ok (.aload_n 0, 1) := by decide +kernel
theorem dL_law_27 : decode cL_law 27 = .ok (.iload_n 3, 1) := by decide +kernel
theorem dL_law_28 : decode cL_law 28 = .ok (.iaload, 1) := by decide +kernel
theorem dL_law_29 : decode cL_law 29 = .ok (.bipush 63, 2) := by decide +kernel
theorem dL_law_31 : decode cL_law 31 = .ok (.iand, 1) := by decide +kernel
theorem dL_law_32 : decode cL_law 32 = .ok (.tableswitch 1161 0 34 #[156, 219, 252, 275, 298, 321, 344, 367, 390, 413, 446, 479, 502, 525, 558, 601, 634, 677, 720, 753, 776, 829, 852, 865, 888, 921, 954, 977, 1010, 1063, 1076, 1089, 1102, 1125, 1138], 156) := by decide +kernel
theorem dL_law_188 : decode cL_law 188 = .ok (.aload_n 1, 1) := by decide +kernel
theorem dL_law_189 : decode cL_law 189 = .ok (.aload_n 0, 1) := by decide +kernel
theorem dL_law_190 : decode cL_law 190 = .ok (.iload_n 3, 1) := by decide +kernel
theorem dL_law_191 : decode cL_law 191 = .ok (.iconst 1, 1) := by decide +kernel
theorem dL_law_192 : decode cL_law 192 = .ok (.iadd, 1) := by decide +kernel
theorem dL_law_193 : decode cL_law 193 = .ok (.iaload, 1) := by decide +kernel
theorem dL_law_194 : decode cL_law 194 = .ok (.aload_n 0, 1) := by decide +kernel
theorem dL_law_195 : decode cL_law 195 = .ok (.iload_n 3, 1) := by decide +kernel
theorem dL_law_196 : decode cL_law 196 = .ok (.iconst 2, 1) := by decide +kernel
theorem dL_law_197 : decode cL_law 197 = .ok (.iadd, 1) := by decide +kernel
theorem dL_law_198 : decode cL_law 198 = .ok (.iaload, 1) := by decide +kernel
theorem dL_law_199 : decode cL_law 199 = .ok (.i2l, 1) := by decide +kernel
theorem dL_law_200 : decode cL_law 200 = .ok (.bipush 32, 2) := by decide +kernel
theorem dL_law_202 : decode cL_law 202 = .ok (.lshl, 1) := by decide +kernel
theorem dL_law_203 : decode cL_law 203 = .ok (.aload_n 0, 1) := by decide +kernel
theorem dL_law_204 : decode cL_law 204 = .ok (.iload_n 3, 1) := by decide +kernel
theorem dL_law_205 : decode cL_law 205 = .ok (.iconst 3, 1) := by decide +kernel
theorem dL_law_206 : decode cL_law 206 = .ok (.iadd, 1) := by decide +kernel
theorem dL_law_207 : decode cL_law 207 = .ok (.iaload, 1) := by decide +kernel
theorem dL_law_208 : decode cL_law 208 = .ok (.i2l, 1) := by decide +kernel
theorem dL_law_209 : decode cL_law 209 = .ok (.ldc2_w 13, 3) := by decide +kernel
theorem dL_law_212 : decode cL_law 212 = .ok (.land, 1) := by decide +kernel
theorem dL_law_213 : decode cL_law 213 = .ok (.lor, 1) := by decide +kernel
theorem dL_law_214 : decode cL_law 214 = .ok (.invokevirtual 15, 3) := by decide +kernel
theorem dL_law_217 : decode cL_law 217 = .ok (.aload_n 2, 1) := by decide +kernel
theorem dL_law_218 : decode cL_law 218 = .ok (.aload_n 0, 1) := by decide +kernel
theorem dL_law_219 : decode cL_law 219 = .ok (.iload_n 3, 1) := by decide +kernel
theorem dL_law_220 : decode cL_law 220 = .ok (.iconst 1, 1) := by decide +kernel
theorem dL_law_221 : decode cL_law 221 = .ok (.iadd, 1) := by decide +kernel
theorem dL_law_222 : decode cL_law 222 = .ok (.iaload, 1) := by decide +kernel
theorem dL_law_223 : decode cL_law 223 = .ok (.aload_n 0, 1) := by decide +kernel
theorem dL_law_224 : decode cL_law 224 = .ok (.iload_n 3, 1) := by decide +kernel
theorem dL_law_225 : decode cL_law 225 = .ok (.iconst 2, 1) := by decide +kernel
theorem dL_law_226 : decode cL_law 226 = .ok (.iadd, 1) := by decide +kernel
theorem dL_law_227 : decode cL_law 227 = .ok (.iaload, 1) := by decide +kernel
theorem dL_law_228 : decode cL_law 228 = .ok (.i2l, 1) := by decide +kernel
theorem dL_law_229 : decode cL_law 229 = .ok (.bipush 32, 2) := by decide +kernel
theorem dL_law_231 : decode cL_law 231 = .ok (.lshl, 1) := by decide +kernel
theorem dL_law_232 : decode cL_law 232 = .ok (.aload_n 0, 1) := by decide +kernel
theorem dL_law_233 : decode cL_law 233 = .ok (.iload_n 3, 1) := by decide +kernel
theorem dL_law_234 : decode cL_law 234 = .ok (.iconst 3, 1) := by decide +kernel
theorem dL_law_235 : decode cL_law 235 = .ok (.iadd, 1) := by decide +kernel
theorem dL_law_236 : decode cL_law 236 = .ok (.iaload, 1) := by decide +kernel
theorem dL_law_237 : decode cL_law 237 = .ok (.i2l, 1) := by decide +kernel
theorem dL_law_238 : decode cL_law 238 = .ok (.ldc2_w 13, 3) := by decide +kernel
theorem dL_law_241 : decode cL_law 241 = .ok (.land, 1) := by decide +kernel
theorem dL_law_242 : decode cL_law 242 = .ok (.lor, 1) := by decide +kernel
theorem dL_law_243 : decode cL_law 243 = .ok (.invokevirtual 19, 3) := by decide +kernel
theorem dL_law_246 : decode cL_law 246 = .ok (.if_icmp .eq 947, 3) := by decide +kernel
theorem dL_law_249 : decode cL_law 249 = .ok (.iconst 0, 1) := by decide +kernel
theorem dL_law_250 : decode cL_law 250 = .ok (.ireturn, 1) := by decide +kernel
theorem dL_law_251 : decode cL_law 251 = .ok (.aload_n 1, 1) := by decide +kernel
theorem dL_law_252 : decode cL_law 252 = .ok (.aload_n 0, 1) := by decide +kernel
theorem dL_law_253 : decode cL_law 253 = .ok (.iload_n 3, 1) := by decide +kernel
theorem dL_law_254 : decode cL_law 254 = .ok (.iconst 1, 1) := by decide +kernel
theorem dL_law_255 : decode cL_law 255 = .ok (.iadd, 1) := by decide +kernel
theorem dL_law_256 : decode cL_law 256 = .ok (.iaload, 1) := by decide +kernel
theorem dL_law_257 : decode cL_law 257 = .ok (.aload_n 0, 1) := by decide +kernel
theorem dL_law_258 : decode cL_law 258 = .ok (.iload_n 3, 1) := by decide +kernel
theorem dL_law_259 : decode cL_law 259 = .ok (.iconst 2, 1) := by decide +kernel
theorem dL_law_260 : decode cL_law 260 = .ok (.iadd, 1) := by decide +kernel
theorem dL_law_261 : decode cL_law 261 = .ok (.iaload, 1) := by decide +kernel
theorem dL_law_262 : decode cL_law 262 = .ok (.invokevirtual 20, 3) := by decide +kernel
theorem dL_law_265 : decode cL_law 265 = .ok (.aload_n 2, 1) := by decide +kernel
theorem dL_law_266 : decode cL_law 266 = .ok (.aload_n 0, 1) := by decide +kernel
theorem dL_law_267 : decode cL_law 267 = .ok (.iload_n 3, 1) := by decide +kernel
theorem dL_law_268 : decode cL_law 268 = .ok (.iconst 1, 1) := by decide +kernel
theorem dL_law_269 : decode cL_law 269 = .ok (.iadd, 1) := by decide +kernel
theorem dL_law_270 : decode cL_law 270 = .ok (.iaload, 1) := by decide +kernel
theorem dL_law_271 : decode cL_law 271 = .ok (.aload_n 0, 1) := by decide +kernel
theorem dL_law_272 : decode cL_law 272 = .ok (.iload_n 3, 1) := by decide +kernel
theorem dL_law_273 : decode cL_law 273 = .ok (.iconst 2, 1) := by decide +kernel
theorem dL_law_274 : decode cL_law 274 = .ok (.iadd, 1) := by decide +kernel
theorem dL_law_275 : decode cL_law 275 = .ok (.iaload, 1) := by decide +kernel
theorem dL_law_276 : decode cL_law 276 = .ok (.invokevirtual 24, 3) := by decide +kernel
theorem dL_law_279 : decode cL_law 279 = .ok (.if_icmp .eq 914, 3) := by decide +kernel
theorem dL_law_282 : decode cL_law 282 = .ok (.iconst 0, 1) := by decide +kernel
theorem dL_law_283 : decode cL_law 283 = .ok (.ireturn, 1) := by decide +kernel
theorem dL_law_284 : decode cL_law 284 = .ok (.aload_n 1, 1) := by decide +kernel
theorem dL_law_285 : decode cL_law 285 = .ok (.aload_n 0, 1) := by decide +kernel
theorem dL_law_286 : decode cL_law 286 = .ok (.iload_n 3, 1) := by decide +kernel
theorem dL_law_287 : decode cL_law 287 = .ok (.iconst 1, 1) := by decide +kernel
theorem dL_law_288 : decode cL_law 288 = .ok (.iadd, 1) := by decide +kernel
theorem dL_law_289 : decode cL_law 289 = .ok (.iaload, 1) := by decide +kernel
theorem dL_law_290 : decode cL_law 290 = .ok (.invokevirtual 25, 3) := by decide +kernel
theorem dL_law_293 : decode cL_law 293 = .ok (.aload_n 2, 1) := by decide +kernel
theorem dL_law_294 : decode cL_law 294 = .ok (.aload_n 0, 1) := by decide +kernel
theorem dL_law_295 : decode cL_law 295 = .ok (.iload_n 3, 1) := by decide +kernel
theorem dL_law_296 : decode cL_law 296 = .ok (.iconst 1, 1) := by decide +kernel
theorem dL_law_297 : decode cL_law 297 = .ok (.iadd, 1) := by decide +kernel
theorem dL_law_298 : decode cL_law 298 = .ok (.iaload, 1) := by decide +kernel
theorem dL_law_299 : decode cL_law 299 = .ok (.invokevirtual 29, 3) := by decide +kernel
theorem dL_law_302 : decode cL_law 302 = .ok (.if_icmp .eq 891, 3) := by decide +kernel
theorem dL_law_305 : decode cL_law 305 = .ok (.iconst 0, 1) := by decide +kernel
theorem dL_law_306 : decode cL_law 306 = .ok (.ireturn, 1) := by decide +kernel
theorem dL_law_307 : decode cL_law 307 = .ok (.aload_n 1, 1) := by decide +kernel
theorem dL_law_308 : decode cL_law 308 = .ok (.aload_n 0, 1) := by decide +kernel
theorem dL_law_309 : decode cL_law 309 = .ok (.iload_n 3, 1) := by decide +kernel
theorem dL_law_310 : decode cL_law 310 = .ok (.iconst 1, 1) := by decide +kernel
theorem dL_law_311 : decode cL_law 311 = .ok (.iadd, 1) := by decide +kernel
theorem dL_law_312 : decode cL_law 312 = .ok (.iaload, 1) := by decide +kernel
theorem dL_law_313 : decode cL_law 313 = .ok (.invokevirtual 30, 3) := by decide +kernel
theorem dL_law_316 : decode cL_law 316 = .ok (.aload_n 2, 1) := by decide +kernel
theorem dL_law_317 : decode cL_law 317 = .ok (.aload_n 0, 1) := by decide +kernel
theorem dL_law_318 : decode cL_law 318 = .ok (.iload_n 3, 1) := by decide +kernel
theorem dL_law_319 : decode cL_law 319 = .ok (.iconst 1, 1) := by decide +kernel
theorem dL_law_320 : decode cL_law 320 = .ok (.iadd, 1) := by decide +kernel
theorem dL_law_321 : decode cL_law 321 = .ok (.iaload, 1) := by decide +kernel
theorem dL_law_322 : decode cL_law 322 = .ok (.invokevirtual 33, 3) := by decide +kernel
theorem dL_law_325 : decode cL_law 325 = .ok (.if_icmp .eq 868, 3) := by decide +kernel
theorem dL_law_328 : decode cL_law 328 = .ok (.iconst 0, 1) := by decide +kernel
theorem dL_law_329 : decode cL_law 329 = .ok (.ireturn, 1) := by decide +kernel
theorem dL_law_330 : decode cL_law 330 = .ok (.aload_n 1, 1) := by decide +kernel
theorem dL_law_331 : decode cL_law 331 = .ok (.aload_n 0, 1) := by decide +kernel
theorem dL_law_332 : decode cL_law 332 = .ok (.iload_n 3, 1) := by decide +kernel
theorem dL_law_333 : decode cL_law 333 = .ok (.iconst 1, 1) := by decide +kernel
theorem dL_law_334 : decode cL_law 334 = .ok (.iadd, 1) := by decide +kernel
theorem dL_law_335 : decode cL_law 335 = .ok (.iaload, 1) := by decide +kernel
theorem dL_law_336 : decode cL_law 336 = .ok (.invokevirtual 34, 3) := by decide +kernel
theorem dL_law_339 : decode cL_law 339 = .ok (.aload_n 2, 1) := by decide +kernel
theorem dL_law_340 : decode cL_law 340 = .ok (.aload_n 0, 1) := by decide +kernel
theorem dL_law_341 : decode cL_law 341 = .ok (.iload_n 3, 1) := by decide +kernel
theorem dL_law_342 : decode cL_law 342 = .ok (.iconst 1, 1) := by decide +kernel
theorem dL_law_343 : decode cL_law 343 = .ok (.iadd, 1) := by decide +kernel
theorem dL_law_344 : decode cL_law 344 = .ok (.iaload, 1) := by decide +kernel
theorem dL_law_345 : decode cL_law 345 = .ok (.invokevirtual 37, 3) := by decide +kernel
theorem dL_law_348 : decode cL_law 348 = .ok (.if_icmp .eq 845, 3) := by decide +kernel
theorem dL_law_351 : decode cL_law 351 = .ok (.iconst 0, 1) := by decide +kernel
theorem dL_law_352 : decode cL_law 352 = .ok (.ireturn, 1) := by decide +kernel
theorem dL_law_353 : decode cL_law 353 = .ok (.aload_n 1, 1) := by decide +kernel
theorem dL_law_354 : decode cL_law 354 = .ok (.aload_n 0, 1) := by decide +kernel
theorem dL_law_355 : decode cL_law 355 = .ok (.iload_n 3, 1) := by decide +kernel
theorem dL_law_356 : decode cL_law 356 = .ok (.iconst 1, 1) := by decide +kernel
theorem dL_law_357 : decode cL_law 357 = .ok (.iadd, 1) := by decide +kernel
theorem dL_law_358 : decode cL_law 358 = .ok (.iaload, 1) := by decide +kernel
theorem dL_law_359 : decode cL_law 359 = .ok (.invokevirtual 38, 3) := by decide +kernel
theorem dL_law_362 : decode cL_law 362 = .ok (.aload_n 2, 1) := by decide +kernel
theorem dL_law_363 : decode cL_law 363 = .ok (.aload_n 0, 1) := by decide +kernel
theorem dL_law_364 : decode cL_law 364 = .ok (.iload_n 3, 1) := by decide +kernel
theorem dL_law_365 : decode cL_law 365 = .ok (.iconst 1, 1) := by decide +kernel
theorem dL_law_366 : decode cL_law 366 = .ok (.iadd, 1) := by decide +kernel
theorem dL_law_367 : decode cL_law 367 = .ok (.iaload, 1) := by decide +kernel
theorem dL_law_368 : decode cL_law 368 = .ok (.invokevirtual 41, 3) := by decide +kernel
theorem dL_law_371 : decode cL_law 371 = .ok (.if_icmp .eq 822, 3) := by decide +kernel
theorem dL_law_374 : decode cL_law 374 = .ok (.iconst 0, 1) := by decide +kernel
theorem dL_law_375 : decode cL_law 375 = .ok (.ireturn, 1) := by decide +kernel
theorem dL_law_376 : decode cL_law 376 = .ok (.aload_n 1, 1) := by decide +kernel
theorem dL_law_377 : decode cL_law 377 = .ok (.aload_n 0, 1) := by decide +kernel
theorem dL_law_378 : decode cL_law 378 = .ok (.iload_n 3, 1) := by decide +kernel
theorem dL_law_379 : decode cL_law 379 = .ok (.iconst 1, 1) := by decide +kernel
theorem dL_law_380 : decode cL_law 380 = .ok (.iadd, 1) := by decide +kernel
theorem dL_law_381 : decode cL_law 381 = .ok (.iaload, 1) := by decide +kernel
theorem dL_law_382 : decode cL_law 382 = .ok (.invokevirtual 42, 3) := by decide +kernel
theorem dL_law_385 : decode cL_law 385 = .ok (.aload_n 2, 1) := by decide +kernel
theorem dL_law_386 : decode cL_law 386 = .ok (.aload_n 0, 1) := by decide +kernel
theorem dL_law_387 : decode cL_law 387 = .ok (.iload_n 3, 1) := by decide +kernel
theorem dL_law_388 : decode cL_law 388 = .ok (.iconst 1, 1) := by decide +kernel
theorem dL_law_389 : decode cL_law 389 = .ok (.iadd, 1) := by decide +kernel
theorem dL_law_390 : decode cL_law 390 = .ok (.iaload, 1) := by decide +kernel
theorem dL_law_391 : decode cL_law 391 = .ok (.invokevirtual 45, 3) := by decide +kernel
theorem dL_law_394 : decode cL_law 394 = .ok (.if_icmp .eq 799, 3) := by decide +kernel
theorem dL_law_397 : decode cL_law 397 = .ok (.iconst 0, 1) := by decide +kernel
theorem dL_law_398 : decode cL_law 398 = .ok (.ireturn, 1) := by decide +kernel
theorem dL_law_399 : decode cL_law 399 = .ok (.aload_n 1, 1) := by decide +kernel
theorem dL_law_400 : decode cL_law 400 = .ok (.aload_n 0, 1) := by decide +kernel
theorem dL_law_401 : decode cL_law 401 = .ok (.iload_n 3, 1) := by decide +kernel
theorem dL_law_402 : decode cL_law 402 = .ok (.iconst 1, 1) := by decide +kernel
theorem dL_law_403 : decode cL_law 403 = .ok (.iadd, 1) := by decide +kernel
theorem dL_law_404 : decode cL_law 404 = .ok (.iaload, 1) := by decide +kernel
theorem dL_law_405 : decode cL_law 405 = .ok (.invokevirtual 46, 3) := by decide +kernel
theorem dL_law_408 : decode cL_law 408 = .ok (.aload_n 2, 1) := by decide +kernel
theorem dL_law_409 : decode cL_law 409 = .ok (.aload_n 0, 1) := by decide +kernel
theorem dL_law_410 : decode cL_law 410 = .ok (.iload_n 3, 1) := by decide +kernel
theorem dL_law_411 : decode cL_law 411 = .ok (.iconst 1, 1) := by decide +kernel
theorem dL_law_412 : decode cL_law 412 = .ok (.iadd, 1) := by decide +kernel
theorem dL_law_413 : decode cL_law 413 = .ok (.iaload, 1) := by decide +kernel
theorem dL_law_414 : decode cL_law 414 = .ok (.invokevirtual 49, 3) := by decide +kernel
theorem dL_law_417 : decode cL_law 417 = .ok (.if_icmp .eq 776, 3) := by decide +kernel
theorem dL_law_420 : decode cL_law 420 = .ok (.iconst 0, 1) := by decide +kernel
theorem dL_law_421 : decode cL_law 421 = .ok (.ireturn, 1) := by decide +kernel
theorem dL_law_422 : decode cL_law 422 = .ok (.aload_n 1, 1) := by decide +kernel
theorem dL_law_423 : decode cL_law 423 = .ok (.aload_n 0, 1) := by decide +kernel
theorem dL_law_424 : decode cL_law 424 = .ok (.iload_n 3, 1) := by decide +kernel
theorem dL_law_425 : decode cL_law 425 = .ok (.iconst 1, 1) := by decide +kernel
theorem dL_law_426 : decode cL_law 426 = .ok (.iadd, 1) := by decide +kernel
theorem dL_law_427 : decode cL_law 427 = .ok (.iaload, 1) := by decide +kernel
theorem dL_law_428 : decode cL_law 428 = .ok (.invokevirtual 50, 3) := by decide +kernel
theorem dL_law_431 : decode cL_law 431 = .ok (.aload_n 2, 1) := by decide +kernel
theorem dL_law_432 : decode cL_law 432 = .ok (.aload_n 0, 1) := by decide +kernel
theorem dL_law_433 : decode cL_law 433 = .ok (.iload_n 3, 1) := by decide +kernel
theorem dL_law_434 : decode cL_law 434 = .ok (.iconst 1, 1) := by decide +kernel
theorem dL_law_435 : decode cL_law 435 = .ok (.iadd, 1) := by decide +kernel
theorem dL_law_436 : decode cL_law 436 = .ok (.iaload, 1) := by decide +kernel
theorem dL_law_437 : decode cL_law 437 = .ok (.invokevirtual 53, 3) := by decide +kernel
theorem dL_law_440 : decode cL_law 440 = .ok (.if_icmp .eq 753, 3) := by decide +kernel
theorem dL_law_443 : decode cL_law 443 = .ok (.iconst 0, 1) := by decide +kernel
theorem dL_law_444 : decode cL_law 444 = .ok (.ireturn, 1) := by decide +kernel
theorem dL_law_445 : decode cL_law 445 = .ok (.aload_n 1, 1) := by decide +kernel
theorem dL_law_446 : decode cL_law 446 = .ok (.aload_n 0, 1) := by decide +kernel
theorem dL_law_447 : decode cL_law 447 = .ok (.iload_n 3, 1) := by decide +kernel
theorem dL_law_448 : decode cL_law 448 = .ok (.iconst 1, 1) := by decide +kernel
theorem dL_law_449 : decode cL_law 449 = .ok (.iadd, 1) := by decide +kernel
theorem dL_law_450 : decode cL_law 450 = .ok (.iaload, 1) := by decide +kernel
theorem dL_law_451 : decode cL_law 451 = .ok (.aload_n 0, 1) := by decide +kernel
theorem dL_law_452 : decode cL_law 452 = .ok (.iload_n 3, 1) := by decide +kernel
theorem dL_law_453 : decode cL_law 453 = .ok (.iconst 2, 1) := by decide +kernel
theorem dL_law_454 : decode cL_law 454 = .ok (.iadd, 1) := by decide +kernel
theorem dL_law_455 : decode cL_law 455 = .ok (.iaload, 1) := by decide +kernel
theorem dL_law_456 : decode cL_law 456 = .ok (.invokevirtual 54, 3) := by decide +kernel
theorem dL_law_459 : decode cL_law 459 = .ok (.aload_n 2, 1) := by decide +kernel
theorem dL_law_460 : decode cL_law 460 = .ok (.aload_n 0, 1) := by decide +kernel
theorem dL_law_461 : decode cL_law 461 = .ok (.iload_n 3, 1) := by decide +kernel
theorem dL_law_462 : decode cL_law 462 = .ok (.iconst 1, 1) := by decide +kernel
theorem dL_law_463 : decode cL_law 463 = .ok (.iadd, 1) := by decide +kernel
theorem dL_law_464 : decode cL_law 464 = .ok (.iaload, 1) := by decide +kernel
theorem dL_law_465 : decode cL_law 465 = .ok (.aload_n 0, 1) := by decide +kernel
theorem dL_law_466 : decode cL_law 466 = .ok (.iload_n 3, 1) := by decide +kernel
theorem dL_law_467 : decode cL_law 467 = .ok (.iconst 2, 1) := by decide +kernel
theorem dL_law_468 : decode cL_law 468 = .ok (.iadd, 1) := by decide +kernel
theorem dL_law_469 : decode cL_law 469 = .ok (.iaload, 1) := by decide +kernel
theorem dL_law_470 : decode cL_law 470 = .ok (.invokevirtual 57, 3) := by decide +kernel
theorem dL_law_473 : decode cL_law 473 = .ok (.if_icmp .eq 720, 3) := by decide +kernel
theorem dL_law_476 : decode cL_law 476 = .ok (.iconst 0, 1) := by decide +kernel
theorem dL_law_477 : decode cL_law 477 = .ok (.ireturn, 1) := by decide +kernel
theorem dL_law_478 : decode cL_law 478 = .ok (.aload_n 1, 1) := by decide +kernel
theorem dL_law_479 : decode cL_law 479 = .ok (.aload_n 0, 1) := by decide +kernel
theorem dL_law_480 : decode cL_law 480 = .ok (.iload_n 3, 1) := by decide +kernel
theorem dL_law_481 : decode cL_law 481 = .ok (.iconst 1, 1) := by decide +kernel
theorem dL_law_482 : decode cL_law 482 = .ok (.iadd, 1) := by decide +kernel
theorem dL_law_483 : decode cL_law 483 = .ok (.iaload, 1) := by decide +kernel
theorem dL_law_484 : decode cL_law 484 = .ok (.aload_n 0, 1) := by decide +kernel
theorem dL_law_485 : decode cL_law 485 = .ok (.iload_n 3, 1) := by decide +kernel
theorem dL_law_486 : decode cL_law 486 = .ok (.iconst 2, 1) := by decide +kernel
theorem dL_law_487 : decode cL_law 487 = .ok (.iadd, 1) := by decide +kernel
theorem dL_law_488 : decode cL_law 488 = .ok (.iaload, 1) := by decide +kernel
theorem dL_law_489 : decode cL_law 489 = .ok (.invokevirtual 58, 3) := by decide +kernel
theorem dL_law_492 : decode cL_law 492 = .ok (.aload_n 2, 1) := by decide +kernel
theorem dL_law_493 : decode cL_law 493 = .ok (.aload_n 0, 1) := by decide +kernel
theorem dL_law_494 : decode cL_law 494 = .ok (.iload_n 3, 1) := by decide +kernel
theorem dL_law_495 : decode cL_law 495 = .ok (.iconst 1, 1) := by decide +kernel
theorem dL_law_496 : decode cL_law 496 = .ok (.iadd, 1) := by decide +kernel
theorem dL_law_497 : decode cL_law 497 = .ok (.iaload, 1) := by decide +kernel
theorem dL_law_498 : decode cL_law 498 = .ok (.aload_n 0, 1) := by decide +kernel
theorem dL_law_499 : decode cL_law 499 = .ok (.iload_n 3, 1) := by decide +kernel
theorem dL_law_500 : decode cL_law 500 = .ok (.iconst 2, 1) := by decide +kernel
theorem dL_law_501 : decode cL_law 501 = .ok (.iadd, 1) := by decide +kernel
theorem dL_law_502 : decode cL_law 502 = .ok (.iaload, 1) := by decide +kernel
theorem dL_law_503 : decode cL_law 503 = .ok (.invokevirtual 61, 3) := by decide +kernel
theorem dL_law_506 : decode cL_law 506 = .ok (.if_icmp .eq 687, 3) := by decide +kernel
theorem dL_law_509 : decode cL_law 509 = .ok (.iconst 0, 1) := by decide +kernel
theorem dL_law_510 : decode cL_law 510 = .ok (.ireturn, 1) := by decide +kernel
theorem dL_law_511 : decode cL_law 511 = .ok (.aload_n 1, 1) := by decide +kernel
theorem dL_law_512 : decode cL_law 512 = .ok (.aload_n 0, 1) := by decide +kernel
theorem dL_law_513 : decode cL_law 513 = .ok (.iload_n 3, 1) := by decide +kernel
theorem dL_law_514 : decode cL_law 514 = .ok (.iconst 1, 1) := by decide +kernel
theorem dL_law_515 : decode cL_law 515 = .ok (.iadd, 1) := by decide +kernel
theorem dL_law_516 : decode cL_law 516 = .ok (.iaload, 1) := by decide +kernel
theorem dL_law_517 : decode cL_law 517 = .ok (.invokevirtual 62, 3) := by decide +kernel
theorem dL_law_520 : decode cL_law 520 = .ok (.aload_n 2, 1) := by decide +kernel
theorem dL_law_521 : decode cL_law 521 = .ok (.aload_n 0, 1) := by decide +kernel
theorem dL_law_522 : decode cL_law 522 = .ok (.iload_n 3, 1) := by decide +kernel
theorem dL_law_523 : decode cL_law 523 = .ok (.iconst 1, 1) := by decide +kernel
theorem dL_law_524 : decode cL_law 524 = .ok (.iadd, 1) := by decide +kernel
theorem dL_law_525 : decode cL_law 525 = .ok (.iaload, 1) := by decide +kernel
theorem dL_law_526 : decode cL_law 526 = .ok (.invokevirtual 65, 3) := by decide +kernel
theorem dL_law_529 : decode cL_law 529 = .ok (.if_icmp .eq 664, 3) := by decide +kernel
theorem dL_law_532 : decode cL_law 532 = .ok (.iconst 0, 1) := by decide +kernel
theorem dL_law_533 : decode cL_law 533 = .ok (.ireturn, 1) := by decide +kernel
theorem dL_law_534 : decode cL_law 534 = .ok (.aload_n 1, 1) := by decide +kernel
theorem dL_law_535 : decode cL_law 535 = .ok (.aload_n 0, 1) := by decide +kernel
theorem dL_law_536 : decode cL_law 536 = .ok (.iload_n 3, 1) := by decide +kernel
theorem dL_law_537 : decode cL_law 537 = .ok (.iconst 1, 1) := by decide +kernel
theorem dL_law_538 : decode cL_law 538 = .ok (.iadd, 1) := by decide +kernel
theorem dL_law_539 : decode cL_law 539 = .ok (.iaload, 1) := by decide +kernel
theorem dL_law_540 : decode cL_law 540 = .ok (.invokevirtual 66, 3) := by decide +kernel
theorem dL_law_543 : decode cL_law 543 = .ok (.aload_n 2, 1) := by decide +kernel
theorem dL_law_544 : decode cL_law 544 = .ok (.aload_n 0, 1) := by decide +kernel
theorem dL_law_545 : decode cL_law 545 = .ok (.iload_n 3, 1) := by decide +kernel
theorem dL_law_546 : decode cL_law 546 = .ok (.iconst 1, 1) := by decide +kernel
theorem dL_law_547 : decode cL_law 547 = .ok (.iadd, 1) := by decide +kernel
theorem dL_law_548 : decode cL_law 548 = .ok (.iaload, 1) := by decide +kernel
theorem dL_law_549 : decode cL_law 549 = .ok (.invokevirtual 69, 3) := by decide +kernel
theorem dL_law_552 : decode cL_law 552 = .ok (.if_icmp .eq 641, 3) := by decide +kernel
theorem dL_law_555 : decode cL_law 555 = .ok (.iconst 0, 1) := by decide +kernel
theorem dL_law_556 : decode cL_law 556 = .ok (.ireturn, 1) := by decide +kernel
theorem dL_law_557 : decode cL_law 557 = .ok (.aload_n 1, 1) := by decide +kernel
theorem dL_law_558 : decode cL_law 558 = .ok (.aload_n 0, 1) := by decide +kernel
theorem dL_law_559 : decode cL_law 559 = .ok (.iload_n 3, 1) := by decide +kernel
theorem dL_law_560 : decode cL_law 560 = .ok (.iconst 1, 1) := by decide +kernel
theorem dL_law_561 : decode cL_law 561 = .ok (.iadd, 1) := by decide +kernel
theorem dL_law_562 : decode cL_law 562 = .ok (.iaload, 1) := by decide +kernel
theorem dL_law_563 : decode cL_law 563 = .ok (.aload_n 0, 1) := by decide +kernel
theorem dL_law_564 : decode cL_law 564 = .ok (.iload_n 3, 1) := by decide +kernel
theorem dL_law_565 : decode cL_law 565 = .ok (.iconst 2, 1) := by decide +kernel
theorem dL_law_566 : decode cL_law 566 = .ok (.iadd, 1) := by decide +kernel
theorem dL_law_567 : decode cL_law 567 = .ok (.iaload, 1) := by decide +kernel
theorem dL_law_568 : decode cL_law 568 = .ok (.invokevirtual 70, 3) := by decide +kernel
theorem dL_law_571 : decode cL_law 571 = .ok (.aload_n 2, 1) := by decide +kernel
theorem dL_law_572 : decode cL_law 572 = .ok (.aload_n 0, 1) := by decide +kernel
theorem dL_law_573 : decode cL_law 573 = .ok (.iload_n 3, 1) := by decide +kernel
theorem dL_law_574 : decode cL_law 574 = .ok (.iconst 1, 1) := by decide +kernel
theorem dL_law_575 : decode cL_law 575 = .ok (.iadd, 1) := by decide +kernel
theorem dL_law_576 : decode cL_law 576 = .ok (.iaload, 1) := by decide +kernel
theorem dL_law_577 : decode cL_law 577 = .ok (.aload_n 0, 1) := by decide +kernel
theorem dL_law_578 : decode cL_law 578 = .ok (.iload_n 3, 1) := by decide +kernel
theorem dL_law_579 : decode cL_law 579 = .ok (.iconst 2, 1) := by decide +kernel
theorem dL_law_580 : decode cL_law 580 = .ok (.iadd, 1) := by decide +kernel
theorem dL_law_581 : decode cL_law 581 = .ok (.iaload, 1) := by decide +kernel
theorem dL_law_582 : decode cL_law 582 = .ok (.invokevirtual 73, 3) := by decide +kernel
theorem dL_law_585 : decode cL_law 585 = .ok (.if_icmp .eq 608, 3) := by decide +kernel
theorem dL_law_588 : decode cL_law 588 = .ok (.iconst 0, 1) := by decide +kernel
theorem dL_law_589 : decode cL_law 589 = .ok (.ireturn, 1) := by decide +kernel
theorem dL_law_590 : decode cL_law 590 = .ok (.aload_n 1, 1) := by decide +kernel
theorem dL_law_591 : decode cL_law 591 = .ok (.aload_n 0, 1) := by decide +kernel
theorem dL_law_592 : decode cL_law 592 = .ok (.iload_n 3, 1) := by decide +kernel
theorem dL_law_593 : decode cL_law 593 = .ok (.iconst 1, 1) := by decide +kernel
theorem dL_law_594 : decode cL_law 594 = .ok (.iadd, 1) := by decide +kernel
theorem dL_law_595 : decode cL_law 595 = .ok (.iaload, 1) := by decide +kernel
theorem dL_law_596 : decode cL_law 596 = .ok (.aload_n 0, 1) := by decide +kernel
theorem dL_law_597 : decode cL_law 597 = .ok (.iload_n 3, 1) := by decide +kernel
theorem dL_law_598 : decode cL_law 598 = .ok (.iconst 2, 1) := by decide +kernel
theorem dL_law_599 : decode cL_law 599 = .ok (.iadd, 1) := by decide +kernel
theorem dL_law_600 : decode cL_law 600 = .ok (.iaload, 1) := by decide +kernel
theorem dL_law_601 : decode cL_law 601 = .ok (.aload_n 0, 1) := by decide +kernel
theorem dL_law_602 : decode cL_law 602 = .ok (.iload_n 3, 1) := by decide +kernel
theorem dL_law_603 : decode cL_law 603 = .ok (.iconst 3, 1) := by decide +kernel
theorem dL_law_604 : decode cL_law 604 = .ok (.iadd, 1) := by decide +kernel
theorem dL_law_605 : decode cL_law 605 = .ok (.iaload, 1) := by decide +kernel
theorem dL_law_606 : decode cL_law 606 = .ok (.invokevirtual 74, 3) := by decide +kernel
theorem dL_law_609 : decode cL_law 609 = .ok (.aload_n 2, 1) := by decide +kernel
theorem dL_law_610 : decode cL_law 610 = .ok (.aload_n 0, 1) := by decide +kernel
theorem dL_law_611 : decode cL_law 611 = .ok (.iload_n 3, 1) := by decide +kernel
theorem dL_law_612 : decode cL_law 612 = .ok (.iconst 1, 1) := by decide +kernel
theorem dL_law_613 : decode cL_law 613 = .ok (.iadd, 1) := by decide +kernel
theorem dL_law_614 : decode cL_law 614 = .ok (.iaload, 1) := by decide +kernel
theorem dL_law_615 : decode cL_law 615 = .ok (.aload_n 0, 1) := by decide +kernel
theorem dL_law_616 : decode cL_law 616 = .ok (.iload_n 3, 1) := by decide +kernel
theorem dL_law_617 : decode cL_law 617 = .ok (.iconst 2, 1) := by decide +kernel
theorem dL_law_618 : decode cL_law 618 = .ok (.iadd, 1) := by decide +kernel
theorem dL_law_619 : decode cL_law 619 = .ok (.iaload, 1) := by decide +kernel
theorem dL_law_620 : decode cL_law 620 = .ok (.aload_n 0, 1) := by decide +kernel
theorem dL_law_621 : decode cL_law 621 = .ok (.iload_n 3, 1) := by decide +kernel
theorem dL_law_622 : decode cL_law 622 = .ok (.iconst 3, 1) := by decide +kernel
theorem dL_law_623 : decode cL_law 623 = .ok (.iadd, 1) := by decide +kernel
theorem dL_law_624 : decode cL_law 624 = .ok (.iaload, 1) := by decide +kernel
theorem dL_law_625 : decode cL_law 625 = .ok (.invokevirtual 78, 3) := by decide +kernel
theorem dL_law_628 : decode cL_law 628 = .ok (.if_icmp .eq 565, 3) := by decide +kernel
theorem dL_law_631 : decode cL_law 631 = .ok (.iconst 0, 1) := by decide +kernel
theorem dL_law_632 : decode cL_law 632 = .ok (.ireturn, 1) := by decide +kernel
theorem dL_law_633 : decode cL_law 633 = .ok (.aload_n 1, 1) := by decide +kernel
theorem dL_law_634 : decode cL_law 634 = .ok (.aload_n 0, 1) := by decide +kernel
theorem dL_law_635 : decode cL_law 635 = .ok (.iload_n 3, 1) := by decide +kernel
theorem dL_law_636 : decode cL_law 636 = .ok (.iconst 1, 1) := by decide +kernel
theorem dL_law_637 : decode cL_law 637 = .ok (.iadd, 1) := by decide +kernel
theorem dL_law_638 : decode cL_law 638 = .ok (.iaload, 1) := by decide +kernel
theorem dL_law_639 : decode cL_law 639 = .ok (.aload_n 0, 1) := by decide +kernel
theorem dL_law_640 : decode cL_law 640 = .ok (.iload_n 3, 1) := by decide +kernel
theorem dL_law_641 : decode cL_law 641 = .ok (.iconst 2, 1) := by decide +kernel
theorem dL_law_642 : decode cL_law 642 = .ok (.iadd, 1) := by decide +kernel
theorem dL_law_643 : decode cL_law 643 = .ok (.iaload, 1) := by decide +kernel
theorem dL_law_644 : decode cL_law 644 = .ok (.invokevirtual 79, 3) := by decide +kernel
theorem dL_law_647 : decode cL_law 647 = .ok (.aload_n 2, 1) := by decide +kernel
theorem dL_law_648 : decode cL_law 648 = .ok (.aload_n 0, 1) := by decide +kernel
theorem dL_law_649 : decode cL_law 649 = .ok (.iload_n 3, 1) := by decide +kernel
theorem dL_law_650 : decode cL_law 650 = .ok (.iconst 1, 1) := by decide +kernel
theorem dL_law_651 : decode cL_law 651 = .ok (.iadd, 1) := by decide +kernel
theorem dL_law_652 : decode cL_law 652 = .ok (.iaload, 1) := by decide +kernel
theorem dL_law_653 : decode cL_law 653 = .ok (.aload_n 0, 1) := by decide +kernel
theorem dL_law_654 : decode cL_law 654 = .ok (.iload_n 3, 1) := by decide +kernel
theorem dL_law_655 : decode cL_law 655 = .ok (.iconst 2, 1) := by decide +kernel
theorem dL_law_656 : decode cL_law 656 = .ok (.iadd, 1) := by decide +kernel
theorem dL_law_657 : decode cL_law 657 = .ok (.iaload, 1) := by decide +kernel
theorem dL_law_658 : decode cL_law 658 = .ok (.invokevirtual 82, 3) := by decide +kernel
theorem dL_law_661 : decode cL_law 661 = .ok (.if_icmp .eq 532, 3) := by decide +kernel
theorem dL_law_664 : decode cL_law 664 = .ok (.iconst 0, 1) := by decide +kernel
theorem dL_law_665 : decode cL_law 665 = .ok (.ireturn, 1) := by decide +kernel
theorem dL_law_666 : decode cL_law 666 = .ok (.aload_n 1, 1) := by decide +kernel
theorem dL_law_667 : decode cL_law 667 = .ok (.aload_n 0, 1) := by decide +kernel
theorem dL_law_668 : decode cL_law 668 = .ok (.iload_n 3, 1) := by decide +kernel
theorem dL_law_669 : decode cL_law 669 = .ok (.iconst 1, 1) := by decide +kernel
theorem dL_law_670 : decode cL_law 670 = .ok (.iadd, 1) := by decide +kernel
theorem dL_law_671 : decode cL_law 671 = .ok (.iaload, 1) := by decide +kernel
theorem dL_law_672 : decode cL_law 672 = .ok (.aload_n 0, 1) := by decide +kernel
theorem dL_law_673 : decode cL_law 673 = .ok (.iload_n 3, 1) := by decide +kernel
theorem dL_law_674 : decode cL_law 674 = .ok (.iconst 2, 1) := by decide +kernel
theorem dL_law_675 : decode cL_law 675 = .ok (.iadd, 1) := by decide +kernel
theorem dL_law_676 : decode cL_law 676 = .ok (.iaload, 1) := by decide +kernel
theorem dL_law_677 : decode cL_law 677 = .ok (.aload_n 0, 1) := by decide +kernel
theorem dL_law_678 : decode cL_law 678 = .ok (.iload_n 3, 1) := by decide +kernel
theorem dL_law_679 : decode cL_law 679 = .ok (.iconst 3, 1) := by decide +kernel
theorem dL_law_680 : decode cL_law 680 = .ok (.iadd, 1) := by decide +kernel
theorem dL_law_681 : decode cL_law 681 = .ok (.iaload, 1) := by decide +kernel
theorem dL_law_682 : decode cL_law 682 = .ok (.invokevirtual 83, 3) := by decide +kernel
theorem dL_law_685 : decode cL_law 685 = .ok (.aload_n 2, 1) := by decide +kernel
theorem dL_law_686 : decode cL_law 686 = .ok (.aload_n 0, 1) := by decide +kernel
theorem dL_law_687 : decode cL_law 687 = .ok (.iload_n 3, 1) := by decide +kernel
theorem dL_law_688 : decode cL_law 688 = .ok (.iconst 1, 1) := by decide +kernel
theorem dL_law_689 : decode cL_law 689 = .ok (.iadd, 1) := by decide +kernel
theorem dL_law_690 : decode cL_law 690 = .ok (.iaload, 1) := by decide +kernel
theorem dL_law_691 : decode cL_law 691 = .ok (.aload_n 0, 1) := by decide +kernel
theorem dL_law_692 : decode cL_law 692 = .ok (.iload_n 3, 1) := by decide +kernel
theorem dL_law_693 : decode cL_law 693 = .ok (.iconst 2, 1) := by decide +kernel
theorem dL_law_694 : decode cL_law 694 = .ok (.iadd, 1) := by decide +kernel
theorem dL_law_695 : decode cL_law 695 = .ok (.iaload, 1) := by decide +kernel
theorem dL_law_696 : decode cL_law 696 = .ok (.aload_n 0, 1) := by decide +kernel
theorem dL_law_697 : decode cL_law 697 = .ok (.iload_n 3, 1) := by decide +kernel
theorem dL_law_698 : decode cL_law 698 = .ok (.iconst 3, 1) := by decide +kernel
theorem dL_law_699 : decode cL_law 699 = .ok (.iadd, 1) := by decide +kernel
theorem dL_law_700 : decode cL_law 700 = .ok (.iaload, 1) := by decide +kernel
theorem dL_law_701 : decode cL_law 701 = .ok (.invokevirtual 86, 3) := by decide +kernel
theorem dL_law_704 : decode cL_law 704 = .ok (.if_icmp .eq 489, 3) := by decide +kernel
theorem dL_law_707 : decode cL_law 707 = .ok (.iconst 0, 1) := by decide +kernel
theorem dL_law_708 : decode cL_law 708 = .ok (.ireturn, 1) := by decide +kernel
theorem dL_law_709 : decode cL_law 709 = .ok (.aload_n 1, 1) := by decide +kernel
theorem dL_law_710 : decode cL_law 710 = .ok (.aload_n 0, 1) := by decide +kernel
theorem dL_law_711 : decode cL_law 711 = .ok (.iload_n 3, 1) := by decide +kernel
theorem dL_law_712 : decode cL_law 712 = .ok (.iconst 1, 1) := by decide +kernel
theorem dL_law_713 : decode cL_law 713 = .ok (.iadd, 1) := by decide +kernel
theorem dL_law_714 : decode cL_law 714 = .ok (.iaload, 1) := by decide +kernel
theorem dL_law_715 : decode cL_law 715 = .ok (.aload_n 0, 1) := by decide +kernel
theorem dL_law_716 : decode cL_law 716 = .ok (.iload_n 3, 1) := by decide +kernel
theorem dL_law_717 : decode cL_law 717 = .ok (.iconst 2, 1) := by decide +kernel
theorem dL_law_718 : decode cL_law 718 = .ok (.iadd, 1) := by decide +kernel
theorem dL_law_719 : decode cL_law 719 = .ok (.iaload, 1) := by decide +kernel
theorem dL_law_720 : decode cL_law 720 = .ok (.aload_n 0, 1) := by decide +kernel
theorem dL_law_721 : decode cL_law 721 = .ok (.iload_n 3, 1) := by decide +kernel
theorem dL_law_722 : decode cL_law 722 = .ok (.iconst 3, 1) := by decide +kernel
theorem dL_law_723 : decode cL_law 723 = .ok (.iadd, 1) := by decide +kernel
theorem dL_law_724 : decode cL_law 724 = .ok (.iaload, 1) := by decide +kernel
theorem dL_law_725 : decode cL_law 725 = .ok (.invokevirtual 87, 3) := by decide +kernel
theorem dL_law_728 : decode cL_law 728 = .ok (.aload_n 2, 1) := by decide +kernel
theorem dL_law_729 : decode cL_law 729 = .ok (.aload_n 0, 1) := by decide +kernel
theorem dL_law_730 : decode cL_law 730 = .ok (.iload_n 3, 1) := by decide +kernel
theorem dL_law_731 : decode cL_law 731 = .ok (.iconst 1, 1) := by decide +kernel
theorem dL_law_732 : decode cL_law 732 = .ok (.iadd, 1) := by decide +kernel
theorem dL_law_733 : decode cL_law 733 = .ok (.iaload, 1) := by decide +kernel
theorem dL_law_734 : decode cL_law 734 = .ok (.aload_n 0, 1) := by decide +kernel
theorem dL_law_735 : decode cL_law 735 = .ok (.iload_n 3, 1) := by decide +kernel
theorem dL_law_736 : decode cL_law 736 = .ok (.iconst 2, 1) := by decide +kernel
theorem dL_law_737 : decode cL_law 737 = .ok (.iadd, 1) := by decide +kernel
theorem dL_law_738 : decode cL_law 738 = .ok (.iaload, 1) := by decide +kernel
theorem dL_law_739 : decode cL_law 739 = .ok (.aload_n 0, 1) := by decide +kernel
theorem dL_law_740 : decode cL_law 740 = .ok (.iload_n 3, 1) := by decide +kernel
theorem dL_law_741 : decode cL_law 741 = .ok (.iconst 3, 1) := by decide +kernel
theorem dL_law_742 : decode cL_law 742 = .ok (.iadd, 1) := by decide +kernel
theorem dL_law_743 : decode cL_law 743 = .ok (.iaload, 1) := by decide +kernel
theorem dL_law_744 : decode cL_law 744 = .ok (.invokevirtual 90, 3) := by decide +kernel
theorem dL_law_747 : decode cL_law 747 = .ok (.if_icmp .eq 446, 3) := by decide +kernel
theorem dL_law_750 : decode cL_law 750 = .ok (.iconst 0, 1) := by decide +kernel
theorem dL_law_751 : decode cL_law 751 = .ok (.ireturn, 1) := by decide +kernel
theorem dL_law_752 : decode cL_law 752 = .ok (.aload_n 1, 1) := by decide +kernel
theorem dL_law_753 : decode cL_law 753 = .ok (.aload_n 0, 1) := by decide +kernel
theorem dL_law_754 : decode cL_law 754 = .ok (.iload_n 3, 1) := by decide +kernel
theorem dL_law_755 : decode cL_law 755 = .ok (.iconst 1, 1) := by decide +kernel
theorem dL_law_756 : decode cL_law 756 = .ok (.iadd, 1) := by decide +kernel
theorem dL_law_757 : decode cL_law 757 = .ok (.iaload, 1) := by decide +kernel
theorem dL_law_758 : decode cL_law 758 = .ok (.aload_n 0, 1) := by decide +kernel
theorem dL_law_759 : decode cL_law 759 = .ok (.iload_n 3, 1) := by decide +kernel
theorem dL_law_760 : decode cL_law 760 = .ok (.iconst 2, 1) := by decide +kernel
theorem dL_law_761 : decode cL_law 761 = .ok (.iadd, 1) := by decide +kernel
theorem dL_law_762 : decode cL_law 762 = .ok (.iaload, 1) := by decide +kernel
theorem dL_law_763 : decode cL_law 763 = .ok (.invokevirtual 91, 3) := by decide +kernel
theorem dL_law_766 : decode cL_law 766 = .ok (.aload_n 2, 1) := by decide +kernel
theorem dL_law_767 : decode cL_law 767 = .ok (.aload_n 0, 1) := by decide +kernel
theorem dL_law_768 : decode cL_law 768 = .ok (.iload_n 3, 1) := by decide +kernel
theorem dL_law_769 : decode cL_law 769 = .ok (.iconst 1, 1) := by decide +kernel
theorem dL_law_770 : decode cL_law 770 = .ok (.iadd, 1) := by decide +kernel
theorem dL_law_771 : decode cL_law 771 = .ok (.iaload, 1) := by decide +kernel
theorem dL_law_772 : decode cL_law 772 = .ok (.aload_n 0, 1) := by decide +kernel
theorem dL_law_773 : decode cL_law 773 = .ok (.iload_n 3, 1) := by decide +kernel
theorem dL_law_774 : decode cL_law 774 = .ok (.iconst 2, 1) := by decide +kernel
theorem dL_law_775 : decode cL_law 775 = .ok (.iadd, 1) := by decide +kernel
theorem dL_law_776 : decode cL_law 776 = .ok (.iaload, 1) := by decide +kernel
theorem dL_law_777 : decode cL_law 777 = .ok (.invokevirtual 94, 3) := by decide +kernel
theorem dL_law_780 : decode cL_law 780 = .ok (.if_icmp .eq 413, 3) := by decide +kernel
theorem dL_law_783 : decode cL_law 783 = .ok (.iconst 0, 1) := by decide +kernel
theorem dL_law_784 : decode cL_law 784 = .ok (.ireturn, 1) := by decide +kernel
theorem dL_law_785 : decode cL_law 785 = .ok (.aload_n 1, 1) := by decide +kernel
theorem dL_law_786 : decode cL_law 786 = .ok (.aload_n 0, 1) := by decide +kernel
theorem dL_law_787 : decode cL_law 787 = .ok (.iload_n 3, 1) := by decide +kernel
theorem dL_law_788 : decode cL_law 788 = .ok (.iconst 1, 1) := by decide +kernel
theorem dL_law_789 : decode cL_law 789 = .ok (.iadd, 1) := by decide +kernel
theorem dL_law_790 : decode cL_law 790 = .ok (.iaload, 1) := by decide +kernel
theorem dL_law_791 : decode cL_law 791 = .ok (.invokevirtual 95, 3) := by decide +kernel
theorem dL_law_794 : decode cL_law 794 = .ok (.aload_n 2, 1) := by decide +kernel
theorem dL_law_795 : decode cL_law 795 = .ok (.aload_n 0, 1) := by decide +kernel
theorem dL_law_796 : decode cL_law 796 = .ok (.iload_n 3, 1) := by decide +kernel
theorem dL_law_797 : decode cL_law 797 = .ok (.iconst 1, 1) := by decide +kernel
theorem dL_law_798 : decode cL_law 798 = .ok (.iadd, 1) := by decide +kernel
theorem dL_law_799 : decode cL_law 799 = .ok (.iaload, 1) := by decide +kernel
theorem dL_law_800 : decode cL_law 800 = .ok (.invokevirtual 98, 3) := by decide +kernel
theorem dL_law_803 : decode cL_law 803 = .ok (.if_icmp .eq 390, 3) := by decide +kernel
theorem dL_law_806 : decode cL_law 806 = .ok (.iconst 0, 1) := by decide +kernel
theorem dL_law_807 : decode cL_law 807 = .ok (.ireturn, 1) := by decide +kernel
theorem dL_law_808 : decode cL_law 808 = .ok (.aload_n 1, 1) := by decide +kernel
theorem dL_law_809 : decode cL_law 809 = .ok (.aload_n 0, 1) := by decide +kernel
theorem dL_law_810 : decode cL_law 810 = .ok (.iload_n 3, 1) := by decide +kernel
theorem dL_law_811 : decode cL_law 811 = .ok (.iconst 1, 1) := by decide +kernel
theorem dL_law_812 : decode cL_law 812 = .ok (.iadd, 1) := by decide +kernel
theorem dL_law_813 : decode cL_law 813 = .ok (.iaload, 1) := by decide +kernel
theorem dL_law_814 : decode cL_law 814 = .ok (.aload_n 0, 1) := by decide +kernel
theorem dL_law_815 : decode cL_law 815 = .ok (.iload_n 3, 1) := by decide +kernel
theorem dL_law_816 : decode cL_law 816 = .ok (.iconst 2, 1) := by decide +kernel
theorem dL_law_817 : decode cL_law 817 = .ok (.iadd, 1) := by decide +kernel
theorem dL_law_818 : decode cL_law 818 = .ok (.iaload, 1) := by decide +kernel
theorem dL_law_819 : decode cL_law 819 = .ok (.aload_n 0, 1) := by decide +kernel
theorem dL_law_820 : decode cL_law 820 = .ok (.iload_n 3, 1) := by decide +kernel
theorem dL_law_821 : decode cL_law 821 = .ok (.iconst 3, 1) := by decide +kernel
theorem dL_law_822 : decode cL_law 822 = .ok (.iadd, 1) := by decide +kernel
theorem dL_law_823 : decode cL_law 823 = .ok (.iaload, 1) := by decide +kernel
theorem dL_law_824 : decode cL_law 824 = .ok (.aload_n 0, 1) := by decide +kernel
theorem dL_law_825 : decode cL_law 825 = .ok (.iload_n 3, 1) := by decide +kernel
theorem dL_law_826 : decode cL_law 826 = .ok (.iconst 4, 1) := by decide +kernel
theorem dL_law_827 : decode cL_law 827 = .ok (.iadd, 1) := by decide +kernel
theorem dL_law_828 : decode cL_law 828 = .ok (.iaload, 1) := by decide +kernel
theorem dL_law_829 : decode cL_law 829 = .ok (.invokevirtual 99, 3) := by decide +kernel
theorem dL_law_832 : decode cL_law 832 = .ok (.aload_n 2, 1) := by decide +kernel
theorem dL_law_833 : decode cL_law 833 = .ok (.aload_n 0, 1) := by decide +kernel
theorem dL_law_834 : decode cL_law 834 = .ok (.iload_n 3, 1) := by decide +kernel
theorem dL_law_835 : decode cL_law 835 = .ok (.iconst 1, 1) := by decide +kernel
theorem dL_law_836 : decode cL_law 836 = .ok (.iadd, 1) := by decide +kernel
theorem dL_law_837 : decode cL_law 837 = .ok (.iaload, 1) := by decide +kernel
theorem dL_law_838 : decode cL_law 838 = .ok (.aload_n 0, 1) := by decide +kernel
theorem dL_law_839 : decode cL_law 839 = .ok (.iload_n 3, 1) := by decide +kernel
theorem dL_law_840 : decode cL_law 840 = .ok (.iconst 2, 1) := by decide +kernel
theorem dL_law_841 : decode cL_law 841 = .ok (.iadd, 1) := by decide +kernel
theorem dL_law_842 : decode cL_law 842 = .ok (.iaload, 1) := by decide +kernel
theorem dL_law_843 : decode cL_law 843 = .ok (.aload_n 0, 1) := by decide +kernel
theorem dL_law_844 : decode cL_law 844 = .ok (.iload_n 3, 1) := by decide +kernel
theorem dL_law_845 : decode cL_law 845 = .ok (.iconst 3, 1) := by decide +kernel
theorem dL_law_846 : decode cL_law 846 = .ok (.iadd, 1) := by decide +kernel
theorem dL_law_847 : decode cL_law 847 = .ok (.iaload, 1) := by decide +kernel
theorem dL_law_848 : decode cL_law 848 = .ok (.aload_n 0, 1) := by decide +kernel
theorem dL_law_849 : decode cL_law 849 = .ok (.iload_n 3, 1) := by decide +kernel
theorem dL_law_850 : decode cL_law 850 = .ok (.iconst 4, 1) := by decide +kernel
theorem dL_law_851 : decode cL_law 851 = .ok (.iadd, 1) := by decide +kernel
theorem dL_law_852 : decode cL_law 852 = .ok (.iaload, 1) := by decide +kernel
theorem dL_law_853 : decode cL_law 853 = .ok (.invokevirtual 103, 3) := by decide +kernel
theorem dL_law_856 : decode cL_law 856 = .ok (.if_icmp .eq 337, 3) := by decide +kernel
theorem dL_law_859 : decode cL_law 859 = .ok (.iconst 0, 1) := by decide +kernel
theorem dL_law_860 : decode cL_law 860 = .ok (.ireturn, 1) := by decide +kernel
theorem dL_law_861 : decode cL_law 861 = .ok (.aload_n 1, 1) := by decide +kernel
theorem dL_law_862 : decode cL_law 862 = .ok (.aload_n 0, 1) := by decide +kernel
theorem dL_law_863 : decode cL_law 863 = .ok (.iload_n 3, 1) := by decide +kernel
theorem dL_law_864 : decode cL_law 864 = .ok (.iconst 1, 1) := by decide +kernel
theorem dL_law_865 : decode cL_law 865 = .ok (.iadd, 1) := by decide +kernel
theorem dL_law_866 : decode cL_law 866 = .ok (.iaload, 1) := by decide +kernel
theorem dL_law_867 : decode cL_law 867 = .ok (.invokevirtual 104, 3) := by decide +kernel
theorem dL_law_870 : decode cL_law 870 = .ok (.aload_n 2, 1) := by decide +kernel
theorem dL_law_871 : decode cL_law 871 = .ok (.aload_n 0, 1) := by decide +kernel
theorem dL_law_872 : decode cL_law 872 = .ok (.iload_n 3, 1) := by decide +kernel
theorem dL_law_873 : decode cL_law 873 = .ok (.iconst 1, 1) := by decide +kernel
theorem dL_law_874 : decode cL_law 874 = .ok (.iadd, 1) := by decide +kernel
theorem dL_law_875 : decode cL_law 875 = .ok (.iaload, 1) := by decide +kernel
theorem dL_law_876 : decode cL_law 876 = .ok (.invokevirtual 107, 3) := by decide +kernel
theorem dL_law_879 : decode cL_law 879 = .ok (.if_icmp .eq 314, 3) := by decide +kernel
theorem dL_law_882 : decode cL_law 882 = .ok (.iconst 0, 1) := by decide +kernel
theorem dL_law_883 : decode cL_law 883 = .ok (.ireturn, 1) := by decide +kernel
theorem dL_law_884 : decode cL_law 884 = .ok (.aload_n 1, 1) := by decide +kernel
theorem dL_law_885 : decode cL_law 885 = .ok (.invokevirtual 108, 3) := by decide +kernel
theorem dL_law_888 : decode cL_law 888 = .ok (.aload_n 2, 1) := by decide +kernel
theorem dL_law_889 : decode cL_law 889 = .ok (.invokevirtual 112, 3) := by decide +kernel
theorem dL_law_892 : decode cL_law 892 = .ok (.if_icmp .eq 301, 3) := by decide +kernel
theorem dL_law_895 : decode cL_law 895 = .ok (.iconst 0, 1) := by decide +kernel
theorem dL_law_896 : decode cL_law 896 = .ok (.ireturn, 1) := by decide +kernel
theorem dL_law_897 : decode cL_law 897 = .ok (.aload_n 1, 1) := by decide +kernel
theorem dL_law_898 : decode cL_law 898 = .ok (.aload_n 0, 1) := by decide +kernel
theorem dL_law_899 : decode cL_law 899 = .ok (.iload_n 3, 1) := by decide +kernel
theorem dL_law_900 : decode cL_law 900 = .ok (.iconst 1, 1) := by decide +kernel
theorem dL_law_901 : decode cL_law 901 = .ok (.iadd, 1) := by decide +kernel
theorem dL_law_902 : decode cL_law 902 = .ok (.iaload, 1) := by decide +kernel
theorem dL_law_903 : decode cL_law 903 = .ok (.invokevirtual 113, 3) := by decide +kernel
theorem dL_law_906 : decode cL_law 906 = .ok (.aload_n 2, 1) := by decide +kernel
theorem dL_law_907 : decode cL_law 907 = .ok (.aload_n 0, 1) := by decide +kernel
theorem dL_law_908 : decode cL_law 908 = .ok (.iload_n 3, 1) := by decide +kernel
theorem dL_law_909 : decode cL_law 909 = .ok (.iconst 1, 1) := by decide +kernel
theorem dL_law_910 : decode cL_law 910 = .ok (.iadd, 1) := by decide +kernel
theorem dL_law_911 : decode cL_law 911 = .ok (.iaload, 1) := by decide +kernel
theorem dL_law_912 : decode cL_law 912 = .ok (.invokevirtual 116, 3) := by decide +kernel
theorem dL_law_915 : decode cL_law 915 = .ok (.if_icmp .eq 278, 3) := by decide +kernel
theorem dL_law_918 : decode cL_law 918 = .ok (.iconst 0, 1) := by decide +kernel
theorem dL_law_919 : decode cL_law 919 = .ok (.ireturn, 1) := by decide +kernel
theorem dL_law_920 : decode cL_law 920 = .ok (.aload_n 1, 1) := by decide +kernel
theorem dL_law_921 : decode cL_law 921 = .ok (.aload_n 0, 1) := by decide +kernel
theorem dL_law_922 : decode cL_law 922 = .ok (.iload_n 3, 1) := by decide +kernel
theorem dL_law_923 : decode cL_law 923 = .ok (.iconst 1, 1) := by decide +kernel
theorem dL_law_924 : decode cL_law 924 = .ok (.iadd, 1) := by decide +kernel
theorem dL_law_925 : decode cL_law 925 = .ok (.iaload, 1) := by decide +kernel
theorem dL_law_926 : decode cL_law 926 = .ok (.aload_n 0, 1) := by decide +kernel
theorem dL_law_927 : decode cL_law 927 = .ok (.iload_n 3, 1) := by decide +kernel
theorem dL_law_928 : decode cL_law 928 = .ok (.iconst 2, 1) := by decide +kernel
theorem dL_law_929 : decode cL_law 929 = .ok (.iadd, 1) := by decide +kernel
theorem dL_law_930 : decode cL_law 930 = .ok (.iaload, 1) := by decide +kernel
theorem dL_law_931 : decode cL_law 931 = .ok (.invokevirtual 117, 3) := by decide +kernel
theorem dL_law_934 : decode cL_law 934 = .ok (.aload_n 2, 1) := by decide +kernel
theorem dL_law_935 : decode cL_law 935 = .ok (.aload_n 0, 1) := by decide +kernel
theorem dL_law_936 : decode cL_law 936 = .ok (.iload_n 3, 1) := by decide +kernel
theorem dL_law_937 : decode cL_law 937 = .ok (.iconst 1, 1) := by decide +kernel
theorem dL_law_938 : decode cL_law 938 = .ok (.iadd, 1) := by decide +kernel
theorem dL_law_939 : decode cL_law 939 = .ok (.iaload, 1) := by decide +kernel
theorem dL_law_940 : decode cL_law 940 = .ok (.aload_n 0, 1) := by decide +kernel
theorem dL_law_941 : decode cL_law 941 = .ok (.iload_n 3, 1) := by decide +kernel
theorem dL_law_942 : decode cL_law 942 = .ok (.iconst 2, 1) := by decide +kernel
theorem dL_law_943 : decode cL_law 943 = .ok (.iadd, 1) := by decide +kernel
theorem dL_law_944 : decode cL_law 944 = .ok (.iaload, 1) := by decide +kernel
theorem dL_law_945 : decode cL_law 945 = .ok (.invokevirtual 120, 3) := by decide +kernel
theorem dL_law_948 : decode cL_law 948 = .ok (.if_icmp .eq 245, 3) := by decide +kernel
theorem dL_law_951 : decode cL_law 951 = .ok (.iconst 0, 1) := by decide +kernel
theorem dL_law_952 : decode cL_law 952 = .ok (.ireturn, 1) := by decide +kernel
theorem dL_law_953 : decode cL_law 953 = .ok (.aload_n 1, 1) := by decide +kernel
theorem dL_law_954 : decode cL_law 954 = .ok (.aload_n 0, 1) := by decide +kernel
theorem dL_law_955 : decode cL_law 955 = .ok (.iload_n 3, 1) := by decide +kernel
theorem dL_law_956 : decode cL_law 956 = .ok (.iconst 1, 1) := by decide +kernel
theorem dL_law_957 : decode cL_law 957 = .ok (.iadd, 1) := by decide +kernel
theorem dL_law_958 : decode cL_law 958 = .ok (.iaload, 1) := by decide +kernel
theorem dL_law_959 : decode cL_law 959 = .ok (.aload_n 0, 1) := by decide +kernel
theorem dL_law_960 : decode cL_law 960 = .ok (.iload_n 3, 1) := by decide +kernel
theorem dL_law_961 : decode cL_law 961 = .ok (.iconst 2, 1) := by decide +kernel
theorem dL_law_962 : decode cL_law 962 = .ok (.iadd, 1) := by decide +kernel
theorem dL_law_963 : decode cL_law 963 = .ok (.iaload, 1) := by decide +kernel
theorem dL_law_964 : decode cL_law 964 = .ok (.invokevirtual 121, 3) := by decide +kernel
theorem dL_law_967 : decode cL_law 967 = .ok (.aload_n 2, 1) := by decide +kernel
theorem dL_law_968 : decode cL_law 968 = .ok (.aload_n 0, 1) := by decide +kernel
theorem dL_law_969 : decode cL_law 969 = .ok (.iload_n 3, 1) := by decide +kernel
theorem dL_law_970 : decode cL_law 970 = .ok (.iconst 1, 1) := by decide +kernel
theorem dL_law_971 : decode cL_law 971 = .ok (.iadd, 1) := by decide +kernel
theorem dL_law_972 : decode cL_law 972 = .ok (.iaload, 1) := by decide +kernel
theorem dL_law_973 : decode cL_law 973 = .ok (.aload_n 0, 1) := by decide +kernel
theorem dL_law_974 : decode cL_law 974 = .ok (.iload_n 3, 1) := by decide +kernel
theorem dL_law_975 : decode cL_law 975 = .ok (.iconst 2, 1) := by decide +kernel
theorem dL_law_976 : decode cL_law 976 = .ok (.iadd, 1) := by decide +kernel
theorem dL_law_977 : decode cL_law 977 = .ok (.iaload, 1) := by decide +kernel
theorem dL_law_978 : decode cL_law 978 = .ok (.invokevirtual 124, 3) := by decide +kernel
theorem dL_law_981 : decode cL_law 981 = .ok (.if_icmp .eq 212, 3) := by decide +kernel
theorem dL_law_984 : decode cL_law 984 = .ok (.iconst 0, 1) := by decide +kernel
theorem dL_law_985 : decode cL_law 985 = .ok (.ireturn, 1) := by decide +kernel
theorem dL_law_986 : decode cL_law 986 = .ok (.aload_n 1, 1) := by decide +kernel
theorem dL_law_987 : decode cL_law 987 = .ok (.aload_n 0, 1) := by decide +kernel
theorem dL_law_988 : decode cL_law 988 = .ok (.iload_n 3, 1) := by decide +kernel
theorem dL_law_989 : decode cL_law 989 = .ok (.iconst 1, 1) := by decide +kernel
theorem dL_law_990 : decode cL_law 990 = .ok (.iadd, 1) := by decide +kernel
theorem dL_law_991 : decode cL_law 991 = .ok (.iaload, 1) := by decide +kernel
theorem dL_law_992 : decode cL_law 992 = .ok (.invokevirtual 125, 3) := by decide +kernel
theorem dL_law_995 : decode cL_law 995 = .ok (.aload_n 2, 1) := by decide +kernel
theorem dL_law_996 : decode cL_law 996 = .ok (.aload_n 0, 1) := by decide +kernel
theorem dL_law_997 : decode cL_law 997 = .ok (.iload_n 3, 1) := by decide +kernel
theorem dL_law_998 : decode cL_law 998 = .ok (.iconst 1, 1) := by decide +kernel
theorem dL_law_999 : decode cL_law 999 = .ok (.iadd, 1) := by decide +kernel
theorem dL_law_1000 : decode cL_law 1000 = .ok (.iaload, 1) := by decide +kernel
theorem dL_law_1001 : decode cL_law 1001 = .ok (.invokevirtual 128, 3) := by decide +kernel
theorem dL_law_1004 : decode cL_law 1004 = .ok (.if_icmp .eq 189, 3) := by decide +kernel
theorem dL_law_1007 : decode cL_law 1007 = .ok (.iconst 0, 1) := by decide +kernel
theorem dL_law_1008 : decode cL_law 1008 = .ok (.ireturn, 1) := by decide +kernel
theorem dL_law_1009 : decode cL_law 1009 = .ok (.aload_n 1, 1) := by decide +kernel
theorem dL_law_1010 : decode cL_law 1010 = .ok (.aload_n 0, 1) := by decide +kernel
theorem dL_law_1011 : decode cL_law 1011 = .ok (.iload_n 3, 1) := by decide +kernel
theorem dL_law_1012 : decode cL_law 1012 = .ok (.iconst 1, 1) := by decide +kernel
theorem dL_law_1013 : decode cL_law 1013 = .ok (.iadd, 1) := by decide +kernel
theorem dL_law_1014 : decode cL_law 1014 = .ok (.iaload, 1) := by decide +kernel
theorem dL_law_1015 : decode cL_law 1015 = .ok (.aload_n 0, 1) := by decide +kernel
theorem dL_law_1016 : decode cL_law 1016 = .ok (.iload_n 3, 1) := by decide +kernel
theorem dL_law_1017 : decode cL_law 1017 = .ok (.iconst 2, 1) := by decide +kernel
theorem dL_law_1018 : decode cL_law 1018 = .ok (.iadd, 1) := by decide +kernel
theorem dL_law_1019 : decode cL_law 1019 = .ok (.iaload, 1) := by decide +kernel
theorem dL_law_1020 : decode cL_law 1020 = .ok (.invokevirtual 129, 3) := by decide +kernel
theorem dL_law_1023 : decode cL_law 1023 = .ok (.aload_n 2, 1) := by decide +kernel
theorem dL_law_1024 : decode cL_law 1024 = .ok (.aload_n 0, 1) := by decide +kernel
theorem dL_law_1025 : decode cL_law 1025 = .ok (.iload_n 3, 1) := by decide +kernel
theorem dL_law_1026 : decode cL_law 1026 = .ok (.iconst 1, 1) := by decide +kernel
theorem dL_law_1027 : decode cL_law 1027 = .ok (.iadd, 1) := by decide +kernel
theorem dL_law_1028 : decode cL_law 1028 = .ok (.iaload, 1) := by decide +kernel
theorem dL_law_1029 : decode cL_law 1029 = .ok (.aload_n 0, 1) := by decide +kernel
theorem dL_law_1030 : decode cL_law 1030 = .ok (.iload_n 3, 1) := by decide +kernel
theorem dL_law_1031 : decode cL_law 1031 = .ok (.iconst 2, 1) := by decide +kernel
theorem dL_law_1032 : decode cL_law 1032 = .ok (.iadd, 1) := by decide +kernel
theorem dL_law_1033 : decode cL_law 1033 = .ok (.iaload, 1) := by decide +kernel
theorem dL_law_1034 : decode cL_law 1034 = .ok (.invokevirtual 132, 3) := by decide +kernel
theorem dL_law_1037 : decode cL_law 1037 = .ok (.if_icmp .eq 156, 3) := by decide +kernel
theorem dL_law_1040 : decode cL_law 1040 = .ok (.iconst 0, 1) := by decide +kernel
theorem dL_law_1041 : decode cL_law 1041 = .ok (.ireturn, 1) := by decide +kernel
theorem dL_law_1042 : decode cL_law 1042 = .ok (.aload_n 1, 1) := by decide +kernel
theorem dL_law_1043 : decode cL_law 1043 = .ok (.aload_n 0, 1) := by decide +kernel
theorem dL_law_1044 : decode cL_law 1044 = .ok (.iload_n 3, 1) := by decide +kernel
theorem dL_law_1045 : decode cL_law 1045 = .ok (.iconst 1, 1) := by decide +kernel
theorem dL_law_1046 : decode cL_law 1046 = .ok (.iadd, 1) := by decide +kernel
theorem dL_law_1047 : decode cL_law 1047 = .ok (.iaload, 1) := by decide +kernel
theorem dL_law_1048 : decode cL_law 1048 = .ok (.aload_n 0, 1) := by decide +kernel
theorem dL_law_1049 : decode cL_law 1049 = .ok (.iload_n 3, 1) := by decide +kernel
theorem dL_law_1050 : decode cL_law 1050 = .ok (.iconst 2, 1) := by decide +kernel
theorem dL_law_1051 : decode cL_law 1051 = .ok (.iadd, 1) := by decide +kernel
theorem dL_law_1052 : decode cL_law 1052 = .ok (.iaload, 1) := by decide +kernel
theorem dL_law_1053 : decode cL_law 1053 = .ok (.aload_n 0, 1) := by decide +kernel
theorem dL_law_1054 : decode cL_law 1054 = .ok (.iload_n 3, 1) := by decide +kernel
theorem dL_law_1055 : decode cL_law 1055 = .ok (.iconst 3, 1) := by decide +kernel
theorem dL_law_1056 : decode cL_law 1056 = .ok (.iadd, 1) := by decide +kernel
theorem dL_law_1057 : decode cL_law 1057 = .ok (.iaload, 1) := by decide +kernel
theorem dL_law_1058 : decode cL_law 1058 = .ok (.aload_n 0, 1) := by decide +kernel
theorem dL_law_1059 : decode cL_law 1059 = .ok (.iload_n 3, 1) := by decide +kernel
theorem dL_law_1060 : decode cL_law 1060 = .ok (.iconst 4, 1) := by decide +kernel
theorem dL_law_1061 : decode cL_law 1061 = .ok (.iadd, 1) := by decide +kernel
theorem dL_law_1062 : decode cL_law 1062 = .ok (.iaload, 1) := by decide +kernel
theorem dL_law_1063 : decode cL_law 1063 = .ok (.invokevirtual 133, 3) := by decide +kernel
theorem dL_law_1066 : decode cL_law 1066 = .ok (.aload_n 2, 1) := by decide +kernel
theorem dL_law_1067 : decode cL_law 1067 = .ok (.aload_n 0, 1) := by decide +kernel
theorem dL_law_1068 : decode cL_law 1068 = .ok (.iload_n 3, 1) := by decide +kernel
theorem dL_law_1069 : decode cL_law 1069 = .ok (.iconst 1, 1) := by decide +kernel
theorem dL_law_1070 : decode cL_law 1070 = .ok (.iadd, 1) := by decide +kernel
theorem dL_law_1071 : decode cL_law 1071 = .ok (.iaload, 1) := by decide +kernel
theorem dL_law_1072 : decode cL_law 1072 = .ok (.aload_n 0, 1) := by decide +kernel
theorem dL_law_1073 : decode cL_law 1073 = .ok (.iload_n 3, 1) := by decide +kernel
theorem dL_law_1074 : decode cL_law 1074 = .ok (.iconst 2, 1) := by decide +kernel
theorem dL_law_1075 : decode cL_law 1075 = .ok (.iadd, 1) := by decide +kernel
theorem dL_law_1076 : decode cL_law 1076 = .ok (.iaload, 1) := by decide +kernel
theorem dL_law_1077 : decode cL_law 1077 = .ok (.aload_n 0, 1) := by decide +kernel
theorem dL_law_1078 : decode cL_law 1078 = .ok (.iload_n 3, 1) := by decide +kernel
theorem dL_law_1079 : decode cL_law 1079 = .ok (.iconst 3, 1) := by decide +kernel
theorem dL_law_1080 : decode cL_law 1080 = .ok (.iadd, 1) := by decide +kernel
theorem dL_law_1081 : decode cL_law 1081 = .ok (.iaload, 1) := by decide +kernel
theorem dL_law_1082 : decode cL_law 1082 = .ok (.aload_n 0, 1) := by decide +kernel
theorem dL_law_1083 : decode cL_law 1083 = .ok (.iload_n 3, 1) := by decide +kernel
theorem dL_law_1084 : decode cL_law 1084 = .ok (.iconst 4, 1) := by decide +kernel
theorem dL_law_1085 : decode cL_law 1085 = .ok (.iadd, 1) := by decide +kernel
theorem dL_law_1086 : decode cL_law 1086 = .ok (.iaload, 1) := by decide +kernel
theorem dL_law_1087 : decode cL_law 1087 = .ok (.invokevirtual 136, 3) := by decide +kernel
theorem dL_law_1090 : decode cL_law 1090 = .ok (.if_icmp .eq 103, 3) := by decide +kernel
theorem dL_law_1093 : decode cL_law 1093 = .ok (.iconst 0, 1) := by decide +kernel
theorem dL_law_1094 : decode cL_law 1094 = .ok (.ireturn, 1) := by decide +kernel
theorem dL_law_1095 : decode cL_law 1095 = .ok (.aload_n 1, 1) := by decide +kernel
theorem dL_law_1096 : decode cL_law 1096 = .ok (.invokevirtual 137, 3) := by decide +kernel
theorem dL_law_1099 : decode cL_law 1099 = .ok (.aload_n 2, 1) := by decide +kernel
theorem dL_law_1100 : decode cL_law 1100 = .ok (.invokevirtual 140, 3) := by decide +kernel
theorem dL_law_1103 : decode cL_law 1103 = .ok (.if_icmp .eq 90, 3) := by decide +kernel
theorem dL_law_1106 : decode cL_law 1106 = .ok (.iconst 0, 1) := by decide +kernel
theorem dL_law_1107 : decode cL_law 1107 = .ok (.ireturn, 1) := by decide +kernel
theorem dL_law_1108 : decode cL_law 1108 = .ok (.aload_n 1, 1) := by decide +kernel
theorem dL_law_1109 : decode cL_law 1109 = .ok (.invokevirtual 141, 3) := by decide +kernel
theorem dL_law_1112 : decode cL_law 1112 = .ok (.aload_n 2, 1) := by decide +kernel
theorem dL_law_1113 : decode cL_law 1113 = .ok (.invokevirtual 144, 3) := by decide +kernel
theorem dL_law_1116 : decode cL_law 1116 = .ok (.if_icmp .eq 77, 3) := by decide +kernel
theorem dL_law_1119 : decode cL_law 1119 = .ok (.iconst 0, 1) := by decide +kernel
theorem dL_law_1120 : decode cL_law 1120 = .ok (.ireturn, 1) := by decide +kernel
theorem dL_law_1121 : decode cL_law 1121 = .ok (.aload_n 1, 1) := by decide +kernel
theorem dL_law_1122 : decode cL_law 1122 = .ok (.invokevirtual 145, 3) := by decide +kernel
theorem dL_law_1125 : decode cL_law 1125 = .ok (.aload_n 2, 1) := by decide +kernel
theorem dL_law_1126 : decode cL_law 1126 = .ok (.invokevirtual 148, 3) := by decide +kernel
theorem dL_law_1129 : decode cL_law 1129 = .ok (.if_icmp .eq 64, 3) := by decide +kernel
theorem dL_law_1132 : decode cL_law 1132 = .ok (.iconst 0, 1) := by decide +kernel
theorem dL_law_1133 : decode cL_law 1133 = .ok (.ireturn, 1) := by decide +kernel
theorem dL_law_1134 : decode cL_law 1134 = .ok (.aload_n 1, 1) := by decide +kernel
theorem dL_law_1135 : decode cL_law 1135 = .ok (.aload_n 0, 1) := by decide +kernel
theorem dL_law_1136 : decode cL_law 1136 = .ok (.iload_n 3, 1) := by decide +kernel
theorem dL_law_1137 : decode cL_law 1137 = .ok (.iconst 1, 1) := by decide +kernel
theorem dL_law_1138 : decode cL_law 1138 = .ok (.iadd, 1) := by decide +kernel
theorem dL_law_1139 : decode cL_law 1139 = .ok (.iaload, 1) := by decide +kernel
theorem dL_law_1140 : decode cL_law 1140 = .ok (.invokevirtual 149, 3) := by decide +kernel
theorem dL_law_1143 : decode cL_law 1143 = .ok (.aload_n 2, 1) := by decide +kernel
theorem dL_law_1144 : decode cL_law 1144 = .ok (.aload_n 0, 1) := by decide +kernel
theorem dL_law_1145 : decode cL_law 1145 = .ok (.iload_n 3, 1) := by decide +kernel
theorem dL_law_1146 : decode cL_law 1146 = .ok (.iconst 1, 1) := by decide +kernel
theorem dL_law_1147 : decode cL_law 1147 = .ok (.iadd, 1) := by decide +kernel
theorem dL_law_1148 : decode cL_law 1148 = .ok (.iaload, 1) := by decide +kernel
theorem dL_law_1149 : decode cL_law 1149 = .ok (.invokevirtual 152, 3) := by decide +kernel
theorem dL_law_1152 : decode cL_law 1152 = .ok (.if_icmp .eq 41, 3) := by decide +kernel
theorem dL_law_1155 : decode cL_law 1155 = .ok (.iconst 0, 1) := by decide +kernel
theorem dL_law_1156 : decode cL_law 1156 = .ok (.ireturn, 1) := by decide +kernel
theorem dL_law_1157 : decode cL_law 1157 = .ok (.aload_n 1, 1) := by decide +kernel
theorem dL_law_1158 : decode cL_law 1158 = .ok (.invokevirtual 153, 3) := by decide +kernel
theorem dL_law_1161 : decode cL_law 1161 = .ok (.aload_n 2, 1) := by decide +kernel
theorem dL_law_1162 : decode cL_law 1162 = .ok (.invokevirtual 156, 3) := by decide +kernel
theorem dL_law_1165 : decode cL_law 1165 = .ok (.if_icmp .eq 28, 3) := by decide +kernel
theorem dL_law_1168 : decode cL_law 1168 = .ok (.iconst 0, 1) := by decide +kernel
theorem dL_law_1169 : decode cL_law 1169 = .ok (.ireturn, 1) := by decide +kernel
theorem dL_law_1170 : decode cL_law 1170 = .ok (.aload_n 1, 1) := by decide +kernel
theorem dL_law_1171 : decode cL_law 1171 = .ok (.aload_n 0, 1) := by decide +kernel
theorem dL_law_1172 : decode cL_law 1172 = .ok (.iload_n 3, 1) := by decide +kernel
theorem dL_law_1173 : decode cL_law 1173 = .ok (.iconst 1, 1) := by decide +kernel
theorem dL_law_1174 : decode cL_law 1174 = .ok (.iadd, 1) := by decide +kernel
theorem dL_law_1175 : decode cL_law 1175 = .ok (.iaload, 1) := by decide +kernel
theorem dL_law_1176 : decode cL_law 1176 = .ok (.invokevirtual 157, 3) := by decide +kernel
theorem dL_law_1179 : decode cL_law 1179 = .ok (.aload_n 2, 1) := by decide +kernel
theorem dL_law_1180 : decode cL_law 1180 = .ok (.aload_n 0, 1) := by decide +kernel
theorem dL_law_1181 : decode cL_law 1181 = .ok (.iload_n 3, 1) := by decide +kernel
theorem dL_law_1182 : decode cL_law 1182 = .ok (.iconst 1, 1) := by decide +kernel
theorem dL_law_1183 : decode cL_law 1183 = .ok (.iadd, 1) := by decide +kernel
theorem dL_law_1184 : decode cL_law 1184 = .ok (.iaload, 1) := by decide +kernel
theorem dL_law_1185 : decode cL_law 1185 = .ok (.invokevirtual 160, 3) := by decide +kernel
theorem dL_law_1188 : decode cL_law 1188 = .ok (.if_icmp .eq 5, 3) := by decide +kernel
theorem dL_law_1191 : decode cL_law 1191 = .ok (.iconst 0, 1) := by decide +kernel
theorem dL_law_1192 : decode cL_law 1192 = .ok (.ireturn, 1) := by decide +kernel
theorem dL_law_1193 : decode cL_law 1193 = .ok (.iinc 3 5, 3) := by decide +kernel
theorem dL_law_1196 : decode cL_law 1196 = .ok (.goto (-1178), 3) := by decide +kernel
theorem dL_law_1199 : decode cL_law 1199 = .ok (.iconst 1, 1) := by decide +kernel
theorem dL_law_1200 : decode cL_law 1200 = .ok (.ireturn, 1) := by decide +kernel
end
section
/-- a method: its name, bytes, locals, answer's type, the frames and words that its calls need, its parameters -/
abbrev MI : Type := MethodName × ByteArray × Nat × Option FieldType × Nat × Nat × Nat
abbrev mY (M : MI) : MethodName := M.1
abbrev mC (M : MI) : ByteArray := M.2.1
abbrev mL (M : MI) : Nat := M.2.2.1
abbrev mR (M : MI) : Option FieldType := M.2.2.2.1
abbrev mFr (M : MI) : Nat := M.2.2.2.2.1
abbrev mLc (M : MI) : Nat := M.2.2.2.2.2.1
abbrev mNp (M : MI) : Nat := M.2.2.2.2.2.2
def lw_g : List Cond := lw_tbl.filter goodWord
def isNest : Cond → Bool
  | .methodLinkNest .. => true
  | _ => false
def lw_n : List Cond := lw_tbl.filter isNest
def linkM (own : String) (idx : Nat) (y : MethodName) (cc : ByteArray) : Prop := Cond.methodLink own idx y ∈ lw_tbl ∧ Cond.static y ∈ lw_tbl ∧ Cond.initialized "java/lang/Math" ∈ lw_tbl ∧ Cond.code y cc 2 (some .int) ∈ lw_tbl
def okM (M : MI) : Prop := Cond.code (mY M) (mC M) (mL M) (mR M) ∈ lw_tbl ∧ Cond.initialized (mY M).cls ∈ lw_tbl ∧ plainName (mY M).cls = true ∧ (mY M).cls ≠ "java/lang/invoke/MethodHandle" ∧ (mY M).cls ≠ "java/lang/invoke/VarHandle" ∧ (parseMethodDescriptor (mY M).desc).map (fun d => d.parameters.length) = some (mNp M)
def linkV (own : String) (idx : Nat) (M : MI) : Prop := okM M ∧ Cond.methodLink own idx (mY M) ∈ lw_tbl ∧ Cond.instanceMethod (mY M) ∈ lw_tbl ∧ Cond.selects (mY M).cls (mY M) (mY M) ∈ lw_tbl
def linkS (own : String) (idx : Nat) (M : MI) : Prop := okM M ∧ Cond.methodLink own idx (mY M) ∈ lw_tbl ∧ Cond.static (mY M) ∈ lw_tbl
def linkN (own : String) (idx : Nat) (M : MI) : Prop := okM M ∧ (∃ host, Cond.methodLinkNest own idx (mY M) host ∈ lw_tbl) ∧ Cond.static (mY M) ∈ lw_tbl
def linkI (own : String) (idx : Nat) (M : MI) : Prop := okM M ∧ Cond.methodLink own idx (mY M) ∈ lw_tbl ∧ Cond.instanceMethod (mY M) ∈ lw_tbl ∧ (mY M).name = "<init>" ∧ mR M = none
def linkO (own : String) (idx : Nat) : Prop := Cond.methodLink own idx Lib.objectInit ∈ lw_tbl ∧ Cond.instanceMethod Lib.objectInit ∈ lw_tbl ∧ Cond.code Lib.objectInit ⟨#[0xb1]⟩ 1 none ∈ lw_tbl
def linkC (own : String) (idx : Nat) : Prop := Cond.methodLink own idx arraycopyName ∈ lw_tbl ∧ Cond.native arraycopyName ∈ lw_tbl ∧ Cond.static arraycopyName ∈ lw_tbl ∧ Cond.initialized "java/lang/System" ∈ lw_tbl
/-- what is known of a class: its number, fields, their types -/
def CF (ci : Nat) (C : String) (T : u_T) (n : Nat) (ty : Nat → FieldType) : Prop := vwCl[ci]? = some (C, T, n) ∧ (∀ w ∈ u_ws C T n, w ∈ lw_tbl) ∧ (∀ k, k < n → parseFieldDescriptor (T k).2.2.1 = some (ty k)) ∧ (∀ a, a < n → ∀ b, b < n → a ≠ b → (T a).2.1 ≠ (T b).2.1) ∧ Cond.instantiable C n ∈ lw_tbl ∧ Cond.initialized C ∈ lw_tbl
/-- a field's link: class number, slot, type, final or not -/
def FL (own : String) (idx ci k : Nat) (t : FieldType) (fin : Bool) : Prop := ∃ (C : String) (T : u_T) (n : Nat) (ty : Nat → FieldType), CF ci C T n ty ∧ k < n ∧ Cond.fieldLink own idx (T k).1 (T k).2.1 (T k).2.2.1 ∈ lw_tbl ∧ ty k = t ∧ (T k).2.2.2 = fin ∧ (T k).1 = C
def linkNew (own : String) (idx ci : Nat) (fs : List Value) : Prop := ∃ (C : String) (T : u_T) (n : Nat) (ty : Nat → FieldType), CF ci C T n ty ∧ Cond.classLink own idx C ∈ lw_tbl ∧ n = fs.length ∧ ∀ j, j < n → defaultValue (ty j) = vp_V fs j

set_option maxRecDepth 100000 in
theorem cf0 : CF 0 RX0 TX0 4 tyX0 := ⟨rfl, by decide +kernel, tyX0_ok, nmX0, (List.mem_of_getElem? (i := 67) (by decide +kernel)), (List.mem_of_getElem? (i := 41) (by decide +kernel))⟩
set_option maxRecDepth 100000 in
theorem cf1 : CF 1 RX1 TX1 16 tyX1 := ⟨rfl, by decide +kernel, tyX1_ok, nmX1, (List.mem_of_getElem? (i := 300) (by decide +kernel)), (List.mem_of_getElem? (i := 49) (by decide +kernel))⟩
set_option maxRecDepth 100000 in
theorem cf2 : CF 2 RX2 TX2 2 tyX2 := ⟨rfl, by decide +kernel, tyX2_ok, nmX2, (List.mem_of_getElem? (i := 146) (by decide +kernel)), (List.mem_of_getElem? (i := 44) (by decide +kernel))⟩
set_option maxRecDepth 100000 in
theorem cf3 : CF 3 RX3 TX3 4 tyX3 := ⟨rfl, by decide +kernel, tyX3_ok, nmX3, (List.mem_of_getElem? (i := 73) (by decide +kernel)), (List.mem_of_getElem? (i := 42) (by decide +kernel))⟩
set_option maxRecDepth 100000 in
theorem cf4 : CF 4 RX4 TX4 2 tyX4 := ⟨rfl, by decide +kernel, tyX4_ok, nmX4, (List.mem_of_getElem? (i := 160) (by decide +kernel)), (List.mem_of_getElem? (i := 45) (by decide +kernel))⟩
set_option maxRecDepth 100000 in
theorem cf5 : CF 5 RX5 TX5 8 tyX5 := ⟨rfl, by decide +kernel, tyX5_ok, nmX5, (List.mem_of_getElem? (i := 59) (by decide +kernel)), (List.mem_of_getElem? (i := 40) (by decide +kernel))⟩
set_option maxRecDepth 100000 in
theorem cf6 : CF 6 RX6 TX6 7 tyX6 := ⟨rfl, by decide +kernel, tyX6_ok, nmX6, (List.mem_of_getElem? (i := 51) (by decide +kernel)), (List.mem_of_getElem? (i := 39) (by decide +kernel))⟩
set_option maxRecDepth 100000 in
theorem cf7 : CF 7 RX7 TX7 16 tyX7 := ⟨rfl, by decide +kernel, tyX7_ok, nmX7, (List.mem_of_getElem? (i := 854) (by decide +kernel)), (List.mem_of_getElem? (i := 47) (by decide +kernel))⟩
abbrev mX3_init : MI := (yX3_init, cX3_init, 3, none, 1, 21, 2)
abbrev mX0_init : MI := (yX0_init, cX0_init, 1, none, 2, 43, 0)
abbrev mX0_clear : MI := (yX0_clear, cX0_clear, 1, none, 0, 0, 0)
abbrev mX0_hasRoom : MI := (yX0_hasRoom, cX0_hasRoom, 1, some .boolean, 0, 0, 0)
abbrev mJ7_copyOf_59c91 : MI := (yJ7_copyOf_59c91, cJ7_copyOf_59c91, 3, some (.array .int), 1, 26, 2)
abbrev mX3_reserve : MI := (yX3_reserve, cX3_reserve, 4, none, 2, 48, 1)
abbrev mX0_reserveForAct : MI := (yX0_reserveForAct, cX0_reserveForAct, 1, none, 3, 71, 0)
abbrev mX0_sent : MI := (yX0_sent, cX0_sent, 1, some .int, 0, 0, 0)
abbrev mX0_stillUnderWay : MI := (yX0_stillUnderWay, cX0_stillUnderWay, 1, some .int, 0, 0, 0)
abbrev mX0_hasLetter : MI := (yX0_hasLetter, cX0_hasLetter, 2, some .boolean, 0, 0, 1)
abbrev mX3_get : MI := (yX3_get, cX3_get, 3, some .int, 0, 0, 2)
abbrev mX0_ofLetter : MI := (yX0_ofLetter, cX0_ofLetter, 3, some .int, 1, 22, 2)
abbrev mX0_ofPiece : MI := (yX0_ofPiece, cX0_ofPiece, 4, some .int, 1, 22, 3)
abbrev mX0_nthUnderWay : MI := (yX0_nthUnderWay, cX0_nthUnderWay, 4, some .int, 1, 22, 1)
abbrev mX3_add : MI := (yX3_add, cX3_add, 3, some .int, 0, 0, 0)
abbrev mX3_set : MI := (yX3_set, cX3_set, 4, none, 0, 0, 3)
abbrev mX0_open : MI := (yX0_open, cX0_open, 7, some .int, 1, 23, 5)
abbrev mX0_put : MI := (yX0_put, cX0_put, 7, none, 1, 23, 4)
abbrev mX0_sendCopy : MI := (yX0_sendCopy, cX0_sendCopy, 5, some .int, 2, 49, 1)
abbrev mX0_endAsDelivered : MI := (yX0_endAsDelivered, cX0_endAsDelivered, 2, none, 1, 23, 1)
abbrev mX0_endAsLost : MI := (yX0_endAsLost, cX0_endAsLost, 2, none, 1, 23, 1)
abbrev mX0_findPiece : MI := (yX0_findPiece, cX0_findPiece, 5, some .int, 2, 45, 2)
abbrev mX0_reached : MI := (yX0_reached, cX0_reached, 3, some .boolean, 2, 44, 2)
abbrev mX3_become : MI := (yX3_become, cX3_become, 3, none, 3, 71, 1)
abbrev mX0_become : MI := (yX0_become, cX0_become, 2, none, 4, 93, 1)
abbrev mX6_sameNumbers : MI := (yX6_sameNumbers, cX6_sameNumbers, 4, some .boolean, 0, 0, 3)
abbrev mX3_sameAs : MI := (yX3_sameAs, cX3_sameAs, 2, some .boolean, 1, 23, 1)
abbrev mX0_sameAs : MI := (yX0_sameAs, cX0_sameAs, 2, some .boolean, 2, 44, 1)
abbrev mX1_init : MI := (yX1_init, cX1_init, 2, none, 1, 20, 1)
abbrev mJ7_fill_53178 : MI := (yJ7_fill_53178, cJ7_fill_53178, 4, none, 0, 0, 2)
abbrev mX1_stopAsking : MI := (yX1_stopAsking, cX1_stopAsking, 1, none, 0, 0, 0)
abbrev mX1_enter : MI := (yX1_enter, cX1_enter, 5, none, 0, 0, 4)
abbrev mX1_say : MI := (yX1_say, cX1_say, 4, none, 1, 24, 3)
abbrev mX1_forgetAll : MI := (yX1_forgetAll, cX1_forgetAll, 1, none, 2, 47, 0)
abbrev mX1_begin : MI := (yX1_begin, cX1_begin, 3, none, 3, 67, 1)
abbrev mX1_raiseTerm : MI := (yX1_raiseTerm, cX1_raiseTerm, 2, none, 1, 24, 1)
abbrev mX6_isMember : MI := (yX6_isMember, cX6_isMember, 1, some .boolean, 0, 0, 1)
abbrev mX1_isBeaten : MI := (yX1_isBeaten, cX1_isBeaten, 4, some .boolean, 0, 0, 3)
abbrev mX1_takePiece : MI := (yX1_takePiece, cX1_takePiece, 6, some .boolean, 2, 45, 4)
abbrev mX1_hasNews : MI := (yX1_hasNews, cX1_hasNews, 2, some .boolean, 1, 20, 1)
abbrev mX1_thinksLiving : MI := (yX1_thinksLiving, cX1_thinksLiving, 2, some .boolean, 0, 0, 1)
abbrev mX1_saysItself : MI := (yX1_saysItself, cX1_saysItself, 4, some .boolean, 2, 41, 3)
abbrev mX1_countKind : MI := (yX1_countKind, cX1_countKind, 4, some .int, 0, 0, 1)
abbrev mX1_isAnswered : MI := (yX1_isAnswered, cX1_isAnswered, 2, none, 0, 0, 1)
abbrev mX1_stirred : MI := (yX1_stirred, cX1_stirred, 2, some .long, 0, 0, 1)
abbrev mX1_drawn : MI := (yX1_drawn, cX1_drawn, 3, some .int, 0, 0, 2)
abbrev mX1_draw : MI := (yX1_draw, cX1_draw, 2, some .int, 1, 22, 1)
abbrev mX1_gatherLiving : MI := (yX1_gatherLiving, cX1_gatherLiving, 5, some .int, 1, 21, 2)
abbrev mX1_shuffle : MI := (yX1_shuffle, cX1_shuffle, 9, some .long, 1, 22, 3)
abbrev mX1_makeRound : MI := (yX1_makeRound, cX1_makeRound, 1, none, 2, 50, 0)
abbrev mX1_nextPlace : MI := (yX1_nextPlace, cX1_nextPlace, 2, some .int, 1, 21, 0)
abbrev mX1_stepRound : MI := (yX1_stepRound, cX1_stepRound, 2, some .int, 2, 42, 0)
abbrev mX1_wouldAsk : MI := (yX1_wouldAsk, cX1_wouldAsk, 4, some .int, 2, 50, 1)
abbrev mX1_pickAll : MI := (yX1_pickAll, cX1_pickAll, 4, some .int, 0, 0, 1)
abbrev mX1_pickInOrder : MI := (yX1_pickInOrder, cX1_pickInOrder, 7, some .int, 0, 0, 3)
abbrev mX1_pickFreshest : MI := (yX1_pickFreshest, cX1_pickFreshest, 4, some .int, 1, 26, 1)
abbrev mX1_become : MI := (yX1_become, cX1_become, 2, none, 1, 26, 1)
abbrev mX1_sameAs : MI := (yX1_sameAs, cX1_sameAs, 2, some .boolean, 1, 23, 1)
abbrev mX1_differsIn : MI := (yX1_differsIn, cX1_differsIn, 3, some .int, 0, 0, 1)
abbrev mX2_init : MI := (yX2_init, cX2_init, 1, none, 1, 20, 0)
abbrev mX2_keep : MI := (yX2_keep, cX2_keep, 2, none, 0, 0, 1)
abbrev mX2_throwLatest : MI := (yX2_throwLatest, cX2_throwLatest, 2, some .int, 0, 0, 0)
abbrev mX4_init : MI := (yX4_init, cX4_init, 1, none, 1, 20, 0)
abbrev mX4_add : MI := (yX4_add, cX4_add, 2, none, 2, 48, 1)
abbrev mX4_follow : MI := (yX4_follow, cX4_follow, 6, none, 3, 69, 3)
abbrev mX4_stands : MI := (yX4_stands, cX4_stands, 11, some .boolean, 3, 69, 5)
abbrev mX5_init : MI := (yX5_init, cX5_init, 1, none, 3, 63, 0)
abbrev mJ7_fill_d0a16 : MI := (yJ7_fill_d0a16, cJ7_fill_d0a16, 5, none, 0, 0, 2)
abbrev mX5_clear : MI := (yX5_clear, cX5_clear, 3, none, 1, 24, 0)
abbrev mX5_memberAt : MI := (yX5_memberAt, cX5_memberAt, 3, some (.object "CrowdRoll$Member"), 1, 20, 1)
abbrev mX5_seat : MI := (yX5_seat, cX5_seat, 3, some (.object "CrowdRoll$Member"), 2, 41, 1)
abbrev mX5_upAt : MI := (yX5_upAt, cX5_upAt, 3, some (.object "CrowdRoll$Member"), 2, 42, 1)
abbrev mX5_whyNoMember : MI := (yX5_whyNoMember, cX5_whyNoMember, 2, some .int, 2, 42, 1)
abbrev mX5_whyNoNews : MI := (yX5_whyNoNews, cX5_whyNoNews, 4, some .int, 2, 42, 2)
abbrev mX5_isBeyond : MI := (yX5_isBeyond, cX5_isBeyond, 4, some .boolean, 1, 21, 3)
abbrev mX5_isMissing : MI := (yX5_isMissing, cX5_isMissing, 4, some .boolean, 2, 44, 3)
abbrev mX5_isDown : MI := (yX5_isDown, cX5_isDown, 3, some .boolean, 3, 64, 2)
abbrev mX5_isNotAsTold : MI := (yX5_isNotAsTold, cX5_isNotAsTold, 4, some .boolean, 3, 64, 3)
abbrev mX5_whyRefused : MI := (yX5_whyRefused, cX5_whyRefused, 5, some .int, 4, 87, 3)
abbrev mX5_keepAct : MI := (yX5_keepAct, cX5_keepAct, 7, none, 3, 71, 4)
abbrev mX5_makeMember : MI := (yX5_makeMember, cX5_makeMember, 4, some .int, 4, 89, 2)
abbrev mX5_isCut : MI := (yX5_isCut, cX5_isCut, 3, some .boolean, 1, 20, 2)
abbrev mX5_tally : MI := (yX5_tally, cX5_tally, 2, none, 0, 0, 1)
abbrev mX5_takeNews : MI := (yX5_takeNews, cX5_takeNews, 6, none, 3, 70, 2)
abbrev mX5_send : MI := (yX5_send, cX5_send, 10, some .int, 2, 49, 4)
abbrev mX5_respond : MI := (yX5_respond, cX5_respond, 5, some .int, 3, 78, 2)
abbrev mX5_bring : MI := (yX5_bring, cX5_bring, 5, some .int, 4, 102, 1)
abbrev mX5_setLink : MI := (yX5_setLink, cX5_setLink, 4, some .int, 2, 42, 3)
abbrev mX5_sendDrawn : MI := (yX5_sendDrawn, cX5_sendDrawn, 7, some .int, 3, 78, 3)
abbrev mX5_goAway : MI := (yX5_goAway, cX5_goAway, 2, some .int, 4, 104, 1)
abbrev mX5_endOldDoubts : MI := (yX5_endOldDoubts, cX5_endOldDoubts, 3, none, 2, 47, 1)
abbrev mX5_doubtUnanswered : MI := (yX5_doubtUnanswered, cX5_doubtUnanswered, 3, none, 2, 47, 1)
abbrev mX5_askNext : MI := (yX5_askNext, cX5_askNext, 3, some .int, 3, 78, 1)
abbrev mX5_takeTurn : MI := (yX5_takeTurn, cX5_takeTurn, 3, some .int, 4, 104, 1)
abbrev mX5_fallDown : MI := (yX5_fallDown, cX5_fallDown, 2, some .int, 3, 67, 1)
abbrev mX5_riseUp : MI := (yX5_riseUp, cX5_riseUp, 2, some .int, 2, 45, 1)
abbrev mX5_perform : MI := (yX5_perform, cX5_perform, 8, some .int, 5, 126, 4)
abbrev mX5_firstUp : MI := (yX5_firstUp, cX5_firstUp, 3, some (.object "CrowdRoll$Member"), 3, 64, 0)
abbrev mX5_firstApart : MI := (yX5_firstApart, cX5_firstApart, 6, some .int, 4, 86, 1)
abbrev mX5_countUpWith : MI := (yX5_countUpWith, cX5_countUpWith, 6, some .int, 3, 64, 2)
abbrev mX5_become : MI := (yX5_become, cX5_become, 5, none, 5, 114, 1)
abbrev mX5_sameAs : MI := (yX5_sameAs, cX5_sameAs, 5, some .boolean, 3, 65, 1)
abbrev mX6_init : MI := (yX6_init, cX6_init, 1, none, 4, 83, 0)
abbrev mX6_refused : MI := (yX6_refused, cX6_refused, 2, some .int, 1, 21, 1)
abbrev mX6_settled : MI := (yX6_settled, cX6_settled, 2, some .int, 2, 42, 1)
abbrev mX6_member : MI := (yX6_member, cX6_member, 4, some .int, 6, 153, 2)
abbrev mX6_join : MI := (yX6_join, cX6_join, 3, some .int, 6, 153, 2)
abbrev mX6_leave : MI := (yX6_leave, cX6_leave, 2, some .int, 6, 153, 1)
abbrev mX6_turn : MI := (yX6_turn, cX6_turn, 2, some .int, 6, 153, 1)
abbrev mX6_fall : MI := (yX6_fall, cX6_fall, 2, some .int, 6, 153, 1)
abbrev mX6_rise : MI := (yX6_rise, cX6_rise, 2, some .int, 6, 153, 1)
abbrev mX6_deliver : MI := (yX6_deliver, cX6_deliver, 2, some .int, 6, 153, 1)
abbrev mX6_lose : MI := (yX6_lose, cX6_lose, 2, some .int, 6, 153, 1)
abbrev mX6_twice : MI := (yX6_twice, cX6_twice, 2, some .int, 6, 153, 1)
abbrev mX6_cut : MI := (yX6_cut, cX6_cut, 3, some .int, 6, 153, 2)
abbrev mX6_heal : MI := (yX6_heal, cX6_heal, 3, some .int, 6, 153, 2)
abbrev mX6_letters : MI := (yX6_letters, cX6_letters, 3, some .int, 2, 42, 1)
abbrev mX6_underWay : MI := (yX6_underWay, cX6_underWay, 2, some .int, 2, 45, 1)
abbrev mX6_letter : MI := (yX6_letter, cX6_letter, 3, some .int, 2, 44, 2)
abbrev mX6_carries : MI := (yX6_carries, cX6_carries, 5, some .int, 2, 45, 3)
abbrev mX6_state : MI := (yX6_state, cX6_state, 5, some .int, 3, 63, 2)
abbrev mX6_news : MI := (yX6_news, cX6_news, 6, some .int, 3, 65, 3)
abbrev mX6_as : MI := (yX6_as, cX6_as, 6, some .int, 3, 65, 3)
abbrev mX6_round : MI := (yX6_round, cX6_round, 5, some .int, 3, 63, 2)
abbrev mX6_next : MI := (yX6_next, cX6_next, 4, some .int, 3, 73, 1)
abbrev mX6_copy : MI := (yX6_copy, cX6_copy, 7, some .int, 3, 63, 4)
abbrev mX6_table : MI := (yX6_table, cX6_table, 2, some .int, 2, 42, 1)
abbrev mX6_agree : MI := (yX6_agree, cX6_agree, 1, some .int, 5, 111, 0)
abbrev mX6_apart : MI := (yX6_apart, cX6_apart, 2, some .int, 5, 111, 1)
abbrev mX6_count : MI := (yX6_count, cX6_count, 3, some .int, 4, 89, 2)
abbrev mX6_way : MI := (yX6_way, cX6_way, 5, some .int, 4, 94, 2)
abbrev mX6_wayAt : MI := (yX6_wayAt, cX6_wayAt, 2, some .int, 2, 42, 1)
abbrev mX6_forge : MI := (yX6_forge, cX6_forge, 3, some .int, 2, 42, 2)
abbrev mX6_check : MI := (yX6_check, cX6_check, 6, some .int, 4, 99, 4)
abbrev mX6_replay : MI := (yX6_replay, cX6_replay, 9, some .int, 6, 153, 0)
abbrev mX6_image : MI := (yX6_image, cX6_image, 1, some .int, 6, 138, 0)
abbrev mX6_back : MI := (yX6_back, cX6_back, 1, some .int, 6, 138, 0)
abbrev mX6_trace : MI := (yX6_trace, cX6_trace, 2, some .int, 2, 42, 1)
abbrev mX6_again : MI := (yX6_again, cX6_again, 1, some .int, 1, 21, 0)
abbrev mX6_status : MI := (yX6_status, cX6_status, 2, some .int, 2, 42, 1)
abbrev mX7_init : MI := (yX7_init, cX7_init, 2, none, 1, 20, 0)
abbrev mX7_isIn : MI := (yX7_isIn, cX7_isIn, 6, some .boolean, 0, 0, 3)
abbrev mX7_no : MI := (yX7_no, cX7_no, 2, some .int, 0, 0, 1)
abbrev mX7_of : MI := (yX7_of, cX7_of, 3, some .int, 0, 0, 2)
abbrev mX7_to : MI := (yX7_to, cX7_to, 4, none, 0, 0, 3)
abbrev mX7_newsAt : MI := (yX7_newsAt, cX7_newsAt, 2, some .int, 0, 0, 2)
abbrev mX7_kindOf : MI := (yX7_kindOf, cX7_kindOf, 3, some .int, 1, 21, 2)
abbrev mX7_isMember : MI := (yX7_isMember, cX7_isMember, 1, some .boolean, 0, 0, 1)
abbrev mX7_isMade : MI := (yX7_isMade, cX7_isMade, 2, some .boolean, 1, 22, 1)
abbrev mX7_isLetter : MI := (yX7_isLetter, cX7_isLetter, 2, some .boolean, 0, 0, 1)
abbrev mX7_letterOf : MI := (yX7_letterOf, cX7_letterOf, 3, some .int, 0, 0, 2)
abbrev mX7_isFull : MI := (yX7_isFull, cX7_isFull, 1, some .boolean, 0, 0, 0)
abbrev mX7_ran : MI := (yX7_ran, cX7_ran, 2, none, 0, 0, 1)
abbrev mX7_draw : MI := (yX7_draw, cX7_draw, 3, some .int, 0, 0, 2)
abbrev mX7_writes : MI := (yX7_writes, cX7_writes, 7, none, 1, 22, 5)
abbrev mX7_takes : MI := (yX7_takes, cX7_takes, 8, none, 2, 48, 5)
abbrev mX7_carry : MI := (yX7_carry, cX7_carry, 5, none, 1, 21, 2)
abbrev mX7_leastTold : MI := (yX7_leastTold, cX7_leastTold, 6, some .int, 1, 21, 1)
abbrev mX7_send : MI := (yX7_send, cX7_send, 9, some .int, 2, 46, 4)
abbrev mX7_answered : MI := (yX7_answered, cX7_answered, 3, none, 1, 23, 2)
abbrev mX7_comes : MI := (yX7_comes, cX7_comes, 7, some .int, 3, 75, 1)
abbrev mX7_isAround : MI := (yX7_isAround, cX7_isAround, 3, some .boolean, 2, 43, 2)
abbrev mX7_gather : MI := (yX7_gather, cX7_gather, 4, none, 3, 65, 2)
abbrev mX7_mix : MI := (yX7_mix, cX7_mix, 5, none, 4, 88, 1)
abbrev mX7_stillThere : MI := (yX7_stillThere, cX7_stillThere, 3, some .int, 3, 65, 1)
abbrev mX7_nextOf : MI := (yX7_nextOf, cX7_nextOf, 4, some .int, 5, 112, 1)
abbrev mX7_sendsThree : MI := (yX7_sendsThree, cX7_sendsThree, 9, some .int, 4, 88, 4)
abbrev mX7_takesTurn : MI := (yX7_takesTurn, cX7_takesTurn, 7, some .int, 6, 135, 1)
abbrev mX7_why : MI := (yX7_why, cX7_why, 3, some .int, 2, 43, 2)
abbrev mX7_did : MI := (yX7_did, cX7_did, 2, some .int, 0, 0, 1)
abbrev mX7_goesQuiet : MI := (yX7_goesQuiet, cX7_goesQuiet, 2, none, 1, 23, 1)
abbrev mX7_member : MI := (yX7_member, cX7_member, 6, some .int, 2, 48, 2)
abbrev mX7_join : MI := (yX7_join, cX7_join, 3, some .int, 3, 74, 2)
abbrev mX7_leave : MI := (yX7_leave, cX7_leave, 4, some .int, 5, 116, 1)
abbrev mX7_turn : MI := (yX7_turn, cX7_turn, 3, some .int, 7, 161, 1)
abbrev mX7_fall : MI := (yX7_fall, cX7_fall, 4, some .int, 3, 65, 1)
abbrev mX7_rise : MI := (yX7_rise, cX7_rise, 3, some .int, 3, 65, 1)
abbrev mX7_whyLetter : MI := (yX7_whyLetter, cX7_whyLetter, 2, some .int, 1, 22, 1)
abbrev mX7_deliver : MI := (yX7_deliver, cX7_deliver, 6, some .int, 4, 101, 1)
abbrev mX7_withState : MI := (yX7_withState, cX7_withState, 4, some .int, 1, 22, 1)
abbrev mX7_lose : MI := (yX7_lose, cX7_lose, 3, some .int, 2, 45, 1)
abbrev mX7_twice : MI := (yX7_twice, cX7_twice, 5, some .int, 2, 43, 1)
abbrev mX7_links : MI := (yX7_links, cX7_links, 5, some .int, 1, 21, 3)
abbrev mX7_cut : MI := (yX7_cut, cX7_cut, 3, some .int, 2, 45, 2)
abbrev mX7_heal : MI := (yX7_heal, cX7_heal, 3, some .int, 2, 45, 2)
abbrev mX7_letters : MI := (yX7_letters, cX7_letters, 2, some .int, 2, 45, 1)
abbrev mX7_underWay : MI := (yX7_underWay, cX7_underWay, 4, some .int, 1, 22, 1)
abbrev mX7_letter : MI := (yX7_letter, cX7_letter, 3, some .int, 1, 25, 2)
abbrev mX7_carries : MI := (yX7_carries, cX7_carries, 4, some .int, 1, 25, 3)
abbrev mX7_state : MI := (yX7_state, cX7_state, 5, some .int, 2, 43, 2)
abbrev mX7_whyNews : MI := (yX7_whyNews, cX7_whyNews, 3, some .int, 2, 43, 2)
abbrev mX7_news : MI := (yX7_news, cX7_news, 5, some .int, 3, 65, 3)
abbrev mX7_as : MI := (yX7_as, cX7_as, 5, some .int, 3, 65, 3)
abbrev mX7_round : MI := (yX7_round, cX7_round, 3, some .int, 2, 43, 2)
abbrev mX7_next : MI := (yX7_next, cX7_next, 5, some .int, 5, 112, 1)
abbrev mX7_copy : MI := (yX7_copy, cX7_copy, 6, some .int, 2, 43, 4)
abbrev mX7_table : MI := (yX7_table, cX7_table, 2, some .int, 1, 25, 1)
abbrev mX7_differ : MI := (yX7_differ, cX7_differ, 6, some .boolean, 1, 21, 3)
abbrev mX7_isApart : MI := (yX7_isApart, cX7_isApart, 4, some .boolean, 2, 46, 0)
abbrev mX7_agree : MI := (yX7_agree, cX7_agree, 1, some .int, 3, 69, 0)
abbrev mX7_apart : MI := (yX7_apart, cX7_apart, 2, some .int, 3, 69, 1)
abbrev mX7_count : MI := (yX7_count, cX7_count, 5, some .int, 2, 43, 2)
abbrev mX7_pieceOf : MI := (yX7_pieceOf, cX7_pieceOf, 5, some .int, 1, 22, 2)
abbrev mX7_way : MI := (yX7_way, cX7_way, 5, some .int, 3, 65, 2)
abbrev mX7_isStep : MI := (yX7_isStep, cX7_isStep, 2, some .boolean, 0, 0, 1)
abbrev mX7_wayAt : MI := (yX7_wayAt, cX7_wayAt, 2, some .int, 1, 21, 1)
abbrev mX7_forge : MI := (yX7_forge, cX7_forge, 3, some .int, 1, 21, 2)
abbrev mX7_stands : MI := (yX7_stands, cX7_stands, 8, some .boolean, 2, 46, 5)
abbrev mX7_check : MI := (yX7_check, cX7_check, 8, some .int, 3, 73, 4)
abbrev mX7_replay : MI := (yX7_replay, cX7_replay, 1, some .int, 0, 0, 0)
abbrev mX7_image : MI := (yX7_image, cX7_image, 2, some .int, 0, 0, 0)
abbrev mX7_back : MI := (yX7_back, cX7_back, 2, some .int, 1, 21, 0)
abbrev mX7_trace : MI := (yX7_trace, cX7_trace, 2, some .int, 1, 25, 1)
abbrev mX7_again : MI := (yX7_again, cX7_again, 2, some .int, 0, 0, 0)
abbrev mX7_status : MI := (yX7_status, cX7_status, 2, some .int, 1, 25, 1)
abbrev mJ9_max_7cf53 : MI := (yJ9_max_7cf53, cJ9_max_7cf53, 2, some .int, 0, 0, 2)
abbrev mJ9_min_7cf53 : MI := (yJ9_min_7cf53, cJ9_min_7cf53, 2, some .int, 0, 0, 2)
abbrev mL_law : MI := (yL_law, cL_law, 4, some .boolean, 8, 183, 1)
theorem ok_mX3_init : okM mX3_init := ⟨List.mem_of_getElem? (i := 76) (by decide +kernel), (List.mem_of_getElem? (i := 42) (by decide +kernel)), by decide +kernel, by decide +kernel, by decide +kernel, by decide +kernel⟩
theorem ok_mX0_init : okM mX0_init := ⟨List.mem_of_getElem? (i := 70) (by decide +kernel), (List.mem_of_getElem? (i := 41) (by decide +kernel)), by decide +kernel, by decide +kernel, by decide +kernel, by decide +kernel⟩
theorem ok_mX0_clear : okM mX0_clear := ⟨List.mem_of_getElem? (i := 785) (by decide +kernel), (List.mem_of_getElem? (i := 41) (by decide +kernel)), by decide +kernel, by decide +kernel, by decide +kernel, by decide +kernel⟩
theorem ok_mX0_hasRoom : okM mX0_hasRoom := ⟨List.mem_of_getElem? (i := 253) (by decide +kernel), (List.mem_of_getElem? (i := 41) (by decide +kernel)), by decide +kernel, by decide +kernel, by decide +kernel, by decide +kernel⟩
theorem ok_mJ7_copyOf_59c91 : okM mJ7_copyOf_59c91 := ⟨List.mem_of_getElem? (i := 267) (by decide +kernel), (List.mem_of_getElem? (i := 46) (by decide +kernel)), by decide +kernel, by decide +kernel, by decide +kernel, by decide +kernel⟩
theorem ok_mX3_reserve : okM mX3_reserve := ⟨List.mem_of_getElem? (i := 261) (by decide +kernel), (List.mem_of_getElem? (i := 42) (by decide +kernel)), by decide +kernel, by decide +kernel, by decide +kernel, by decide +kernel⟩
theorem ok_mX0_reserveForAct : okM mX0_reserveForAct := ⟨List.mem_of_getElem? (i := 290) (by decide +kernel), (List.mem_of_getElem? (i := 41) (by decide +kernel)), by decide +kernel, by decide +kernel, by decide +kernel, by decide +kernel⟩
theorem ok_mX0_sent : okM mX0_sent := ⟨List.mem_of_getElem? (i := 625) (by decide +kernel), (List.mem_of_getElem? (i := 41) (by decide +kernel)), by decide +kernel, by decide +kernel, by decide +kernel, by decide +kernel⟩
theorem ok_mX0_stillUnderWay : okM mX0_stillUnderWay := ⟨List.mem_of_getElem? (i := 478) (by decide +kernel), (List.mem_of_getElem? (i := 41) (by decide +kernel)), by decide +kernel, by decide +kernel, by decide +kernel, by decide +kernel⟩
theorem ok_mX0_hasLetter : okM mX0_hasLetter := ⟨List.mem_of_getElem? (i := 218) (by decide +kernel), (List.mem_of_getElem? (i := 41) (by decide +kernel)), by decide +kernel, by decide +kernel, by decide +kernel, by decide +kernel⟩
theorem ok_mX3_get : okM mX3_get := ⟨List.mem_of_getElem? (i := 233) (by decide +kernel), (List.mem_of_getElem? (i := 42) (by decide +kernel)), by decide +kernel, by decide +kernel, by decide +kernel, by decide +kernel⟩
theorem ok_mX0_ofLetter : okM mX0_ofLetter := ⟨List.mem_of_getElem? (i := 229) (by decide +kernel), (List.mem_of_getElem? (i := 41) (by decide +kernel)), by decide +kernel, by decide +kernel, by decide +kernel, by decide +kernel⟩
theorem ok_mX0_ofPiece : okM mX0_ofPiece := ⟨List.mem_of_getElem? (i := 424) (by decide +kernel), (List.mem_of_getElem? (i := 41) (by decide +kernel)), by decide +kernel, by decide +kernel, by decide +kernel, by decide +kernel⟩
theorem ok_mX0_nthUnderWay : okM mX0_nthUnderWay := ⟨List.mem_of_getElem? (i := 634) (by decide +kernel), (List.mem_of_getElem? (i := 41) (by decide +kernel)), by decide +kernel, by decide +kernel, by decide +kernel, by decide +kernel⟩
theorem ok_mX3_add : okM mX3_add := ⟨List.mem_of_getElem? (i := 282) (by decide +kernel), (List.mem_of_getElem? (i := 42) (by decide +kernel)), by decide +kernel, by decide +kernel, by decide +kernel, by decide +kernel⟩
theorem ok_mX3_set : okM mX3_set := ⟨List.mem_of_getElem? (i := 286) (by decide +kernel), (List.mem_of_getElem? (i := 42) (by decide +kernel)), by decide +kernel, by decide +kernel, by decide +kernel, by decide +kernel⟩
theorem ok_mX0_open : okM mX0_open := ⟨List.mem_of_getElem? (i := 453) (by decide +kernel), (List.mem_of_getElem? (i := 41) (by decide +kernel)), by decide +kernel, by decide +kernel, by decide +kernel, by decide +kernel⟩
theorem ok_mX0_put : okM mX0_put := ⟨List.mem_of_getElem? (i := 470) (by decide +kernel), (List.mem_of_getElem? (i := 41) (by decide +kernel)), by decide +kernel, by decide +kernel, by decide +kernel, by decide +kernel⟩
theorem ok_mX0_sendCopy : okM mX0_sendCopy := ⟨List.mem_of_getElem? (i := 482) (by decide +kernel), (List.mem_of_getElem? (i := 41) (by decide +kernel)), by decide +kernel, by decide +kernel, by decide +kernel, by decide +kernel⟩
theorem ok_mX0_endAsDelivered : okM mX0_endAsDelivered := ⟨List.mem_of_getElem? (i := 416) (by decide +kernel), (List.mem_of_getElem? (i := 41) (by decide +kernel)), by decide +kernel, by decide +kernel, by decide +kernel, by decide +kernel⟩
theorem ok_mX0_endAsLost : okM mX0_endAsLost := ⟨List.mem_of_getElem? (i := 411) (by decide +kernel), (List.mem_of_getElem? (i := 41) (by decide +kernel)), by decide +kernel, by decide +kernel, by decide +kernel, by decide +kernel⟩
theorem ok_mX0_findPiece : okM mX0_findPiece := ⟨List.mem_of_getElem? (i := 742) (by decide +kernel), (List.mem_of_getElem? (i := 41) (by decide +kernel)), by decide +kernel, by decide +kernel, by decide +kernel, by decide +kernel⟩
theorem ok_mX0_reached : okM mX0_reached := ⟨List.mem_of_getElem? (i := 768) (by decide +kernel), (List.mem_of_getElem? (i := 41) (by decide +kernel)), by decide +kernel, by decide +kernel, by decide +kernel, by decide +kernel⟩
theorem ok_mX3_become : okM mX3_become := ⟨List.mem_of_getElem? (i := 829) (by decide +kernel), (List.mem_of_getElem? (i := 42) (by decide +kernel)), by decide +kernel, by decide +kernel, by decide +kernel, by decide +kernel⟩
theorem ok_mX0_become : okM mX0_become := ⟨List.mem_of_getElem? (i := 825) (by decide +kernel), (List.mem_of_getElem? (i := 41) (by decide +kernel)), by decide +kernel, by decide +kernel, by decide +kernel, by decide +kernel⟩
theorem ok_mX6_sameNumbers : okM mX6_sameNumbers := ⟨List.mem_of_getElem? (i := 799) (by decide +kernel), (List.mem_of_getElem? (i := 39) (by decide +kernel)), by decide +kernel, by decide +kernel, by decide +kernel, by decide +kernel⟩
theorem ok_mX3_sameAs : okM mX3_sameAs := ⟨List.mem_of_getElem? (i := 807) (by decide +kernel), (List.mem_of_getElem? (i := 42) (by decide +kernel)), by decide +kernel, by decide +kernel, by decide +kernel, by decide +kernel⟩
theorem ok_mX0_sameAs : okM mX0_sameAs := ⟨List.mem_of_getElem? (i := 803) (by decide +kernel), (List.mem_of_getElem? (i := 41) (by decide +kernel)), by decide +kernel, by decide +kernel, by decide +kernel, by decide +kernel⟩
theorem ok_mX1_init : okM mX1_init := ⟨List.mem_of_getElem? (i := 303) (by decide +kernel), (List.mem_of_getElem? (i := 49) (by decide +kernel)), by decide +kernel, by decide +kernel, by decide +kernel, by decide +kernel⟩
theorem ok_mJ7_fill_53178 : okM mJ7_fill_53178 := ⟨List.mem_of_getElem? (i := 176) (by decide +kernel), (List.mem_of_getElem? (i := 46) (by decide +kernel)), by decide +kernel, by decide +kernel, by decide +kernel, by decide +kernel⟩
theorem ok_mX1_stopAsking : okM mX1_stopAsking := ⟨List.mem_of_getElem? (i := 391) (by decide +kernel), (List.mem_of_getElem? (i := 49) (by decide +kernel)), by decide +kernel, by decide +kernel, by decide +kernel, by decide +kernel⟩
theorem ok_mX1_enter : okM mX1_enter := ⟨List.mem_of_getElem? (i := 399) (by decide +kernel), (List.mem_of_getElem? (i := 49) (by decide +kernel)), by decide +kernel, by decide +kernel, by decide +kernel, by decide +kernel⟩
theorem ok_mX1_say : okM mX1_say := ⟨List.mem_of_getElem? (i := 395) (by decide +kernel), (List.mem_of_getElem? (i := 49) (by decide +kernel)), by decide +kernel, by decide +kernel, by decide +kernel, by decide +kernel⟩
theorem ok_mX1_forgetAll : okM mX1_forgetAll := ⟨List.mem_of_getElem? (i := 386) (by decide +kernel), (List.mem_of_getElem? (i := 49) (by decide +kernel)), by decide +kernel, by decide +kernel, by decide +kernel, by decide +kernel⟩
theorem ok_mX1_begin : okM mX1_begin := ⟨List.mem_of_getElem? (i := 382) (by decide +kernel), (List.mem_of_getElem? (i := 49) (by decide +kernel)), by decide +kernel, by decide +kernel, by decide +kernel, by decide +kernel⟩
theorem ok_mX1_raiseTerm : okM mX1_raiseTerm := ⟨List.mem_of_getElem? (i := 436) (by decide +kernel), (List.mem_of_getElem? (i := 49) (by decide +kernel)), by decide +kernel, by decide +kernel, by decide +kernel, by decide +kernel⟩
theorem ok_mX6_isMember : okM mX6_isMember := ⟨List.mem_of_getElem? (i := 221) (by decide +kernel), (List.mem_of_getElem? (i := 39) (by decide +kernel)), by decide +kernel, by decide +kernel, by decide +kernel, by decide +kernel⟩
theorem ok_mX1_isBeaten : okM mX1_isBeaten := ⟨List.mem_of_getElem? (i := 441) (by decide +kernel), (List.mem_of_getElem? (i := 49) (by decide +kernel)), by decide +kernel, by decide +kernel, by decide +kernel, by decide +kernel⟩
theorem ok_mX1_takePiece : okM mX1_takePiece := ⟨List.mem_of_getElem? (i := 432) (by decide +kernel), (List.mem_of_getElem? (i := 49) (by decide +kernel)), by decide +kernel, by decide +kernel, by decide +kernel, by decide +kernel⟩
theorem ok_mX1_hasNews : okM mX1_hasNews := ⟨List.mem_of_getElem? (i := 670) (by decide +kernel), (List.mem_of_getElem? (i := 49) (by decide +kernel)), by decide +kernel, by decide +kernel, by decide +kernel, by decide +kernel⟩
theorem ok_mX1_thinksLiving : okM mX1_thinksLiving := ⟨List.mem_of_getElem? (i := 508) (by decide +kernel), (List.mem_of_getElem? (i := 49) (by decide +kernel)), by decide +kernel, by decide +kernel, by decide +kernel, by decide +kernel⟩
theorem ok_mX1_saysItself : okM mX1_saysItself := ⟨List.mem_of_getElem? (i := 759) (by decide +kernel), (List.mem_of_getElem? (i := 49) (by decide +kernel)), by decide +kernel, by decide +kernel, by decide +kernel, by decide +kernel⟩
theorem ok_mX1_countKind : okM mX1_countKind := ⟨List.mem_of_getElem? (i := 658) (by decide +kernel), (List.mem_of_getElem? (i := 49) (by decide +kernel)), by decide +kernel, by decide +kernel, by decide +kernel, by decide +kernel⟩
theorem ok_mX1_isAnswered : okM mX1_isAnswered := ⟨List.mem_of_getElem? (i := 474) (by decide +kernel), (List.mem_of_getElem? (i := 49) (by decide +kernel)), by decide +kernel, by decide +kernel, by decide +kernel, by decide +kernel⟩
theorem ok_mX1_stirred : okM mX1_stirred := ⟨List.mem_of_getElem? (i := 515) (by decide +kernel), (List.mem_of_getElem? (i := 49) (by decide +kernel)), by decide +kernel, by decide +kernel, by decide +kernel, by decide +kernel⟩
theorem ok_mX1_drawn : okM mX1_drawn := ⟨List.mem_of_getElem? (i := 520) (by decide +kernel), (List.mem_of_getElem? (i := 49) (by decide +kernel)), by decide +kernel, by decide +kernel, by decide +kernel, by decide +kernel⟩
theorem ok_mX1_draw : okM mX1_draw := ⟨List.mem_of_getElem? (i := 512) (by decide +kernel), (List.mem_of_getElem? (i := 49) (by decide +kernel)), by decide +kernel, by decide +kernel, by decide +kernel, by decide +kernel⟩
theorem ok_mX1_gatherLiving : okM mX1_gatherLiving := ⟨List.mem_of_getElem? (i := 504) (by decide +kernel), (List.mem_of_getElem? (i := 49) (by decide +kernel)), by decide +kernel, by decide +kernel, by decide +kernel, by decide +kernel⟩
theorem ok_mX1_shuffle : okM mX1_shuffle := ⟨List.mem_of_getElem? (i := 549) (by decide +kernel), (List.mem_of_getElem? (i := 49) (by decide +kernel)), by decide +kernel, by decide +kernel, by decide +kernel, by decide +kernel⟩
theorem ok_mX1_makeRound : okM mX1_makeRound := ⟨List.mem_of_getElem? (i := 545) (by decide +kernel), (List.mem_of_getElem? (i := 49) (by decide +kernel)), by decide +kernel, by decide +kernel, by decide +kernel, by decide +kernel⟩
theorem ok_mX1_nextPlace : okM mX1_nextPlace := ⟨List.mem_of_getElem? (i := 541) (by decide +kernel), (List.mem_of_getElem? (i := 49) (by decide +kernel)), by decide +kernel, by decide +kernel, by decide +kernel, by decide +kernel⟩
theorem ok_mX1_stepRound : okM mX1_stepRound := ⟨List.mem_of_getElem? (i := 554) (by decide +kernel), (List.mem_of_getElem? (i := 49) (by decide +kernel)), by decide +kernel, by decide +kernel, by decide +kernel, by decide +kernel⟩
theorem ok_mX1_wouldAsk : okM mX1_wouldAsk := ⟨List.mem_of_getElem? (i := 686) (by decide +kernel), (List.mem_of_getElem? (i := 49) (by decide +kernel)), by decide +kernel, by decide +kernel, by decide +kernel, by decide +kernel⟩
theorem ok_mX1_pickAll : okM mX1_pickAll := ⟨List.mem_of_getElem? (i := 458) (by decide +kernel), (List.mem_of_getElem? (i := 49) (by decide +kernel)), by decide +kernel, by decide +kernel, by decide +kernel, by decide +kernel⟩
theorem ok_mX1_pickInOrder : okM mX1_pickInOrder := ⟨List.mem_of_getElem? (i := 466) (by decide +kernel), (List.mem_of_getElem? (i := 49) (by decide +kernel)), by decide +kernel, by decide +kernel, by decide +kernel, by decide +kernel⟩
theorem ok_mX1_pickFreshest : okM mX1_pickFreshest := ⟨List.mem_of_getElem? (i := 462) (by decide +kernel), (List.mem_of_getElem? (i := 49) (by decide +kernel)), by decide +kernel, by decide +kernel, by decide +kernel, by decide +kernel⟩
theorem ok_mX1_become : okM mX1_become := ⟨List.mem_of_getElem? (i := 820) (by decide +kernel), (List.mem_of_getElem? (i := 49) (by decide +kernel)), by decide +kernel, by decide +kernel, by decide +kernel, by decide +kernel⟩
theorem ok_mX1_sameAs : okM mX1_sameAs := ⟨List.mem_of_getElem? (i := 796) (by decide +kernel), (List.mem_of_getElem? (i := 49) (by decide +kernel)), by decide +kernel, by decide +kernel, by decide +kernel, by decide +kernel⟩
theorem ok_mX1_differsIn : okM mX1_differsIn := ⟨List.mem_of_getElem? (i := 711) (by decide +kernel), (List.mem_of_getElem? (i := 49) (by decide +kernel)), by decide +kernel, by decide +kernel, by decide +kernel, by decide +kernel⟩
theorem ok_mX2_init : okM mX2_init := ⟨List.mem_of_getElem? (i := 149) (by decide +kernel), (List.mem_of_getElem? (i := 44) (by decide +kernel)), by decide +kernel, by decide +kernel, by decide +kernel, by decide +kernel⟩
theorem ok_mX2_keep : okM mX2_keep := ⟨List.mem_of_getElem? (i := 577) (by decide +kernel), (List.mem_of_getElem? (i := 44) (by decide +kernel)), by decide +kernel, by decide +kernel, by decide +kernel, by decide +kernel⟩
theorem ok_mX2_throwLatest : okM mX2_throwLatest := ⟨List.mem_of_getElem? (i := 848) (by decide +kernel), (List.mem_of_getElem? (i := 44) (by decide +kernel)), by decide +kernel, by decide +kernel, by decide +kernel, by decide +kernel⟩
theorem ok_mX4_init : okM mX4_init := ⟨List.mem_of_getElem? (i := 163) (by decide +kernel), (List.mem_of_getElem? (i := 45) (by decide +kernel)), by decide +kernel, by decide +kernel, by decide +kernel, by decide +kernel⟩
theorem ok_mX4_add : okM mX4_add := ⟨List.mem_of_getElem? (i := 737) (by decide +kernel), (List.mem_of_getElem? (i := 45) (by decide +kernel)), by decide +kernel, by decide +kernel, by decide +kernel, by decide +kernel⟩
theorem ok_mX4_follow : okM mX4_follow := ⟨List.mem_of_getElem? (i := 732) (by decide +kernel), (List.mem_of_getElem? (i := 45) (by decide +kernel)), by decide +kernel, by decide +kernel, by decide +kernel, by decide +kernel⟩
theorem ok_mX4_stands : okM mX4_stands := ⟨List.mem_of_getElem? (i := 764) (by decide +kernel), (List.mem_of_getElem? (i := 45) (by decide +kernel)), by decide +kernel, by decide +kernel, by decide +kernel, by decide +kernel⟩
theorem ok_mX5_init : okM mX5_init := ⟨List.mem_of_getElem? (i := 62) (by decide +kernel), (List.mem_of_getElem? (i := 40) (by decide +kernel)), by decide +kernel, by decide +kernel, by decide +kernel, by decide +kernel⟩
theorem ok_mJ7_fill_d0a16 : okM mJ7_fill_d0a16 := ⟨List.mem_of_getElem? (i := 781) (by decide +kernel), (List.mem_of_getElem? (i := 46) (by decide +kernel)), by decide +kernel, by decide +kernel, by decide +kernel, by decide +kernel⟩
theorem ok_mX5_clear : okM mX5_clear := ⟨List.mem_of_getElem? (i := 778) (by decide +kernel), (List.mem_of_getElem? (i := 40) (by decide +kernel)), by decide +kernel, by decide +kernel, by decide +kernel, by decide +kernel⟩
theorem ok_mX5_memberAt : okM mX5_memberAt := ⟨List.mem_of_getElem? (i := 237) (by decide +kernel), (List.mem_of_getElem? (i := 40) (by decide +kernel)), by decide +kernel, by decide +kernel, by decide +kernel, by decide +kernel⟩
theorem ok_mX5_seat : okM mX5_seat := ⟨List.mem_of_getElem? (i := 299) (by decide +kernel), (List.mem_of_getElem? (i := 40) (by decide +kernel)), by decide +kernel, by decide +kernel, by decide +kernel, by decide +kernel⟩
theorem ok_mX5_upAt : okM mX5_upAt := ⟨List.mem_of_getElem? (i := 245) (by decide +kernel), (List.mem_of_getElem? (i := 40) (by decide +kernel)), by decide +kernel, by decide +kernel, by decide +kernel, by decide +kernel⟩
theorem ok_mX5_whyNoMember : okM mX5_whyNoMember := ⟨List.mem_of_getElem? (i := 653) (by decide +kernel), (List.mem_of_getElem? (i := 40) (by decide +kernel)), by decide +kernel, by decide +kernel, by decide +kernel, by decide +kernel⟩
theorem ok_mX5_whyNoNews : okM mX5_whyNoNews := ⟨List.mem_of_getElem? (i := 666) (by decide +kernel), (List.mem_of_getElem? (i := 40) (by decide +kernel)), by decide +kernel, by decide +kernel, by decide +kernel, by decide +kernel⟩
theorem ok_mX5_isBeyond : okM mX5_isBeyond := ⟨List.mem_of_getElem? (i := 214) (by decide +kernel), (List.mem_of_getElem? (i := 40) (by decide +kernel)), by decide +kernel, by decide +kernel, by decide +kernel, by decide +kernel⟩
theorem ok_mX5_isMissing : okM mX5_isMissing := ⟨List.mem_of_getElem? (i := 225) (by decide +kernel), (List.mem_of_getElem? (i := 40) (by decide +kernel)), by decide +kernel, by decide +kernel, by decide +kernel, by decide +kernel⟩
theorem ok_mX5_isDown : okM mX5_isDown := ⟨List.mem_of_getElem? (i := 241) (by decide +kernel), (List.mem_of_getElem? (i := 40) (by decide +kernel)), by decide +kernel, by decide +kernel, by decide +kernel, by decide +kernel⟩
theorem ok_mX5_isNotAsTold : okM mX5_isNotAsTold := ⟨List.mem_of_getElem? (i := 249) (by decide +kernel), (List.mem_of_getElem? (i := 40) (by decide +kernel)), by decide +kernel, by decide +kernel, by decide +kernel, by decide +kernel⟩
theorem ok_mX5_whyRefused : okM mX5_whyRefused := ⟨List.mem_of_getElem? (i := 210) (by decide +kernel), (List.mem_of_getElem? (i := 40) (by decide +kernel)), by decide +kernel, by decide +kernel, by decide +kernel, by decide +kernel⟩
theorem ok_mX5_keepAct : okM mX5_keepAct := ⟨List.mem_of_getElem? (i := 257) (by decide +kernel), (List.mem_of_getElem? (i := 40) (by decide +kernel)), by decide +kernel, by decide +kernel, by decide +kernel, by decide +kernel⟩
theorem ok_mX5_makeMember : okM mX5_makeMember := ⟨List.mem_of_getElem? (i := 295) (by decide +kernel), (List.mem_of_getElem? (i := 40) (by decide +kernel)), by decide +kernel, by decide +kernel, by decide +kernel, by decide +kernel⟩
theorem ok_mX5_isCut : okM mX5_isCut := ⟨List.mem_of_getElem? (i := 407) (by decide +kernel), (List.mem_of_getElem? (i := 40) (by decide +kernel)), by decide +kernel, by decide +kernel, by decide +kernel, by decide +kernel⟩
theorem ok_mX5_tally : okM mX5_tally := ⟨List.mem_of_getElem? (i := 428) (by decide +kernel), (List.mem_of_getElem? (i := 40) (by decide +kernel)), by decide +kernel, by decide +kernel, by decide +kernel, by decide +kernel⟩
theorem ok_mX5_takeNews : okM mX5_takeNews := ⟨List.mem_of_getElem? (i := 420) (by decide +kernel), (List.mem_of_getElem? (i := 40) (by decide +kernel)), by decide +kernel, by decide +kernel, by decide +kernel, by decide +kernel⟩
theorem ok_mX5_send : okM mX5_send := ⟨List.mem_of_getElem? (i := 449) (by decide +kernel), (List.mem_of_getElem? (i := 40) (by decide +kernel)), by decide +kernel, by decide +kernel, by decide +kernel, by decide +kernel⟩
theorem ok_mX5_respond : okM mX5_respond := ⟨List.mem_of_getElem? (i := 445) (by decide +kernel), (List.mem_of_getElem? (i := 40) (by decide +kernel)), by decide +kernel, by decide +kernel, by decide +kernel, by decide +kernel⟩
theorem ok_mX5_bring : okM mX5_bring := ⟨List.mem_of_getElem? (i := 403) (by decide +kernel), (List.mem_of_getElem? (i := 40) (by decide +kernel)), by decide +kernel, by decide +kernel, by decide +kernel, by decide +kernel⟩
theorem ok_mX5_setLink : okM mX5_setLink := ⟨List.mem_of_getElem? (i := 490) (by decide +kernel), (List.mem_of_getElem? (i := 40) (by decide +kernel)), by decide +kernel, by decide +kernel, by decide +kernel, by decide +kernel⟩
theorem ok_mX5_sendDrawn : okM mX5_sendDrawn := ⟨List.mem_of_getElem? (i := 500) (by decide +kernel), (List.mem_of_getElem? (i := 40) (by decide +kernel)), by decide +kernel, by decide +kernel, by decide +kernel, by decide +kernel⟩
theorem ok_mX5_goAway : okM mX5_goAway := ⟨List.mem_of_getElem? (i := 494) (by decide +kernel), (List.mem_of_getElem? (i := 40) (by decide +kernel)), by decide +kernel, by decide +kernel, by decide +kernel, by decide +kernel⟩
theorem ok_mX5_endOldDoubts : okM mX5_endOldDoubts := ⟨List.mem_of_getElem? (i := 529) (by decide +kernel), (List.mem_of_getElem? (i := 40) (by decide +kernel)), by decide +kernel, by decide +kernel, by decide +kernel, by decide +kernel⟩
theorem ok_mX5_doubtUnanswered : okM mX5_doubtUnanswered := ⟨List.mem_of_getElem? (i := 533) (by decide +kernel), (List.mem_of_getElem? (i := 40) (by decide +kernel)), by decide +kernel, by decide +kernel, by decide +kernel, by decide +kernel⟩
theorem ok_mX5_askNext : okM mX5_askNext := ⟨List.mem_of_getElem? (i := 537) (by decide +kernel), (List.mem_of_getElem? (i := 40) (by decide +kernel)), by decide +kernel, by decide +kernel, by decide +kernel, by decide +kernel⟩
theorem ok_mX5_takeTurn : okM mX5_takeTurn := ⟨List.mem_of_getElem? (i := 525) (by decide +kernel), (List.mem_of_getElem? (i := 40) (by decide +kernel)), by decide +kernel, by decide +kernel, by decide +kernel, by decide +kernel⟩
theorem ok_mX5_fallDown : okM mX5_fallDown := ⟨List.mem_of_getElem? (i := 559) (by decide +kernel), (List.mem_of_getElem? (i := 40) (by decide +kernel)), by decide +kernel, by decide +kernel, by decide +kernel, by decide +kernel⟩
theorem ok_mX5_riseUp : okM mX5_riseUp := ⟨List.mem_of_getElem? (i := 564) (by decide +kernel), (List.mem_of_getElem? (i := 40) (by decide +kernel)), by decide +kernel, by decide +kernel, by decide +kernel, by decide +kernel⟩
theorem ok_mX5_perform : okM mX5_perform := ⟨List.mem_of_getElem? (i := 206) (by decide +kernel), (List.mem_of_getElem? (i := 40) (by decide +kernel)), by decide +kernel, by decide +kernel, by decide +kernel, by decide +kernel⟩
theorem ok_mX5_firstUp : okM mX5_firstUp := ⟨List.mem_of_getElem? (i := 707) (by decide +kernel), (List.mem_of_getElem? (i := 40) (by decide +kernel)), by decide +kernel, by decide +kernel, by decide +kernel, by decide +kernel⟩
theorem ok_mX5_firstApart : okM mX5_firstApart := ⟨List.mem_of_getElem? (i := 703) (by decide +kernel), (List.mem_of_getElem? (i := 40) (by decide +kernel)), by decide +kernel, by decide +kernel, by decide +kernel, by decide +kernel⟩
theorem ok_mX5_countUpWith : okM mX5_countUpWith := ⟨List.mem_of_getElem? (i := 724) (by decide +kernel), (List.mem_of_getElem? (i := 40) (by decide +kernel)), by decide +kernel, by decide +kernel, by decide +kernel, by decide +kernel⟩
theorem ok_mX5_become : okM mX5_become := ⟨List.mem_of_getElem? (i := 816) (by decide +kernel), (List.mem_of_getElem? (i := 40) (by decide +kernel)), by decide +kernel, by decide +kernel, by decide +kernel, by decide +kernel⟩
theorem ok_mX5_sameAs : okM mX5_sameAs := ⟨List.mem_of_getElem? (i := 792) (by decide +kernel), (List.mem_of_getElem? (i := 40) (by decide +kernel)), by decide +kernel, by decide +kernel, by decide +kernel, by decide +kernel⟩
theorem ok_mX6_init : okM mX6_init := ⟨List.mem_of_getElem? (i := 54) (by decide +kernel), (List.mem_of_getElem? (i := 39) (by decide +kernel)), by decide +kernel, by decide +kernel, by decide +kernel, by decide +kernel⟩
theorem ok_mX6_refused : okM mX6_refused := ⟨List.mem_of_getElem? (i := 573) (by decide +kernel), (List.mem_of_getElem? (i := 39) (by decide +kernel)), by decide +kernel, by decide +kernel, by decide +kernel, by decide +kernel⟩
theorem ok_mX6_settled : okM mX6_settled := ⟨List.mem_of_getElem? (i := 569) (by decide +kernel), (List.mem_of_getElem? (i := 39) (by decide +kernel)), by decide +kernel, by decide +kernel, by decide +kernel, by decide +kernel⟩
theorem ok_mX6_member : okM mX6_member := ⟨List.mem_of_getElem? (i := 202) (by decide +kernel), (List.mem_of_getElem? (i := 39) (by decide +kernel)), by decide +kernel, by decide +kernel, by decide +kernel, by decide +kernel⟩
theorem ok_mX6_join : okM mX6_join := ⟨List.mem_of_getElem? (i := 581) (by decide +kernel), (List.mem_of_getElem? (i := 39) (by decide +kernel)), by decide +kernel, by decide +kernel, by decide +kernel, by decide +kernel⟩
theorem ok_mX6_leave : okM mX6_leave := ⟨List.mem_of_getElem? (i := 585) (by decide +kernel), (List.mem_of_getElem? (i := 39) (by decide +kernel)), by decide +kernel, by decide +kernel, by decide +kernel, by decide +kernel⟩
theorem ok_mX6_turn : okM mX6_turn := ⟨List.mem_of_getElem? (i := 589) (by decide +kernel), (List.mem_of_getElem? (i := 39) (by decide +kernel)), by decide +kernel, by decide +kernel, by decide +kernel, by decide +kernel⟩
theorem ok_mX6_fall : okM mX6_fall := ⟨List.mem_of_getElem? (i := 593) (by decide +kernel), (List.mem_of_getElem? (i := 39) (by decide +kernel)), by decide +kernel, by decide +kernel, by decide +kernel, by decide +kernel⟩
theorem ok_mX6_rise : okM mX6_rise := ⟨List.mem_of_getElem? (i := 597) (by decide +kernel), (List.mem_of_getElem? (i := 39) (by decide +kernel)), by decide +kernel, by decide +kernel, by decide +kernel, by decide +kernel⟩
theorem ok_mX6_deliver : okM mX6_deliver := ⟨List.mem_of_getElem? (i := 601) (by decide +kernel), (List.mem_of_getElem? (i := 39) (by decide +kernel)), by decide +kernel, by decide +kernel, by decide +kernel, by decide +kernel⟩
theorem ok_mX6_lose : okM mX6_lose := ⟨List.mem_of_getElem? (i := 605) (by decide +kernel), (List.mem_of_getElem? (i := 39) (by decide +kernel)), by decide +kernel, by decide +kernel, by decide +kernel, by decide +kernel⟩
theorem ok_mX6_twice : okM mX6_twice := ⟨List.mem_of_getElem? (i := 609) (by decide +kernel), (List.mem_of_getElem? (i := 39) (by decide +kernel)), by decide +kernel, by decide +kernel, by decide +kernel, by decide +kernel⟩
theorem ok_mX6_cut : okM mX6_cut := ⟨List.mem_of_getElem? (i := 613) (by decide +kernel), (List.mem_of_getElem? (i := 39) (by decide +kernel)), by decide +kernel, by decide +kernel, by decide +kernel, by decide +kernel⟩
theorem ok_mX6_heal : okM mX6_heal := ⟨List.mem_of_getElem? (i := 617) (by decide +kernel), (List.mem_of_getElem? (i := 39) (by decide +kernel)), by decide +kernel, by decide +kernel, by decide +kernel, by decide +kernel⟩
theorem ok_mX6_letters : okM mX6_letters := ⟨List.mem_of_getElem? (i := 621) (by decide +kernel), (List.mem_of_getElem? (i := 39) (by decide +kernel)), by decide +kernel, by decide +kernel, by decide +kernel, by decide +kernel⟩
theorem ok_mX6_underWay : okM mX6_underWay := ⟨List.mem_of_getElem? (i := 630) (by decide +kernel), (List.mem_of_getElem? (i := 39) (by decide +kernel)), by decide +kernel, by decide +kernel, by decide +kernel, by decide +kernel⟩
theorem ok_mX6_letter : okM mX6_letter := ⟨List.mem_of_getElem? (i := 638) (by decide +kernel), (List.mem_of_getElem? (i := 39) (by decide +kernel)), by decide +kernel, by decide +kernel, by decide +kernel, by decide +kernel⟩
theorem ok_mX6_carries : okM mX6_carries := ⟨List.mem_of_getElem? (i := 644) (by decide +kernel), (List.mem_of_getElem? (i := 39) (by decide +kernel)), by decide +kernel, by decide +kernel, by decide +kernel, by decide +kernel⟩
theorem ok_mX6_state : okM mX6_state := ⟨List.mem_of_getElem? (i := 649) (by decide +kernel), (List.mem_of_getElem? (i := 39) (by decide +kernel)), by decide +kernel, by decide +kernel, by decide +kernel, by decide +kernel⟩
theorem ok_mX6_news : okM mX6_news := ⟨List.mem_of_getElem? (i := 662) (by decide +kernel), (List.mem_of_getElem? (i := 39) (by decide +kernel)), by decide +kernel, by decide +kernel, by decide +kernel, by decide +kernel⟩
theorem ok_mX6_as : okM mX6_as := ⟨List.mem_of_getElem? (i := 674) (by decide +kernel), (List.mem_of_getElem? (i := 39) (by decide +kernel)), by decide +kernel, by decide +kernel, by decide +kernel, by decide +kernel⟩
theorem ok_mX6_round : okM mX6_round := ⟨List.mem_of_getElem? (i := 678) (by decide +kernel), (List.mem_of_getElem? (i := 39) (by decide +kernel)), by decide +kernel, by decide +kernel, by decide +kernel, by decide +kernel⟩
theorem ok_mX6_next : okM mX6_next := ⟨List.mem_of_getElem? (i := 682) (by decide +kernel), (List.mem_of_getElem? (i := 39) (by decide +kernel)), by decide +kernel, by decide +kernel, by decide +kernel, by decide +kernel⟩
theorem ok_mX6_copy : okM mX6_copy := ⟨List.mem_of_getElem? (i := 690) (by decide +kernel), (List.mem_of_getElem? (i := 39) (by decide +kernel)), by decide +kernel, by decide +kernel, by decide +kernel, by decide +kernel⟩
theorem ok_mX6_table : okM mX6_table := ⟨List.mem_of_getElem? (i := 695) (by decide +kernel), (List.mem_of_getElem? (i := 39) (by decide +kernel)), by decide +kernel, by decide +kernel, by decide +kernel, by decide +kernel⟩
theorem ok_mX6_agree : okM mX6_agree := ⟨List.mem_of_getElem? (i := 699) (by decide +kernel), (List.mem_of_getElem? (i := 39) (by decide +kernel)), by decide +kernel, by decide +kernel, by decide +kernel, by decide +kernel⟩
theorem ok_mX6_apart : okM mX6_apart := ⟨List.mem_of_getElem? (i := 715) (by decide +kernel), (List.mem_of_getElem? (i := 39) (by decide +kernel)), by decide +kernel, by decide +kernel, by decide +kernel, by decide +kernel⟩
theorem ok_mX6_count : okM mX6_count := ⟨List.mem_of_getElem? (i := 719) (by decide +kernel), (List.mem_of_getElem? (i := 39) (by decide +kernel)), by decide +kernel, by decide +kernel, by decide +kernel, by decide +kernel⟩
theorem ok_mX6_way : okM mX6_way := ⟨List.mem_of_getElem? (i := 728) (by decide +kernel), (List.mem_of_getElem? (i := 39) (by decide +kernel)), by decide +kernel, by decide +kernel, by decide +kernel, by decide +kernel⟩
theorem ok_mX6_wayAt : okM mX6_wayAt := ⟨List.mem_of_getElem? (i := 747) (by decide +kernel), (List.mem_of_getElem? (i := 39) (by decide +kernel)), by decide +kernel, by decide +kernel, by decide +kernel, by decide +kernel⟩
theorem ok_mX6_forge : okM mX6_forge := ⟨List.mem_of_getElem? (i := 751) (by decide +kernel), (List.mem_of_getElem? (i := 39) (by decide +kernel)), by decide +kernel, by decide +kernel, by decide +kernel, by decide +kernel⟩
theorem ok_mX6_check : okM mX6_check := ⟨List.mem_of_getElem? (i := 755) (by decide +kernel), (List.mem_of_getElem? (i := 39) (by decide +kernel)), by decide +kernel, by decide +kernel, by decide +kernel, by decide +kernel⟩
theorem ok_mX6_replay : okM mX6_replay := ⟨List.mem_of_getElem? (i := 774) (by decide +kernel), (List.mem_of_getElem? (i := 39) (by decide +kernel)), by decide +kernel, by decide +kernel, by decide +kernel, by decide +kernel⟩
theorem ok_mX6_image : okM mX6_image := ⟨List.mem_of_getElem? (i := 812) (by decide +kernel), (List.mem_of_getElem? (i := 39) (by decide +kernel)), by decide +kernel, by decide +kernel, by decide +kernel, by decide +kernel⟩
theorem ok_mX6_back : okM mX6_back := ⟨List.mem_of_getElem? (i := 836) (by decide +kernel), (List.mem_of_getElem? (i := 39) (by decide +kernel)), by decide +kernel, by decide +kernel, by decide +kernel, by decide +kernel⟩
theorem ok_mX6_trace : okM mX6_trace := ⟨List.mem_of_getElem? (i := 840) (by decide +kernel), (List.mem_of_getElem? (i := 39) (by decide +kernel)), by decide +kernel, by decide +kernel, by decide +kernel, by decide +kernel⟩
theorem ok_mX6_again : okM mX6_again := ⟨List.mem_of_getElem? (i := 844) (by decide +kernel), (List.mem_of_getElem? (i := 39) (by decide +kernel)), by decide +kernel, by decide +kernel, by decide +kernel, by decide +kernel⟩
theorem ok_mX6_status : okM mX6_status := ⟨List.mem_of_getElem? (i := 852) (by decide +kernel), (List.mem_of_getElem? (i := 39) (by decide +kernel)), by decide +kernel, by decide +kernel, by decide +kernel, by decide +kernel⟩
theorem ok_mX7_init : okM mX7_init := ⟨List.mem_of_getElem? (i := 857) (by decide +kernel), (List.mem_of_getElem? (i := 47) (by decide +kernel)), by decide +kernel, by decide +kernel, by decide +kernel, by decide +kernel⟩
theorem ok_mX7_isIn : okM mX7_isIn := ⟨List.mem_of_getElem? (i := 1094) (by decide +kernel), (List.mem_of_getElem? (i := 47) (by decide +kernel)), by decide +kernel, by decide +kernel, by decide +kernel, by decide +kernel⟩
theorem ok_mX7_no : okM mX7_no := ⟨List.mem_of_getElem? (i := 920) (by decide +kernel), (List.mem_of_getElem? (i := 47) (by decide +kernel)), by decide +kernel, by decide +kernel, by decide +kernel, by decide +kernel⟩
theorem ok_mX7_of : okM mX7_of := ⟨List.mem_of_getElem? (i := 928) (by decide +kernel), (List.mem_of_getElem? (i := 47) (by decide +kernel)), by decide +kernel, by decide +kernel, by decide +kernel, by decide +kernel⟩
theorem ok_mX7_to : okM mX7_to := ⟨List.mem_of_getElem? (i := 939) (by decide +kernel), (List.mem_of_getElem? (i := 47) (by decide +kernel)), by decide +kernel, by decide +kernel, by decide +kernel, by decide +kernel⟩
theorem ok_mX7_newsAt : okM mX7_newsAt := ⟨List.mem_of_getElem? (i := 950) (by decide +kernel), (List.mem_of_getElem? (i := 47) (by decide +kernel)), by decide +kernel, by decide +kernel, by decide +kernel, by decide +kernel⟩
theorem ok_mX7_kindOf : okM mX7_kindOf := ⟨List.mem_of_getElem? (i := 966) (by decide +kernel), (List.mem_of_getElem? (i := 47) (by decide +kernel)), by decide +kernel, by decide +kernel, by decide +kernel, by decide +kernel⟩
theorem ok_mX7_isMember : okM mX7_isMember := ⟨List.mem_of_getElem? (i := 916) (by decide +kernel), (List.mem_of_getElem? (i := 47) (by decide +kernel)), by decide +kernel, by decide +kernel, by decide +kernel, by decide +kernel⟩
theorem ok_mX7_isMade : okM mX7_isMade := ⟨List.mem_of_getElem? (i := 924) (by decide +kernel), (List.mem_of_getElem? (i := 47) (by decide +kernel)), by decide +kernel, by decide +kernel, by decide +kernel, by decide +kernel⟩
theorem ok_mX7_isLetter : okM mX7_isLetter := ⟨List.mem_of_getElem? (i := 1046) (by decide +kernel), (List.mem_of_getElem? (i := 47) (by decide +kernel)), by decide +kernel, by decide +kernel, by decide +kernel, by decide +kernel⟩
theorem ok_mX7_letterOf : okM mX7_letterOf := ⟨List.mem_of_getElem? (i := 1050) (by decide +kernel), (List.mem_of_getElem? (i := 47) (by decide +kernel)), by decide +kernel, by decide +kernel, by decide +kernel, by decide +kernel⟩
theorem ok_mX7_isFull : okM mX7_isFull := ⟨List.mem_of_getElem? (i := 932) (by decide +kernel), (List.mem_of_getElem? (i := 47) (by decide +kernel)), by decide +kernel, by decide +kernel, by decide +kernel, by decide +kernel⟩
theorem ok_mX7_ran : okM mX7_ran := ⟨List.mem_of_getElem? (i := 975) (by decide +kernel), (List.mem_of_getElem? (i := 47) (by decide +kernel)), by decide +kernel, by decide +kernel, by decide +kernel, by decide +kernel⟩
theorem ok_mX7_draw : okM mX7_draw := ⟨List.mem_of_getElem? (i := 1004) (by decide +kernel), (List.mem_of_getElem? (i := 47) (by decide +kernel)), by decide +kernel, by decide +kernel, by decide +kernel, by decide +kernel⟩
theorem ok_mX7_writes : okM mX7_writes := ⟨List.mem_of_getElem? (i := 947) (by decide +kernel), (List.mem_of_getElem? (i := 47) (by decide +kernel)), by decide +kernel, by decide +kernel, by decide +kernel, by decide +kernel⟩
theorem ok_mX7_takes : okM mX7_takes := ⟨List.mem_of_getElem? (i := 1058) (by decide +kernel), (List.mem_of_getElem? (i := 47) (by decide +kernel)), by decide +kernel, by decide +kernel, by decide +kernel, by decide +kernel⟩
theorem ok_mX7_carry : okM mX7_carry := ⟨List.mem_of_getElem? (i := 970) (by decide +kernel), (List.mem_of_getElem? (i := 47) (by decide +kernel)), by decide +kernel, by decide +kernel, by decide +kernel, by decide +kernel⟩
theorem ok_mX7_leastTold : okM mX7_leastTold := ⟨List.mem_of_getElem? (i := 980) (by decide +kernel), (List.mem_of_getElem? (i := 47) (by decide +kernel)), by decide +kernel, by decide +kernel, by decide +kernel, by decide +kernel⟩
theorem ok_mX7_send : okM mX7_send := ⟨List.mem_of_getElem? (i := 962) (by decide +kernel), (List.mem_of_getElem? (i := 47) (by decide +kernel)), by decide +kernel, by decide +kernel, by decide +kernel, by decide +kernel⟩
theorem ok_mX7_answered : okM mX7_answered := ⟨List.mem_of_getElem? (i := 1062) (by decide +kernel), (List.mem_of_getElem? (i := 47) (by decide +kernel)), by decide +kernel, by decide +kernel, by decide +kernel, by decide +kernel⟩
theorem ok_mX7_comes : okM mX7_comes := ⟨List.mem_of_getElem? (i := 1054) (by decide +kernel), (List.mem_of_getElem? (i := 47) (by decide +kernel)), by decide +kernel, by decide +kernel, by decide +kernel, by decide +kernel⟩
theorem ok_mX7_isAround : okM mX7_isAround := ⟨List.mem_of_getElem? (i := 1000) (by decide +kernel), (List.mem_of_getElem? (i := 47) (by decide +kernel)), by decide +kernel, by decide +kernel, by decide +kernel, by decide +kernel⟩
theorem ok_mX7_gather : okM mX7_gather := ⟨List.mem_of_getElem? (i := 996) (by decide +kernel), (List.mem_of_getElem? (i := 47) (by decide +kernel)), by decide +kernel, by decide +kernel, by decide +kernel, by decide +kernel⟩
theorem ok_mX7_mix : okM mX7_mix := ⟨List.mem_of_getElem? (i := 1026) (by decide +kernel), (List.mem_of_getElem? (i := 47) (by decide +kernel)), by decide +kernel, by decide +kernel, by decide +kernel, by decide +kernel⟩
theorem ok_mX7_stillThere : okM mX7_stillThere := ⟨List.mem_of_getElem? (i := 1022) (by decide +kernel), (List.mem_of_getElem? (i := 47) (by decide +kernel)), by decide +kernel, by decide +kernel, by decide +kernel, by decide +kernel⟩
theorem ok_mX7_nextOf : okM mX7_nextOf := ⟨List.mem_of_getElem? (i := 1018) (by decide +kernel), (List.mem_of_getElem? (i := 47) (by decide +kernel)), by decide +kernel, by decide +kernel, by decide +kernel, by decide +kernel⟩
theorem ok_mX7_sendsThree : okM mX7_sendsThree := ⟨List.mem_of_getElem? (i := 992) (by decide +kernel), (List.mem_of_getElem? (i := 47) (by decide +kernel)), by decide +kernel, by decide +kernel, by decide +kernel, by decide +kernel⟩
theorem ok_mX7_takesTurn : okM mX7_takesTurn := ⟨List.mem_of_getElem? (i := 1014) (by decide +kernel), (List.mem_of_getElem? (i := 47) (by decide +kernel)), by decide +kernel, by decide +kernel, by decide +kernel, by decide +kernel⟩
theorem ok_mX7_why : okM mX7_why := ⟨List.mem_of_getElem? (i := 988) (by decide +kernel), (List.mem_of_getElem? (i := 47) (by decide +kernel)), by decide +kernel, by decide +kernel, by decide +kernel, by decide +kernel⟩
theorem ok_mX7_did : okM mX7_did := ⟨List.mem_of_getElem? (i := 954) (by decide +kernel), (List.mem_of_getElem? (i := 47) (by decide +kernel)), by decide +kernel, by decide +kernel, by decide +kernel, by decide +kernel⟩
theorem ok_mX7_goesQuiet : okM mX7_goesQuiet := ⟨List.mem_of_getElem? (i := 943) (by decide +kernel), (List.mem_of_getElem? (i := 47) (by decide +kernel)), by decide +kernel, by decide +kernel, by decide +kernel, by decide +kernel⟩
theorem ok_mX7_member : okM mX7_member := ⟨List.mem_of_getElem? (i := 913) (by decide +kernel), (List.mem_of_getElem? (i := 47) (by decide +kernel)), by decide +kernel, by decide +kernel, by decide +kernel, by decide +kernel⟩
theorem ok_mX7_join : okM mX7_join := ⟨List.mem_of_getElem? (i := 958) (by decide +kernel), (List.mem_of_getElem? (i := 47) (by decide +kernel)), by decide +kernel, by decide +kernel, by decide +kernel, by decide +kernel⟩
theorem ok_mX7_leave : okM mX7_leave := ⟨List.mem_of_getElem? (i := 984) (by decide +kernel), (List.mem_of_getElem? (i := 47) (by decide +kernel)), by decide +kernel, by decide +kernel, by decide +kernel, by decide +kernel⟩
theorem ok_mX7_turn : okM mX7_turn := ⟨List.mem_of_getElem? (i := 1010) (by decide +kernel), (List.mem_of_getElem? (i := 47) (by decide +kernel)), by decide +kernel, by decide +kernel, by decide +kernel, by decide +kernel⟩
theorem ok_mX7_fall : okM mX7_fall := ⟨List.mem_of_getElem? (i := 1030) (by decide +kernel), (List.mem_of_getElem? (i := 47) (by decide +kernel)), by decide +kernel, by decide +kernel, by decide +kernel, by decide +kernel⟩
theorem ok_mX7_rise : okM mX7_rise := ⟨List.mem_of_getElem? (i := 1034) (by decide +kernel), (List.mem_of_getElem? (i := 47) (by decide +kernel)), by decide +kernel, by decide +kernel, by decide +kernel, by decide +kernel⟩
theorem ok_mX7_whyLetter : okM mX7_whyLetter := ⟨List.mem_of_getElem? (i := 1042) (by decide +kernel), (List.mem_of_getElem? (i := 47) (by decide +kernel)), by decide +kernel, by decide +kernel, by decide +kernel, by decide +kernel⟩
theorem ok_mX7_deliver : okM mX7_deliver := ⟨List.mem_of_getElem? (i := 1038) (by decide +kernel), (List.mem_of_getElem? (i := 47) (by decide +kernel)), by decide +kernel, by decide +kernel, by decide +kernel, by decide +kernel⟩
theorem ok_mX7_withState : okM mX7_withState := ⟨List.mem_of_getElem? (i := 1070) (by decide +kernel), (List.mem_of_getElem? (i := 47) (by decide +kernel)), by decide +kernel, by decide +kernel, by decide +kernel, by decide +kernel⟩
theorem ok_mX7_lose : okM mX7_lose := ⟨List.mem_of_getElem? (i := 1066) (by decide +kernel), (List.mem_of_getElem? (i := 47) (by decide +kernel)), by decide +kernel, by decide +kernel, by decide +kernel, by decide +kernel⟩
theorem ok_mX7_twice : okM mX7_twice := ⟨List.mem_of_getElem? (i := 1074) (by decide +kernel), (List.mem_of_getElem? (i := 47) (by decide +kernel)), by decide +kernel, by decide +kernel, by decide +kernel, by decide +kernel⟩
theorem ok_mX7_links : okM mX7_links := ⟨List.mem_of_getElem? (i := 1082) (by decide +kernel), (List.mem_of_getElem? (i := 47) (by decide +kernel)), by decide +kernel, by decide +kernel, by decide +kernel, by decide +kernel⟩
theorem ok_mX7_cut : okM mX7_cut := ⟨List.mem_of_getElem? (i := 1078) (by decide +kernel), (List.mem_of_getElem? (i := 47) (by decide +kernel)), by decide +kernel, by decide +kernel, by decide +kernel, by decide +kernel⟩
theorem ok_mX7_heal : okM mX7_heal := ⟨List.mem_of_getElem? (i := 1086) (by decide +kernel), (List.mem_of_getElem? (i := 47) (by decide +kernel)), by decide +kernel, by decide +kernel, by decide +kernel, by decide +kernel⟩
theorem ok_mX7_letters : okM mX7_letters := ⟨List.mem_of_getElem? (i := 1090) (by decide +kernel), (List.mem_of_getElem? (i := 47) (by decide +kernel)), by decide +kernel, by decide +kernel, by decide +kernel, by decide +kernel⟩
theorem ok_mX7_underWay : okM mX7_underWay := ⟨List.mem_of_getElem? (i := 1098) (by decide +kernel), (List.mem_of_getElem? (i := 47) (by decide +kernel)), by decide +kernel, by decide +kernel, by decide +kernel, by decide +kernel⟩
theorem ok_mX7_letter : okM mX7_letter := ⟨List.mem_of_getElem? (i := 1102) (by decide +kernel), (List.mem_of_getElem? (i := 47) (by decide +kernel)), by decide +kernel, by decide +kernel, by decide +kernel, by decide +kernel⟩
theorem ok_mX7_carries : okM mX7_carries := ⟨List.mem_of_getElem? (i := 1107) (by decide +kernel), (List.mem_of_getElem? (i := 47) (by decide +kernel)), by decide +kernel, by decide +kernel, by decide +kernel, by decide +kernel⟩
theorem ok_mX7_state : okM mX7_state := ⟨List.mem_of_getElem? (i := 1112) (by decide +kernel), (List.mem_of_getElem? (i := 47) (by decide +kernel)), by decide +kernel, by decide +kernel, by decide +kernel, by decide +kernel⟩
theorem ok_mX7_whyNews : okM mX7_whyNews := ⟨List.mem_of_getElem? (i := 1121) (by decide +kernel), (List.mem_of_getElem? (i := 47) (by decide +kernel)), by decide +kernel, by decide +kernel, by decide +kernel, by decide +kernel⟩
theorem ok_mX7_news : okM mX7_news := ⟨List.mem_of_getElem? (i := 1117) (by decide +kernel), (List.mem_of_getElem? (i := 47) (by decide +kernel)), by decide +kernel, by decide +kernel, by decide +kernel, by decide +kernel⟩
theorem ok_mX7_as : okM mX7_as := ⟨List.mem_of_getElem? (i := 1125) (by decide +kernel), (List.mem_of_getElem? (i := 47) (by decide +kernel)), by decide +kernel, by decide +kernel, by decide +kernel, by decide +kernel⟩
theorem ok_mX7_round : okM mX7_round := ⟨List.mem_of_getElem? (i := 1129) (by decide +kernel), (List.mem_of_getElem? (i := 47) (by decide +kernel)), by decide +kernel, by decide +kernel, by decide +kernel, by decide +kernel⟩
theorem ok_mX7_next : okM mX7_next := ⟨List.mem_of_getElem? (i := 1133) (by decide +kernel), (List.mem_of_getElem? (i := 47) (by decide +kernel)), by decide +kernel, by decide +kernel, by decide +kernel, by decide +kernel⟩
theorem ok_mX7_copy : okM mX7_copy := ⟨List.mem_of_getElem? (i := 1137) (by decide +kernel), (List.mem_of_getElem? (i := 47) (by decide +kernel)), by decide +kernel, by decide +kernel, by decide +kernel, by decide +kernel⟩
theorem ok_mX7_table : okM mX7_table := ⟨List.mem_of_getElem? (i := 1142) (by decide +kernel), (List.mem_of_getElem? (i := 47) (by decide +kernel)), by decide +kernel, by decide +kernel, by decide +kernel, by decide +kernel⟩
theorem ok_mX7_differ : okM mX7_differ := ⟨List.mem_of_getElem? (i := 1155) (by decide +kernel), (List.mem_of_getElem? (i := 47) (by decide +kernel)), by decide +kernel, by decide +kernel, by decide +kernel, by decide +kernel⟩
theorem ok_mX7_isApart : okM mX7_isApart := ⟨List.mem_of_getElem? (i := 1151) (by decide +kernel), (List.mem_of_getElem? (i := 47) (by decide +kernel)), by decide +kernel, by decide +kernel, by decide +kernel, by decide +kernel⟩
theorem ok_mX7_agree : okM mX7_agree := ⟨List.mem_of_getElem? (i := 1147) (by decide +kernel), (List.mem_of_getElem? (i := 47) (by decide +kernel)), by decide +kernel, by decide +kernel, by decide +kernel, by decide +kernel⟩
theorem ok_mX7_apart : okM mX7_apart := ⟨List.mem_of_getElem? (i := 1159) (by decide +kernel), (List.mem_of_getElem? (i := 47) (by decide +kernel)), by decide +kernel, by decide +kernel, by decide +kernel, by decide +kernel⟩
theorem ok_mX7_count : okM mX7_count := ⟨List.mem_of_getElem? (i := 1164) (by decide +kernel), (List.mem_of_getElem? (i := 47) (by decide +kernel)), by decide +kernel, by decide +kernel, by decide +kernel, by decide +kernel⟩
theorem ok_mX7_pieceOf : okM mX7_pieceOf := ⟨List.mem_of_getElem? (i := 1172) (by decide +kernel), (List.mem_of_getElem? (i := 47) (by decide +kernel)), by decide +kernel, by decide +kernel, by decide +kernel, by decide +kernel⟩
theorem ok_mX7_way : okM mX7_way := ⟨List.mem_of_getElem? (i := 1168) (by decide +kernel), (List.mem_of_getElem? (i := 47) (by decide +kernel)), by decide +kernel, by decide +kernel, by decide +kernel, by decide +kernel⟩
theorem ok_mX7_isStep : okM mX7_isStep := ⟨List.mem_of_getElem? (i := 1180) (by decide +kernel), (List.mem_of_getElem? (i := 47) (by decide +kernel)), by decide +kernel, by decide +kernel, by decide +kernel, by decide +kernel⟩
theorem ok_mX7_wayAt : okM mX7_wayAt := ⟨List.mem_of_getElem? (i := 1176) (by decide +kernel), (List.mem_of_getElem? (i := 47) (by decide +kernel)), by decide +kernel, by decide +kernel, by decide +kernel, by decide +kernel⟩
theorem ok_mX7_forge : okM mX7_forge := ⟨List.mem_of_getElem? (i := 1184) (by decide +kernel), (List.mem_of_getElem? (i := 47) (by decide +kernel)), by decide +kernel, by decide +kernel, by decide +kernel, by decide +kernel⟩
theorem ok_mX7_stands : okM mX7_stands := ⟨List.mem_of_getElem? (i := 1192) (by decide +kernel), (List.mem_of_getElem? (i := 47) (by decide +kernel)), by decide +kernel, by decide +kernel, by decide +kernel, by decide +kernel⟩
theorem ok_mX7_check : okM mX7_check := ⟨List.mem_of_getElem? (i := 1188) (by decide +kernel), (List.mem_of_getElem? (i := 47) (by decide +kernel)), by decide +kernel, by decide +kernel, by decide +kernel, by decide +kernel⟩
theorem ok_mX7_replay : okM mX7_replay := ⟨List.mem_of_getElem? (i := 1196) (by decide +kernel), (List.mem_of_getElem? (i := 47) (by decide +kernel)), by decide +kernel, by decide +kernel, by decide +kernel, by decide +kernel⟩
theorem ok_mX7_image : okM mX7_image := ⟨List.mem_of_getElem? (i := 1200) (by decide +kernel), (List.mem_of_getElem? (i := 47) (by decide +kernel)), by decide +kernel, by decide +kernel, by decide +kernel, by decide +kernel⟩
theorem ok_mX7_back : okM mX7_back := ⟨List.mem_of_getElem? (i := 1204) (by decide +kernel), (List.mem_of_getElem? (i := 47) (by decide +kernel)), by decide +kernel, by decide +kernel, by decide +kernel, by decide +kernel⟩
theorem ok_mX7_trace : okM mX7_trace := ⟨List.mem_of_getElem? (i := 1208) (by decide +kernel), (List.mem_of_getElem? (i := 47) (by decide +kernel)), by decide +kernel, by decide +kernel, by decide +kernel, by decide +kernel⟩
theorem ok_mX7_again : okM mX7_again := ⟨List.mem_of_getElem? (i := 1212) (by decide +kernel), (List.mem_of_getElem? (i := 47) (by decide +kernel)), by decide +kernel, by decide +kernel, by decide +kernel, by decide +kernel⟩
theorem ok_mX7_status : okM mX7_status := ⟨List.mem_of_getElem? (i := 1216) (by decide +kernel), (List.mem_of_getElem? (i := 47) (by decide +kernel)), by decide +kernel, by decide +kernel, by decide +kernel, by decide +kernel⟩
theorem fl_X6_10 : FL RX6 10 6 0 (.object "CrowdRoll$World") true := ⟨RX6, TX6, 7, tyX6, cf6, by decide, (List.mem_of_getElem? (i := 177) (by decide +kernel)), rfl, rfl, rfl⟩
theorem fl_X6_19 : FL RX6 19 6 1 (.object "CrowdRoll$Refusals") true := ⟨RX6, TX6, 7, tyX6, cf6, by decide, (List.mem_of_getElem? (i := 178) (by decide +kernel)), rfl, rfl, rfl⟩
theorem fl_X6_26 : FL RX6 26 6 2 (.object "CrowdRoll$Way") true := ⟨RX6, TX6, 7, tyX6, cf6, by decide, (List.mem_of_getElem? (i := 179) (by decide +kernel)), rfl, rfl, rfl⟩
theorem fl_X6_30 : FL RX6 30 6 3 (.array .int) true := ⟨RX6, TX6, 7, tyX6, cf6, by decide, (List.mem_of_getElem? (i := 180) (by decide +kernel)), rfl, rfl, rfl⟩
theorem fl_X6_40 : FL RX6 40 6 4 (.array .int) true := ⟨RX6, TX6, 7, tyX6, cf6, by decide, (List.mem_of_getElem? (i := 181) (by decide +kernel)), rfl, rfl, rfl⟩
theorem fl_X6_43 : FL RX6 43 6 5 (.object "CrowdRoll$World") false := ⟨RX6, TX6, 7, tyX6, cf6, by decide, (List.mem_of_getElem? (i := 182) (by decide +kernel)), rfl, rfl, rfl⟩
theorem fl_X6_46 : FL RX6 46 6 6 (.object "CrowdRoll$World") false := ⟨RX6, TX6, 7, tyX6, cf6, by decide, (List.mem_of_getElem? (i := 183) (by decide +kernel)), rfl, rfl, rfl⟩
theorem fl_X6_57 : FL RX6 57 5 3 (.object "CrowdRoll$Books") true := ⟨RX5, TX5, 8, tyX5, cf5, by decide, (List.mem_of_getElem? (i := 121) (by decide +kernel)), rfl, rfl, rfl⟩
theorem fl_X6_70 : FL RX6 70 0 2 .int false := ⟨RX0, TX0, 4, tyX0, cf0, by decide, (List.mem_of_getElem? (i := 103) (by decide +kernel)), rfl, rfl, rfl⟩
theorem fl_X6_74 : FL RX6 74 0 3 .int false := ⟨RX0, TX0, 4, tyX0, cf0, by decide, (List.mem_of_getElem? (i := 105) (by decide +kernel)), rfl, rfl, rfl⟩
theorem fl_X6_77 : FL RX6 77 0 1 (.object "CrowdRoll$Rows") true := ⟨RX0, TX0, 4, tyX0, cf0, by decide, (List.mem_of_getElem? (i := 101) (by decide +kernel)), rfl, rfl, rfl⟩
theorem fl_X6_81 : FL RX6 81 3 3 .int false := ⟨RX3, TX3, 4, tyX3, cf3, by decide, (List.mem_of_getElem? (i := 87) (by decide +kernel)), rfl, rfl, rfl⟩
theorem fl_X6_111 : FL RX6 111 1 2 .int false := ⟨RX1, TX1, 16, tyX1, cf1, by decide, (List.mem_of_getElem? (i := 311) (by decide +kernel)), rfl, rfl, rfl⟩
theorem fl_X6_116 : FL RX6 116 1 4 .int false := ⟨RX1, TX1, 16, tyX1, cf1, by decide, (List.mem_of_getElem? (i := 315) (by decide +kernel)), rfl, rfl, rfl⟩
theorem fl_X6_119 : FL RX6 119 1 5 .int false := ⟨RX1, TX1, 16, tyX1, cf1, by decide, (List.mem_of_getElem? (i := 317) (by decide +kernel)), rfl, rfl, rfl⟩
theorem fl_X6_125 : FL RX6 125 1 6 .int false := ⟨RX1, TX1, 16, tyX1, cf1, by decide, (List.mem_of_getElem? (i := 320) (by decide +kernel)), rfl, rfl, rfl⟩
theorem fl_X6_128 : FL RX6 128 1 7 .int false := ⟨RX1, TX1, 16, tyX1, cf1, by decide, (List.mem_of_getElem? (i := 323) (by decide +kernel)), rfl, rfl, rfl⟩
theorem fl_X6_131 : FL RX6 131 1 14 .int false := ⟨RX1, TX1, 16, tyX1, cf1, by decide, (List.mem_of_getElem? (i := 343) (by decide +kernel)), rfl, rfl, rfl⟩
theorem fl_X6_134 : FL RX6 134 1 15 .int false := ⟨RX1, TX1, 16, tyX1, cf1, by decide, (List.mem_of_getElem? (i := 345) (by decide +kernel)), rfl, rfl, rfl⟩
theorem fl_X6_140 : FL RX6 140 1 8 (.array .int) true := ⟨RX1, TX1, 16, tyX1, cf1, by decide, (List.mem_of_getElem? (i := 326) (by decide +kernel)), rfl, rfl, rfl⟩
theorem fl_X6_143 : FL RX6 143 1 9 (.array .int) true := ⟨RX1, TX1, 16, tyX1, cf1, by decide, (List.mem_of_getElem? (i := 329) (by decide +kernel)), rfl, rfl, rfl⟩
theorem fl_X6_146 : FL RX6 146 1 10 (.array .int) true := ⟨RX1, TX1, 16, tyX1, cf1, by decide, (List.mem_of_getElem? (i := 332) (by decide +kernel)), rfl, rfl, rfl⟩
theorem fl_X6_149 : FL RX6 149 1 11 (.array .int) true := ⟨RX1, TX1, 16, tyX1, cf1, by decide, (List.mem_of_getElem? (i := 335) (by decide +kernel)), rfl, rfl, rfl⟩
theorem fl_X6_152 : FL RX6 152 1 12 (.array .int) true := ⟨RX1, TX1, 16, tyX1, cf1, by decide, (List.mem_of_getElem? (i := 338) (by decide +kernel)), rfl, rfl, rfl⟩
theorem fl_X6_155 : FL RX6 155 1 13 (.array .int) true := ⟨RX1, TX1, 16, tyX1, cf1, by decide, (List.mem_of_getElem? (i := 341) (by decide +kernel)), rfl, rfl, rfl⟩
theorem fl_X6_181 : FL RX6 181 4 1 .int false := ⟨RX4, TX4, 2, tyX4, cf4, by decide, (List.mem_of_getElem? (i := 168) (by decide +kernel)), rfl, rfl, rfl⟩
theorem fl_X6_182 : FL RX6 182 4 0 (.array .int) false := ⟨RX4, TX4, 2, tyX4, cf4, by decide, (List.mem_of_getElem? (i := 166) (by decide +kernel)), rfl, rfl, rfl⟩
theorem fl_X6_196 : FL RX6 196 5 4 (.object "CrowdRoll$Rows") true := ⟨RX5, TX5, 8, tyX5, cf5, by decide, (List.mem_of_getElem? (i := 123) (by decide +kernel)), rfl, rfl, rfl⟩
theorem fl_X6_212 : FL RX6 212 5 5 (.array .int) true := ⟨RX5, TX5, 8, tyX5, cf5, by decide, (List.mem_of_getElem? (i := 125) (by decide +kernel)), rfl, rfl, rfl⟩
theorem fl_X6_218 : FL RX6 218 2 0 (.array .int) true := ⟨RX2, TX2, 2, tyX2, cf2, by decide, (List.mem_of_getElem? (i := 152) (by decide +kernel)), rfl, rfl, rfl⟩
theorem lo_X6_1 : linkO RX6 1 := ⟨(List.mem_of_getElem? (i := 55) (by decide +kernel)), (List.mem_of_getElem? (i := 56) (by decide +kernel)), List.mem_of_getElem? (i := 57) (by decide +kernel)⟩
theorem lk_X6_9 : linkI RX6 9 mX5_init := ⟨ok_mX5_init, (List.mem_of_getElem? (i := 60) (by decide +kernel)), (List.mem_of_getElem? (i := 61) (by decide +kernel)), rfl, rfl⟩
theorem lk_X6_18 : linkI RX6 18 mX2_init := ⟨ok_mX2_init, (List.mem_of_getElem? (i := 147) (by decide +kernel)), (List.mem_of_getElem? (i := 148) (by decide +kernel)), rfl, rfl⟩
theorem lk_X6_25 : linkI RX6 25 mX4_init := ⟨ok_mX4_init, (List.mem_of_getElem? (i := 161) (by decide +kernel)), (List.mem_of_getElem? (i := 162) (by decide +kernel)), rfl, rfl⟩
theorem lk_X6_34 : linkS RX6 34 mJ7_fill_53178 := ⟨ok_mJ7_fill_53178, (List.mem_of_getElem? (i := 174) (by decide +kernel)), (List.mem_of_getElem? (i := 175) (by decide +kernel))⟩
theorem lc_X6_162 : linkC RX6 162 := ⟨(List.mem_of_getElem? (i := 691) (by decide +kernel)), (List.mem_of_getElem? (i := 278) (by decide +kernel)), (List.mem_of_getElem? (i := 277) (by decide +kernel)), (List.mem_of_getElem? (i := 48) (by decide +kernel))⟩
theorem lk_X6_171 : linkS RX6 171 mX6_isMember := ⟨ok_mX6_isMember, (List.mem_of_getElem? (i := 720) (by decide +kernel)), (List.mem_of_getElem? (i := 220) (by decide +kernel))⟩
theorem lk_X6_49 : linkV RX6 49 mX5_perform := ⟨ok_mX5_perform, (List.mem_of_getElem? (i := 203) (by decide +kernel)), (List.mem_of_getElem? (i := 204) (by decide +kernel)), (List.mem_of_getElem? (i := 205) (by decide +kernel))⟩
theorem lk_X6_53 : linkV RX6 53 mX6_settled := ⟨ok_mX6_settled, (List.mem_of_getElem? (i := 566) (by decide +kernel)), (List.mem_of_getElem? (i := 568) (by decide +kernel)), (List.mem_of_getElem? (i := 0) (by decide +kernel))⟩
theorem lk_X6_61 : linkV RX6 61 mX0_sent := ⟨ok_mX0_sent, (List.mem_of_getElem? (i := 622) (by decide +kernel)), (List.mem_of_getElem? (i := 623) (by decide +kernel)), (List.mem_of_getElem? (i := 624) (by decide +kernel))⟩
theorem lk_X6_67 : linkV RX6 67 mX0_stillUnderWay := ⟨ok_mX0_stillUnderWay, (List.mem_of_getElem? (i := 626) (by decide +kernel)), (List.mem_of_getElem? (i := 476) (by decide +kernel)), (List.mem_of_getElem? (i := 477) (by decide +kernel))⟩
theorem lk_X6_86 : linkV RX6 86 mX6_refused := ⟨ok_mX6_refused, (List.mem_of_getElem? (i := 570) (by decide +kernel)), (List.mem_of_getElem? (i := 572) (by decide +kernel)), (List.mem_of_getElem? (i := 1) (by decide +kernel))⟩
theorem lk_X6_89 : linkV RX6 89 mX0_nthUnderWay := ⟨ok_mX0_nthUnderWay, (List.mem_of_getElem? (i := 631) (by decide +kernel)), (List.mem_of_getElem? (i := 632) (by decide +kernel)), (List.mem_of_getElem? (i := 633) (by decide +kernel))⟩
theorem lk_X6_92 : linkV RX6 92 mX0_hasLetter := ⟨ok_mX0_hasLetter, (List.mem_of_getElem? (i := 639) (by decide +kernel)), (List.mem_of_getElem? (i := 216) (by decide +kernel)), (List.mem_of_getElem? (i := 217) (by decide +kernel))⟩
theorem lk_X6_96 : linkV RX6 96 mX0_ofLetter := ⟨ok_mX0_ofLetter, (List.mem_of_getElem? (i := 640) (by decide +kernel)), (List.mem_of_getElem? (i := 227) (by decide +kernel)), (List.mem_of_getElem? (i := 228) (by decide +kernel))⟩
theorem lk_X6_100 : linkV RX6 100 mX0_ofPiece := ⟨ok_mX0_ofPiece, (List.mem_of_getElem? (i := 645) (by decide +kernel)), (List.mem_of_getElem? (i := 422) (by decide +kernel)), (List.mem_of_getElem? (i := 423) (by decide +kernel))⟩
theorem lk_X6_104 : linkV RX6 104 mX5_whyNoMember := ⟨ok_mX5_whyNoMember, (List.mem_of_getElem? (i := 650) (by decide +kernel)), (List.mem_of_getElem? (i := 651) (by decide +kernel)), (List.mem_of_getElem? (i := 652) (by decide +kernel))⟩
theorem lk_X6_107 : linkV RX6 107 mX5_memberAt := ⟨ok_mX5_memberAt, (List.mem_of_getElem? (i := 654) (by decide +kernel)), (List.mem_of_getElem? (i := 235) (by decide +kernel)), (List.mem_of_getElem? (i := 236) (by decide +kernel))⟩
theorem lk_X6_122 : linkV RX6 122 mX1_countKind := ⟨ok_mX1_countKind, (List.mem_of_getElem? (i := 655) (by decide +kernel)), (List.mem_of_getElem? (i := 656) (by decide +kernel)), (List.mem_of_getElem? (i := 657) (by decide +kernel))⟩
theorem lk_X6_137 : linkV RX6 137 mX5_whyNoNews := ⟨ok_mX5_whyNoNews, (List.mem_of_getElem? (i := 663) (by decide +kernel)), (List.mem_of_getElem? (i := 664) (by decide +kernel)), (List.mem_of_getElem? (i := 665) (by decide +kernel))⟩
theorem lk_X6_158 : linkV RX6 158 mX1_wouldAsk := ⟨ok_mX1_wouldAsk, (List.mem_of_getElem? (i := 683) (by decide +kernel)), (List.mem_of_getElem? (i := 684) (by decide +kernel)), (List.mem_of_getElem? (i := 685) (by decide +kernel))⟩
theorem lk_X6_168 : linkV RX6 168 mX5_firstApart := ⟨ok_mX5_firstApart, (List.mem_of_getElem? (i := 700) (by decide +kernel)), (List.mem_of_getElem? (i := 701) (by decide +kernel)), (List.mem_of_getElem? (i := 702) (by decide +kernel))⟩
theorem lk_X6_174 : linkV RX6 174 mX5_countUpWith := ⟨ok_mX5_countUpWith, (List.mem_of_getElem? (i := 721) (by decide +kernel)), (List.mem_of_getElem? (i := 722) (by decide +kernel)), (List.mem_of_getElem? (i := 723) (by decide +kernel))⟩
theorem lk_X6_177 : linkV RX6 177 mX4_follow := ⟨ok_mX4_follow, (List.mem_of_getElem? (i := 729) (by decide +kernel)), (List.mem_of_getElem? (i := 730) (by decide +kernel)), (List.mem_of_getElem? (i := 731) (by decide +kernel))⟩
theorem lk_X6_185 : linkV RX6 185 mX1_saysItself := ⟨ok_mX1_saysItself, (List.mem_of_getElem? (i := 756) (by decide +kernel)), (List.mem_of_getElem? (i := 757) (by decide +kernel)), (List.mem_of_getElem? (i := 758) (by decide +kernel))⟩
theorem lk_X6_189 : linkV RX6 189 mX4_stands := ⟨ok_mX4_stands, (List.mem_of_getElem? (i := 761) (by decide +kernel)), (List.mem_of_getElem? (i := 762) (by decide +kernel)), (List.mem_of_getElem? (i := 763) (by decide +kernel))⟩
theorem lk_X6_193 : linkV RX6 193 mX5_clear := ⟨ok_mX5_clear, (List.mem_of_getElem? (i := 775) (by decide +kernel)), (List.mem_of_getElem? (i := 776) (by decide +kernel)), (List.mem_of_getElem? (i := 777) (by decide +kernel))⟩
theorem lk_X6_199 : linkV RX6 199 mX3_get := ⟨ok_mX3_get, (List.mem_of_getElem? (i := 787) (by decide +kernel)), (List.mem_of_getElem? (i := 231) (by decide +kernel)), (List.mem_of_getElem? (i := 232) (by decide +kernel))⟩
theorem lk_X6_204 : linkV RX6 204 mX5_sameAs := ⟨ok_mX5_sameAs, (List.mem_of_getElem? (i := 789) (by decide +kernel)), (List.mem_of_getElem? (i := 790) (by decide +kernel)), (List.mem_of_getElem? (i := 791) (by decide +kernel))⟩
theorem lk_X6_208 : linkV RX6 208 mX5_become := ⟨ok_mX5_become, (List.mem_of_getElem? (i := 813) (by decide +kernel)), (List.mem_of_getElem? (i := 814) (by decide +kernel)), (List.mem_of_getElem? (i := 815) (by decide +kernel))⟩
theorem lk_X6_215 : linkV RX6 215 mX2_throwLatest := ⟨ok_mX2_throwLatest, (List.mem_of_getElem? (i := 845) (by decide +kernel)), (List.mem_of_getElem? (i := 846) (by decide +kernel)), (List.mem_of_getElem? (i := 847) (by decide +kernel))⟩
theorem lk_X6_221 : linkV RX6 221 mX2_keep := ⟨ok_mX2_keep, (List.mem_of_getElem? (i := 574) (by decide +kernel)), (List.mem_of_getElem? (i := 575) (by decide +kernel)), (List.mem_of_getElem? (i := 576) (by decide +kernel))⟩
theorem kc_X6_202 : Cond.constantLong RX6 202 (4294967295) ∈ lw_tbl := (List.mem_of_getElem? (i := 788) (by decide +kernel))
theorem ln_X6_7 : linkNew RX6 7 5 [.null, .int 0, .null, .null, .null, .null, .null, .null] := ⟨RX5, TX5, 8, tyX5, cf5, (List.mem_of_getElem? (i := 58) (by decide +kernel)), rfl, by decide +kernel⟩
theorem ln_X6_16 : linkNew RX6 16 2 [.null, .int 0] := ⟨RX2, TX2, 2, tyX2, cf2, (List.mem_of_getElem? (i := 145) (by decide +kernel)), rfl, by decide +kernel⟩
theorem ln_X6_23 : linkNew RX6 23 4 [.null, .int 0] := ⟨RX4, TX4, 2, tyX4, cf4, (List.mem_of_getElem? (i := 159) (by decide +kernel)), rfl, by decide +kernel⟩
theorem fl_X0_14 : FL RX0 14 0 0 (.object "CrowdRoll$Rows") true := ⟨RX0, TX0, 4, tyX0, cf0, by decide, (List.mem_of_getElem? (i := 99) (by decide +kernel)), rfl, rfl, rfl⟩
theorem fl_X0_20 : FL RX0 20 0 1 (.object "CrowdRoll$Rows") true := ⟨RX0, TX0, 4, tyX0, cf0, by decide, (List.mem_of_getElem? (i := 100) (by decide +kernel)), rfl, rfl, rfl⟩
theorem fl_X0_23 : FL RX0 23 0 2 .int false := ⟨RX0, TX0, 4, tyX0, cf0, by decide, (List.mem_of_getElem? (i := 102) (by decide +kernel)), rfl, rfl, rfl⟩
theorem fl_X0_27 : FL RX0 27 0 3 .int false := ⟨RX0, TX0, 4, tyX0, cf0, by decide, (List.mem_of_getElem? (i := 104) (by decide +kernel)), rfl, rfl, rfl⟩
theorem fl_X0_30 : FL RX0 30 3 3 .int false := ⟨RX3, TX3, 4, tyX3, cf3, by decide, (List.mem_of_getElem? (i := 85) (by decide +kernel)), rfl, rfl, rfl⟩
theorem lo_X0_3 : linkO RX0 3 := ⟨(List.mem_of_getElem? (i := 71) (by decide +kernel)), (List.mem_of_getElem? (i := 56) (by decide +kernel)), List.mem_of_getElem? (i := 57) (by decide +kernel)⟩
theorem lk_X0_11 : linkI RX0 11 mX3_init := ⟨ok_mX3_init, (List.mem_of_getElem? (i := 74) (by decide +kernel)), (List.mem_of_getElem? (i := 75) (by decide +kernel)), rfl, rfl⟩
theorem lk_X0_33 : linkV RX0 33 mX3_reserve := ⟨ok_mX3_reserve, (List.mem_of_getElem? (i := 291) (by decide +kernel)), (List.mem_of_getElem? (i := 259) (by decide +kernel)), (List.mem_of_getElem? (i := 260) (by decide +kernel))⟩
theorem lk_X0_37 : linkV RX0 37 mX3_get := ⟨ok_mX3_get, (List.mem_of_getElem? (i := 230) (by decide +kernel)), (List.mem_of_getElem? (i := 231) (by decide +kernel)), (List.mem_of_getElem? (i := 232) (by decide +kernel))⟩
theorem lk_X0_41 : linkV RX0 41 mX3_add := ⟨ok_mX3_add, (List.mem_of_getElem? (i := 454) (by decide +kernel)), (List.mem_of_getElem? (i := 280) (by decide +kernel)), (List.mem_of_getElem? (i := 281) (by decide +kernel))⟩
theorem lk_X0_45 : linkV RX0 45 mX3_set := ⟨ok_mX3_set, (List.mem_of_getElem? (i := 412) (by decide +kernel)), (List.mem_of_getElem? (i := 284) (by decide +kernel)), (List.mem_of_getElem? (i := 285) (by decide +kernel))⟩
theorem lk_X0_49 : linkV RX0 49 mX0_ofLetter := ⟨ok_mX0_ofLetter, (List.mem_of_getElem? (i := 483) (by decide +kernel)), (List.mem_of_getElem? (i := 227) (by decide +kernel)), (List.mem_of_getElem? (i := 228) (by decide +kernel))⟩
theorem lk_X0_52 : linkV RX0 52 mX0_open := ⟨ok_mX0_open, (List.mem_of_getElem? (i := 484) (by decide +kernel)), (List.mem_of_getElem? (i := 451) (by decide +kernel)), (List.mem_of_getElem? (i := 452) (by decide +kernel))⟩
theorem lk_X0_56 : linkV RX0 56 mX0_ofPiece := ⟨ok_mX0_ofPiece, (List.mem_of_getElem? (i := 485) (by decide +kernel)), (List.mem_of_getElem? (i := 422) (by decide +kernel)), (List.mem_of_getElem? (i := 423) (by decide +kernel))⟩
theorem lk_X0_60 : linkV RX0 60 mX0_put := ⟨ok_mX0_put, (List.mem_of_getElem? (i := 486) (by decide +kernel)), (List.mem_of_getElem? (i := 468) (by decide +kernel)), (List.mem_of_getElem? (i := 469) (by decide +kernel))⟩
theorem lk_X0_64 : linkV RX0 64 mX0_hasLetter := ⟨ok_mX0_hasLetter, (List.mem_of_getElem? (i := 769) (by decide +kernel)), (List.mem_of_getElem? (i := 216) (by decide +kernel)), (List.mem_of_getElem? (i := 217) (by decide +kernel))⟩
theorem lk_X0_68 : linkV RX0 68 mX3_become := ⟨ok_mX3_become, (List.mem_of_getElem? (i := 826) (by decide +kernel)), (List.mem_of_getElem? (i := 827) (by decide +kernel)), (List.mem_of_getElem? (i := 828) (by decide +kernel))⟩
theorem lk_X0_72 : linkV RX0 72 mX3_sameAs := ⟨ok_mX3_sameAs, (List.mem_of_getElem? (i := 804) (by decide +kernel)), (List.mem_of_getElem? (i := 805) (by decide +kernel)), (List.mem_of_getElem? (i := 806) (by decide +kernel))⟩
theorem ln_X0_9 : linkNew RX0 9 3 [.int 0, .int 0, .null, .int 0] := ⟨RX3, TX3, 4, tyX3, cf3, (List.mem_of_getElem? (i := 72) (by decide +kernel)), rfl, by decide +kernel⟩
theorem fl_X1_9 : FL RX1 9 1 0 .int true := ⟨RX1, TX1, 16, tyX1, cf1, by decide, (List.mem_of_getElem? (i := 305) (by decide +kernel)), rfl, rfl, rfl⟩
theorem fl_X1_15 : FL RX1 15 1 1 .boolean false := ⟨RX1, TX1, 16, tyX1, cf1, by decide, (List.mem_of_getElem? (i := 307) (by decide +kernel)), rfl, rfl, rfl⟩
theorem fl_X1_19 : FL RX1 19 1 8 (.array .int) true := ⟨RX1, TX1, 16, tyX1, cf1, by decide, (List.mem_of_getElem? (i := 325) (by decide +kernel)), rfl, rfl, rfl⟩
theorem fl_X1_23 : FL RX1 23 1 9 (.array .int) true := ⟨RX1, TX1, 16, tyX1, cf1, by decide, (List.mem_of_getElem? (i := 328) (by decide +kernel)), rfl, rfl, rfl⟩
theorem fl_X1_26 : FL RX1 26 1 10 (.array .int) true := ⟨RX1, TX1, 16, tyX1, cf1, by decide, (List.mem_of_getElem? (i := 331) (by decide +kernel)), rfl, rfl, rfl⟩
theorem fl_X1_29 : FL RX1 29 1 11 (.array .int) true := ⟨RX1, TX1, 16, tyX1, cf1, by decide, (List.mem_of_getElem? (i := 334) (by decide +kernel)), rfl, rfl, rfl⟩
theorem fl_X1_32 : FL RX1 32 1 12 (.array .int) true := ⟨RX1, TX1, 16, tyX1, cf1, by decide, (List.mem_of_getElem? (i := 337) (by decide +kernel)), rfl, rfl, rfl⟩
theorem fl_X1_35 : FL RX1 35 1 13 (.array .int) true := ⟨RX1, TX1, 16, tyX1, cf1, by decide, (List.mem_of_getElem? (i := 340) (by decide +kernel)), rfl, rfl, rfl⟩
theorem fl_X1_38 : FL RX1 38 1 2 .int false := ⟨RX1, TX1, 16, tyX1, cf1, by decide, (List.mem_of_getElem? (i := 309) (by decide +kernel)), rfl, rfl, rfl⟩
theorem fl_X1_41 : FL RX1 41 1 3 .long false := ⟨RX1, TX1, 16, tyX1, cf1, by decide, (List.mem_of_getElem? (i := 312) (by decide +kernel)), rfl, rfl, rfl⟩
theorem fl_X1_45 : FL RX1 45 1 4 .int false := ⟨RX1, TX1, 16, tyX1, cf1, by decide, (List.mem_of_getElem? (i := 313) (by decide +kernel)), rfl, rfl, rfl⟩
theorem fl_X1_48 : FL RX1 48 1 5 .int false := ⟨RX1, TX1, 16, tyX1, cf1, by decide, (List.mem_of_getElem? (i := 316) (by decide +kernel)), rfl, rfl, rfl⟩
theorem fl_X1_67 : FL RX1 67 1 6 .int false := ⟨RX1, TX1, 16, tyX1, cf1, by decide, (List.mem_of_getElem? (i := 319) (by decide +kernel)), rfl, rfl, rfl⟩
theorem fl_X1_70 : FL RX1 70 1 7 .int false := ⟨RX1, TX1, 16, tyX1, cf1, by decide, (List.mem_of_getElem? (i := 322) (by decide +kernel)), rfl, rfl, rfl⟩
theorem fl_X1_73 : FL RX1 73 1 14 .int false := ⟨RX1, TX1, 16, tyX1, cf1, by decide, (List.mem_of_getElem? (i := 342) (by decide +kernel)), rfl, rfl, rfl⟩
theorem fl_X1_76 : FL RX1 76 1 15 .int false := ⟨RX1, TX1, 16, tyX1, cf1, by decide, (List.mem_of_getElem? (i := 344) (by decide +kernel)), rfl, rfl, rfl⟩
theorem lo_X1_3 : linkO RX1 3 := ⟨(List.mem_of_getElem? (i := 304) (by decide +kernel)), (List.mem_of_getElem? (i := 56) (by decide +kernel)), List.mem_of_getElem? (i := 57) (by decide +kernel)⟩
theorem lk_X1_54 : linkS RX1 54 mJ7_fill_53178 := ⟨ok_mJ7_fill_53178, (List.mem_of_getElem? (i := 387) (by decide +kernel)), (List.mem_of_getElem? (i := 175) (by decide +kernel))⟩
theorem lk_X1_87 : linkN RX1 87 mX6_isMember := ⟨ok_mX6_isMember, ⟨"CrowdRoll", (List.mem_of_getElem? (i := 437) (by decide +kernel))⟩, (List.mem_of_getElem? (i := 220) (by decide +kernel))⟩
theorem lk_X1_102 : linkS RX1 102 mX1_stirred := ⟨ok_mX1_stirred, (List.mem_of_getElem? (i := 513) (by decide +kernel)), (List.mem_of_getElem? (i := 514) (by decide +kernel))⟩
theorem lk_X1_106 : linkS RX1 106 mX1_drawn := ⟨ok_mX1_drawn, (List.mem_of_getElem? (i := 518) (by decide +kernel)), (List.mem_of_getElem? (i := 519) (by decide +kernel))⟩
theorem lm_X1_113 : linkM RX1 113 Lib.Math.min.name Lib.Math.min.code := ⟨(List.mem_of_getElem? (i := 550) (by decide +kernel)), (List.mem_of_getElem? (i := 263) (by decide +kernel)), (List.mem_of_getElem? (i := 43) (by decide +kernel)), List.mem_of_getElem? (i := 264) (by decide +kernel)⟩
theorem lk_X1_123 : linkS RX1 123 mX1_shuffle := ⟨ok_mX1_shuffle, (List.mem_of_getElem? (i := 547) (by decide +kernel)), (List.mem_of_getElem? (i := 548) (by decide +kernel))⟩
theorem lc_X1_135 : linkC RX1 135 := ⟨(List.mem_of_getElem? (i := 821) (by decide +kernel)), (List.mem_of_getElem? (i := 278) (by decide +kernel)), (List.mem_of_getElem? (i := 277) (by decide +kernel)), (List.mem_of_getElem? (i := 48) (by decide +kernel))⟩
theorem lk_X1_141 : linkN RX1 141 mX6_sameNumbers := ⟨ok_mX6_sameNumbers, ⟨"CrowdRoll", (List.mem_of_getElem? (i := 797) (by decide +kernel))⟩, (List.mem_of_getElem? (i := 798) (by decide +kernel))⟩
theorem lk_X1_51 : linkV RX1 51 mX1_forgetAll := ⟨ok_mX1_forgetAll, (List.mem_of_getElem? (i := 383) (by decide +kernel)), (List.mem_of_getElem? (i := 384) (by decide +kernel)), (List.mem_of_getElem? (i := 385) (by decide +kernel))⟩
theorem lk_X1_60 : linkV RX1 60 mX1_stopAsking := ⟨ok_mX1_stopAsking, (List.mem_of_getElem? (i := 388) (by decide +kernel)), (List.mem_of_getElem? (i := 389) (by decide +kernel)), (List.mem_of_getElem? (i := 390) (by decide +kernel))⟩
theorem lk_X1_63 : linkV RX1 63 mX1_say := ⟨ok_mX1_say, (List.mem_of_getElem? (i := 392) (by decide +kernel)), (List.mem_of_getElem? (i := 393) (by decide +kernel)), (List.mem_of_getElem? (i := 394) (by decide +kernel))⟩
theorem lk_X1_79 : linkV RX1 79 mX1_enter := ⟨ok_mX1_enter, (List.mem_of_getElem? (i := 396) (by decide +kernel)), (List.mem_of_getElem? (i := 397) (by decide +kernel)), (List.mem_of_getElem? (i := 398) (by decide +kernel))⟩
theorem lk_X1_83 : linkV RX1 83 mX1_raiseTerm := ⟨ok_mX1_raiseTerm, (List.mem_of_getElem? (i := 433) (by decide +kernel)), (List.mem_of_getElem? (i := 434) (by decide +kernel)), (List.mem_of_getElem? (i := 435) (by decide +kernel))⟩
theorem lk_X1_91 : linkV RX1 91 mX1_isBeaten := ⟨ok_mX1_isBeaten, (List.mem_of_getElem? (i := 438) (by decide +kernel)), (List.mem_of_getElem? (i := 439) (by decide +kernel)), (List.mem_of_getElem? (i := 440) (by decide +kernel))⟩
theorem lk_X1_95 : linkV RX1 95 mX1_hasNews := ⟨ok_mX1_hasNews, (List.mem_of_getElem? (i := 760) (by decide +kernel)), (List.mem_of_getElem? (i := 668) (by decide +kernel)), (List.mem_of_getElem? (i := 669) (by decide +kernel))⟩
theorem lk_X1_110 : linkV RX1 110 mX1_thinksLiving := ⟨ok_mX1_thinksLiving, (List.mem_of_getElem? (i := 505) (by decide +kernel)), (List.mem_of_getElem? (i := 506) (by decide +kernel)), (List.mem_of_getElem? (i := 507) (by decide +kernel))⟩
theorem lk_X1_119 : linkV RX1 119 mX1_gatherLiving := ⟨ok_mX1_gatherLiving, (List.mem_of_getElem? (i := 546) (by decide +kernel)), (List.mem_of_getElem? (i := 502) (by decide +kernel)), (List.mem_of_getElem? (i := 503) (by decide +kernel))⟩
theorem lk_X1_127 : linkV RX1 127 mX1_nextPlace := ⟨ok_mX1_nextPlace, (List.mem_of_getElem? (i := 555) (by decide +kernel)), (List.mem_of_getElem? (i := 539) (by decide +kernel)), (List.mem_of_getElem? (i := 540) (by decide +kernel))⟩
theorem lk_X1_131 : linkV RX1 131 mX1_pickInOrder := ⟨ok_mX1_pickInOrder, (List.mem_of_getElem? (i := 463) (by decide +kernel)), (List.mem_of_getElem? (i := 464) (by decide +kernel)), (List.mem_of_getElem? (i := 465) (by decide +kernel))⟩
theorem kc_X1_98 : Cond.constantLong RX1 98 (6364136223846793005) ∈ lw_tbl := (List.mem_of_getElem? (i := 516) (by decide +kernel))
theorem kc_X1_100 : Cond.constantLong RX1 100 (1442695040888963407) ∈ lw_tbl := (List.mem_of_getElem? (i := 517) (by decide +kernel))
theorem fl_X2_9 : FL RX2 9 2 0 (.array .int) true := ⟨RX2, TX2, 2, tyX2, cf2, by decide, (List.mem_of_getElem? (i := 151) (by decide +kernel)), rfl, rfl, rfl⟩
theorem fl_X2_15 : FL RX2 15 2 1 .int false := ⟨RX2, TX2, 2, tyX2, cf2, by decide, (List.mem_of_getElem? (i := 153) (by decide +kernel)), rfl, rfl, rfl⟩
theorem lo_X2_3 : linkO RX2 3 := ⟨(List.mem_of_getElem? (i := 150) (by decide +kernel)), (List.mem_of_getElem? (i := 56) (by decide +kernel)), List.mem_of_getElem? (i := 57) (by decide +kernel)⟩
theorem fl_X3_15 : FL RX3 15 3 0 .int true := ⟨RX3, TX3, 4, tyX3, cf3, by decide, (List.mem_of_getElem? (i := 81) (by decide +kernel)), rfl, rfl, rfl⟩
theorem fl_X3_21 : FL RX3 21 3 1 .int true := ⟨RX3, TX3, 4, tyX3, cf3, by decide, (List.mem_of_getElem? (i := 82) (by decide +kernel)), rfl, rfl, rfl⟩
theorem fl_X3_24 : FL RX3 24 3 2 (.array .int) false := ⟨RX3, TX3, 4, tyX3, cf3, by decide, (List.mem_of_getElem? (i := 83) (by decide +kernel)), rfl, rfl, rfl⟩
theorem fl_X3_28 : FL RX3 28 3 3 .int false := ⟨RX3, TX3, 4, tyX3, cf3, by decide, (List.mem_of_getElem? (i := 84) (by decide +kernel)), rfl, rfl, rfl⟩
theorem lo_X3_3 : linkO RX3 3 := ⟨(List.mem_of_getElem? (i := 77) (by decide +kernel)), (List.mem_of_getElem? (i := 56) (by decide +kernel)), List.mem_of_getElem? (i := 57) (by decide +kernel)⟩
theorem lm_X3_9 : linkM RX3 9 Lib.Math.max.name Lib.Math.max.code := ⟨(List.mem_of_getElem? (i := 78) (by decide +kernel)), (List.mem_of_getElem? (i := 79) (by decide +kernel)), (List.mem_of_getElem? (i := 43) (by decide +kernel)), List.mem_of_getElem? (i := 80) (by decide +kernel)⟩
theorem lm_X3_31 : linkM RX3 31 Lib.Math.min.name Lib.Math.min.code := ⟨(List.mem_of_getElem? (i := 262) (by decide +kernel)), (List.mem_of_getElem? (i := 263) (by decide +kernel)), (List.mem_of_getElem? (i := 43) (by decide +kernel)), List.mem_of_getElem? (i := 264) (by decide +kernel)⟩
theorem lk_X3_34 : linkS RX3 34 mJ7_copyOf_59c91 := ⟨ok_mJ7_copyOf_59c91, (List.mem_of_getElem? (i := 265) (by decide +kernel)), (List.mem_of_getElem? (i := 266) (by decide +kernel))⟩
theorem lc_X3_44 : linkC RX3 44 := ⟨(List.mem_of_getElem? (i := 831) (by decide +kernel)), (List.mem_of_getElem? (i := 278) (by decide +kernel)), (List.mem_of_getElem? (i := 277) (by decide +kernel)), (List.mem_of_getElem? (i := 48) (by decide +kernel))⟩
theorem lk_X3_50 : linkN RX3 50 mX6_sameNumbers := ⟨ok_mX6_sameNumbers, ⟨"CrowdRoll", (List.mem_of_getElem? (i := 808) (by decide +kernel))⟩, (List.mem_of_getElem? (i := 798) (by decide +kernel))⟩
theorem lk_X3_40 : linkV RX3 40 mX3_reserve := ⟨ok_mX3_reserve, (List.mem_of_getElem? (i := 830) (by decide +kernel)), (List.mem_of_getElem? (i := 259) (by decide +kernel)), (List.mem_of_getElem? (i := 260) (by decide +kernel))⟩
theorem fl_X4_9 : FL RX4 9 4 0 (.array .int) false := ⟨RX4, TX4, 2, tyX4, cf4, by decide, (List.mem_of_getElem? (i := 165) (by decide +kernel)), rfl, rfl, rfl⟩
theorem fl_X4_15 : FL RX4 15 4 1 .int false := ⟨RX4, TX4, 2, tyX4, cf4, by decide, (List.mem_of_getElem? (i := 167) (by decide +kernel)), rfl, rfl, rfl⟩
theorem lo_X4_3 : linkO RX4 3 := ⟨(List.mem_of_getElem? (i := 164) (by decide +kernel)), (List.mem_of_getElem? (i := 56) (by decide +kernel)), List.mem_of_getElem? (i := 57) (by decide +kernel)⟩
theorem lk_X4_37 : linkS RX4 37 mJ7_copyOf_59c91 := ⟨ok_mJ7_copyOf_59c91, (List.mem_of_getElem? (i := 738) (by decide +kernel)), (List.mem_of_getElem? (i := 266) (by decide +kernel))⟩
theorem lk_X4_19 : linkV RX4 19 mX0_hasLetter := ⟨ok_mX0_hasLetter, (List.mem_of_getElem? (i := 733) (by decide +kernel)), (List.mem_of_getElem? (i := 216) (by decide +kernel)), (List.mem_of_getElem? (i := 217) (by decide +kernel))⟩
theorem lk_X4_25 : linkV RX4 25 mX4_add := ⟨ok_mX4_add, (List.mem_of_getElem? (i := 734) (by decide +kernel)), (List.mem_of_getElem? (i := 735) (by decide +kernel)), (List.mem_of_getElem? (i := 736) (by decide +kernel))⟩
theorem lk_X4_29 : linkV RX4 29 mX0_findPiece := ⟨ok_mX0_findPiece, (List.mem_of_getElem? (i := 739) (by decide +kernel)), (List.mem_of_getElem? (i := 740) (by decide +kernel)), (List.mem_of_getElem? (i := 741) (by decide +kernel))⟩
theorem lk_X4_33 : linkV RX4 33 mX0_ofPiece := ⟨ok_mX0_ofPiece, (List.mem_of_getElem? (i := 743) (by decide +kernel)), (List.mem_of_getElem? (i := 422) (by decide +kernel)), (List.mem_of_getElem? (i := 423) (by decide +kernel))⟩
theorem lk_X4_43 : linkV RX4 43 mX0_reached := ⟨ok_mX0_reached, (List.mem_of_getElem? (i := 765) (by decide +kernel)), (List.mem_of_getElem? (i := 766) (by decide +kernel)), (List.mem_of_getElem? (i := 767) (by decide +kernel))⟩
theorem lk_X4_47 : linkV RX4 47 mX0_ofLetter := ⟨ok_mX0_ofLetter, (List.mem_of_getElem? (i := 770) (by decide +kernel)), (List.mem_of_getElem? (i := 227) (by decide +kernel)), (List.mem_of_getElem? (i := 228) (by decide +kernel))⟩
theorem la_X5_9 : Cond.classLink RX5 9 RX1 ∈ lw_tbl ∧ Cond.arrayOver (.object RX1) ∈ lw_tbl := ⟨(List.mem_of_getElem? (i := 64) (by decide +kernel)), (List.mem_of_getElem? (i := 65) (by decide +kernel))⟩
theorem fl_X5_11 : FL RX5 11 5 0 (.array (.object "CrowdRoll$Member")) true := ⟨RX5, TX5, 8, tyX5, cf5, by decide, (List.mem_of_getElem? (i := 117) (by decide +kernel)), rfl, rfl, rfl⟩
theorem fl_X5_17 : FL RX5 17 5 1 .int false := ⟨RX5, TX5, 8, tyX5, cf5, by decide, (List.mem_of_getElem? (i := 118) (by decide +kernel)), rfl, rfl, rfl⟩
theorem fl_X5_21 : FL RX5 21 5 2 (.array .long) true := ⟨RX5, TX5, 8, tyX5, cf5, by decide, (List.mem_of_getElem? (i := 119) (by decide +kernel)), rfl, rfl, rfl⟩
theorem fl_X5_28 : FL RX5 28 5 3 (.object "CrowdRoll$Books") true := ⟨RX5, TX5, 8, tyX5, cf5, by decide, (List.mem_of_getElem? (i := 120) (by decide +kernel)), rfl, rfl, rfl⟩
theorem fl_X5_37 : FL RX5 37 5 4 (.object "CrowdRoll$Rows") true := ⟨RX5, TX5, 8, tyX5, cf5, by decide, (List.mem_of_getElem? (i := 122) (by decide +kernel)), rfl, rfl, rfl⟩
theorem fl_X5_41 : FL RX5 41 5 5 (.array .int) true := ⟨RX5, TX5, 8, tyX5, cf5, by decide, (List.mem_of_getElem? (i := 124) (by decide +kernel)), rfl, rfl, rfl⟩
theorem fl_X5_45 : FL RX5 45 5 6 (.array .int) true := ⟨RX5, TX5, 8, tyX5, cf5, by decide, (List.mem_of_getElem? (i := 126) (by decide +kernel)), rfl, rfl, rfl⟩
theorem fl_X5_48 : FL RX5 48 5 7 (.array .int) true := ⟨RX5, TX5, 8, tyX5, cf5, by decide, (List.mem_of_getElem? (i := 127) (by decide +kernel)), rfl, rfl, rfl⟩
theorem fl_X5_51 : FL RX5 51 1 1 .boolean false := ⟨RX1, TX1, 16, tyX1, cf1, by decide, (List.mem_of_getElem? (i := 308) (by decide +kernel)), rfl, rfl, rfl⟩
theorem fl_X5_63 : FL RX5 63 3 3 .int false := ⟨RX3, TX3, 4, tyX3, cf3, by decide, (List.mem_of_getElem? (i := 86) (by decide +kernel)), rfl, rfl, rfl⟩
theorem fl_X5_80 : FL RX5 80 1 2 .int false := ⟨RX1, TX1, 16, tyX1, cf1, by decide, (List.mem_of_getElem? (i := 310) (by decide +kernel)), rfl, rfl, rfl⟩
theorem fl_X5_181 : FL RX5 181 1 0 .int true := ⟨RX1, TX1, 16, tyX1, cf1, by decide, (List.mem_of_getElem? (i := 306) (by decide +kernel)), rfl, rfl, rfl⟩
theorem fl_X5_184 : FL RX5 184 1 4 .int false := ⟨RX1, TX1, 16, tyX1, cf1, by decide, (List.mem_of_getElem? (i := 314) (by decide +kernel)), rfl, rfl, rfl⟩
theorem fl_X5_203 : FL RX5 203 1 5 .int false := ⟨RX1, TX1, 16, tyX1, cf1, by decide, (List.mem_of_getElem? (i := 318) (by decide +kernel)), rfl, rfl, rfl⟩
theorem fl_X5_213 : FL RX5 213 1 6 .int false := ⟨RX1, TX1, 16, tyX1, cf1, by decide, (List.mem_of_getElem? (i := 321) (by decide +kernel)), rfl, rfl, rfl⟩
theorem fl_X5_216 : FL RX5 216 1 7 .int false := ⟨RX1, TX1, 16, tyX1, cf1, by decide, (List.mem_of_getElem? (i := 324) (by decide +kernel)), rfl, rfl, rfl⟩
theorem fl_X5_222 : FL RX5 222 1 8 (.array .int) true := ⟨RX1, TX1, 16, tyX1, cf1, by decide, (List.mem_of_getElem? (i := 327) (by decide +kernel)), rfl, rfl, rfl⟩
theorem fl_X5_228 : FL RX5 228 1 11 (.array .int) true := ⟨RX1, TX1, 16, tyX1, cf1, by decide, (List.mem_of_getElem? (i := 336) (by decide +kernel)), rfl, rfl, rfl⟩
theorem fl_X5_231 : FL RX5 231 1 9 (.array .int) true := ⟨RX1, TX1, 16, tyX1, cf1, by decide, (List.mem_of_getElem? (i := 330) (by decide +kernel)), rfl, rfl, rfl⟩
theorem fl_X5_267 : FL RX5 267 1 12 (.array .int) true := ⟨RX1, TX1, 16, tyX1, cf1, by decide, (List.mem_of_getElem? (i := 339) (by decide +kernel)), rfl, rfl, rfl⟩
theorem fl_X5_274 : FL RX5 274 1 10 (.array .int) true := ⟨RX1, TX1, 16, tyX1, cf1, by decide, (List.mem_of_getElem? (i := 333) (by decide +kernel)), rfl, rfl, rfl⟩
theorem lo_X5_3 : linkO RX5 3 := ⟨(List.mem_of_getElem? (i := 63) (by decide +kernel)), (List.mem_of_getElem? (i := 56) (by decide +kernel)), List.mem_of_getElem? (i := 57) (by decide +kernel)⟩
theorem lk_X5_27 : linkI RX5 27 mX0_init := ⟨ok_mX0_init, (List.mem_of_getElem? (i := 68) (by decide +kernel)), (List.mem_of_getElem? (i := 69) (by decide +kernel)), rfl, rfl⟩
theorem lk_X5_34 : linkI RX5 34 mX3_init := ⟨ok_mX3_init, (List.mem_of_getElem? (i := 116) (by decide +kernel)), (List.mem_of_getElem? (i := 75) (by decide +kernel)), rfl, rfl⟩
theorem lk_X5_73 : linkI RX5 73 mX1_init := ⟨ok_mX1_init, (List.mem_of_getElem? (i := 301) (by decide +kernel)), (List.mem_of_getElem? (i := 302) (by decide +kernel)), rfl, rfl⟩
theorem lk_X5_54 : linkS RX5 54 mJ7_fill_d0a16 := ⟨ok_mJ7_fill_d0a16, (List.mem_of_getElem? (i := 779) (by decide +kernel)), (List.mem_of_getElem? (i := 780) (by decide +kernel))⟩
theorem lk_X5_66 : linkS RX5 66 mJ7_fill_53178 := ⟨ok_mJ7_fill_53178, (List.mem_of_getElem? (i := 786) (by decide +kernel)), (List.mem_of_getElem? (i := 175) (by decide +kernel))⟩
theorem lk_X5_69 : linkN RX5 69 mX6_isMember := ⟨ok_mX6_isMember, ⟨"CrowdRoll", (List.mem_of_getElem? (i := 219) (by decide +kernel))⟩, (List.mem_of_getElem? (i := 220) (by decide +kernel))⟩
theorem lc_X5_250 : linkC RX5 250 := ⟨(List.mem_of_getElem? (i := 521) (by decide +kernel)), (List.mem_of_getElem? (i := 278) (by decide +kernel)), (List.mem_of_getElem? (i := 277) (by decide +kernel)), (List.mem_of_getElem? (i := 48) (by decide +kernel))⟩
theorem lk_X5_60 : linkV RX5 60 mX0_clear := ⟨ok_mX0_clear, (List.mem_of_getElem? (i := 782) (by decide +kernel)), (List.mem_of_getElem? (i := 783) (by decide +kernel)), (List.mem_of_getElem? (i := 784) (by decide +kernel))⟩
theorem lk_X5_76 : linkV RX5 76 mX5_memberAt := ⟨ok_mX5_memberAt, (List.mem_of_getElem? (i := 234) (by decide +kernel)), (List.mem_of_getElem? (i := 235) (by decide +kernel)), (List.mem_of_getElem? (i := 236) (by decide +kernel))⟩
theorem lk_X5_83 : linkV RX5 83 mX1_hasNews := ⟨ok_mX1_hasNews, (List.mem_of_getElem? (i := 667) (by decide +kernel)), (List.mem_of_getElem? (i := 668) (by decide +kernel)), (List.mem_of_getElem? (i := 669) (by decide +kernel))⟩
theorem lk_X5_86 : linkV RX5 86 mX5_whyRefused := ⟨ok_mX5_whyRefused, (List.mem_of_getElem? (i := 207) (by decide +kernel)), (List.mem_of_getElem? (i := 208) (by decide +kernel)), (List.mem_of_getElem? (i := 209) (by decide +kernel))⟩
theorem lk_X5_90 : linkV RX5 90 mX5_keepAct := ⟨ok_mX5_keepAct, (List.mem_of_getElem? (i := 254) (by decide +kernel)), (List.mem_of_getElem? (i := 255) (by decide +kernel)), (List.mem_of_getElem? (i := 256) (by decide +kernel))⟩
theorem lk_X5_94 : linkV RX5 94 mX0_reserveForAct := ⟨ok_mX0_reserveForAct, (List.mem_of_getElem? (i := 287) (by decide +kernel)), (List.mem_of_getElem? (i := 288) (by decide +kernel)), (List.mem_of_getElem? (i := 289) (by decide +kernel))⟩
theorem lk_X5_97 : linkV RX5 97 mX5_makeMember := ⟨ok_mX5_makeMember, (List.mem_of_getElem? (i := 292) (by decide +kernel)), (List.mem_of_getElem? (i := 293) (by decide +kernel)), (List.mem_of_getElem? (i := 294) (by decide +kernel))⟩
theorem lk_X5_101 : linkV RX5 101 mX5_bring := ⟨ok_mX5_bring, (List.mem_of_getElem? (i := 400) (by decide +kernel)), (List.mem_of_getElem? (i := 401) (by decide +kernel)), (List.mem_of_getElem? (i := 402) (by decide +kernel))⟩
theorem lk_X5_105 : linkV RX5 105 mX0_endAsLost := ⟨ok_mX0_endAsLost, (List.mem_of_getElem? (i := 408) (by decide +kernel)), (List.mem_of_getElem? (i := 409) (by decide +kernel)), (List.mem_of_getElem? (i := 410) (by decide +kernel))⟩
theorem lk_X5_108 : linkV RX5 108 mX0_stillUnderWay := ⟨ok_mX0_stillUnderWay, (List.mem_of_getElem? (i := 475) (by decide +kernel)), (List.mem_of_getElem? (i := 476) (by decide +kernel)), (List.mem_of_getElem? (i := 477) (by decide +kernel))⟩
theorem lk_X5_112 : linkV RX5 112 mX0_sendCopy := ⟨ok_mX0_sendCopy, (List.mem_of_getElem? (i := 479) (by decide +kernel)), (List.mem_of_getElem? (i := 480) (by decide +kernel)), (List.mem_of_getElem? (i := 481) (by decide +kernel))⟩
theorem lk_X5_115 : linkV RX5 115 mX5_setLink := ⟨ok_mX5_setLink, (List.mem_of_getElem? (i := 487) (by decide +kernel)), (List.mem_of_getElem? (i := 488) (by decide +kernel)), (List.mem_of_getElem? (i := 489) (by decide +kernel))⟩
theorem lk_X5_119 : linkV RX5 119 mX5_send := ⟨ok_mX5_send, (List.mem_of_getElem? (i := 446) (by decide +kernel)), (List.mem_of_getElem? (i := 447) (by decide +kernel)), (List.mem_of_getElem? (i := 448) (by decide +kernel))⟩
theorem lk_X5_123 : linkV RX5 123 mX5_goAway := ⟨ok_mX5_goAway, (List.mem_of_getElem? (i := 491) (by decide +kernel)), (List.mem_of_getElem? (i := 492) (by decide +kernel)), (List.mem_of_getElem? (i := 493) (by decide +kernel))⟩
theorem lk_X5_127 : linkV RX5 127 mX5_takeTurn := ⟨ok_mX5_takeTurn, (List.mem_of_getElem? (i := 522) (by decide +kernel)), (List.mem_of_getElem? (i := 523) (by decide +kernel)), (List.mem_of_getElem? (i := 524) (by decide +kernel))⟩
theorem lk_X5_130 : linkV RX5 130 mX5_fallDown := ⟨ok_mX5_fallDown, (List.mem_of_getElem? (i := 556) (by decide +kernel)), (List.mem_of_getElem? (i := 557) (by decide +kernel)), (List.mem_of_getElem? (i := 558) (by decide +kernel))⟩
theorem lk_X5_133 : linkV RX5 133 mX5_riseUp := ⟨ok_mX5_riseUp, (List.mem_of_getElem? (i := 561) (by decide +kernel)), (List.mem_of_getElem? (i := 562) (by decide +kernel)), (List.mem_of_getElem? (i := 563) (by decide +kernel))⟩
theorem lk_X5_136 : linkV RX5 136 mX3_reserve := ⟨ok_mX3_reserve, (List.mem_of_getElem? (i := 258) (by decide +kernel)), (List.mem_of_getElem? (i := 259) (by decide +kernel)), (List.mem_of_getElem? (i := 260) (by decide +kernel))⟩
theorem lk_X5_139 : linkV RX5 139 mX3_add := ⟨ok_mX3_add, (List.mem_of_getElem? (i := 279) (by decide +kernel)), (List.mem_of_getElem? (i := 280) (by decide +kernel)), (List.mem_of_getElem? (i := 281) (by decide +kernel))⟩
theorem lk_X5_142 : linkV RX5 142 mX3_set := ⟨ok_mX3_set, (List.mem_of_getElem? (i := 283) (by decide +kernel)), (List.mem_of_getElem? (i := 284) (by decide +kernel)), (List.mem_of_getElem? (i := 285) (by decide +kernel))⟩
theorem lk_X5_146 : linkV RX5 146 mX5_isBeyond := ⟨ok_mX5_isBeyond, (List.mem_of_getElem? (i := 211) (by decide +kernel)), (List.mem_of_getElem? (i := 212) (by decide +kernel)), (List.mem_of_getElem? (i := 213) (by decide +kernel))⟩
theorem lk_X5_150 : linkV RX5 150 mX5_isMissing := ⟨ok_mX5_isMissing, (List.mem_of_getElem? (i := 222) (by decide +kernel)), (List.mem_of_getElem? (i := 223) (by decide +kernel)), (List.mem_of_getElem? (i := 224) (by decide +kernel))⟩
theorem lk_X5_153 : linkV RX5 153 mX5_isDown := ⟨ok_mX5_isDown, (List.mem_of_getElem? (i := 238) (by decide +kernel)), (List.mem_of_getElem? (i := 239) (by decide +kernel)), (List.mem_of_getElem? (i := 240) (by decide +kernel))⟩
theorem lk_X5_157 : linkV RX5 157 mX5_isNotAsTold := ⟨ok_mX5_isNotAsTold, (List.mem_of_getElem? (i := 246) (by decide +kernel)), (List.mem_of_getElem? (i := 247) (by decide +kernel)), (List.mem_of_getElem? (i := 248) (by decide +kernel))⟩
theorem lk_X5_160 : linkV RX5 160 mX0_hasRoom := ⟨ok_mX0_hasRoom, (List.mem_of_getElem? (i := 250) (by decide +kernel)), (List.mem_of_getElem? (i := 251) (by decide +kernel)), (List.mem_of_getElem? (i := 252) (by decide +kernel))⟩
theorem lk_X5_164 : linkV RX5 164 mX0_hasLetter := ⟨ok_mX0_hasLetter, (List.mem_of_getElem? (i := 215) (by decide +kernel)), (List.mem_of_getElem? (i := 216) (by decide +kernel)), (List.mem_of_getElem? (i := 217) (by decide +kernel))⟩
theorem lk_X5_167 : linkV RX5 167 mX0_ofLetter := ⟨ok_mX0_ofLetter, (List.mem_of_getElem? (i := 226) (by decide +kernel)), (List.mem_of_getElem? (i := 227) (by decide +kernel)), (List.mem_of_getElem? (i := 228) (by decide +kernel))⟩
theorem lk_X5_171 : linkV RX5 171 mX5_upAt := ⟨ok_mX5_upAt, (List.mem_of_getElem? (i := 242) (by decide +kernel)), (List.mem_of_getElem? (i := 243) (by decide +kernel)), (List.mem_of_getElem? (i := 244) (by decide +kernel))⟩
theorem lk_X5_174 : linkV RX5 174 mX5_seat := ⟨ok_mX5_seat, (List.mem_of_getElem? (i := 296) (by decide +kernel)), (List.mem_of_getElem? (i := 297) (by decide +kernel)), (List.mem_of_getElem? (i := 298) (by decide +kernel))⟩
theorem lk_X5_177 : linkV RX5 177 mX1_begin := ⟨ok_mX1_begin, (List.mem_of_getElem? (i := 379) (by decide +kernel)), (List.mem_of_getElem? (i := 380) (by decide +kernel)), (List.mem_of_getElem? (i := 381) (by decide +kernel))⟩
theorem lk_X5_187 : linkV RX5 187 mX1_say := ⟨ok_mX1_say, (List.mem_of_getElem? (i := 495) (by decide +kernel)), (List.mem_of_getElem? (i := 393) (by decide +kernel)), (List.mem_of_getElem? (i := 394) (by decide +kernel))⟩
theorem lk_X5_190 : linkV RX5 190 mX1_stopAsking := ⟨ok_mX1_stopAsking, (List.mem_of_getElem? (i := 496) (by decide +kernel)), (List.mem_of_getElem? (i := 389) (by decide +kernel)), (List.mem_of_getElem? (i := 390) (by decide +kernel))⟩
theorem lk_X5_193 : linkV RX5 193 mX5_sendDrawn := ⟨ok_mX5_sendDrawn, (List.mem_of_getElem? (i := 497) (by decide +kernel)), (List.mem_of_getElem? (i := 498) (by decide +kernel)), (List.mem_of_getElem? (i := 499) (by decide +kernel))⟩
theorem lk_X5_197 : linkV RX5 197 mX1_forgetAll := ⟨ok_mX1_forgetAll, (List.mem_of_getElem? (i := 560) (by decide +kernel)), (List.mem_of_getElem? (i := 384) (by decide +kernel)), (List.mem_of_getElem? (i := 385) (by decide +kernel))⟩
theorem lk_X5_200 : linkV RX5 200 mX1_raiseTerm := ⟨ok_mX1_raiseTerm, (List.mem_of_getElem? (i := 565) (by decide +kernel)), (List.mem_of_getElem? (i := 434) (by decide +kernel)), (List.mem_of_getElem? (i := 435) (by decide +kernel))⟩
theorem lk_X5_206 : linkV RX5 206 mX5_endOldDoubts := ⟨ok_mX5_endOldDoubts, (List.mem_of_getElem? (i := 526) (by decide +kernel)), (List.mem_of_getElem? (i := 527) (by decide +kernel)), (List.mem_of_getElem? (i := 528) (by decide +kernel))⟩
theorem lk_X5_210 : linkV RX5 210 mX5_doubtUnanswered := ⟨ok_mX5_doubtUnanswered, (List.mem_of_getElem? (i := 530) (by decide +kernel)), (List.mem_of_getElem? (i := 531) (by decide +kernel)), (List.mem_of_getElem? (i := 532) (by decide +kernel))⟩
theorem lk_X5_219 : linkV RX5 219 mX5_askNext := ⟨ok_mX5_askNext, (List.mem_of_getElem? (i := 534) (by decide +kernel)), (List.mem_of_getElem? (i := 535) (by decide +kernel)), (List.mem_of_getElem? (i := 536) (by decide +kernel))⟩
theorem lk_X5_225 : linkV RX5 225 mX5_tally := ⟨ok_mX5_tally, (List.mem_of_getElem? (i := 425) (by decide +kernel)), (List.mem_of_getElem? (i := 426) (by decide +kernel)), (List.mem_of_getElem? (i := 427) (by decide +kernel))⟩
theorem lk_X5_234 : linkV RX5 234 mX1_nextPlace := ⟨ok_mX1_nextPlace, (List.mem_of_getElem? (i := 538) (by decide +kernel)), (List.mem_of_getElem? (i := 539) (by decide +kernel)), (List.mem_of_getElem? (i := 540) (by decide +kernel))⟩
theorem lk_X5_237 : linkV RX5 237 mX1_makeRound := ⟨ok_mX1_makeRound, (List.mem_of_getElem? (i := 542) (by decide +kernel)), (List.mem_of_getElem? (i := 543) (by decide +kernel)), (List.mem_of_getElem? (i := 544) (by decide +kernel))⟩
theorem lk_X5_240 : linkV RX5 240 mX1_stepRound := ⟨ok_mX1_stepRound, (List.mem_of_getElem? (i := 551) (by decide +kernel)), (List.mem_of_getElem? (i := 552) (by decide +kernel)), (List.mem_of_getElem? (i := 553) (by decide +kernel))⟩
theorem lk_X5_243 : linkV RX5 243 mX1_gatherLiving := ⟨ok_mX1_gatherLiving, (List.mem_of_getElem? (i := 501) (by decide +kernel)), (List.mem_of_getElem? (i := 502) (by decide +kernel)), (List.mem_of_getElem? (i := 503) (by decide +kernel))⟩
theorem lk_X5_247 : linkV RX5 247 mX1_draw := ⟨ok_mX1_draw, (List.mem_of_getElem? (i := 509) (by decide +kernel)), (List.mem_of_getElem? (i := 510) (by decide +kernel)), (List.mem_of_getElem? (i := 511) (by decide +kernel))⟩
theorem lk_X5_256 : linkV RX5 256 mX0_open := ⟨ok_mX0_open, (List.mem_of_getElem? (i := 450) (by decide +kernel)), (List.mem_of_getElem? (i := 451) (by decide +kernel)), (List.mem_of_getElem? (i := 452) (by decide +kernel))⟩
theorem lk_X5_260 : linkV RX5 260 mX1_pickAll := ⟨ok_mX1_pickAll, (List.mem_of_getElem? (i := 455) (by decide +kernel)), (List.mem_of_getElem? (i := 456) (by decide +kernel)), (List.mem_of_getElem? (i := 457) (by decide +kernel))⟩
theorem lk_X5_264 : linkV RX5 264 mX1_pickFreshest := ⟨ok_mX1_pickFreshest, (List.mem_of_getElem? (i := 459) (by decide +kernel)), (List.mem_of_getElem? (i := 460) (by decide +kernel)), (List.mem_of_getElem? (i := 461) (by decide +kernel))⟩
theorem lk_X5_270 : linkV RX5 270 mX0_put := ⟨ok_mX0_put, (List.mem_of_getElem? (i := 467) (by decide +kernel)), (List.mem_of_getElem? (i := 468) (by decide +kernel)), (List.mem_of_getElem? (i := 469) (by decide +kernel))⟩
theorem lk_X5_277 : linkV RX5 277 mX5_isCut := ⟨ok_mX5_isCut, (List.mem_of_getElem? (i := 404) (by decide +kernel)), (List.mem_of_getElem? (i := 405) (by decide +kernel)), (List.mem_of_getElem? (i := 406) (by decide +kernel))⟩
theorem lk_X5_280 : linkV RX5 280 mX0_endAsDelivered := ⟨ok_mX0_endAsDelivered, (List.mem_of_getElem? (i := 413) (by decide +kernel)), (List.mem_of_getElem? (i := 414) (by decide +kernel)), (List.mem_of_getElem? (i := 415) (by decide +kernel))⟩
theorem lk_X5_283 : linkV RX5 283 mX5_takeNews := ⟨ok_mX5_takeNews, (List.mem_of_getElem? (i := 417) (by decide +kernel)), (List.mem_of_getElem? (i := 418) (by decide +kernel)), (List.mem_of_getElem? (i := 419) (by decide +kernel))⟩
theorem lk_X5_287 : linkV RX5 287 mX5_respond := ⟨ok_mX5_respond, (List.mem_of_getElem? (i := 442) (by decide +kernel)), (List.mem_of_getElem? (i := 443) (by decide +kernel)), (List.mem_of_getElem? (i := 444) (by decide +kernel))⟩
theorem lk_X5_291 : linkV RX5 291 mX0_ofPiece := ⟨ok_mX0_ofPiece, (List.mem_of_getElem? (i := 421) (by decide +kernel)), (List.mem_of_getElem? (i := 422) (by decide +kernel)), (List.mem_of_getElem? (i := 423) (by decide +kernel))⟩
theorem lk_X5_294 : linkV RX5 294 mX1_takePiece := ⟨ok_mX1_takePiece, (List.mem_of_getElem? (i := 429) (by decide +kernel)), (List.mem_of_getElem? (i := 430) (by decide +kernel)), (List.mem_of_getElem? (i := 431) (by decide +kernel))⟩
theorem lk_X5_298 : linkV RX5 298 mX1_isAnswered := ⟨ok_mX1_isAnswered, (List.mem_of_getElem? (i := 471) (by decide +kernel)), (List.mem_of_getElem? (i := 472) (by decide +kernel)), (List.mem_of_getElem? (i := 473) (by decide +kernel))⟩
theorem lk_X5_301 : linkV RX5 301 mX5_firstUp := ⟨ok_mX5_firstUp, (List.mem_of_getElem? (i := 704) (by decide +kernel)), (List.mem_of_getElem? (i := 705) (by decide +kernel)), (List.mem_of_getElem? (i := 706) (by decide +kernel))⟩
theorem lk_X5_305 : linkV RX5 305 mX1_differsIn := ⟨ok_mX1_differsIn, (List.mem_of_getElem? (i := 708) (by decide +kernel)), (List.mem_of_getElem? (i := 709) (by decide +kernel)), (List.mem_of_getElem? (i := 710) (by decide +kernel))⟩
theorem lk_X5_308 : linkV RX5 308 mX1_become := ⟨ok_mX1_become, (List.mem_of_getElem? (i := 817) (by decide +kernel)), (List.mem_of_getElem? (i := 818) (by decide +kernel)), (List.mem_of_getElem? (i := 819) (by decide +kernel))⟩
theorem lk_X5_311 : linkV RX5 311 mX0_become := ⟨ok_mX0_become, (List.mem_of_getElem? (i := 822) (by decide +kernel)), (List.mem_of_getElem? (i := 823) (by decide +kernel)), (List.mem_of_getElem? (i := 824) (by decide +kernel))⟩
theorem lk_X5_314 : linkV RX5 314 mX3_become := ⟨ok_mX3_become, (List.mem_of_getElem? (i := 832) (by decide +kernel)), (List.mem_of_getElem? (i := 827) (by decide +kernel)), (List.mem_of_getElem? (i := 828) (by decide +kernel))⟩
theorem lk_X5_317 : linkV RX5 317 mX1_sameAs := ⟨ok_mX1_sameAs, (List.mem_of_getElem? (i := 793) (by decide +kernel)), (List.mem_of_getElem? (i := 794) (by decide +kernel)), (List.mem_of_getElem? (i := 795) (by decide +kernel))⟩
theorem lk_X5_321 : linkV RX5 321 mX0_sameAs := ⟨ok_mX0_sameAs, (List.mem_of_getElem? (i := 800) (by decide +kernel)), (List.mem_of_getElem? (i := 801) (by decide +kernel)), (List.mem_of_getElem? (i := 802) (by decide +kernel))⟩
theorem ln_X5_9 : linkNew RX5 9 1 [.int 0, .int 0, .int 0, .long 0, .int 0, .int 0, .int 0, .int 0, .null, .null, .null, .null, .null, .null, .int 0, .int 0] := ⟨RX1, TX1, 16, tyX1, cf1, (List.mem_of_getElem? (i := 64) (by decide +kernel)), rfl, by decide +kernel⟩
theorem ln_X5_25 : linkNew RX5 25 0 [.null, .null, .int 0, .int 0] := ⟨RX0, TX0, 4, tyX0, cf0, (List.mem_of_getElem? (i := 66) (by decide +kernel)), rfl, by decide +kernel⟩
theorem ln_X5_32 : linkNew RX5 32 3 [.int 0, .int 0, .null, .int 0] := ⟨RX3, TX3, 4, tyX3, cf3, (List.mem_of_getElem? (i := 115) (by decide +kernel)), rfl, by decide +kernel⟩
theorem lk_L_9 : linkI RL 9 mX6_init := ⟨ok_mX6_init, (List.mem_of_getElem? (i := 52) (by decide +kernel)), (List.mem_of_getElem? (i := 53) (by decide +kernel)), rfl, rfl⟩
theorem lk_L_12 : linkI RL 12 mX7_init := ⟨ok_mX7_init, (List.mem_of_getElem? (i := 855) (by decide +kernel)), (List.mem_of_getElem? (i := 856) (by decide +kernel)), rfl, rfl⟩
theorem lk_L_15 : linkV RL 15 mX6_member := ⟨ok_mX6_member, (List.mem_of_getElem? (i := 199) (by decide +kernel)), (List.mem_of_getElem? (i := 200) (by decide +kernel)), (List.mem_of_getElem? (i := 201) (by decide +kernel))⟩
theorem lk_L_19 : linkV RL 19 mX7_member := ⟨ok_mX7_member, (List.mem_of_getElem? (i := 910) (by decide +kernel)), (List.mem_of_getElem? (i := 911) (by decide +kernel)), (List.mem_of_getElem? (i := 912) (by decide +kernel))⟩
theorem lk_L_20 : linkV RL 20 mX6_join := ⟨ok_mX6_join, (List.mem_of_getElem? (i := 578) (by decide +kernel)), (List.mem_of_getElem? (i := 579) (by decide +kernel)), (List.mem_of_getElem? (i := 580) (by decide +kernel))⟩
theorem lk_L_24 : linkV RL 24 mX7_join := ⟨ok_mX7_join, (List.mem_of_getElem? (i := 955) (by decide +kernel)), (List.mem_of_getElem? (i := 956) (by decide +kernel)), (List.mem_of_getElem? (i := 957) (by decide +kernel))⟩
theorem lk_L_25 : linkV RL 25 mX6_leave := ⟨ok_mX6_leave, (List.mem_of_getElem? (i := 582) (by decide +kernel)), (List.mem_of_getElem? (i := 583) (by decide +kernel)), (List.mem_of_getElem? (i := 584) (by decide +kernel))⟩
theorem lk_L_29 : linkV RL 29 mX7_leave := ⟨ok_mX7_leave, (List.mem_of_getElem? (i := 981) (by decide +kernel)), (List.mem_of_getElem? (i := 982) (by decide +kernel)), (List.mem_of_getElem? (i := 983) (by decide +kernel))⟩
theorem lk_L_30 : linkV RL 30 mX6_turn := ⟨ok_mX6_turn, (List.mem_of_getElem? (i := 586) (by decide +kernel)), (List.mem_of_getElem? (i := 587) (by decide +kernel)), (List.mem_of_getElem? (i := 588) (by decide +kernel))⟩
theorem lk_L_33 : linkV RL 33 mX7_turn := ⟨ok_mX7_turn, (List.mem_of_getElem? (i := 1007) (by decide +kernel)), (List.mem_of_getElem? (i := 1008) (by decide +kernel)), (List.mem_of_getElem? (i := 1009) (by decide +kernel))⟩
theorem lk_L_34 : linkV RL 34 mX6_fall := ⟨ok_mX6_fall, (List.mem_of_getElem? (i := 590) (by decide +kernel)), (List.mem_of_getElem? (i := 591) (by decide +kernel)), (List.mem_of_getElem? (i := 592) (by decide +kernel))⟩
theorem lk_L_37 : linkV RL 37 mX7_fall := ⟨ok_mX7_fall, (List.mem_of_getElem? (i := 1027) (by decide +kernel)), (List.mem_of_getElem? (i := 1028) (by decide +kernel)), (List.mem_of_getElem? (i := 1029) (by decide +kernel))⟩
theorem lk_L_38 : linkV RL 38 mX6_rise := ⟨ok_mX6_rise, (List.mem_of_getElem? (i := 594) (by decide +kernel)), (List.mem_of_getElem? (i := 595) (by decide +kernel)), (List.mem_of_getElem? (i := 596) (by decide +kernel))⟩
theorem lk_L_41 : linkV RL 41 mX7_rise := ⟨ok_mX7_rise, (List.mem_of_getElem? (i := 1031) (by decide +kernel)), (List.mem_of_getElem? (i := 1032) (by decide +kernel)), (List.mem_of_getElem? (i := 1033) (by decide +kernel))⟩
theorem lk_L_42 : linkV RL 42 mX6_deliver := ⟨ok_mX6_deliver, (List.mem_of_getElem? (i := 598) (by decide +kernel)), (List.mem_of_getElem? (i := 599) (by decide +kernel)), (List.mem_of_getElem? (i := 600) (by decide +kernel))⟩
theorem lk_L_45 : linkV RL 45 mX7_deliver := ⟨ok_mX7_deliver, (List.mem_of_getElem? (i := 1035) (by decide +kernel)), (List.mem_of_getElem? (i := 1036) (by decide +kernel)), (List.mem_of_getElem? (i := 1037) (by decide +kernel))⟩
theorem lk_L_46 : linkV RL 46 mX6_lose := ⟨ok_mX6_lose, (List.mem_of_getElem? (i := 602) (by decide +kernel)), (List.mem_of_getElem? (i := 603) (by decide +kernel)), (List.mem_of_getElem? (i := 604) (by decide +kernel))⟩
theorem lk_L_49 : linkV RL 49 mX7_lose := ⟨ok_mX7_lose, (List.mem_of_getElem? (i := 1063) (by decide +kernel)), (List.mem_of_getElem? (i := 1064) (by decide +kernel)), (List.mem_of_getElem? (i := 1065) (by decide +kernel))⟩
theorem lk_L_50 : linkV RL 50 mX6_twice := ⟨ok_mX6_twice, (List.mem_of_getElem? (i := 606) (by decide +kernel)), (List.mem_of_getElem? (i := 607) (by decide +kernel)), (List.mem_of_getElem? (i := 608) (by decide +kernel))⟩
theorem lk_L_53 : linkV RL 53 mX7_twice := ⟨ok_mX7_twice, (List.mem_of_getElem? (i := 1071) (by decide +kernel)), (List.mem_of_getElem? (i := 1072) (by decide +kernel)), (List.mem_of_getElem? (i := 1073) (by decide +kernel))⟩
theorem lk_L_54 : linkV RL 54 mX6_cut := ⟨ok_mX6_cut, (List.mem_of_getElem? (i := 610) (by decide +kernel)), (List.mem_of_getElem? (i := 611) (by decide +kernel)), (List.mem_of_getElem? (i := 612) (by decide +kernel))⟩
theorem lk_L_57 : linkV RL 57 mX7_cut := ⟨ok_mX7_cut, (List.mem_of_getElem? (i := 1075) (by decide +kernel)), (List.mem_of_getElem? (i := 1076) (by decide +kernel)), (List.mem_of_getElem? (i := 1077) (by decide +kernel))⟩
theorem lk_L_58 : linkV RL 58 mX6_heal := ⟨ok_mX6_heal, (List.mem_of_getElem? (i := 614) (by decide +kernel)), (List.mem_of_getElem? (i := 615) (by decide +kernel)), (List.mem_of_getElem? (i := 616) (by decide +kernel))⟩
theorem lk_L_61 : linkV RL 61 mX7_heal := ⟨ok_mX7_heal, (List.mem_of_getElem? (i := 1083) (by decide +kernel)), (List.mem_of_getElem? (i := 1084) (by decide +kernel)), (List.mem_of_getElem? (i := 1085) (by decide +kernel))⟩
theorem lk_L_62 : linkV RL 62 mX6_letters := ⟨ok_mX6_letters, (List.mem_of_getElem? (i := 618) (by decide +kernel)), (List.mem_of_getElem? (i := 619) (by decide +kernel)), (List.mem_of_getElem? (i := 620) (by decide +kernel))⟩
theorem lk_L_65 : linkV RL 65 mX7_letters := ⟨ok_mX7_letters, (List.mem_of_getElem? (i := 1087) (by decide +kernel)), (List.mem_of_getElem? (i := 1088) (by decide +kernel)), (List.mem_of_getElem? (i := 1089) (by decide +kernel))⟩
theorem lk_L_66 : linkV RL 66 mX6_underWay := ⟨ok_mX6_underWay, (List.mem_of_getElem? (i := 627) (by decide +kernel)), (List.mem_of_getElem? (i := 628) (by decide +kernel)), (List.mem_of_getElem? (i := 629) (by decide +kernel))⟩
theorem lk_L_69 : linkV RL 69 mX7_underWay := ⟨ok_mX7_underWay, (List.mem_of_getElem? (i := 1095) (by decide +kernel)), (List.mem_of_getElem? (i := 1096) (by decide +kernel)), (List.mem_of_getElem? (i := 1097) (by decide +kernel))⟩
theorem lk_L_70 : linkV RL 70 mX6_letter := ⟨ok_mX6_letter, (List.mem_of_getElem? (i := 635) (by decide +kernel)), (List.mem_of_getElem? (i := 636) (by decide +kernel)), (List.mem_of_getElem? (i := 637) (by decide +kernel))⟩
theorem lk_L_73 : linkV RL 73 mX7_letter := ⟨ok_mX7_letter, (List.mem_of_getElem? (i := 1099) (by decide +kernel)), (List.mem_of_getElem? (i := 1100) (by decide +kernel)), (List.mem_of_getElem? (i := 1101) (by decide +kernel))⟩
theorem lk_L_74 : linkV RL 74 mX6_carries := ⟨ok_mX6_carries, (List.mem_of_getElem? (i := 641) (by decide +kernel)), (List.mem_of_getElem? (i := 642) (by decide +kernel)), (List.mem_of_getElem? (i := 643) (by decide +kernel))⟩
theorem lk_L_78 : linkV RL 78 mX7_carries := ⟨ok_mX7_carries, (List.mem_of_getElem? (i := 1104) (by decide +kernel)), (List.mem_of_getElem? (i := 1105) (by decide +kernel)), (List.mem_of_getElem? (i := 1106) (by decide +kernel))⟩
theorem lk_L_79 : linkV RL 79 mX6_state := ⟨ok_mX6_state, (List.mem_of_getElem? (i := 646) (by decide +kernel)), (List.mem_of_getElem? (i := 647) (by decide +kernel)), (List.mem_of_getElem? (i := 648) (by decide +kernel))⟩
theorem lk_L_82 : linkV RL 82 mX7_state := ⟨ok_mX7_state, (List.mem_of_getElem? (i := 1109) (by decide +kernel)), (List.mem_of_getElem? (i := 1110) (by decide +kernel)), (List.mem_of_getElem? (i := 1111) (by decide +kernel))⟩
theorem lk_L_83 : linkV RL 83 mX6_news := ⟨ok_mX6_news, (List.mem_of_getElem? (i := 659) (by decide +kernel)), (List.mem_of_getElem? (i := 660) (by decide +kernel)), (List.mem_of_getElem? (i := 661) (by decide +kernel))⟩
theorem lk_L_86 : linkV RL 86 mX7_news := ⟨ok_mX7_news, (List.mem_of_getElem? (i := 1114) (by decide +kernel)), (List.mem_of_getElem? (i := 1115) (by decide +kernel)), (List.mem_of_getElem? (i := 1116) (by decide +kernel))⟩
theorem lk_L_87 : linkV RL 87 mX6_as := ⟨ok_mX6_as, (List.mem_of_getElem? (i := 671) (by decide +kernel)), (List.mem_of_getElem? (i := 672) (by decide +kernel)), (List.mem_of_getElem? (i := 673) (by decide +kernel))⟩
theorem lk_L_90 : linkV RL 90 mX7_as := ⟨ok_mX7_as, (List.mem_of_getElem? (i := 1122) (by decide +kernel)), (List.mem_of_getElem? (i := 1123) (by decide +kernel)), (List.mem_of_getElem? (i := 1124) (by decide +kernel))⟩
theorem lk_L_91 : linkV RL 91 mX6_round := ⟨ok_mX6_round, (List.mem_of_getElem? (i := 675) (by decide +kernel)), (List.mem_of_getElem? (i := 676) (by decide +kernel)), (List.mem_of_getElem? (i := 677) (by decide +kernel))⟩
theorem lk_L_94 : linkV RL 94 mX7_round := ⟨ok_mX7_round, (List.mem_of_getElem? (i := 1126) (by decide +kernel)), (List.mem_of_getElem? (i := 1127) (by decide +kernel)), (List.mem_of_getElem? (i := 1128) (by decide +kernel))⟩
theorem lk_L_95 : linkV RL 95 mX6_next := ⟨ok_mX6_next, (List.mem_of_getElem? (i := 679) (by decide +kernel)), (List.mem_of_getElem? (i := 680) (by decide +kernel)), (List.mem_of_getElem? (i := 681) (by decide +kernel))⟩
theorem lk_L_98 : linkV RL 98 mX7_next := ⟨ok_mX7_next, (List.mem_of_getElem? (i := 1130) (by decide +kernel)), (List.mem_of_getElem? (i := 1131) (by decide +kernel)), (List.mem_of_getElem? (i := 1132) (by decide +kernel))⟩
theorem lk_L_99 : linkV RL 99 mX6_copy := ⟨ok_mX6_copy, (List.mem_of_getElem? (i := 687) (by decide +kernel)), (List.mem_of_getElem? (i := 688) (by decide +kernel)), (List.mem_of_getElem? (i := 689) (by decide +kernel))⟩
theorem lk_L_103 : linkV RL 103 mX7_copy := ⟨ok_mX7_copy, (List.mem_of_getElem? (i := 1134) (by decide +kernel)), (List.mem_of_getElem? (i := 1135) (by decide +kernel)), (List.mem_of_getElem? (i := 1136) (by decide +kernel))⟩
theorem lk_L_104 : linkV RL 104 mX6_table := ⟨ok_mX6_table, (List.mem_of_getElem? (i := 692) (by decide +kernel)), (List.mem_of_getElem? (i := 693) (by decide +kernel)), (List.mem_of_getElem? (i := 694) (by decide +kernel))⟩
theorem lk_L_107 : linkV RL 107 mX7_table := ⟨ok_mX7_table, (List.mem_of_getElem? (i := 1139) (by decide +kernel)), (List.mem_of_getElem? (i := 1140) (by decide +kernel)), (List.mem_of_getElem? (i := 1141) (by decide +kernel))⟩
theorem lk_L_108 : linkV RL 108 mX6_agree := ⟨ok_mX6_agree, (List.mem_of_getElem? (i := 696) (by decide +kernel)), (List.mem_of_getElem? (i := 697) (by decide +kernel)), (List.mem_of_getElem? (i := 698) (by decide +kernel))⟩
theorem lk_L_112 : linkV RL 112 mX7_agree := ⟨ok_mX7_agree, (List.mem_of_getElem? (i := 1144) (by decide +kernel)), (List.mem_of_getElem? (i := 1145) (by decide +kernel)), (List.mem_of_getElem? (i := 1146) (by decide +kernel))⟩
theorem lk_L_113 : linkV RL 113 mX6_apart := ⟨ok_mX6_apart, (List.mem_of_getElem? (i := 712) (by decide +kernel)), (List.mem_of_getElem? (i := 713) (by decide +kernel)), (List.mem_of_getElem? (i := 714) (by decide +kernel))⟩
theorem lk_L_116 : linkV RL 116 mX7_apart := ⟨ok_mX7_apart, (List.mem_of_getElem? (i := 1156) (by decide +kernel)), (List.mem_of_getElem? (i := 1157) (by decide +kernel)), (List.mem_of_getElem? (i := 1158) (by decide +kernel))⟩
theorem lk_L_117 : linkV RL 117 mX6_count := ⟨ok_mX6_count, (List.mem_of_getElem? (i := 716) (by decide +kernel)), (List.mem_of_getElem? (i := 717) (by decide +kernel)), (List.mem_of_getElem? (i := 718) (by decide +kernel))⟩
theorem lk_L_120 : linkV RL 120 mX7_count := ⟨ok_mX7_count, (List.mem_of_getElem? (i := 1161) (by decide +kernel)), (List.mem_of_getElem? (i := 1162) (by decide +kernel)), (List.mem_of_getElem? (i := 1163) (by decide +kernel))⟩
theorem lk_L_121 : linkV RL 121 mX6_way := ⟨ok_mX6_way, (List.mem_of_getElem? (i := 725) (by decide +kernel)), (List.mem_of_getElem? (i := 726) (by decide +kernel)), (List.mem_of_getElem? (i := 727) (by decide +kernel))⟩
theorem lk_L_124 : linkV RL 124 mX7_way := ⟨ok_mX7_way, (List.mem_of_getElem? (i := 1165) (by decide +kernel)), (List.mem_of_getElem? (i := 1166) (by decide +kernel)), (List.mem_of_getElem? (i := 1167) (by decide +kernel))⟩
theorem lk_L_125 : linkV RL 125 mX6_wayAt := ⟨ok_mX6_wayAt, (List.mem_of_getElem? (i := 744) (by decide +kernel)), (List.mem_of_getElem? (i := 745) (by decide +kernel)), (List.mem_of_getElem? (i := 746) (by decide +kernel))⟩
theorem lk_L_128 : linkV RL 128 mX7_wayAt := ⟨ok_mX7_wayAt, (List.mem_of_getElem? (i := 1173) (by decide +kernel)), (List.mem_of_getElem? (i := 1174) (by decide +kernel)), (List.mem_of_getElem? (i := 1175) (by decide +kernel))⟩
theorem lk_L_129 : linkV RL 129 mX6_forge := ⟨ok_mX6_forge, (List.mem_of_getElem? (i := 748) (by decide +kernel)), (List.mem_of_getElem? (i := 749) (by decide +kernel)), (List.mem_of_getElem? (i := 750) (by decide +kernel))⟩
theorem lk_L_132 : linkV RL 132 mX7_forge := ⟨ok_mX7_forge, (List.mem_of_getElem? (i := 1181) (by decide +kernel)), (List.mem_of_getElem? (i := 1182) (by decide +kernel)), (List.mem_of_getElem? (i := 1183) (by decide +kernel))⟩
theorem lk_L_133 : linkV RL 133 mX6_check := ⟨ok_mX6_check, (List.mem_of_getElem? (i := 752) (by decide +kernel)), (List.mem_of_getElem? (i := 753) (by decide +kernel)), (List.mem_of_getElem? (i := 754) (by decide +kernel))⟩
theorem lk_L_136 : linkV RL 136 mX7_check := ⟨ok_mX7_check, (List.mem_of_getElem? (i := 1185) (by decide +kernel)), (List.mem_of_getElem? (i := 1186) (by decide +kernel)), (List.mem_of_getElem? (i := 1187) (by decide +kernel))⟩
theorem lk_L_137 : linkV RL 137 mX6_replay := ⟨ok_mX6_replay, (List.mem_of_getElem? (i := 771) (by decide +kernel)), (List.mem_of_getElem? (i := 772) (by decide +kernel)), (List.mem_of_getElem? (i := 773) (by decide +kernel))⟩
theorem lk_L_140 : linkV RL 140 mX7_replay := ⟨ok_mX7_replay, (List.mem_of_getElem? (i := 1193) (by decide +kernel)), (List.mem_of_getElem? (i := 1194) (by decide +kernel)), (List.mem_of_getElem? (i := 1195) (by decide +kernel))⟩
theorem lk_L_141 : linkV RL 141 mX6_image := ⟨ok_mX6_image, (List.mem_of_getElem? (i := 809) (by decide +kernel)), (List.mem_of_getElem? (i := 810) (by decide +kernel)), (List.mem_of_getElem? (i := 811) (by decide +kernel))⟩
theorem lk_L_144 : linkV RL 144 mX7_image := ⟨ok_mX7_image, (List.mem_of_getElem? (i := 1197) (by decide +kernel)), (List.mem_of_getElem? (i := 1198) (by decide +kernel)), (List.mem_of_getElem? (i := 1199) (by decide +kernel))⟩
theorem lk_L_145 : linkV RL 145 mX6_back := ⟨ok_mX6_back, (List.mem_of_getElem? (i := 833) (by decide +kernel)), (List.mem_of_getElem? (i := 834) (by decide +kernel)), (List.mem_of_getElem? (i := 835) (by decide +kernel))⟩
theorem lk_L_148 : linkV RL 148 mX7_back := ⟨ok_mX7_back, (List.mem_of_getElem? (i := 1201) (by decide +kernel)), (List.mem_of_getElem? (i := 1202) (by decide +kernel)), (List.mem_of_getElem? (i := 1203) (by decide +kernel))⟩
theorem lk_L_149 : linkV RL 149 mX6_trace := ⟨ok_mX6_trace, (List.mem_of_getElem? (i := 837) (by decide +kernel)), (List.mem_of_getElem? (i := 838) (by decide +kernel)), (List.mem_of_getElem? (i := 839) (by decide +kernel))⟩
theorem lk_L_152 : linkV RL 152 mX7_trace := ⟨ok_mX7_trace, (List.mem_of_getElem? (i := 1205) (by decide +kernel)), (List.mem_of_getElem? (i := 1206) (by decide +kernel)), (List.mem_of_getElem? (i := 1207) (by decide +kernel))⟩
theorem lk_L_153 : linkV RL 153 mX6_again := ⟨ok_mX6_again, (List.mem_of_getElem? (i := 841) (by decide +kernel)), (List.mem_of_getElem? (i := 842) (by decide +kernel)), (List.mem_of_getElem? (i := 843) (by decide +kernel))⟩
theorem lk_L_156 : linkV RL 156 mX7_again := ⟨ok_mX7_again, (List.mem_of_getElem? (i := 1209) (by decide +kernel)), (List.mem_of_getElem? (i := 1210) (by decide +kernel)), (List.mem_of_getElem? (i := 1211) (by decide +kernel))⟩
theorem lk_L_157 : linkV RL 157 mX6_status := ⟨ok_mX6_status, (List.mem_of_getElem? (i := 849) (by decide +kernel)), (List.mem_of_getElem? (i := 850) (by decide +kernel)), (List.mem_of_getElem? (i := 851) (by decide +kernel))⟩
theorem lk_L_160 : linkV RL 160 mX7_status := ⟨ok_mX7_status, (List.mem_of_getElem? (i := 1213) (by decide +kernel)), (List.mem_of_getElem? (i := 1214) (by decide +kernel)), (List.mem_of_getElem? (i := 1215) (by decide +kernel))⟩
theorem kc_L_13 : Cond.constantLong RL 13 (4294967295) ∈ lw_tbl := (List.mem_of_getElem? (i := 1219) (by decide +kernel))
theorem ln_L_7 : linkNew RL 7 6 [.null, .null, .null, .null, .null, .null, .null] := ⟨RX6, TX6, 7, tyX6, cf6, (List.mem_of_getElem? (i := 50) (by decide +kernel)), rfl, by decide +kernel⟩
theorem ln_L_10 : linkNew RL 10 7 [.null, .null, .null, .null, .int 0, .null, .null, .null, .null, .int 0, .int 0, .int 0, .null, .int 0, .int 0, .int 0] := ⟨RX7, TX7, 16, tyX7, cf7, (List.mem_of_getElem? (i := 853) (by decide +kernel)), rfl, by decide +kernel⟩
theorem fl_X7_8 : FL RX7 8 7 0 (.array .int) true := ⟨RX7, TX7, 16, tyX7, cf7, by decide, (List.mem_of_getElem? (i := 860) (by decide +kernel)), rfl, rfl, rfl⟩
theorem fl_X7_14 : FL RX7 14 7 1 (.array .int) true := ⟨RX7, TX7, 16, tyX7, cf7, by decide, (List.mem_of_getElem? (i := 861) (by decide +kernel)), rfl, rfl, rfl⟩
theorem fl_X7_17 : FL RX7 17 7 2 (.array .long) true := ⟨RX7, TX7, 16, tyX7, cf7, by decide, (List.mem_of_getElem? (i := 862) (by decide +kernel)), rfl, rfl, rfl⟩
theorem fl_X7_21 : FL RX7 21 7 3 (.array .long) true := ⟨RX7, TX7, 16, tyX7, cf7, by decide, (List.mem_of_getElem? (i := 863) (by decide +kernel)), rfl, rfl, rfl⟩
theorem fl_X7_24 : FL RX7 24 7 5 (.array .int) true := ⟨RX7, TX7, 16, tyX7, cf7, by decide, (List.mem_of_getElem? (i := 865) (by decide +kernel)), rfl, rfl, rfl⟩
theorem fl_X7_27 : FL RX7 27 7 6 (.array .int) true := ⟨RX7, TX7, 16, tyX7, cf7, by decide, (List.mem_of_getElem? (i := 866) (by decide +kernel)), rfl, rfl, rfl⟩
theorem fl_X7_30 : FL RX7 30 7 7 (.array .int) true := ⟨RX7, TX7, 16, tyX7, cf7, by decide, (List.mem_of_getElem? (i := 867) (by decide +kernel)), rfl, rfl, rfl⟩
theorem fl_X7_33 : FL RX7 33 7 8 (.array .int) true := ⟨RX7, TX7, 16, tyX7, cf7, by decide, (List.mem_of_getElem? (i := 868) (by decide +kernel)), rfl, rfl, rfl⟩
theorem fl_X7_36 : FL RX7 36 7 12 (.array .boolean) true := ⟨RX7, TX7, 16, tyX7, cf7, by decide, (List.mem_of_getElem? (i := 872) (by decide +kernel)), rfl, rfl, rfl⟩
theorem fl_X7_40 : FL RX7 40 7 10 .int false := ⟨RX7, TX7, 16, tyX7, cf7, by decide, (List.mem_of_getElem? (i := 870) (by decide +kernel)), rfl, rfl, rfl⟩
theorem fl_X7_96 : FL RX7 96 7 11 .int false := ⟨RX7, TX7, 16, tyX7, cf7, by decide, (List.mem_of_getElem? (i := 871) (by decide +kernel)), rfl, rfl, rfl⟩
theorem fl_X7_186 : FL RX7 186 7 13 .int false := ⟨RX7, TX7, 16, tyX7, cf7, by decide, (List.mem_of_getElem? (i := 873) (by decide +kernel)), rfl, rfl, rfl⟩
theorem fl_X7_189 : FL RX7 189 7 14 .int false := ⟨RX7, TX7, 16, tyX7, cf7, by decide, (List.mem_of_getElem? (i := 874) (by decide +kernel)), rfl, rfl, rfl⟩
theorem fl_X7_192 : FL RX7 192 7 15 .int false := ⟨RX7, TX7, 16, tyX7, cf7, by decide, (List.mem_of_getElem? (i := 875) (by decide +kernel)), rfl, rfl, rfl⟩
theorem fl_X7_200 : FL RX7 200 7 9 .int false := ⟨RX7, TX7, 16, tyX7, cf7, by decide, (List.mem_of_getElem? (i := 869) (by decide +kernel)), rfl, rfl, rfl⟩
theorem fl_X7_213 : FL RX7 213 7 4 .boolean false := ⟨RX7, TX7, 16, tyX7, cf7, by decide, (List.mem_of_getElem? (i := 864) (by decide +kernel)), rfl, rfl, rfl⟩
theorem lo_X7_1 : linkO RX7 1 := ⟨(List.mem_of_getElem? (i := 858) (by decide +kernel)), (List.mem_of_getElem? (i := 56) (by decide +kernel)), List.mem_of_getElem? (i := 57) (by decide +kernel)⟩
theorem lk_X7_44 : linkS RX7 44 mX7_newsAt := ⟨ok_mX7_newsAt, (List.mem_of_getElem? (i := 948) (by decide +kernel)), (List.mem_of_getElem? (i := 949) (by decide +kernel))⟩
theorem lk_X7_121 : linkS RX7 121 mX7_isMember := ⟨ok_mX7_isMember, (List.mem_of_getElem? (i := 914) (by decide +kernel)), (List.mem_of_getElem? (i := 915) (by decide +kernel))⟩
theorem lk_X7_165 : linkS RX7 165 mX7_isIn := ⟨ok_mX7_isIn, (List.mem_of_getElem? (i := 1092) (by decide +kernel)), (List.mem_of_getElem? (i := 1093) (by decide +kernel))⟩
theorem lk_X7_48 : linkV RX7 48 mX7_of := ⟨ok_mX7_of, (List.mem_of_getElem? (i := 925) (by decide +kernel)), (List.mem_of_getElem? (i := 927) (by decide +kernel)), (List.mem_of_getElem? (i := 4) (by decide +kernel))⟩
theorem lk_X7_59 : linkV RX7 59 mX7_ran := ⟨ok_mX7_ran, (List.mem_of_getElem? (i := 972) (by decide +kernel)), (List.mem_of_getElem? (i := 974) (by decide +kernel)), (List.mem_of_getElem? (i := 13) (by decide +kernel))⟩
theorem lk_X7_63 : linkV RX7 63 mX7_to := ⟨ok_mX7_to, (List.mem_of_getElem? (i := 936) (by decide +kernel)), (List.mem_of_getElem? (i := 938) (by decide +kernel)), (List.mem_of_getElem? (i := 6) (by decide +kernel))⟩
theorem lk_X7_67 : linkV RX7 67 mX7_writes := ⟨ok_mX7_writes, (List.mem_of_getElem? (i := 944) (by decide +kernel)), (List.mem_of_getElem? (i := 946) (by decide +kernel)), (List.mem_of_getElem? (i := 8) (by decide +kernel))⟩
theorem lk_X7_72 : linkV RX7 72 mX7_kindOf := ⟨ok_mX7_kindOf, (List.mem_of_getElem? (i := 963) (by decide +kernel)), (List.mem_of_getElem? (i := 965) (by decide +kernel)), (List.mem_of_getElem? (i := 11) (by decide +kernel))⟩
theorem lk_X7_75 : linkV RX7 75 mX7_carry := ⟨ok_mX7_carry, (List.mem_of_getElem? (i := 967) (by decide +kernel)), (List.mem_of_getElem? (i := 969) (by decide +kernel)), (List.mem_of_getElem? (i := 12) (by decide +kernel))⟩
theorem lk_X7_79 : linkV RX7 79 mX7_leastTold := ⟨ok_mX7_leastTold, (List.mem_of_getElem? (i := 977) (by decide +kernel)), (List.mem_of_getElem? (i := 979) (by decide +kernel)), (List.mem_of_getElem? (i := 14) (by decide +kernel))⟩
theorem lk_X7_83 : linkV RX7 83 mX7_letterOf := ⟨ok_mX7_letterOf, (List.mem_of_getElem? (i := 1047) (by decide +kernel)), (List.mem_of_getElem? (i := 1049) (by decide +kernel)), (List.mem_of_getElem? (i := 26) (by decide +kernel))⟩
theorem lk_X7_86 : linkV RX7 86 mX7_takes := ⟨ok_mX7_takes, (List.mem_of_getElem? (i := 1055) (by decide +kernel)), (List.mem_of_getElem? (i := 1057) (by decide +kernel)), (List.mem_of_getElem? (i := 28) (by decide +kernel))⟩
theorem lk_X7_89 : linkV RX7 89 mX7_send := ⟨ok_mX7_send, (List.mem_of_getElem? (i := 959) (by decide +kernel)), (List.mem_of_getElem? (i := 961) (by decide +kernel)), (List.mem_of_getElem? (i := 10) (by decide +kernel))⟩
theorem lk_X7_93 : linkV RX7 93 mX7_answered := ⟨ok_mX7_answered, (List.mem_of_getElem? (i := 1059) (by decide +kernel)), (List.mem_of_getElem? (i := 1061) (by decide +kernel)), (List.mem_of_getElem? (i := 29) (by decide +kernel))⟩
theorem lk_X7_99 : linkV RX7 99 mX7_isAround := ⟨ok_mX7_isAround, (List.mem_of_getElem? (i := 997) (by decide +kernel)), (List.mem_of_getElem? (i := 999) (by decide +kernel)), (List.mem_of_getElem? (i := 18) (by decide +kernel))⟩
theorem lk_X7_103 : linkV RX7 103 mX7_gather := ⟨ok_mX7_gather, (List.mem_of_getElem? (i := 993) (by decide +kernel)), (List.mem_of_getElem? (i := 995) (by decide +kernel)), (List.mem_of_getElem? (i := 17) (by decide +kernel))⟩
theorem lk_X7_106 : linkV RX7 106 mX7_draw := ⟨ok_mX7_draw, (List.mem_of_getElem? (i := 1001) (by decide +kernel)), (List.mem_of_getElem? (i := 1003) (by decide +kernel)), (List.mem_of_getElem? (i := 19) (by decide +kernel))⟩
theorem lk_X7_109 : linkV RX7 109 mX7_stillThere := ⟨ok_mX7_stillThere, (List.mem_of_getElem? (i := 1019) (by decide +kernel)), (List.mem_of_getElem? (i := 1021) (by decide +kernel)), (List.mem_of_getElem? (i := 22) (by decide +kernel))⟩
theorem lk_X7_112 : linkV RX7 112 mX7_mix := ⟨ok_mX7_mix, (List.mem_of_getElem? (i := 1023) (by decide +kernel)), (List.mem_of_getElem? (i := 1025) (by decide +kernel)), (List.mem_of_getElem? (i := 23) (by decide +kernel))⟩
theorem lk_X7_115 : linkV RX7 115 mX7_sendsThree := ⟨ok_mX7_sendsThree, (List.mem_of_getElem? (i := 989) (by decide +kernel)), (List.mem_of_getElem? (i := 991) (by decide +kernel)), (List.mem_of_getElem? (i := 16) (by decide +kernel))⟩
theorem lk_X7_118 : linkV RX7 118 mX7_nextOf := ⟨ok_mX7_nextOf, (List.mem_of_getElem? (i := 1015) (by decide +kernel)), (List.mem_of_getElem? (i := 1017) (by decide +kernel)), (List.mem_of_getElem? (i := 21) (by decide +kernel))⟩
theorem lk_X7_125 : linkV RX7 125 mX7_isMade := ⟨ok_mX7_isMade, (List.mem_of_getElem? (i := 921) (by decide +kernel)), (List.mem_of_getElem? (i := 923) (by decide +kernel)), (List.mem_of_getElem? (i := 3) (by decide +kernel))⟩
theorem lk_X7_128 : linkV RX7 128 mX7_isFull := ⟨ok_mX7_isFull, (List.mem_of_getElem? (i := 929) (by decide +kernel)), (List.mem_of_getElem? (i := 931) (by decide +kernel)), (List.mem_of_getElem? (i := 5) (by decide +kernel))⟩
theorem lk_X7_132 : linkV RX7 132 mX7_no := ⟨ok_mX7_no, (List.mem_of_getElem? (i := 917) (by decide +kernel)), (List.mem_of_getElem? (i := 919) (by decide +kernel)), (List.mem_of_getElem? (i := 2) (by decide +kernel))⟩
theorem lk_X7_135 : linkV RX7 135 mX7_goesQuiet := ⟨ok_mX7_goesQuiet, (List.mem_of_getElem? (i := 940) (by decide +kernel)), (List.mem_of_getElem? (i := 942) (by decide +kernel)), (List.mem_of_getElem? (i := 7) (by decide +kernel))⟩
theorem lk_X7_138 : linkV RX7 138 mX7_did := ⟨ok_mX7_did, (List.mem_of_getElem? (i := 951) (by decide +kernel)), (List.mem_of_getElem? (i := 953) (by decide +kernel)), (List.mem_of_getElem? (i := 9) (by decide +kernel))⟩
theorem lk_X7_141 : linkV RX7 141 mX7_why := ⟨ok_mX7_why, (List.mem_of_getElem? (i := 985) (by decide +kernel)), (List.mem_of_getElem? (i := 987) (by decide +kernel)), (List.mem_of_getElem? (i := 15) (by decide +kernel))⟩
theorem lk_X7_144 : linkV RX7 144 mX7_takesTurn := ⟨ok_mX7_takesTurn, (List.mem_of_getElem? (i := 1011) (by decide +kernel)), (List.mem_of_getElem? (i := 1013) (by decide +kernel)), (List.mem_of_getElem? (i := 20) (by decide +kernel))⟩
theorem lk_X7_147 : linkV RX7 147 mX7_isLetter := ⟨ok_mX7_isLetter, (List.mem_of_getElem? (i := 1043) (by decide +kernel)), (List.mem_of_getElem? (i := 1045) (by decide +kernel)), (List.mem_of_getElem? (i := 25) (by decide +kernel))⟩
theorem lk_X7_150 : linkV RX7 150 mX7_whyLetter := ⟨ok_mX7_whyLetter, (List.mem_of_getElem? (i := 1039) (by decide +kernel)), (List.mem_of_getElem? (i := 1041) (by decide +kernel)), (List.mem_of_getElem? (i := 24) (by decide +kernel))⟩
theorem lk_X7_153 : linkV RX7 153 mX7_comes := ⟨ok_mX7_comes, (List.mem_of_getElem? (i := 1051) (by decide +kernel)), (List.mem_of_getElem? (i := 1053) (by decide +kernel)), (List.mem_of_getElem? (i := 27) (by decide +kernel))⟩
theorem lk_X7_156 : linkV RX7 156 mX7_withState := ⟨ok_mX7_withState, (List.mem_of_getElem? (i := 1067) (by decide +kernel)), (List.mem_of_getElem? (i := 1069) (by decide +kernel)), (List.mem_of_getElem? (i := 30) (by decide +kernel))⟩
theorem lk_X7_159 : linkV RX7 159 mX7_links := ⟨ok_mX7_links, (List.mem_of_getElem? (i := 1079) (by decide +kernel)), (List.mem_of_getElem? (i := 1081) (by decide +kernel)), (List.mem_of_getElem? (i := 31) (by decide +kernel))⟩
theorem lk_X7_175 : linkV RX7 175 mX7_whyNews := ⟨ok_mX7_whyNews, (List.mem_of_getElem? (i := 1118) (by decide +kernel)), (List.mem_of_getElem? (i := 1120) (by decide +kernel)), (List.mem_of_getElem? (i := 32) (by decide +kernel))⟩
theorem lk_X7_182 : linkV RX7 182 mX7_differ := ⟨ok_mX7_differ, (List.mem_of_getElem? (i := 1152) (by decide +kernel)), (List.mem_of_getElem? (i := 1154) (by decide +kernel)), (List.mem_of_getElem? (i := 34) (by decide +kernel))⟩
theorem lk_X7_195 : linkV RX7 195 mX7_isApart := ⟨ok_mX7_isApart, (List.mem_of_getElem? (i := 1148) (by decide +kernel)), (List.mem_of_getElem? (i := 1150) (by decide +kernel)), (List.mem_of_getElem? (i := 33) (by decide +kernel))⟩
theorem lk_X7_203 : linkV RX7 203 mX7_pieceOf := ⟨ok_mX7_pieceOf, (List.mem_of_getElem? (i := 1169) (by decide +kernel)), (List.mem_of_getElem? (i := 1171) (by decide +kernel)), (List.mem_of_getElem? (i := 35) (by decide +kernel))⟩
theorem lk_X7_206 : linkV RX7 206 mX7_isStep := ⟨ok_mX7_isStep, (List.mem_of_getElem? (i := 1177) (by decide +kernel)), (List.mem_of_getElem? (i := 1179) (by decide +kernel)), (List.mem_of_getElem? (i := 36) (by decide +kernel))⟩
theorem lk_X7_209 : linkV RX7 209 mX7_stands := ⟨ok_mX7_stands, (List.mem_of_getElem? (i := 1189) (by decide +kernel)), (List.mem_of_getElem? (i := 1191) (by decide +kernel)), (List.mem_of_getElem? (i := 37) (by decide +kernel))⟩
theorem kc_X7_7 : Cond.constant RX7 7 (118735) ∈ lw_tbl := (List.mem_of_getElem? (i := 859) (by decide +kernel))
theorem kc_X7_51 : Cond.constant RX7 51 (118720) ∈ lw_tbl := (List.mem_of_getElem? (i := 933) (by decide +kernel))
theorem kc_X7_52 : Cond.constant RX7 52 (118721) ∈ lw_tbl := (List.mem_of_getElem? (i := 934) (by decide +kernel))
theorem kc_X7_53 : Cond.constant RX7 53 (118722) ∈ lw_tbl := (List.mem_of_getElem? (i := 935) (by decide +kernel))
theorem kc_X7_54 : Cond.constant RX7 54 (118723) ∈ lw_tbl := (List.mem_of_getElem? (i := 976) (by decide +kernel))
theorem kc_X7_71 : Cond.constant RX7 71 (38720) ∈ lw_tbl := (List.mem_of_getElem? (i := 971) (by decide +kernel))
theorem kc_X7_55 : Cond.constantLong RX7 55 (6364136223846793005) ∈ lw_tbl := (List.mem_of_getElem? (i := 1005) (by decide +kernel))
theorem kc_X7_57 : Cond.constantLong RX7 57 (1442695040888963407) ∈ lw_tbl := (List.mem_of_getElem? (i := 1006) (by decide +kernel))
theorem kc_X7_163 : Cond.constantLong RX7 163 (4) ∈ lw_tbl := (List.mem_of_getElem? (i := 1091) (by decide +kernel))
theorem kc_X7_169 : Cond.constantLong RX7 169 (6) ∈ lw_tbl := (List.mem_of_getElem? (i := 1103) (by decide +kernel))
theorem kc_X7_171 : Cond.constantLong RX7 171 (3) ∈ lw_tbl := (List.mem_of_getElem? (i := 1108) (by decide +kernel))
theorem kc_X7_173 : Cond.constantLong RX7 173 (11) ∈ lw_tbl := (List.mem_of_getElem? (i := 1113) (by decide +kernel))
theorem kc_X7_178 : Cond.constantLong RX7 178 (16) ∈ lw_tbl := (List.mem_of_getElem? (i := 1138) (by decide +kernel))
theorem kc_X7_180 : Cond.constantLong RX7 180 (15) ∈ lw_tbl := (List.mem_of_getElem? (i := 1143) (by decide +kernel))
theorem kc_X7_198 : Cond.constantLong RX7 198 (2) ∈ lw_tbl := (List.mem_of_getElem? (i := 1160) (by decide +kernel))
theorem kc_X7_217 : Cond.constantLong RX7 217 (-10) ∈ lw_tbl := (List.mem_of_getElem? (i := 1217) (by decide +kernel))
theorem kc_X7_219 : Cond.constantLong RX7 219 (-2) ∈ lw_tbl := (List.mem_of_getElem? (i := 1218) (by decide +kernel))
theorem lc_J7_150 : linkC RJ7 150 := ⟨(List.mem_of_getElem? (i := 276) (by decide +kernel)), (List.mem_of_getElem? (i := 278) (by decide +kernel)), (List.mem_of_getElem? (i := 277) (by decide +kernel)), (List.mem_of_getElem? (i := 48) (by decide +kernel))⟩
theorem lm_J7_304 : linkM RJ7 304 Lib.Math.min.name Lib.Math.min.code := ⟨(List.mem_of_getElem? (i := 275) (by decide +kernel)), (List.mem_of_getElem? (i := 263) (by decide +kernel)), (List.mem_of_getElem? (i := 43) (by decide +kernel)), List.mem_of_getElem? (i := 264) (by decide +kernel)⟩
theorem ka_int : Cond.arrayClass .int ∈ lw_tbl := (List.mem_of_getElem? (i := 98) (by decide +kernel))
theorem ka_long : Cond.arrayClass .long ∈ lw_tbl := (List.mem_of_getElem? (i := 97) (by decide +kernel))
theorem ka_boolean : Cond.arrayClass .boolean ∈ lw_tbl := (List.mem_of_getElem? (i := 909) (by decide +kernel))
end
section

abbrev PE : Type := (Nat × vp_A) ⊕ (Nat × List Value)
abbrev PH : Type := Nat × Nat × (Nat → Option PE)
abbrev PLoc : Type := List (Option Value)
abbrev Rs : Type := Option Value × PH
abbrev TT : Type := MI → Nat → PLoc → List Value → PH → Rs → Prop
def phUp (G : PH) (a : Nat) (e : PE) : PH := (G.1, G.2.1, fun q => if q = a then some e else G.2.2 q)
def phNew (G : PH) (n : Nat) (e : PE) : PH := (G.1 + 1, G.2.1 + n, fun q => if q = G.1 then some e else G.2.2 q)
def LS1 (L : PLoc) (i : Nat) (v : Value) (L' : PLoc) : Prop := ∀ (j : Nat) (w : Value), L'[j]? = some (some w) → (j = i ∧ w = v) ∨ (L[j]? = some (some w) ∧ j ≠ i ∧ ¬ (j + 1 = i ∧ w.category = 2))
def LS2 (L : PLoc) (i : Nat) (v : Value) (L' : PLoc) : Prop := ∀ (j : Nat) (w : Value), L'[j]? = some (some w) → (j = i ∧ w = v) ∨ (L[j]? = some (some w) ∧ j ≠ i ∧ j ≠ i + 1 ∧ ¬ (j + 1 = i ∧ w.category = 2))
def entL : List Value → PLoc
  | [] => []
  | v :: vs => if v.category = 2 then some v :: none :: entL vs else some v :: entL vs
def ent (M : MI) (vs : List Value) : PLoc := entL vs ++ List.replicate (mL M - (entL vs).length) none
def isRf (v : Value) : Prop := v = .null ∨ ∃ a, v = .ref a
theorem entL_mem (vs : List Value) : ∀ (k j : Nat) (w : Value), (entL vs)[j]? = some (some w) → (k + j, w) ∈ lv_args k vs := by
  induction vs with
  | nil => intro k j w h; simp [entL] at h
  | cons v vs ih =>
    intro k j w h
    unfold entL at h
    unfold lv_args
    by_cases hc : v.category = 2
    · rw [if_pos hc] at h ⊢
      match j, h with
      | 0, h => simp at h; subst h; exact List.mem_cons_self
      | 1, h => simp at h
      | j + 2, h =>
        have h' : (entL vs)[j]? = some (some w) := by simpa using h
        have := ih (k + 2) j w h'
        rw [show k + (j + 2) = k + 2 + j by omega]
        exact List.mem_cons_of_mem _ this
    · rw [if_neg hc] at h ⊢
      match j, h with
      | 0, h => simp at h; subst h; exact List.mem_cons_self
      | j + 1, h =>
        have h' : (entL vs)[j]? = some (some w) := by simpa using h
        have := ih (k + 1) j w h'
        rw [show k + (j + 1) = k + 1 + j by omega]
        exact List.mem_cons_of_mem _ this
theorem ent_mem (M : MI) (vs : List Value) (j : Nat) (w : Value) (h : (ent M vs)[j]? = some (some w)) : (j, w) ∈ lv_args 0 vs := by
  unfold ent at h
  by_cases hl : j < (entL vs).length
  · rw [List.getElem?_append_left hl] at h
    have := entL_mem vs 0 j w h
    rwa [Nat.zero_add] at this
  · rw [List.getElem?_append_right (by omega), List.getElem?_replicate] at h
    split at h <;> simp at h
theorem entL_len (vs : List Value) : (entL vs).length = (lg_sl vs).length := by
  induction vs with
  | nil => rfl
  | cons v vs ih =>
    unfold entL
    unfold lg_sl at ih ⊢
    rw [List.flatMap_cons]
    by_cases hc : v.category = 2
    · rw [if_pos hc, if_pos hc]; simp [ih]
    · rw [if_neg hc, if_neg hc]; simp [ih]
def pl (ls : Array Slot) (n : Nat) (L : PLoc) : Prop := ls.size = n ∧ lv_wf ls ∧ ∀ (j : Nat) (w : Value), L[j]? = some (some w) → ls[j]? = some (.val w)
def lst (L : PLoc) : List (Nat × Value) := (List.range L.length).filterMap (fun j => (L[j]?).join.map (fun w => (j, w)))
theorem lst_mem {L : PLoc} {j : Nat} {w : Value} : (j, w) ∈ lst L ↔ L[j]? = some (some w) := by
  unfold lst
  rw [List.mem_filterMap]
  constructor
  · rintro ⟨i, hi, h⟩
    cases hL : L[i]? with
    | none => simp [hL] at h
    | some x =>
      cases x with
      | none => simp [hL] at h
      | some y => simp [hL] at h; obtain ⟨rfl, rfl⟩ := h; exact hL
  · intro h
    exact ⟨j, List.mem_range.mpr (List.getElem?_eq_some_iff.mp h).1, by simp [h]⟩
theorem pl.has {ls : Array Slot} {n : Nat} {L : PLoc} (h : pl ls n L) : lv_has ls n (lst L) := ⟨h.1, h.2.1, fun q hq => h.2.2 q.1 q.2 (lst_mem.mp hq)⟩
theorem pl.of1 {ls : Array Slot} {n i : Nat} {L L' : PLoc} {v : Value} (h : lv_has ls n ((i, v) :: (lst L).filter (fun q => !(q.1 == i) && !(q.1 + 1 == i && q.2.category == 2)))) (hL : LS1 L i v L') : pl ls n L' := by
  refine ⟨h.1, h.2.1, fun j w hj => ?_⟩
  rcases hL j w hj with ⟨rfl, rfl⟩ | ⟨h1, h2, h3⟩
  · exact h.2.2 _ List.mem_cons_self
  · refine h.2.2 (j, w) (List.mem_cons_of_mem _ (List.mem_filter.mpr ⟨lst_mem.mpr h1, ?_⟩))
    simp only [Bool.and_eq_true, Bool.not_eq_true', beq_eq_false_iff_ne, ne_eq, Bool.and_eq_false_iff]
    refine ⟨h2, ?_⟩
    by_cases hj1 : j + 1 = i
    · exact Or.inr (fun hc => h3 ⟨hj1, hc⟩)
    · exact Or.inl hj1
theorem pl.of2 {ls : Array Slot} {n i : Nat} {L L' : PLoc} {v : Value} (h : lv_has ls n ((i, v) :: (lst L).filter (fun q => !(q.1 == i) && (!(q.1 == i + 1) && !(q.1 + 1 == i && q.2.category == 2))))) (hL : LS2 L i v L') : pl ls n L' := by
  refine ⟨h.1, h.2.1, fun j w hj => ?_⟩
  rcases hL j w hj with ⟨rfl, rfl⟩ | ⟨h1, h2, h4, h3⟩
  · exact h.2.2 _ List.mem_cons_self
  · refine h.2.2 (j, w) (List.mem_cons_of_mem _ (List.mem_filter.mpr ⟨lst_mem.mpr h1, ?_⟩))
    simp only [Bool.and_eq_true, Bool.not_eq_true', beq_eq_false_iff_ne, ne_eq, Bool.and_eq_false_iff]
    refine ⟨h2, h4, ?_⟩
    by_cases hj1 : j + 1 = i
    · exact Or.inr (fun hc => h3 ⟨hj1, hc⟩)
    · exact Or.inl hj1
theorem pl.lt {ls : Array Slot} {n j : Nat} {L : PLoc} {w : Value} (h : pl ls n L) (hj : L[j]? = some (some w)) : j < n := by
  have := lv_lt (h.2.2 j w hj)
  rw [h.1] at this
  exact this

def Ru_iconst (T : TT) : Prop := ∀ (M : MI) (pc : Nat) (L : PLoc) (st : List Value) (G : PH) (r : Rs) (n : Int) (v : Int32), decode (mC M) pc = .ok (.iconst n, 1) → Int32.ofInt n = v → T M (pc + 1) L (.int v :: st) G r → T M pc L (st) G r
def Ru_bipush (T : TT) : Prop := ∀ (M : MI) (pc : Nat) (L : PLoc) (st : List Value) (G : PH) (r : Rs) (n : Int) (v : Int32), decode (mC M) pc = .ok (.bipush n, 2) → (Int8.ofInt n).toInt32 = v → T M (pc + 2) L (.int v :: st) G r → T M pc L (st) G r
def Ru_sipush (T : TT) : Prop := ∀ (M : MI) (pc : Nat) (L : PLoc) (st : List Value) (G : PH) (r : Rs) (n : Int) (v : Int32), decode (mC M) pc = .ok (.sipush n, 3) → (Int16.ofInt n).toInt32 = v → T M (pc + 3) L (.int v :: st) G r → T M pc L (st) G r
def Ru_lconst (T : TT) : Prop := ∀ (M : MI) (pc : Nat) (L : PLoc) (st : List Value) (G : PH) (r : Rs) (n : Fin 2) (v : Int64), decode (mC M) pc = .ok (.lconst n, 1) → Int64.ofNat (n : Nat) = v → T M (pc + 1) L (.long v :: st) G r → T M pc L (st) G r
def Ru_null (T : TT) : Prop := ∀ (M : MI) (pc : Nat) (L : PLoc) (st : List Value) (G : PH) (r : Rs), decode (mC M) pc = .ok (.aconst_null, 1) → T M (pc + 1) L (.null :: st) G r → T M pc L (st) G r
def Ru_ldc (T : TT) : Prop := ∀ (M : MI) (pc : Nat) (L : PLoc) (st : List Value) (G : PH) (r : Rs) (i : Nat) (v : Int32), decode (mC M) pc = .ok (.ldc i, 2) → Cond.constant (mY M).cls i v ∈ lw_tbl → T M (pc + 2) L (.int v :: st) G r → T M pc L (st) G r
def Ru_ldc2 (T : TT) : Prop := ∀ (M : MI) (pc : Nat) (L : PLoc) (st : List Value) (G : PH) (r : Rs) (i : Nat) (v : Int64), decode (mC M) pc = .ok (.ldc2_w i, 3) → Cond.constantLong (mY M).cls i v ∈ lw_tbl → T M (pc + 3) L (.long v :: st) G r → T M pc L (st) G r
def Ru_iload_n (T : TT) : Prop := ∀ (M : MI) (pc : Nat) (L : PLoc) (st : List Value) (G : PH) (r : Rs) (k : Fin 4) (x : Int32), decode (mC M) pc = .ok (.iload_n k, 1) → L[(k : Nat)]? = some (some (.int x)) → T M (pc + 1) L (.int x :: st) G r → T M pc L (st) G r
def Ru_iload (T : TT) : Prop := ∀ (M : MI) (pc : Nat) (L : PLoc) (st : List Value) (G : PH) (r : Rs) (i : Nat) (x : Int32), decode (mC M) pc = .ok (.iload i, 2) → L[i]? = some (some (.int x)) → T M (pc + 2) L (.int x :: st) G r → T M pc L (st) G r
def Ru_lload_n (T : TT) : Prop := ∀ (M : MI) (pc : Nat) (L : PLoc) (st : List Value) (G : PH) (r : Rs) (k : Fin 4) (x : Int64), decode (mC M) pc = .ok (.lload_n k, 1) → L[(k : Nat)]? = some (some (.long x)) → T M (pc + 1) L (.long x :: st) G r → T M pc L (st) G r
def Ru_lload (T : TT) : Prop := ∀ (M : MI) (pc : Nat) (L : PLoc) (st : List Value) (G : PH) (r : Rs) (i : Nat) (x : Int64), decode (mC M) pc = .ok (.lload i, 2) → L[i]? = some (some (.long x)) → T M (pc + 2) L (.long x :: st) G r → T M pc L (st) G r
def Ru_aload_n (T : TT) : Prop := ∀ (M : MI) (pc : Nat) (L : PLoc) (st : List Value) (G : PH) (r : Rs) (k : Fin 4) (x : Value), decode (mC M) pc = .ok (.aload_n k, 1) → L[(k : Nat)]? = some (some x) → isRf x → T M (pc + 1) L (x :: st) G r → T M pc L (st) G r
def Ru_aload (T : TT) : Prop := ∀ (M : MI) (pc : Nat) (L : PLoc) (st : List Value) (G : PH) (r : Rs) (i : Nat) (x : Value), decode (mC M) pc = .ok (.aload i, 2) → L[i]? = some (some x) → isRf x → T M (pc + 2) L (x :: st) G r → T M pc L (st) G r
def Ru_istore_n (T : TT) : Prop := ∀ (M : MI) (pc : Nat) (L : PLoc) (st : List Value) (G : PH) (r : Rs) (k : Fin 4) (x : Int32) (L' : PLoc), decode (mC M) pc = .ok (.istore_n k, 1) → (k : Nat) < mL M → LS1 L (k : Nat) (.int x) L' → T M (pc + 1) L' st G r → T M pc L (.int x :: st) G r
def Ru_istore (T : TT) : Prop := ∀ (M : MI) (pc : Nat) (L : PLoc) (st : List Value) (G : PH) (r : Rs) (i : Nat) (x : Int32) (L' : PLoc), decode (mC M) pc = .ok (.istore i, 2) → i < mL M → LS1 L i (.int x) L' → T M (pc + 2) L' st G r → T M pc L (.int x :: st) G r
def Ru_lstore_n (T : TT) : Prop := ∀ (M : MI) (pc : Nat) (L : PLoc) (st : List Value) (G : PH) (r : Rs) (k : Fin 4) (x : Int64) (L' : PLoc), decode (mC M) pc = .ok (.lstore_n k, 1) → (k : Nat) + 1 < mL M → LS2 L (k : Nat) (.long x) L' → T M (pc + 1) L' st G r → T M pc L (.long x :: st) G r
def Ru_lstore (T : TT) : Prop := ∀ (M : MI) (pc : Nat) (L : PLoc) (st : List Value) (G : PH) (r : Rs) (i : Nat) (x : Int64) (L' : PLoc), decode (mC M) pc = .ok (.lstore i, 2) → i + 1 < mL M → LS2 L i (.long x) L' → T M (pc + 2) L' st G r → T M pc L (.long x :: st) G r
def Ru_astore_n (T : TT) : Prop := ∀ (M : MI) (pc : Nat) (L : PLoc) (st : List Value) (G : PH) (r : Rs) (k : Fin 4) (x : Value) (L' : PLoc), decode (mC M) pc = .ok (.astore_n k, 1) → isRf x → (k : Nat) < mL M → LS1 L (k : Nat) (x) L' → T M (pc + 1) L' st G r → T M pc L (x :: st) G r
def Ru_astore (T : TT) : Prop := ∀ (M : MI) (pc : Nat) (L : PLoc) (st : List Value) (G : PH) (r : Rs) (i : Nat) (x : Value) (L' : PLoc), decode (mC M) pc = .ok (.astore i, 2) → isRf x → i < mL M → LS1 L i (x) L' → T M (pc + 2) L' st G r → T M pc L (x :: st) G r
def Ru_iinc (T : TT) : Prop := ∀ (M : MI) (pc : Nat) (L : PLoc) (st : List Value) (G : PH) (r : Rs) (i : Nat) (n : Int) (x v : Int32) (L' : PLoc), decode (mC M) pc = .ok (.iinc i n, 3) → L[i]? = some (some (.int x)) → x + Int32.ofInt n = v → LS1 L i (.int v) L' → T M (pc + 3) L' st G r → T M pc L (st) G r
def Ru_iadd (T : TT) : Prop := ∀ (M : MI) (pc : Nat) (L : PLoc) (st : List Value) (G : PH) (r : Rs) (x y : Int32), decode (mC M) pc = .ok (.iadd, 1) → T M (pc + 1) L (.int (x + y) :: st) G r → T M pc L (.int y :: .int x :: st) G r
def Ru_isub (T : TT) : Prop := ∀ (M : MI) (pc : Nat) (L : PLoc) (st : List Value) (G : PH) (r : Rs) (x y : Int32), decode (mC M) pc = .ok (.isub, 1) → T M (pc + 1) L (.int (x - y) :: st) G r → T M pc L (.int y :: .int x :: st) G r
def Ru_imul (T : TT) : Prop := ∀ (M : MI) (pc : Nat) (L : PLoc) (st : List Value) (G : PH) (r : Rs) (x y : Int32), decode (mC M) pc = .ok (.imul, 1) → T M (pc + 1) L (.int (x * y) :: st) G r → T M pc L (.int y :: .int x :: st) G r
def Ru_iand (T : TT) : Prop := ∀ (M : MI) (pc : Nat) (L : PLoc) (st : List Value) (G : PH) (r : Rs) (x y : Int32), decode (mC M) pc = .ok (.iand, 1) → T M (pc + 1) L (.int (x &&& y) :: st) G r → T M pc L (.int y :: .int x :: st) G r
def Ru_ineg (T : TT) : Prop := ∀ (M : MI) (pc : Nat) (L : PLoc) (st : List Value) (G : PH) (r : Rs) (x : Int32), decode (mC M) pc = .ok (.ineg, 1) → T M (pc + 1) L (.int (-x) :: st) G r → T M pc L (.int x :: st) G r
def Ru_ladd (T : TT) : Prop := ∀ (M : MI) (pc : Nat) (L : PLoc) (st : List Value) (G : PH) (r : Rs) (x y : Int64), decode (mC M) pc = .ok (.ladd, 1) → T M (pc + 1) L (.long (x + y) :: st) G r → T M pc L (.long y :: .long x :: st) G r
def Ru_lmul (T : TT) : Prop := ∀ (M : MI) (pc : Nat) (L : PLoc) (st : List Value) (G : PH) (r : Rs) (x y : Int64), decode (mC M) pc = .ok (.lmul, 1) → T M (pc + 1) L (.long (x * y) :: st) G r → T M pc L (.long y :: .long x :: st) G r
def Ru_land (T : TT) : Prop := ∀ (M : MI) (pc : Nat) (L : PLoc) (st : List Value) (G : PH) (r : Rs) (x y : Int64), decode (mC M) pc = .ok (.land, 1) → T M (pc + 1) L (.long (x &&& y) :: st) G r → T M pc L (.long y :: .long x :: st) G r
def Ru_lor (T : TT) : Prop := ∀ (M : MI) (pc : Nat) (L : PLoc) (st : List Value) (G : PH) (r : Rs) (x y : Int64), decode (mC M) pc = .ok (.lor, 1) → T M (pc + 1) L (.long (x ||| y) :: st) G r → T M pc L (.long y :: .long x :: st) G r
def Ru_lxor (T : TT) : Prop := ∀ (M : MI) (pc : Nat) (L : PLoc) (st : List Value) (G : PH) (r : Rs) (x y : Int64), decode (mC M) pc = .ok (.lxor, 1) → T M (pc + 1) L (.long (x ^^^ y) :: st) G r → T M pc L (.long y :: .long x :: st) G r
def Ru_lrem (T : TT) : Prop := ∀ (M : MI) (pc : Nat) (L : PLoc) (st : List Value) (G : PH) (r : Rs) (x y : Int64), decode (mC M) pc = .ok (.lrem, 1) → ¬ y = 0 → T M (pc + 1) L (.long (x - x / y * y) :: st) G r → T M pc L (.long y :: .long x :: st) G r
def Ru_i2l (T : TT) : Prop := ∀ (M : MI) (pc : Nat) (L : PLoc) (st : List Value) (G : PH) (r : Rs) (x : Int32), decode (mC M) pc = .ok (.i2l, 1) → T M (pc + 1) L (.long x.toInt64 :: st) G r → T M pc L (.int x :: st) G r
def Ru_l2i (T : TT) : Prop := ∀ (M : MI) (pc : Nat) (L : PLoc) (st : List Value) (G : PH) (r : Rs) (x : Int64), decode (mC M) pc = .ok (.l2i, 1) → T M (pc + 1) L (.int x.toInt32 :: st) G r → T M pc L (.long x :: st) G r
def Ru_lushr (T : TT) : Prop := ∀ (M : MI) (pc : Nat) (L : PLoc) (st : List Value) (G : PH) (r : Rs) (x : Int64) (y : Int32), decode (mC M) pc = .ok (.lushr, 1) → T M (pc + 1) L (.long (x.toUInt64 >>> (y.toInt64.toUInt64 &&& Int64.toUInt64 63)).toInt64 :: st) G r → T M pc L (.int y :: .long x :: st) G r
def Ru_lshl (T : TT) : Prop := ∀ (M : MI) (pc : Nat) (L : PLoc) (st : List Value) (G : PH) (r : Rs) (x : Int64) (y : Int32), decode (mC M) pc = .ok (.lshl, 1) → T M (pc + 1) L (.long (x <<< (y.toInt64 &&& 63)) :: st) G r → T M pc L (.int y :: .long x :: st) G r
def Ru_lcmp (T : TT) : Prop := ∀ (M : MI) (pc : Nat) (L : PLoc) (st : List Value) (G : PH) (r : Rs) (x y : Int64), decode (mC M) pc = .ok (.lcmp, 1) → T M (pc + 1) L (.int (lg_cmp x y) :: st) G r → T M pc L (.long y :: .long x :: st) G r
def Ru_dup (T : TT) : Prop := ∀ (M : MI) (pc : Nat) (L : PLoc) (st : List Value) (G : PH) (r : Rs) (v : Value), decode (mC M) pc = .ok (.dup, 1) → v.category = 1 → T M (pc + 1) L (v :: v :: st) G r → T M pc L (v :: st) G r
def Ru_pop (T : TT) : Prop := ∀ (M : MI) (pc : Nat) (L : PLoc) (st : List Value) (G : PH) (r : Rs) (v : Value), decode (mC M) pc = .ok (.pop, 1) → v.category = 1 → T M (pc + 1) L (st) G r → T M pc L (v :: st) G r
def Ru_dup2 (T : TT) : Prop := ∀ (M : MI) (pc : Nat) (L : PLoc) (st : List Value) (G : PH) (r : Rs) (v w : Value), decode (mC M) pc = .ok (.dup2, 1) → v.category = 1 → w.category = 1 → T M (pc + 1) L (v :: w :: v :: w :: st) G r → T M pc L (v :: w :: st) G r
def Ru_pop2 (T : TT) : Prop := ∀ (M : MI) (pc : Nat) (L : PLoc) (st : List Value) (G : PH) (r : Rs) (v : Value), decode (mC M) pc = .ok (.pop2, 1) → v.category = 2 → T M (pc + 1) L (st) G r → T M pc L (v :: st) G r
def Ru_if_eq (T : TT) : Prop := ∀ (M : MI) (pc : Nat) (L : PLoc) (st : List Value) (G : PH) (r : Rs) (x : Int32) (off : Int) (tgt : Nat), decode (mC M) pc = .ok (.ifCond .eq off, 3) → (pc : Int) + off = (tgt : Int) → (x = 0 → T M tgt L st G r) → (¬ x = 0 → T M (pc + 3) L st G r) → T M pc L (.int x :: st) G r
def Ru_if_ne (T : TT) : Prop := ∀ (M : MI) (pc : Nat) (L : PLoc) (st : List Value) (G : PH) (r : Rs) (x : Int32) (off : Int) (tgt : Nat), decode (mC M) pc = .ok (.ifCond .ne off, 3) → (pc : Int) + off = (tgt : Int) → (¬ x = 0 → T M tgt L st G r) → (x = 0 → T M (pc + 3) L st G r) → T M pc L (.int x :: st) G r
def Ru_if_lt (T : TT) : Prop := ∀ (M : MI) (pc : Nat) (L : PLoc) (st : List Value) (G : PH) (r : Rs) (x : Int32) (off : Int) (tgt : Nat), decode (mC M) pc = .ok (.ifCond .lt off, 3) → (pc : Int) + off = (tgt : Int) → (x < 0 → T M tgt L st G r) → (¬ x < 0 → T M (pc + 3) L st G r) → T M pc L (.int x :: st) G r
def Ru_if_ge (T : TT) : Prop := ∀ (M : MI) (pc : Nat) (L : PLoc) (st : List Value) (G : PH) (r : Rs) (x : Int32) (off : Int) (tgt : Nat), decode (mC M) pc = .ok (.ifCond .ge off, 3) → (pc : Int) + off = (tgt : Int) → (0 ≤ x → T M tgt L st G r) → (¬ 0 ≤ x → T M (pc + 3) L st G r) → T M pc L (.int x :: st) G r
def Ru_if_gt (T : TT) : Prop := ∀ (M : MI) (pc : Nat) (L : PLoc) (st : List Value) (G : PH) (r : Rs) (x : Int32) (off : Int) (tgt : Nat), decode (mC M) pc = .ok (.ifCond .gt off, 3) → (pc : Int) + off = (tgt : Int) → (0 < x → T M tgt L st G r) → (¬ 0 < x → T M (pc + 3) L st G r) → T M pc L (.int x :: st) G r
def Ru_if_le (T : TT) : Prop := ∀ (M : MI) (pc : Nat) (L : PLoc) (st : List Value) (G : PH) (r : Rs) (x : Int32) (off : Int) (tgt : Nat), decode (mC M) pc = .ok (.ifCond .le off, 3) → (pc : Int) + off = (tgt : Int) → (x ≤ 0 → T M tgt L st G r) → (¬ x ≤ 0 → T M (pc + 3) L st G r) → T M pc L (.int x :: st) G r
def Ru_icmp_eq (T : TT) : Prop := ∀ (M : MI) (pc : Nat) (L : PLoc) (st : List Value) (G : PH) (r : Rs) (x y : Int32) (off : Int) (tgt : Nat), decode (mC M) pc = .ok (.if_icmp .eq off, 3) → (pc : Int) + off = (tgt : Int) → (x = y → T M tgt L st G r) → (¬ x = y → T M (pc + 3) L st G r) → T M pc L (.int y :: .int x :: st) G r
def Ru_icmp_ne (T : TT) : Prop := ∀ (M : MI) (pc : Nat) (L : PLoc) (st : List Value) (G : PH) (r : Rs) (x y : Int32) (off : Int) (tgt : Nat), decode (mC M) pc = .ok (.if_icmp .ne off, 3) → (pc : Int) + off = (tgt : Int) → (¬ x = y → T M tgt L st G r) → (x = y → T M (pc + 3) L st G r) → T M pc L (.int y :: .int x :: st) G r
def Ru_icmp_lt (T : TT) : Prop := ∀ (M : MI) (pc : Nat) (L : PLoc) (st : List Value) (G : PH) (r : Rs) (x y : Int32) (off : Int) (tgt : Nat), decode (mC M) pc = .ok (.if_icmp .lt off, 3) → (pc : Int) + off = (tgt : Int) → (x < y → T M tgt L st G r) → (¬ x < y → T M (pc + 3) L st G r) → T M pc L (.int y :: .int x :: st) G r
def Ru_icmp_ge (T : TT) : Prop := ∀ (M : MI) (pc : Nat) (L : PLoc) (st : List Value) (G : PH) (r : Rs) (x y : Int32) (off : Int) (tgt : Nat), decode (mC M) pc = .ok (.if_icmp .ge off, 3) → (pc : Int) + off = (tgt : Int) → (y ≤ x → T M tgt L st G r) → (¬ y ≤ x → T M (pc + 3) L st G r) → T M pc L (.int y :: .int x :: st) G r
def Ru_icmp_gt (T : TT) : Prop := ∀ (M : MI) (pc : Nat) (L : PLoc) (st : List Value) (G : PH) (r : Rs) (x y : Int32) (off : Int) (tgt : Nat), decode (mC M) pc = .ok (.if_icmp .gt off, 3) → (pc : Int) + off = (tgt : Int) → (y < x → T M tgt L st G r) → (¬ y < x → T M (pc + 3) L st G r) → T M pc L (.int y :: .int x :: st) G r
def Ru_icmp_le (T : TT) : Prop := ∀ (M : MI) (pc : Nat) (L : PLoc) (st : List Value) (G : PH) (r : Rs) (x y : Int32) (off : Int) (tgt : Nat), decode (mC M) pc = .ok (.if_icmp .le off, 3) → (pc : Int) + off = (tgt : Int) → (x ≤ y → T M tgt L st G r) → (¬ x ≤ y → T M (pc + 3) L st G r) → T M pc L (.int y :: .int x :: st) G r
def Ru_goto (T : TT) : Prop := ∀ (M : MI) (pc : Nat) (L : PLoc) (st : List Value) (G : PH) (r : Rs) (off : Int) (tgt : Nat), decode (mC M) pc = .ok (.goto off, 3) → (pc : Int) + off = (tgt : Int) → T M tgt L st G r → T M pc L (st) G r
def Ru_ifnull_r (T : TT) : Prop := ∀ (M : MI) (pc : Nat) (L : PLoc) (st : List Value) (G : PH) (r : Rs) (x : Nat) (off : Int), decode (mC M) pc = .ok (.ifnull off, 3) → T M (pc + 3) L st G r → T M pc L (.ref x :: st) G r
def Ru_ifnull_n (T : TT) : Prop := ∀ (M : MI) (pc : Nat) (L : PLoc) (st : List Value) (G : PH) (r : Rs) (off : Int) (tgt : Nat), decode (mC M) pc = .ok (.ifnull off, 3) → (pc : Int) + off = (tgt : Int) → T M tgt L st G r → T M pc L (.null :: st) G r
def Ru_ifnonnull_r (T : TT) : Prop := ∀ (M : MI) (pc : Nat) (L : PLoc) (st : List Value) (G : PH) (r : Rs) (x : Nat) (off : Int) (tgt : Nat), decode (mC M) pc = .ok (.ifnonnull off, 3) → (pc : Int) + off = (tgt : Int) → T M tgt L st G r → T M pc L (.ref x :: st) G r
def Ru_ifnonnull_n (T : TT) : Prop := ∀ (M : MI) (pc : Nat) (L : PLoc) (st : List Value) (G : PH) (r : Rs) (off : Int), decode (mC M) pc = .ok (.ifnonnull off, 3) → T M (pc + 3) L st G r → T M pc L (.null :: st) G r
def Ru_tswOut (T : TT) : Prop := ∀ (M : MI) (pc : Nat) (L : PLoc) (st : List Value) (G : PH) (r : Rs) (x : Int32) (dflt lo hi : Int) (offs : Array Int) (len tgt : Nat), decode (mC M) pc = .ok (.tableswitch dflt lo hi offs, len) → (x.toInt < lo ∨ hi < x.toInt) → (pc : Int) + dflt = (tgt : Int) → T M tgt L st G r → T M pc L (.int x :: st) G r
def Ru_tswIn (T : TT) : Prop := ∀ (M : MI) (pc : Nat) (L : PLoc) (st : List Value) (G : PH) (r : Rs) (x : Int32) (dflt lo hi off : Int) (offs : Array Int) (len tgt : Nat), decode (mC M) pc = .ok (.tableswitch dflt lo hi offs, len) → ¬ x.toInt < lo → ¬ hi < x.toInt → offs[(x.toInt - lo).toNat]? = some off → (pc : Int) + off = (tgt : Int) → T M tgt L st G r → T M pc L (.int x :: st) G r
def Ru_get (T : TT) : Prop := ∀ (M : MI) (pc : Nat) (L : PLoc) (st : List Value) (G : PH) (r : Rs) (a idx ci k : Nat) (t : FieldType) (fin : Bool) (fs : List Value) (v : Value), decode (mC M) pc = .ok (.getfield idx, 3) → FL (mY M).cls idx ci k t fin → G.2.2 a = some (.inr (ci, fs)) → fs[k]? = some v → T M (pc + 3) L (v :: st) G r → T M pc L (.ref a :: st) G r
def Ru_put (T : TT) : Prop := ∀ (M : MI) (pc : Nat) (L : PLoc) (st : List Value) (G : PH) (r : Rs) (a idx ci k : Nat) (t : FieldType) (fs : List Value) (v : Value), decode (mC M) pc = .ok (.putfield idx, 3) → FL (mY M).cls idx ci k t false → G.2.2 a = some (.inr (ci, fs)) → k < fs.length → narrow t v = v → fits t v = true → T M (pc + 3) L st (phUp G a (.inr (ci, fs.set k v))) r → T M pc L (v :: .ref a :: st) G r
def Ru_putF (T : TT) : Prop := ∀ (M : MI) (pc : Nat) (L : PLoc) (st : List Value) (G : PH) (r : Rs) (a idx ci k : Nat) (t : FieldType) (fs : List Value) (v : Value), decode (mC M) pc = .ok (.putfield idx, 3) → FL (mY M).cls idx ci k t true → G.2.2 a = some (.inr (ci, fs)) → k < fs.length → narrow t v = v → fits t v = true → (mY M).name = "<init>" → (vwCl[ci]?).map (fun q => q.1) = some (mY M).cls → T M (pc + 3) L st (phUp G a (.inr (ci, fs.set k v))) r → T M pc L (v :: .ref a :: st) G r
def Ru_iald (T : TT) : Prop := ∀ (M : MI) (pc : Nat) (L : PLoc) (st : List Value) (G : PH) (r : Rs) (a n : Nat) (i : Int32) (f : Nat → Int32), decode (mC M) pc = .ok (.iaload, 1) → G.2.2 a = some (.inl (0, n, .inl f)) → vp_in i n → T M (pc + 1) L (.int (f i.toNatClampNeg) :: st) G r → T M pc L (.int i :: .ref a :: st) G r
def Ru_zald (T : TT) : Prop := ∀ (M : MI) (pc : Nat) (L : PLoc) (st : List Value) (G : PH) (r : Rs) (a n : Nat) (i : Int32) (f : Nat → Int32), decode (mC M) pc = .ok (.baload, 1) → G.2.2 a = some (.inl (2, n, .inl f)) → vp_in i n → T M (pc + 1) L (.int (f i.toNatClampNeg) :: st) G r → T M pc L (.int i :: .ref a :: st) G r
def Ru_lald (T : TT) : Prop := ∀ (M : MI) (pc : Nat) (L : PLoc) (st : List Value) (G : PH) (r : Rs) (a n : Nat) (i : Int32) (f : Nat → Int64), decode (mC M) pc = .ok (.laload, 1) → G.2.2 a = some (.inl (1, n, .inr (.inl f))) → vp_in i n → T M (pc + 1) L (.long (f i.toNatClampNeg) :: st) G r → T M pc L (.int i :: .ref a :: st) G r
def Ru_aald (T : TT) : Prop := ∀ (M : MI) (pc : Nat) (L : PLoc) (st : List Value) (G : PH) (r : Rs) (a n : Nat) (i : Int32) (f : Nat → Option Nat), decode (mC M) pc = .ok (.aaload, 1) → G.2.2 a = some (.inl (3, n, .inr (.inr (.inr (.inr f))))) → vp_in i n → T M (pc + 1) L (va_rf (f i.toNatClampNeg) :: st) G r → T M pc L (.int i :: .ref a :: st) G r
def Ru_iast (T : TT) : Prop := ∀ (M : MI) (pc : Nat) (L : PLoc) (st : List Value) (G : PH) (r : Rs) (a n : Nat) (i x : Int32) (f : Nat → Int32), decode (mC M) pc = .ok (.iastore, 1) → G.2.2 a = some (.inl (0, n, .inl f)) → vp_in i n → T M (pc + 1) L st (phUp G a (.inl (0, n, .inl (upd f i.toNatClampNeg x)))) r → T M pc L (.int x :: .int i :: .ref a :: st) G r
def Ru_zast (T : TT) : Prop := ∀ (M : MI) (pc : Nat) (L : PLoc) (st : List Value) (G : PH) (r : Rs) (a n : Nat) (i x : Int32) (f : Nat → Int32), decode (mC M) pc = .ok (.bastore, 1) → G.2.2 a = some (.inl (2, n, .inl f)) → vp_in i n → vp_nar .boolean x = x → T M (pc + 1) L st (phUp G a (.inl (2, n, .inl (upd f i.toNatClampNeg x)))) r → T M pc L (.int x :: .int i :: .ref a :: st) G r
def Ru_last (T : TT) : Prop := ∀ (M : MI) (pc : Nat) (L : PLoc) (st : List Value) (G : PH) (r : Rs) (a n : Nat) (i : Int32) (x : Int64) (f : Nat → Int64), decode (mC M) pc = .ok (.lastore, 1) → G.2.2 a = some (.inl (1, n, .inr (.inl f))) → vp_in i n → T M (pc + 1) L st (phUp G a (.inl (1, n, .inr (.inl (vp_updL f i.toNatClampNeg x))))) r → T M pc L (.long x :: .int i :: .ref a :: st) G r
def Ru_aast (T : TT) : Prop := ∀ (M : MI) (pc : Nat) (L : PLoc) (st : List Value) (G : PH) (r : Rs) (a n v : Nat) (i : Int32) (fs : List Value) (f : Nat → Option Nat), decode (mC M) pc = .ok (.aastore, 1) → G.2.2 a = some (.inl (3, n, .inr (.inr (.inr (.inr f))))) → G.2.2 v = some (.inr (1, fs)) → vp_in i n → T M (pc + 1) L st (phUp G a (.inl (3, n, .inr (.inr (.inr (.inr (va_up f i.toNatClampNeg (some v)))))))) r → T M pc L (.ref v :: .int i :: .ref a :: st) G r
def Ru_alen (T : TT) : Prop := ∀ (M : MI) (pc : Nat) (L : PLoc) (st : List Value) (G : PH) (r : Rs) (a t : Nat) (x : vp_A) (v : Int32), decode (mC M) pc = .ok (.arraylength, 1) → G.2.2 a = some (.inl (t, x)) → t < 4 → Int32.ofNat x.1 = v → T M (pc + 1) L (.int v :: st) G r → T M pc L (.ref a :: st) G r
def Ru_sld (T : TT) : Prop := ∀ (M : MI) (pc : Nat) (L : PLoc) (st : List Value) (G : PH) (r : Rs) (a n : Nat) (i : Int32) (f : Nat → Int32), decode (mC M) pc = .ok (.iaload, 1) → G.2.2 a = some (.inl (9, n, .inl f)) → vp_in i n → T M (pc + 1) L (.int (f i.toNatClampNeg) :: st) G r → T M pc L (.int i :: .ref a :: st) G r
def Ru_slen (T : TT) : Prop := ∀ (M : MI) (pc : Nat) (L : PLoc) (st : List Value) (G : PH) (r : Rs) (a n : Nat) (f : Nat → Int32), decode (mC M) pc = .ok (.arraylength, 1) → G.2.2 a = some (.inl (9, n, .inl f)) → T M (pc + 1) L (.int (Int32.ofNat n) :: st) G r → T M pc L (.ref a :: st) G r
def Ru_new (T : TT) : Prop := ∀ (M : MI) (pc : Nat) (L : PLoc) (st : List Value) (G : PH) (r : Rs) (idx ci : Nat) (fs : List Value), decode (mC M) pc = .ok (.new idx, 3) → linkNew (mY M).cls idx ci fs → T M (pc + 3) L (.ref G.1 :: st) (phNew G fs.length (.inr (ci, fs))) r → T M pc L (st) G r
def Ru_newi (T : TT) : Prop := ∀ (M : MI) (pc : Nat) (L : PLoc) (st : List Value) (G : PH) (r : Rs) (n : Nat) (x : Int32), decode (mC M) pc = .ok (.newarray .int, 2) → ¬ x < 0 → x.toNatClampNeg = n → n ≤ 1000000 → T M (pc + 2) L (.ref G.1 :: st) (phNew G n (.inl (0, n, .inl (fun _ => 0)))) r → T M pc L (.int x :: st) G r
def Ru_newl (T : TT) : Prop := ∀ (M : MI) (pc : Nat) (L : PLoc) (st : List Value) (G : PH) (r : Rs) (n : Nat) (x : Int32), decode (mC M) pc = .ok (.newarray .long, 2) → ¬ x < 0 → x.toNatClampNeg = n → n ≤ 1000000 → T M (pc + 2) L (.ref G.1 :: st) (phNew G n (.inl (1, n, .inr (.inl (fun _ => 0))))) r → T M pc L (.int x :: st) G r
def Ru_newz (T : TT) : Prop := ∀ (M : MI) (pc : Nat) (L : PLoc) (st : List Value) (G : PH) (r : Rs) (n : Nat) (x : Int32), decode (mC M) pc = .ok (.newarray .boolean, 2) → ¬ x < 0 → x.toNatClampNeg = n → n ≤ 1000000 → T M (pc + 2) L (.ref G.1 :: st) (phNew G n (.inl (2, n, .inl (fun _ => 0)))) r → T M pc L (.int x :: st) G r
def Ru_anew (T : TT) : Prop := ∀ (M : MI) (pc : Nat) (L : PLoc) (st : List Value) (G : PH) (r : Rs) (idx n : Nat) (x : Int32), decode (mC M) pc = .ok (.anewarray idx, 3) → (Cond.classLink (mY M).cls idx RX1 ∈ lw_tbl ∧ Cond.arrayOver (.object RX1) ∈ lw_tbl) → ¬ x < 0 → x.toNatClampNeg = n → n ≤ 1000000 → T M (pc + 3) L (.ref G.1 :: st) (phNew G n (.inl (3, n, .inr (.inr (.inr (.inr (fun _ => none))))))) r → T M pc L (.int x :: st) G r
def Ru_copyi (T : TT) : Prop := ∀ (M : MI) (pc : Nat) (L : PLoc) (st : List Value) (G : PH) (r : Rs) (idx a b n1 n2 : Nat) (sp dp n : Int32) (f g : Nat → Int32), decode (mC M) pc = .ok (.invokestatic idx, 3) → linkC (mY M).cls idx → G.2.2 a = some (.inl (0, n1, .inl f)) → G.2.2 b = some (.inl (0, n2, .inl g)) → ¬ sp < 0 → ¬ dp < 0 → ¬ n < 0 → sp.toNatClampNeg + n.toNatClampNeg ≤ n1 → dp.toNatClampNeg + n.toNatClampNeg ≤ n2 → 1 ≤ mFr M → (st.map fun v => v.category).sum + 18 ≤ mLc M → T M (pc + 3) L st (phUp G b (.inl (0, n2, .inl (va_cpy f g sp.toNatClampNeg dp.toNatClampNeg n.toNatClampNeg)))) r → T M pc L (.int n :: .int dp :: .ref b :: .int sp :: .ref a :: st) G r
def Ru_copyl (T : TT) : Prop := ∀ (M : MI) (pc : Nat) (L : PLoc) (st : List Value) (G : PH) (r : Rs) (idx a b n1 n2 : Nat) (sp dp n : Int32) (f g : Nat → Int64), decode (mC M) pc = .ok (.invokestatic idx, 3) → linkC (mY M).cls idx → G.2.2 a = some (.inl (1, n1, .inr (.inl f))) → G.2.2 b = some (.inl (1, n2, .inr (.inl g))) → ¬ sp < 0 → ¬ dp < 0 → ¬ n < 0 → sp.toNatClampNeg + n.toNatClampNeg ≤ n1 → dp.toNatClampNeg + n.toNatClampNeg ≤ n2 → 1 ≤ mFr M → (st.map fun v => v.category).sum + 18 ≤ mLc M → T M (pc + 3) L st (phUp G b (.inl (1, n2, .inr (.inl (va_cpy f g sp.toNatClampNeg dp.toNatClampNeg n.toNatClampNeg))))) r → T M pc L (.int n :: .int dp :: .ref b :: .int sp :: .ref a :: st) G r
def Ru_mmax (T : TT) : Prop := ∀ (M : MI) (pc : Nat) (L : PLoc) (st : List Value) (G : PH) (r : Rs) (idx : Nat) (x y : Int32), decode (mC M) pc = .ok (.invokestatic idx, 3) → linkM (mY M).cls idx Lib.Math.max.name Lib.Math.max.code → 1 ≤ mFr M → (st.map fun v => v.category).sum + 13 ≤ mLc M → T M (pc + 3) L (.int (if x < y then y else x) :: st) G r → T M pc L (.int y :: .int x :: st) G r
def Ru_mmin (T : TT) : Prop := ∀ (M : MI) (pc : Nat) (L : PLoc) (st : List Value) (G : PH) (r : Rs) (idx : Nat) (x y : Int32), decode (mC M) pc = .ok (.invokestatic idx, 3) → linkM (mY M).cls idx Lib.Math.min.name Lib.Math.min.code → 1 ≤ mFr M → (st.map fun v => v.category).sum + 13 ≤ mLc M → T M (pc + 3) L (.int (if y < x then y else x) :: st) G r → T M pc L (.int y :: .int x :: st) G r
def Ru_objI (T : TT) : Prop := ∀ (M : MI) (pc : Nat) (L : PLoc) (st : List Value) (G : PH) (r : Rs) (idx a : Nat), decode (mC M) pc = .ok (.invokespecial idx, 3) → linkO (mY M).cls idx → 1 ≤ mFr M → (st.map fun v => v.category).sum + 12 ≤ mLc M → T M (pc + 3) L st G r → T M pc L (.ref a :: st) G r
def Ru_callV (T : TT) : Prop := ∀ (M : MI) (pc : Nat) (L : PLoc) (st : List Value) (G : PH) (r : Rs) (idx b ci : Nat) (N : MI) (As fs : List Value) (v : Option Value) (G1 : PH), decode (mC M) pc = .ok (.invokevirtual idx, 3) → linkV (mY M).cls idx N → G.2.2 b = some (.inr (ci, fs)) → (vwCl[ci]?).map (fun q => q.1) = some (mY N).cls → As.length = mNp N → (st.map fun v => v.category).sum ≤ 8 → mFr N + 1 ≤ mFr M → 8 + (mL N + 11) + mLc N ≤ mLc M → (entL (.ref b :: As)).length ≤ mL N → T N 0 (ent N (.ref b :: As)) [] G (v, G1) → T M (pc + 3) L (v.toList ++ st) G1 r → T M pc L (As.reverse ++ .ref b :: st) G r
def Ru_callS (T : TT) : Prop := ∀ (M : MI) (pc : Nat) (L : PLoc) (st : List Value) (G : PH) (r : Rs) (idx : Nat) (N : MI) (As : List Value) (v : Option Value) (G1 : PH), decode (mC M) pc = .ok (.invokestatic idx, 3) → linkS (mY M).cls idx N → As.length = mNp N → (st.map fun v => v.category).sum ≤ 8 → mFr N + 1 ≤ mFr M → 8 + (mL N + 11) + mLc N ≤ mLc M → (entL As).length ≤ mL N → T N 0 (ent N As) [] G (v, G1) → T M (pc + 3) L (v.toList ++ st) G1 r → T M pc L (As.reverse ++ st) G r
def Ru_callN (T : TT) : Prop := ∀ (M : MI) (pc : Nat) (L : PLoc) (st : List Value) (G : PH) (r : Rs) (idx : Nat) (N : MI) (As : List Value) (v : Option Value) (G1 : PH), decode (mC M) pc = .ok (.invokestatic idx, 3) → linkN (mY M).cls idx N → As.length = mNp N → (st.map fun v => v.category).sum ≤ 8 → mFr N + 1 ≤ mFr M → 8 + (mL N + 11) + mLc N ≤ mLc M → (entL As).length ≤ mL N → T N 0 (ent N As) [] G (v, G1) → T M (pc + 3) L (v.toList ++ st) G1 r → T M pc L (As.reverse ++ st) G r
def Ru_callI (T : TT) : Prop := ∀ (M : MI) (pc : Nat) (L : PLoc) (st : List Value) (G : PH) (r : Rs) (idx b : Nat) (N : MI) (As : List Value) (v : Option Value) (G1 : PH), decode (mC M) pc = .ok (.invokespecial idx, 3) → linkI (mY M).cls idx N → As.length = mNp N → (st.map fun v => v.category).sum ≤ 8 → mFr N + 1 ≤ mFr M → 8 + (mL N + 11) + mLc N ≤ mLc M → (entL (.ref b :: As)).length ≤ mL N → T N 0 (ent N (.ref b :: As)) [] G (v, G1) → T M (pc + 3) L (v.toList ++ st) G1 r → T M pc L (As.reverse ++ .ref b :: st) G r
def Ru_iret (T : TT) : Prop := ∀ (M : MI) (pc : Nat) (L : PLoc) (G : PH) (v : Int32) (ty : FieldType), decode (mC M) pc = .ok (.ireturn, 1) → mR M = some ty → narrow ty (.int v) = .int v → T M pc L ([.int v]) G (some (.int v), G)
def Ru_lret (T : TT) : Prop := ∀ (M : MI) (pc : Nat) (L : PLoc) (G : PH) (v : Int64), decode (mC M) pc = .ok (.lreturn, 1) → mR M = some .long → T M pc L ([.long v]) G (some (.long v), G)
def Ru_aret (T : TT) : Prop := ∀ (M : MI) (pc : Nat) (L : PLoc) (G : PH) (v : Value) (rt : FieldType), decode (mC M) pc = .ok (.areturn, 1) → mR M = some rt → ((∃ n, rt = .object n) ∨ ∃ t, rt = .array t) → isRf v → T M pc L ([v]) G (some v, G)
def Ru_vret (T : TT) : Prop := ∀ (M : MI) (pc : Nat) (L : PLoc) (G : PH), decode (mC M) pc = .ok (.return_, 1) → mR M = none → T M pc L ([]) G (none, G)
def Closed (T : TT) : Prop := Ru_iconst T ∧ Ru_bipush T ∧ Ru_sipush T ∧ Ru_lconst T ∧ Ru_null T ∧ Ru_ldc T ∧ Ru_ldc2 T ∧ Ru_iload_n T ∧ Ru_iload T ∧ Ru_lload_n T ∧ Ru_lload T ∧ Ru_aload_n T ∧ Ru_aload T ∧ Ru_istore_n T ∧ Ru_istore T ∧ Ru_lstore_n T ∧ Ru_lstore T ∧ Ru_astore_n T ∧ Ru_astore T ∧ Ru_iinc T ∧ Ru_iadd T ∧ Ru_isub T ∧ Ru_imul T ∧ Ru_iand T ∧ Ru_ineg T ∧ Ru_ladd T ∧ Ru_lmul T ∧ Ru_land T ∧ Ru_lor T ∧ Ru_lxor T ∧ Ru_lrem T ∧ Ru_i2l T ∧ Ru_l2i T ∧ Ru_lushr T ∧ Ru_lshl T ∧ Ru_lcmp T ∧ Ru_dup T ∧ Ru_pop T ∧ Ru_dup2 T ∧ Ru_pop2 T ∧ Ru_if_eq T ∧ Ru_if_ne T ∧ Ru_if_lt T ∧ Ru_if_ge T ∧ Ru_if_gt T ∧ Ru_if_le T ∧ Ru_icmp_eq T ∧ Ru_icmp_ne T ∧ Ru_icmp_lt T ∧ Ru_icmp_ge T ∧ Ru_icmp_gt T ∧ Ru_icmp_le T ∧ Ru_goto T ∧ Ru_ifnull_r T ∧ Ru_ifnull_n T ∧ Ru_ifnonnull_r T ∧ Ru_ifnonnull_n T ∧ Ru_tswOut T ∧ Ru_tswIn T ∧ Ru_get T ∧ Ru_put T ∧ Ru_putF T ∧ Ru_iald T ∧ Ru_zald T ∧ Ru_lald T ∧ Ru_aald T ∧ Ru_iast T ∧ Ru_zast T ∧ Ru_last T ∧ Ru_aast T ∧ Ru_alen T ∧ Ru_sld T ∧ Ru_slen T ∧ Ru_new T ∧ Ru_newi T ∧ Ru_newl T ∧ Ru_newz T ∧ Ru_anew T ∧ Ru_copyi T ∧ Ru_copyl T ∧ Ru_mmax T ∧ Ru_mmin T ∧ Ru_objI T ∧ Ru_callV T ∧ Ru_callS T ∧ Ru_callN T ∧ Ru_callI T ∧ Ru_iret T ∧ Ru_lret T ∧ Ru_aret T ∧ Ru_vret T
def Ex (M : MI) (pc : Nat) (L : PLoc) (st : List Value) (G : PH) (r : Rs) : Prop := ∀ T : TT, Closed T → T M pc L st G r
theorem cl_iconst {T : TT} (h : Closed T) : Ru_iconst T := h.1
theorem cl_bipush {T : TT} (h : Closed T) : Ru_bipush T := h.2.1
theorem cl_sipush {T : TT} (h : Closed T) : Ru_sipush T := h.2.2.1
theorem cl_lconst {T : TT} (h : Closed T) : Ru_lconst T := h.2.2.2.1
theorem cl_null {T : TT} (h : Closed T) : Ru_null T := h.2.2.2.2.1
theorem cl_ldc {T : TT} (h : Closed T) : Ru_ldc T := h.2.2.2.2.2.1
theorem cl_ldc2 {T : TT} (h : Closed T) : Ru_ldc2 T := h.2.2.2.2.2.2.1
theorem cl_iload_n {T : TT} (h : Closed T) : Ru_iload_n T := h.2.2.2.2.2.2.2.1
theorem cl_iload {T : TT} (h : Closed T) : Ru_iload T := h.2.2.2.2.2.2.2.2.1
theorem cl_lload_n {T : TT} (h : Closed T) : Ru_lload_n T := h.2.2.2.2.2.2.2.2.2.1
theorem cl_lload {T : TT} (h : Closed T) : Ru_lload T := h.2.2.2.2.2.2.2.2.2.2.1
theorem cl_aload_n {T : TT} (h : Closed T) : Ru_aload_n T := h.2.2.2.2.2.2.2.2.2.2.2.1
theorem cl_aload {T : TT} (h : Closed T) : Ru_aload T := h.2.2.2.2.2.2.2.2.2.2.2.2.1
theorem cl_istore_n {T : TT} (h : Closed T) : Ru_istore_n T := h.2.2.2.2.2.2.2.2.2.2.2.2.2.1
theorem cl_istore {T : TT} (h : Closed T) : Ru_istore T := h.2.2.2.2.2.2.2.2.2.2.2.2.2.2.1
theorem cl_lstore_n {T : TT} (h : Closed T) : Ru_lstore_n T := h.2.2.2.2.2.2.2.2.2.2.2.2.2.2.2.1
theorem cl_lstore {T : TT} (h : Closed T) : Ru_lstore T := h.2.2.2.2.2.2.2.2.2.2.2.2.2.2.2.2.1
theorem cl_astore_n {T : TT} (h : Closed T) : Ru_astore_n T := h.2.2.2.2.2.2.2.2.2.2.2.2.2.2.2.2.2.1
theorem cl_astore {T : TT} (h : Closed T) : Ru_astore T := h.2.2.2.2.2.2.2.2.2.2.2.2.2.2.2.2.2.2.1
theorem cl_iinc {T : TT} (h : Closed T) : Ru_iinc T := h.2.2.2.2.2.2.2.2.2.2.2.2.2.2.2.2.2.2.2.1
theorem cl_iadd {T : TT} (h : Closed T) : Ru_iadd T := h.2.2.2.2.2.2.2.2.2.2.2.2.2.2.2.2.2.2.2.2.1
theorem cl_isub {T : TT} (h : Closed T) : Ru_isub T := h.2.2.2.2.2.2.2.2.2.2.2.2.2.2.2.2.2.2.2.2.2.1
theorem cl_imul {T : TT} (h : Closed T) : Ru_imul T := h.2.2.2.2.2.2.2.2.2.2.2.2.2.2.2.2.2.2.2.2.2.2.1
theorem cl_iand {T : TT} (h : Closed T) : Ru_iand T := h.2.2.2.2.2.2.2.2.2.2.2.2.2.2.2.2.2.2.2.2.2.2.2.1
theorem cl_ineg {T : TT} (h : Closed T) : Ru_ineg T := h.2.2.2.2.2.2.2.2.2.2.2.2.2.2.2.2.2.2.2.2.2.2.2.2.1
theorem cl_ladd {T : TT} (h : Closed T) : Ru_ladd T := h.2.2.2.2.2.2.2.2.2.2.2.2.2.2.2.2.2.2.2.2.2.2.2.2.2.1
theorem cl_lmul {T : TT} (h : Closed T) : Ru_lmul T := h.2.2.2.2.2.2.2.2.2.2.2.2.2.2.2.2.2.2.2.2.2.2.2.2.2.2.1
theorem cl_land {T : TT} (h : Closed T) : Ru_land T := h.2.2.2.2.2.2.2.2.2.2.2.2.2.2.2.2.2.2.2.2.2.2.2.2.2.2.2.1
theorem cl_lor {T : TT} (h : Closed T) : Ru_lor T := h.2.2.2.2.2.2.2.2.2.2.2.2.2.2.2.2.2.2.2.2.2.2.2.2.2.2.2.2.1
theorem cl_lxor {T : TT} (h : Closed T) : Ru_lxor T := h.2.2.2.2.2.2.2.2.2.2.2.2.2.2.2.2.2.2.2.2.2.2.2.2.2.2.2.2.2.1
theorem cl_lrem {T : TT} (h : Closed T) : Ru_lrem T := h.2.2.2.2.2.2.2.2.2.2.2.2.2.2.2.2.2.2.2.2.2.2.2.2.2.2.2.2.2.2.1
theorem cl_i2l {T : TT} (h : Closed T) : Ru_i2l T := h.2.2.2.2.2.2.2.2.2.2.2.2.2.2.2.2.2.2.2.2.2.2.2.2.2.2.2.2.2.2.2.1
theorem cl_l2i {T : TT} (h : Closed T) : Ru_l2i T := h.2.2.2.2.2.2.2.2.2.2.2.2.2.2.2.2.2.2.2.2.2.2.2.2.2.2.2.2.2.2.2.2.1
theorem cl_lushr {T : TT} (h : Closed T) : Ru_lushr T := h.2.2.2.2.2.2.2.2.2.2.2.2.2.2.2.2.2.2.2.2.2.2.2.2.2.2.2.2.2.2.2.2.2.1
theorem cl_lshl {T : TT} (h : Closed T) : Ru_lshl T := h.2.2.2.2.2.2.2.2.2.2.2.2.2.2.2.2.2.2.2.2.2.2.2.2.2.2.2.2.2.2.2.2.2.2.1
theorem cl_lcmp {T : TT} (h : Closed T) : Ru_lcmp T := h.2.2.2.2.2.2.2.2.2.2.2.2.2.2.2.2.2.2.2.2.2.2.2.2.2.2.2.2.2.2.2.2.2.2.2.1
theorem cl_dup {T : TT} (h : Closed T) : Ru_dup T := h.2.2.2.2.2.2.2.2.2.2.2.2.2.2.2.2.2.2.2.2.2.2.2.2.2.2.2.2.2.2.2.2.2.2.2.2.1
theorem cl_pop {T : TT} (h : Closed T) : Ru_pop T := h.2.2.2.2.2.2.2.2.2.2.2.2.2.2.2.2.2.2.2.2.2.2.2.2.2.2.2.2.2.2.2.2.2.2.2.2.2.1
theorem cl_dup2 {T : TT} (h : Closed T) : Ru_dup2 T := h.2.2.2.2.2.2.2.2.2.2.2.2.2.2.2.2.2.2.2.2.2.2.2.2.2.2.2.2.2.2.2.2.2.2.2.2.2.2.1
theorem cl_pop2 {T : TT} (h : Closed T) : Ru_pop2 T := h.2.2.2.2.2.2.2.2.2.2.2.2.2.2.2.2.2.2.2.2.2.2.2.2.2.2.2.2.2.2.2.2.2.2.2.2.2.2.2.1
theorem cl_if_eq {T : TT} (h : Closed T) : Ru_if_eq T := h.2.2.2.2.2.2.2.2.2.2.2.2.2.2.2.2.2.2.2.2.2.2.2.2.2.2.2.2.2.2.2.2.2.2.2.2.2.2.2.2.1
theorem cl_if_ne {T : TT} (h : Closed T) : Ru_if_ne T := h.2.2.2.2.2.2.2.2.2.2.2.2.2.2.2.2.2.2.2.2.2.2.2.2.2.2.2.2.2.2.2.2.2.2.2.2.2.2.2.2.2.1
theorem cl_if_lt {T : TT} (h : Closed T) : Ru_if_lt T := h.2.2.2.2.2.2.2.2.2.2.2.2.2.2.2.2.2.2.2.2.2.2.2.2.2.2.2.2.2.2.2.2.2.2.2.2.2.2.2.2.2.2.1
theorem cl_if_ge {T : TT} (h : Closed T) : Ru_if_ge T := h.2.2.2.2.2.2.2.2.2.2.2.2.2.2.2.2.2.2.2.2.2.2.2.2.2.2.2.2.2.2.2.2.2.2.2.2.2.2.2.2.2.2.2.1
theorem cl_if_gt {T : TT} (h : Closed T) : Ru_if_gt T := h.2.2.2.2.2.2.2.2.2.2.2.2.2.2.2.2.2.2.2.2.2.2.2.2.2.2.2.2.2.2.2.2.2.2.2.2.2.2.2.2.2.2.2.2.1
theorem cl_if_le {T : TT} (h : Closed T) : Ru_if_le T := h.2.2.2.2.2.2.2.2.2.2.2.2.2.2.2.2.2.2.2.2.2.2.2.2.2.2.2.2.2.2.2.2.2.2.2.2.2.2.2.2.2.2.2.2.2.1
theorem cl_icmp_eq {T : TT} (h : Closed T) : Ru_icmp_eq T := h.2.2.2.2.2.2.2.2.2.2.2.2.2.2.2.2.2.2.2.2.2.2.2.2.2.2.2.2.2.2.2.2.2.2.2.2.2.2.2.2.2.2.2.2.2.2.1
theorem cl_icmp_ne {T : TT} (h : Closed T) : Ru_icmp_ne T := h.2.2.2.2.2.2.2.2.2.2.2.2.2.2.2.2.2.2.2.2.2.2.2.2.2.2.2.2.2.2.2.2.2.2.2.2.2.2.2.2.2.2.2.2.2.2.2.1
theorem cl_icmp_lt {T : TT} (h : Closed T) : Ru_icmp_lt T := h.2.2.2.2.2.2.2.2.2.2.2.2.2.2.2.2.2.2.2.2.2.2.2.2.2.2.2.2.2.2.2.2.2.2.2.2.2.2.2.2.2.2.2.2.2.2.2.2.1
theorem cl_icmp_ge {T : TT} (h : Closed T) : Ru_icmp_ge T := h.2.2.2.2.2.2.2.2.2.2.2.2.2.2.2.2.2.2.2.2.2.2.2.2.2.2.2.2.2.2.2.2.2.2.2.2.2.2.2.2.2.2.2.2.2.2.2.2.2.1
theorem cl_icmp_gt {T : TT} (h : Closed T) : Ru_icmp_gt T := h.2.2.2.2.2.2.2.2.2.2.2.2.2.2.2.2.2.2.2.2.2.2.2.2.2.2.2.2.2.2.2.2.2.2.2.2.2.2.2.2.2.2.2.2.2.2.2.2.2.2.1
theorem cl_icmp_le {T : TT} (h : Closed T) : Ru_icmp_le T := h.2.2.2.2.2.2.2.2.2.2.2.2.2.2.2.2.2.2.2.2.2.2.2.2.2.2.2.2.2.2.2.2.2.2.2.2.2.2.2.2.2.2.2.2.2.2.2.2.2.2.2.1
theorem cl_goto {T : TT} (h : Closed T) : Ru_goto T := h.2.2.2.2.2.2.2.2.2.2.2.2.2.2.2.2.2.2.2.2.2.2.2.2.2.2.2.2.2.2.2.2.2.2.2.2.2.2.2.2.2.2.2.2.2.2.2.2.2.2.2.2.1
theorem cl_ifnull_r {T : TT} (h : Closed T) : Ru_ifnull_r T := h.2.2.2.2.2.2.2.2.2.2.2.2.2.2.2.2.2.2.2.2.2.2.2.2.2.2.2.2.2.2.2.2.2.2.2.2.2.2.2.2.2.2.2.2.2.2.2.2.2.2.2.2.2.1
theorem cl_ifnull_n {T : TT} (h : Closed T) : Ru_ifnull_n T := h.2.2.2.2.2.2.2.2.2.2.2.2.2.2.2.2.2.2.2.2.2.2.2.2.2.2.2.2.2.2.2.2.2.2.2.2.2.2.2.2.2.2.2.2.2.2.2.2.2.2.2.2.2.2.1
theorem cl_ifnonnull_r {T : TT} (h : Closed T) : Ru_ifnonnull_r T := h.2.2.2.2.2.2.2.2.2.2.2.2.2.2.2.2.2.2.2.2.2.2.2.2.2.2.2.2.2.2.2.2.2.2.2.2.2.2.2.2.2.2.2.2.2.2.2.2.2.2.2.2.2.2.2.1
theorem cl_ifnonnull_n {T : TT} (h : Closed T) : Ru_ifnonnull_n T := h.2.2.2.2.2.2.2.2.2.2.2.2.2.2.2.2.2.2.2.2.2.2.2.2.2.2.2.2.2.2.2.2.2.2.2.2.2.2.2.2.2.2.2.2.2.2.2.2.2.2.2.2.2.2.2.2.1
theorem cl_tswOut {T : TT} (h : Closed T) : Ru_tswOut T := h.2.2.2.2.2.2.2.2.2.2.2.2.2.2.2.2.2.2.2.2.2.2.2.2.2.2.2.2.2.2.2.2.2.2.2.2.2.2.2.2.2.2.2.2.2.2.2.2.2.2.2.2.2.2.2.2.2.1
theorem cl_tswIn {T : TT} (h : Closed T) : Ru_tswIn T := h.2.2.2.2.2.2.2.2.2.2.2.2.2.2.2.2.2.2.2.2.2.2.2.2.2.2.2.2.2.2.2.2.2.2.2.2.2.2.2.2.2.2.2.2.2.2.2.2.2.2.2.2.2.2.2.2.2.2.1
theorem cl_get {T : TT} (h : Closed T) : Ru_get T := h.2.2.2.2.2.2.2.2.2.2.2.2.2.2.2.2.2.2.2.2.2.2.2.2.2.2.2.2.2.2.2.2.2.2.2.2.2.2.2.2.2.2.2.2.2.2.2.2.2.2.2.2.2.2.2.2.2.2.2.1
theorem cl_put {T : TT} (h : Closed T) : Ru_put T := h.2.2.2.2.2.2.2.2.2.2.2.2.2.2.2.2.2.2.2.2.2.2.2.2.2.2.2.2.2.2.2.2.2.2.2.2.2.2.2.2.2.2.2.2.2.2.2.2.2.2.2.2.2.2.2.2.2.2.2.2.1
theorem cl_putF {T : TT} (h : Closed T) : Ru_putF T := h.2.2.2.2.2.2.2.2.2.2.2.2.2.2.2.2.2.2.2.2.2.2.2.2.2.2.2.2.2.2.2.2.2.2.2.2.2.2.2.2.2.2.2.2.2.2.2.2.2.2.2.2.2.2.2.2.2.2.2.2.2.1
theorem cl_iald {T : TT} (h : Closed T) : Ru_iald T := h.2.2.2.2.2.2.2.2.2.2.2.2.2.2.2.2.2.2.2.2.2.2.2.2.2.2.2.2.2.2.2.2.2.2.2.2.2.2.2.2.2.2.2.2.2.2.2.2.2.2.2.2.2.2.2.2.2.2.2.2.2.2.1
theorem cl_zald {T : TT} (h : Closed T) : Ru_zald T := h.2.2.2.2.2.2.2.2.2.2.2.2.2.2.2.2.2.2.2.2.2.2.2.2.2.2.2.2.2.2.2.2.2.2.2.2.2.2.2.2.2.2.2.2.2.2.2.2.2.2.2.2.2.2.2.2.2.2.2.2.2.2.2.1
theorem cl_lald {T : TT} (h : Closed T) : Ru_lald T := h.2.2.2.2.2.2.2.2.2.2.2.2.2.2.2.2.2.2.2.2.2.2.2.2.2.2.2.2.2.2.2.2.2.2.2.2.2.2.2.2.2.2.2.2.2.2.2.2.2.2.2.2.2.2.2.2.2.2.2.2.2.2.2.2.1
theorem cl_aald {T : TT} (h : Closed T) : Ru_aald T := h.2.2.2.2.2.2.2.2.2.2.2.2.2.2.2.2.2.2.2.2.2.2.2.2.2.2.2.2.2.2.2.2.2.2.2.2.2.2.2.2.2.2.2.2.2.2.2.2.2.2.2.2.2.2.2.2.2.2.2.2.2.2.2.2.2.1
theorem cl_iast {T : TT} (h : Closed T) : Ru_iast T := h.2.2.2.2.2.2.2.2.2.2.2.2.2.2.2.2.2.2.2.2.2.2.2.2.2.2.2.2.2.2.2.2.2.2.2.2.2.2.2.2.2.2.2.2.2.2.2.2.2.2.2.2.2.2.2.2.2.2.2.2.2.2.2.2.2.2.1
theorem cl_zast {T : TT} (h : Closed T) : Ru_zast T := h.2.2.2.2.2.2.2.2.2.2.2.2.2.2.2.2.2.2.2.2.2.2.2.2.2.2.2.2.2.2.2.2.2.2.2.2.2.2.2.2.2.2.2.2.2.2.2.2.2.2.2.2.2.2.2.2.2.2.2.2.2.2.2.2.2.2.2.1
theorem cl_last {T : TT} (h : Closed T) : Ru_last T := h.2.2.2.2.2.2.2.2.2.2.2.2.2.2.2.2.2.2.2.2.2.2.2.2.2.2.2.2.2.2.2.2.2.2.2.2.2.2.2.2.2.2.2.2.2.2.2.2.2.2.2.2.2.2.2.2.2.2.2.2.2.2.2.2.2.2.2.2.1
theorem cl_aast {T : TT} (h : Closed T) : Ru_aast T := h.2.2.2.2.2.2.2.2.2.2.2.2.2.2.2.2.2.2.2.2.2.2.2.2.2.2.2.2.2.2.2.2.2.2.2.2.2.2.2.2.2.2.2.2.2.2.2.2.2.2.2.2.2.2.2.2.2.2.2.2.2.2.2.2.2.2.2.2.2.1
theorem cl_alen {T : TT} (h : Closed T) : Ru_alen T := h.2.2.2.2.2.2.2.2.2.2.2.2.2.2.2.2.2.2.2.2.2.2.2.2.2.2.2.2.2.2.2.2.2.2.2.2.2.2.2.2.2.2.2.2.2.2.2.2.2.2.2.2.2.2.2.2.2.2.2.2.2.2.2.2.2.2.2.2.2.2.1
theorem cl_sld {T : TT} (h : Closed T) : Ru_sld T := h.2.2.2.2.2.2.2.2.2.2.2.2.2.2.2.2.2.2.2.2.2.2.2.2.2.2.2.2.2.2.2.2.2.2.2.2.2.2.2.2.2.2.2.2.2.2.2.2.2.2.2.2.2.2.2.2.2.2.2.2.2.2.2.2.2.2.2.2.2.2.2.1
theorem cl_slen {T : TT} (h : Closed T) : Ru_slen T := h.2.2.2.2.2.2.2.2.2.2.2.2.2.2.2.2.2.2.2.2.2.2.2.2.2.2.2.2.2.2.2.2.2.2.2.2.2.2.2.2.2.2.2.2.2.2.2.2.2.2.2.2.2.2.2.2.2.2.2.2.2.2.2.2.2.2.2.2.2.2.2.2.1
theorem cl_new {T : TT} (h : Closed T) : Ru_new T := h.2.2.2.2.2.2.2.2.2.2.2.2.2.2.2.2.2.2.2.2.2.2.2.2.2.2.2.2.2.2.2.2.2.2.2.2.2.2.2.2.2.2.2.2.2.2.2.2.2.2.2.2.2.2.2.2.2.2.2.2.2.2.2.2.2.2.2.2.2.2.2.2.2.1
theorem cl_newi {T : TT} (h : Closed T) : Ru_newi T := h.2.2.2.2.2.2.2.2.2.2.2.2.2.2.2.2.2.2.2.2.2.2.2.2.2.2.2.2.2.2.2.2.2.2.2.2.2.2.2.2.2.2.2.2.2.2.2.2.2.2.2.2.2.2.2.2.2.2.2.2.2.2.2.2.2.2.2.2.2.2.2.2.2.2.1
theorem cl_newl {T : TT} (h : Closed T) : Ru_newl T := h.2.2.2.2.2.2.2.2.2.2.2.2.2.2.2.2.2.2.2.2.2.2.2.2.2.2.2.2.2.2.2.2.2.2.2.2.2.2.2.2.2.2.2.2.2.2.2.2.2.2.2.2.2.2.2.2.2.2.2.2.2.2.2.2.2.2.2.2.2.2.2.2.2.2.2.1
theorem cl_newz {T : TT} (h : Closed T) : Ru_newz T := h.2.2.2.2.2.2.2.2.2.2.2.2.2.2.2.2.2.2.2.2.2.2.2.2.2.2.2.2.2.2.2.2.2.2.2.2.2.2.2.2.2.2.2.2.2.2.2.2.2.2.2.2.2.2.2.2.2.2.2.2.2.2.2.2.2.2.2.2.2.2.2.2.2.2.2.2.1
theorem cl_anew {T : TT} (h : Closed T) : Ru_anew T := h.2.2.2.2.2.2.2.2.2.2.2.2.2.2.2.2.2.2.2.2.2.2.2.2.2.2.2.2.2.2.2.2.2.2.2.2.2.2.2.2.2.2.2.2.2.2.2.2.2.2.2.2.2.2.2.2.2.2.2.2.2.2.2.2.2.2.2.2.2.2.2.2.2.2.2.2.2.1
theorem cl_copyi {T : TT} (h : Closed T) : Ru_copyi T := h.2.2.2.2.2.2.2.2.2.2.2.2.2.2.2.2.2.2.2.2.2.2.2.2.2.2.2.2.2.2.2.2.2.2.2.2.2.2.2.2.2.2.2.2.2.2.2.2.2.2.2.2.2.2.2.2.2.2.2.2.2.2.2.2.2.2.2.2.2.2.2.2.2.2.2.2.2.2.1
theorem cl_copyl {T : TT} (h : Closed T) : Ru_copyl T := h.2.2.2.2.2.2.2.2.2.2.2.2.2.2.2.2.2.2.2.2.2.2.2.2.2.2.2.2.2.2.2.2.2.2.2.2.2.2.2.2.2.2.2.2.2.2.2.2.2.2.2.2.2.2.2.2.2.2.2.2.2.2.2.2.2.2.2.2.2.2.2.2.2.2.2.2.2.2.2.1
theorem cl_mmax {T : TT} (h : Closed T) : Ru_mmax T := h.2.2.2.2.2.2.2.2.2.2.2.2.2.2.2.2.2.2.2.2.2.2.2.2.2.2.2.2.2.2.2.2.2.2.2.2.2.2.2.2.2.2.2.2.2.2.2.2.2.2.2.2.2.2.2.2.2.2.2.2.2.2.2.2.2.2.2.2.2.2.2.2.2.2.2.2.2.2.2.2.1
theorem cl_mmin {T : TT} (h : Closed T) : Ru_mmin T := h.2.2.2.2.2.2.2.2.2.2.2.2.2.2.2.2.2.2.2.2.2.2.2.2.2.2.2.2.2.2.2.2.2.2.2.2.2.2.2.2.2.2.2.2.2.2.2.2.2.2.2.2.2.2.2.2.2.2.2.2.2.2.2.2.2.2.2.2.2.2.2.2.2.2.2.2.2.2.2.2.2.1
theorem cl_objI {T : TT} (h : Closed T) : Ru_objI T := h.2.2.2.2.2.2.2.2.2.2.2.2.2.2.2.2.2.2.2.2.2.2.2.2.2.2.2.2.2.2.2.2.2.2.2.2.2.2.2.2.2.2.2.2.2.2.2.2.2.2.2.2.2.2.2.2.2.2.2.2.2.2.2.2.2.2.2.2.2.2.2.2.2.2.2.2.2.2.2.2.2.2.1
theorem cl_callV {T : TT} (h : Closed T) : Ru_callV T := h.2.2.2.2.2.2.2.2.2.2.2.2.2.2.2.2.2.2.2.2.2.2.2.2.2.2.2.2.2.2.2.2.2.2.2.2.2.2.2.2.2.2.2.2.2.2.2.2.2.2.2.2.2.2.2.2.2.2.2.2.2.2.2.2.2.2.2.2.2.2.2.2.2.2.2.2.2.2.2.2.2.2.2.1
theorem cl_callS {T : TT} (h : Closed T) : Ru_callS T := h.2.2.2.2.2.2.2.2.2.2.2.2.2.2.2.2.2.2.2.2.2.2.2.2.2.2.2.2.2.2.2.2.2.2.2.2.2.2.2.2.2.2.2.2.2.2.2.2.2.2.2.2.2.2.2.2.2.2.2.2.2.2.2.2.2.2.2.2.2.2.2.2.2.2.2.2.2.2.2.2.2.2.2.2.1
theorem cl_callN {T : TT} (h : Closed T) : Ru_callN T := h.2.2.2.2.2.2.2.2.2.2.2.2.2.2.2.2.2.2.2.2.2.2.2.2.2.2.2.2.2.2.2.2.2.2.2.2.2.2.2.2.2.2.2.2.2.2.2.2.2.2.2.2.2.2.2.2.2.2.2.2.2.2.2.2.2.2.2.2.2.2.2.2.2.2.2.2.2.2.2.2.2.2.2.2.2.1
theorem cl_callI {T : TT} (h : Closed T) : Ru_callI T := h.2.2.2.2.2.2.2.2.2.2.2.2.2.2.2.2.2.2.2.2.2.2.2.2.2.2.2.2.2.2.2.2.2.2.2.2.2.2.2.2.2.2.2.2.2.2.2.2.2.2.2.2.2.2.2.2.2.2.2.2.2.2.2.2.2.2.2.2.2.2.2.2.2.2.2.2.2.2.2.2.2.2.2.2.2.2.1
theorem cl_iret {T : TT} (h : Closed T) : Ru_iret T := h.2.2.2.2.2.2.2.2.2.2.2.2.2.2.2.2.2.2.2.2.2.2.2.2.2.2.2.2.2.2.2.2.2.2.2.2.2.2.2.2.2.2.2.2.2.2.2.2.2.2.2.2.2.2.2.2.2.2.2.2.2.2.2.2.2.2.2.2.2.2.2.2.2.2.2.2.2.2.2.2.2.2.2.2.2.2.2.1
theorem cl_lret {T : TT} (h : Closed T) : Ru_lret T := h.2.2.2.2.2.2.2.2.2.2.2.2.2.2.2.2.2.2.2.2.2.2.2.2.2.2.2.2.2.2.2.2.2.2.2.2.2.2.2.2.2.2.2.2.2.2.2.2.2.2.2.2.2.2.2.2.2.2.2.2.2.2.2.2.2.2.2.2.2.2.2.2.2.2.2.2.2.2.2.2.2.2.2.2.2.2.2.2.1
theorem cl_aret {T : TT} (h : Closed T) : Ru_aret T := h.2.2.2.2.2.2.2.2.2.2.2.2.2.2.2.2.2.2.2.2.2.2.2.2.2.2.2.2.2.2.2.2.2.2.2.2.2.2.2.2.2.2.2.2.2.2.2.2.2.2.2.2.2.2.2.2.2.2.2.2.2.2.2.2.2.2.2.2.2.2.2.2.2.2.2.2.2.2.2.2.2.2.2.2.2.2.2.2.2.1
theorem cl_vret {T : TT} (h : Closed T) : Ru_vret T := h.2.2.2.2.2.2.2.2.2.2.2.2.2.2.2.2.2.2.2.2.2.2.2.2.2.2.2.2.2.2.2.2.2.2.2.2.2.2.2.2.2.2.2.2.2.2.2.2.2.2.2.2.2.2.2.2.2.2.2.2.2.2.2.2.2.2.2.2.2.2.2.2.2.2.2.2.2.2.2.2.2.2.2.2.2.2.2.2.2.2
theorem ex_iconst : Ru_iconst Ex := fun _ _ _ _ _ _ _ _ h0 h1 p0 T hT => cl_iconst hT _ _ _ _ _ _ _ _ h0 h1 (p0 T hT)
theorem ex_bipush : Ru_bipush Ex := fun _ _ _ _ _ _ _ _ h0 h1 p0 T hT => cl_bipush hT _ _ _ _ _ _ _ _ h0 h1 (p0 T hT)
theorem ex_sipush : Ru_sipush Ex := fun _ _ _ _ _ _ _ _ h0 h1 p0 T hT => cl_sipush hT _ _ _ _ _ _ _ _ h0 h1 (p0 T hT)
theorem ex_lconst : Ru_lconst Ex := fun _ _ _ _ _ _ _ _ h0 h1 p0 T hT => cl_lconst hT _ _ _ _ _ _ _ _ h0 h1 (p0 T hT)
theorem ex_null : Ru_null Ex := fun _ _ _ _ _ _ h0 p0 T hT => cl_null hT _ _ _ _ _ _ h0 (p0 T hT)
theorem ex_ldc : Ru_ldc Ex := fun _ _ _ _ _ _ _ _ h0 h1 p0 T hT => cl_ldc hT _ _ _ _ _ _ _ _ h0 h1 (p0 T hT)
theorem ex_ldc2 : Ru_ldc2 Ex := fun _ _ _ _ _ _ _ _ h0 h1 p0 T hT => cl_ldc2 hT _ _ _ _ _ _ _ _ h0 h1 (p0 T hT)
theorem ex_iload_n : Ru_iload_n Ex := fun _ _ _ _ _ _ _ _ h0 h1 p0 T hT => cl_iload_n hT _ _ _ _ _ _ _ _ h0 h1 (p0 T hT)
theorem ex_iload : Ru_iload Ex := fun _ _ _ _ _ _ _ _ h0 h1 p0 T hT => cl_iload hT _ _ _ _ _ _ _ _ h0 h1 (p0 T hT)
theorem ex_lload_n : Ru_lload_n Ex := fun _ _ _ _ _ _ _ _ h0 h1 p0 T hT => cl_lload_n hT _ _ _ _ _ _ _ _ h0 h1 (p0 T hT)
theorem ex_lload : Ru_lload Ex := fun _ _ _ _ _ _ _ _ h0 h1 p0 T hT => cl_lload hT _ _ _ _ _ _ _ _ h0 h1 (p0 T hT)
theorem ex_aload_n : Ru_aload_n Ex := fun _ _ _ _ _ _ _ _ h0 h1 h2 p0 T hT => cl_aload_n hT _ _ _ _ _ _ _ _ h0 h1 h2 (p0 T hT)
theorem ex_aload : Ru_aload Ex := fun _ _ _ _ _ _ _ _ h0 h1 h2 p0 T hT => cl_aload hT _ _ _ _ _ _ _ _ h0 h1 h2 (p0 T hT)
theorem ex_istore_n : Ru_istore_n Ex := fun _ _ _ _ _ _ _ _ _ h0 h1 h2 p0 T hT => cl_istore_n hT _ _ _ _ _ _ _ _ _ h0 h1 h2 (p0 T hT)
theorem ex_istore : Ru_istore Ex := fun _ _ _ _ _ _ _ _ _ h0 h1 h2 p0 T hT => cl_istore hT _ _ _ _ _ _ _ _ _ h0 h1 h2 (p0 T hT)
theorem ex_lstore_n : Ru_lstore_n Ex := fun _ _ _ _ _ _ _ _ _ h0 h1 h2 p0 T hT => cl_lstore_n hT _ _ _ _ _ _ _ _ _ h0 h1 h2 (p0 T hT)
theorem ex_lstore : Ru_lstore Ex := fun _ _ _ _ _ _ _ _ _ h0 h1 h2 p0 T hT => cl_lstore hT _ _ _ _ _ _ _ _ _ h0 h1 h2 (p0 T hT)
theorem ex_astore_n : Ru_astore_n Ex := fun _ _ _ _ _ _ _ _ _ h0 h1 h2 h3 p0 T hT => cl_astore_n hT _ _ _ _ _ _ _ _ _ h0 h1 h2 h3 (p0 T hT)
theorem ex_astore : Ru_astore Ex := fun _ _ _ _ _ _ _ _ _ h0 h1 h2 h3 p0 T hT => cl_astore hT _ _ _ _ _ _ _ _ _ h0 h1 h2 h3 (p0 T hT)
theorem ex_iinc : Ru_iinc Ex := fun _ _ _ _ _ _ _ _ _ _ _ h0 h1 h2 h3 p0 T hT => cl_iinc hT _ _ _ _ _ _ _ _ _ _ _ h0 h1 h2 h3 (p0 T hT)
theorem ex_iadd : Ru_iadd Ex := fun _ _ _ _ _ _ _ _ h0 p0 T hT => cl_iadd hT _ _ _ _ _ _ _ _ h0 (p0 T hT)
theorem ex_isub : Ru_isub Ex := fun _ _ _ _ _ _ _ _ h0 p0 T hT => cl_isub hT _ _ _ _ _ _ _ _ h0 (p0 T hT)
theorem ex_imul : Ru_imul Ex := fun _ _ _ _ _ _ _ _ h0 p0 T hT => cl_imul hT _ _ _ _ _ _ _ _ h0 (p0 T hT)
theorem ex_iand : Ru_iand Ex := fun _ _ _ _ _ _ _ _ h0 p0 T hT => cl_iand hT _ _ _ _ _ _ _ _ h0 (p0 T hT)
theorem ex_ineg : Ru_ineg Ex := fun _ _ _ _ _ _ _ h0 p0 T hT => cl_ineg hT _ _ _ _ _ _ _ h0 (p0 T hT)
theorem ex_ladd : Ru_ladd Ex := fun _ _ _ _ _ _ _ _ h0 p0 T hT => cl_ladd hT _ _ _ _ _ _ _ _ h0 (p0 T hT)
theorem ex_lmul : Ru_lmul Ex := fun _ _ _ _ _ _ _ _ h0 p0 T hT => cl_lmul hT _ _ _ _ _ _ _ _ h0 (p0 T hT)
theorem ex_land : Ru_land Ex := fun _ _ _ _ _ _ _ _ h0 p0 T hT => cl_land hT _ _ _ _ _ _ _ _ h0 (p0 T hT)
theorem ex_lor : Ru_lor Ex := fun _ _ _ _ _ _ _ _ h0 p0 T hT => cl_lor hT _ _ _ _ _ _ _ _ h0 (p0 T hT)
theorem ex_lxor : Ru_lxor Ex := fun _ _ _ _ _ _ _ _ h0 p0 T hT => cl_lxor hT _ _ _ _ _ _ _ _ h0 (p0 T hT)
theorem ex_lrem : Ru_lrem Ex := fun _ _ _ _ _ _ _ _ h0 h1 p0 T hT => cl_lrem hT _ _ _ _ _ _ _ _ h0 h1 (p0 T hT)
theorem ex_i2l : Ru_i2l Ex := fun _ _ _ _ _ _ _ h0 p0 T hT => cl_i2l hT _ _ _ _ _ _ _ h0 (p0 T hT)
theorem ex_l2i : Ru_l2i Ex := fun _ _ _ _ _ _ _ h0 p0 T hT => cl_l2i hT _ _ _ _ _ _ _ h0 (p0 T hT)
theorem ex_lushr : Ru_lushr Ex := fun _ _ _ _ _ _ _ _ h0 p0 T hT => cl_lushr hT _ _ _ _ _ _ _ _ h0 (p0 T hT)
theorem ex_lshl : Ru_lshl Ex := fun _ _ _ _ _ _ _ _ h0 p0 T hT => cl_lshl hT _ _ _ _ _ _ _ _ h0 (p0 T hT)
theorem ex_lcmp : Ru_lcmp Ex := fun _ _ _ _ _ _ _ _ h0 p0 T hT => cl_lcmp hT _ _ _ _ _ _ _ _ h0 (p0 T hT)
theorem ex_dup : Ru_dup Ex := fun _ _ _ _ _ _ _ h0 h1 p0 T hT => cl_dup hT _ _ _ _ _ _ _ h0 h1 (p0 T hT)
theorem ex_pop : Ru_pop Ex := fun _ _ _ _ _ _ _ h0 h1 p0 T hT => cl_pop hT _ _ _ _ _ _ _ h0 h1 (p0 T hT)
theorem ex_dup2 : Ru_dup2 Ex := fun _ _ _ _ _ _ _ _ h0 h1 h2 p0 T hT => cl_dup2 hT _ _ _ _ _ _ _ _ h0 h1 h2 (p0 T hT)
theorem ex_pop2 : Ru_pop2 Ex := fun _ _ _ _ _ _ _ h0 h1 p0 T hT => cl_pop2 hT _ _ _ _ _ _ _ h0 h1 (p0 T hT)
theorem ex_if_eq : Ru_if_eq Ex := fun _ _ _ _ _ _ _ _ _ h0 h1 p0 p1 T hT => cl_if_eq hT _ _ _ _ _ _ _ _ _ h0 h1 (fun c => p0 c T hT) (fun c => p1 c T hT)
theorem ex_if_ne : Ru_if_ne Ex := fun _ _ _ _ _ _ _ _ _ h0 h1 p0 p1 T hT => cl_if_ne hT _ _ _ _ _ _ _ _ _ h0 h1 (fun c => p0 c T hT) (fun c => p1 c T hT)
theorem ex_if_lt : Ru_if_lt Ex := fun _ _ _ _ _ _ _ _ _ h0 h1 p0 p1 T hT => cl_if_lt hT _ _ _ _ _ _ _ _ _ h0 h1 (fun c => p0 c T hT) (fun c => p1 c T hT)
theorem ex_if_ge : Ru_if_ge Ex := fun _ _ _ _ _ _ _ _ _ h0 h1 p0 p1 T hT => cl_if_ge hT _ _ _ _ _ _ _ _ _ h0 h1 (fun c => p0 c T hT) (fun c => p1 c T hT)
theorem ex_if_gt : Ru_if_gt Ex := fun _ _ _ _ _ _ _ _ _ h0 h1 p0 p1 T hT => cl_if_gt hT _ _ _ _ _ _ _ _ _ h0 h1 (fun c => p0 c T hT) (fun c => p1 c T hT)
theorem ex_if_le : Ru_if_le Ex := fun _ _ _ _ _ _ _ _ _ h0 h1 p0 p1 T hT => cl_if_le hT _ _ _ _ _ _ _ _ _ h0 h1 (fun c => p0 c T hT) (fun c => p1 c T hT)
theorem ex_icmp_eq : Ru_icmp_eq Ex := fun _ _ _ _ _ _ _ _ _ _ h0 h1 p0 p1 T hT => cl_icmp_eq hT _ _ _ _ _ _ _ _ _ _ h0 h1 (fun c => p0 c T hT) (fun c => p1 c T hT)
theorem ex_icmp_ne : Ru_icmp_ne Ex := fun _ _ _ _ _ _ _ _ _ _ h0 h1 p0 p1 T hT => cl_icmp_ne hT _ _ _ _ _ _ _ _ _ _ h0 h1 (fun c => p0 c T hT) (fun c => p1 c T hT)
theorem ex_icmp_lt : Ru_icmp_lt Ex := fun _ _ _ _ _ _ _ _ _ _ h0 h1 p0 p1 T hT => cl_icmp_lt hT _ _ _ _ _ _ _ _ _ _ h0 h1 (fun c => p0 c T hT) (fun c => p1 c T hT)
theorem ex_icmp_ge : Ru_icmp_ge Ex := fun _ _ _ _ _ _ _ _ _ _ h0 h1 p0 p1 T hT => cl_icmp_ge hT _ _ _ _ _ _ _ _ _ _ h0 h1 (fun c => p0 c T hT) (fun c => p1 c T hT)
theorem ex_icmp_gt : Ru_icmp_gt Ex := fun _ _ _ _ _ _ _ _ _ _ h0 h1 p0 p1 T hT => cl_icmp_gt hT _ _ _ _ _ _ _ _ _ _ h0 h1 (fun c => p0 c T hT) (fun c => p1 c T hT)
theorem ex_icmp_le : Ru_icmp_le Ex := fun _ _ _ _ _ _ _ _ _ _ h0 h1 p0 p1 T hT => cl_icmp_le hT _ _ _ _ _ _ _ _ _ _ h0 h1 (fun c => p0 c T hT) (fun c => p1 c T hT)
theorem ex_goto : Ru_goto Ex := fun _ _ _ _ _ _ _ _ h0 h1 p0 T hT => cl_goto hT _ _ _ _ _ _ _ _ h0 h1 (p0 T hT)
theorem ex_ifnull_r : Ru_ifnull_r Ex := fun _ _ _ _ _ _ _ _ h0 p0 T hT => cl_ifnull_r hT _ _ _ _ _ _ _ _ h0 (p0 T hT)
theorem ex_ifnull_n : Ru_ifnull_n Ex := fun _ _ _ _ _ _ _ _ h0 h1 p0 T hT => cl_ifnull_n hT _ _ _ _ _ _ _ _ h0 h1 (p0 T hT)
theorem ex_ifnonnull_r : Ru_ifnonnull_r Ex := fun _ _ _ _ _ _ _ _ _ h0 h1 p0 T hT => cl_ifnonnull_r hT _ _ _ _ _ _ _ _ _ h0 h1 (p0 T hT)
theorem ex_ifnonnull_n : Ru_ifnonnull_n Ex := fun _ _ _ _ _ _ _ h0 p0 T hT => cl_ifnonnull_n hT _ _ _ _ _ _ _ h0 (p0 T hT)
theorem ex_tswOut : Ru_tswOut Ex := fun _ _ _ _ _ _ _ _ _ _ _ _ _ h0 h1 h2 p0 T hT => cl_tswOut hT _ _ _ _ _ _ _ _ _ _ _ _ _ h0 h1 h2 (p0 T hT)
theorem ex_tswIn : Ru_tswIn Ex := fun _ _ _ _ _ _ _ _ _ _ _ _ _ _ h0 h1 h2 h3 h4 p0 T hT => cl_tswIn hT _ _ _ _ _ _ _ _ _ _ _ _ _ _ h0 h1 h2 h3 h4 (p0 T hT)
theorem ex_get : Ru_get Ex := fun _ _ _ _ _ _ _ _ _ _ _ _ _ _ h0 h1 h2 h3 p0 T hT => cl_get hT _ _ _ _ _ _ _ _ _ _ _ _ _ _ h0 h1 h2 h3 (p0 T hT)
theorem ex_put : Ru_put Ex := fun _ _ _ _ _ _ _ _ _ _ _ _ _ h0 h1 h2 h3 h4 h5 p0 T hT => cl_put hT _ _ _ _ _ _ _ _ _ _ _ _ _ h0 h1 h2 h3 h4 h5 (p0 T hT)
theorem ex_putF : Ru_putF Ex := fun _ _ _ _ _ _ _ _ _ _ _ _ _ h0 h1 h2 h3 h4 h5 h6 h7 p0 T hT => cl_putF hT _ _ _ _ _ _ _ _ _ _ _ _ _ h0 h1 h2 h3 h4 h5 h6 h7 (p0 T hT)
theorem ex_iald : Ru_iald Ex := fun _ _ _ _ _ _ _ _ _ _ h0 h1 h2 p0 T hT => cl_iald hT _ _ _ _ _ _ _ _ _ _ h0 h1 h2 (p0 T hT)
theorem ex_zald : Ru_zald Ex := fun _ _ _ _ _ _ _ _ _ _ h0 h1 h2 p0 T hT => cl_zald hT _ _ _ _ _ _ _ _ _ _ h0 h1 h2 (p0 T hT)
theorem ex_lald : Ru_lald Ex := fun _ _ _ _ _ _ _ _ _ _ h0 h1 h2 p0 T hT => cl_lald hT _ _ _ _ _ _ _ _ _ _ h0 h1 h2 (p0 T hT)
theorem ex_aald : Ru_aald Ex := fun _ _ _ _ _ _ _ _ _ _ h0 h1 h2 p0 T hT => cl_aald hT _ _ _ _ _ _ _ _ _ _ h0 h1 h2 (p0 T hT)
theorem ex_iast : Ru_iast Ex := fun _ _ _ _ _ _ _ _ _ _ _ h0 h1 h2 p0 T hT => cl_iast hT _ _ _ _ _ _ _ _ _ _ _ h0 h1 h2 (p0 T hT)
theorem ex_zast : Ru_zast Ex := fun _ _ _ _ _ _ _ _ _ _ _ h0 h1 h2 h3 p0 T hT => cl_zast hT _ _ _ _ _ _ _ _ _ _ _ h0 h1 h2 h3 (p0 T hT)
theorem ex_last : Ru_last Ex := fun _ _ _ _ _ _ _ _ _ _ _ h0 h1 h2 p0 T hT => cl_last hT _ _ _ _ _ _ _ _ _ _ _ h0 h1 h2 (p0 T hT)
theorem ex_aast : Ru_aast Ex := fun _ _ _ _ _ _ _ _ _ _ _ _ h0 h1 h2 h3 p0 T hT => cl_aast hT _ _ _ _ _ _ _ _ _ _ _ _ h0 h1 h2 h3 (p0 T hT)
theorem ex_alen : Ru_alen Ex := fun _ _ _ _ _ _ _ _ _ _ h0 h1 h2 h3 p0 T hT => cl_alen hT _ _ _ _ _ _ _ _ _ _ h0 h1 h2 h3 (p0 T hT)
theorem ex_sld : Ru_sld Ex := fun _ _ _ _ _ _ _ _ _ _ h0 h1 h2 p0 T hT => cl_sld hT _ _ _ _ _ _ _ _ _ _ h0 h1 h2 (p0 T hT)
theorem ex_slen : Ru_slen Ex := fun _ _ _ _ _ _ _ _ _ h0 h1 p0 T hT => cl_slen hT _ _ _ _ _ _ _ _ _ h0 h1 (p0 T hT)
theorem ex_new : Ru_new Ex := fun _ _ _ _ _ _ _ _ _ h0 h1 p0 T hT => cl_new hT _ _ _ _ _ _ _ _ _ h0 h1 (p0 T hT)
theorem ex_newi : Ru_newi Ex := fun _ _ _ _ _ _ _ _ h0 h1 h2 h3 p0 T hT => cl_newi hT _ _ _ _ _ _ _ _ h0 h1 h2 h3 (p0 T hT)
theorem ex_newl : Ru_newl Ex := fun _ _ _ _ _ _ _ _ h0 h1 h2 h3 p0 T hT => cl_newl hT _ _ _ _ _ _ _ _ h0 h1 h2 h3 (p0 T hT)
theorem ex_newz : Ru_newz Ex := fun _ _ _ _ _ _ _ _ h0 h1 h2 h3 p0 T hT => cl_newz hT _ _ _ _ _ _ _ _ h0 h1 h2 h3 (p0 T hT)
theorem ex_anew : Ru_anew Ex := fun _ _ _ _ _ _ _ _ _ h0 h1 h2 h3 h4 p0 T hT => cl_anew hT _ _ _ _ _ _ _ _ _ h0 h1 h2 h3 h4 (p0 T hT)
theorem ex_copyi : Ru_copyi Ex := fun _ _ _ _ _ _ _ _ _ _ _ _ _ _ _ _ h0 h1 h2 h3 h4 h5 h6 h7 h8 h9 h10 p0 T hT => cl_copyi hT _ _ _ _ _ _ _ _ _ _ _ _ _ _ _ _ h0 h1 h2 h3 h4 h5 h6 h7 h8 h9 h10 (p0 T hT)
theorem ex_copyl : Ru_copyl Ex := fun _ _ _ _ _ _ _ _ _ _ _ _ _ _ _ _ h0 h1 h2 h3 h4 h5 h6 h7 h8 h9 h10 p0 T hT => cl_copyl hT _ _ _ _ _ _ _ _ _ _ _ _ _ _ _ _ h0 h1 h2 h3 h4 h5 h6 h7 h8 h9 h10 (p0 T hT)
theorem ex_mmax : Ru_mmax Ex := fun _ _ _ _ _ _ _ _ _ h0 h1 h2 h3 p0 T hT => cl_mmax hT _ _ _ _ _ _ _ _ _ h0 h1 h2 h3 (p0 T hT)
theorem ex_mmin : Ru_mmin Ex := fun _ _ _ _ _ _ _ _ _ h0 h1 h2 h3 p0 T hT => cl_mmin hT _ _ _ _ _ _ _ _ _ h0 h1 h2 h3 (p0 T hT)
theorem ex_objI : Ru_objI Ex := fun _ _ _ _ _ _ _ _ h0 h1 h2 h3 p0 T hT => cl_objI hT _ _ _ _ _ _ _ _ h0 h1 h2 h3 (p0 T hT)
theorem ex_callV : Ru_callV Ex := fun _ _ _ _ _ _ _ _ _ _ _ _ _ _ h0 h1 h2 h3 h4 h5 h6 h7 h8 p0 p1 T hT => cl_callV hT _ _ _ _ _ _ _ _ _ _ _ _ _ _ h0 h1 h2 h3 h4 h5 h6 h7 h8 (p0 T hT) (p1 T hT)
theorem ex_callS : Ru_callS Ex := fun _ _ _ _ _ _ _ _ _ _ _ h0 h1 h2 h3 h4 h5 h6 p0 p1 T hT => cl_callS hT _ _ _ _ _ _ _ _ _ _ _ h0 h1 h2 h3 h4 h5 h6 (p0 T hT) (p1 T hT)
theorem ex_callN : Ru_callN Ex := fun _ _ _ _ _ _ _ _ _ _ _ h0 h1 h2 h3 h4 h5 h6 p0 p1 T hT => cl_callN hT _ _ _ _ _ _ _ _ _ _ _ h0 h1 h2 h3 h4 h5 h6 (p0 T hT) (p1 T hT)
theorem ex_callI : Ru_callI Ex := fun _ _ _ _ _ _ _ _ _ _ _ _ h0 h1 h2 h3 h4 h5 h6 p0 p1 T hT => cl_callI hT _ _ _ _ _ _ _ _ _ _ _ _ h0 h1 h2 h3 h4 h5 h6 (p0 T hT) (p1 T hT)
theorem ex_iret : Ru_iret Ex := fun _ _ _ _ _ _ h0 h1 h2 T hT => cl_iret hT _ _ _ _ _ _ h0 h1 h2 
theorem ex_lret : Ru_lret Ex := fun _ _ _ _ _ h0 h1 T hT => cl_lret hT _ _ _ _ _ h0 h1 
theorem ex_aret : Ru_aret Ex := fun _ _ _ _ _ _ h0 h1 h2 h3 T hT => cl_aret hT _ _ _ _ _ _ h0 h1 h2 h3 
theorem ex_vret : Ru_vret Ex := fun _ _ _ _ h0 h1 T hT => cl_vret hT _ _ _ _ h0 h1 
end
section
abbrev tysOf (cA : Nat → ClassId) : List (ClassId × FieldType) := [(cA 0, .int), (cA 1, .long), (cA 2, .boolean), (cA 3, .object RX1)]
def hr_at (D : va_G) (cA : Nat → ClassId) (U : State) (H : Heap) (a : Nat) (e : PE) : Prop := match e with
  | .inl (t, x) => (t < 4 ∧ va_at D vwCl (a, .inl (cA t, x)) H) ∨ (t = 9 ∧ ∃ xs, x.2 = .inl xs ∧ va_X a x.1 xs U H)
  | .inr o => va_at D vwCl (a, .inr o) H
/-- the machine's heap holds the pure one: its size, every cell; what may be written lies from base on -/
def HR (D : va_G) (cA : Nat → ClassId) (base : Nat) (U : State) (G : PH) (H : Heap) : Prop := H.size = G.1 ∧ base ≤ H.size ∧ ∀ (a : Nat) (e : PE), G.2.2 a = some e → hr_at D cA U H a e ∧ ((∃ x, e = .inl (9, x)) ∨ base ≤ a)
theorem va_X_kept {b L : Nat} {xs : Nat → Int32} {U : State} {H H1 : Heap} (h : va_X b L xs U H) (hq : H1[b]? = H[b]?) : va_X b L xs U H1 := by
  obtain ⟨scr, h1, h2⟩ := h
  exact ⟨scr, hq.trans h1, h2⟩
theorem va_X_moved {b L : Nat} {xs : Nat → Int32} {u U : State} {H : Heap} (hvm : u.vm.Alike U.vm) (h : va_X b L xs u H) : va_X b L xs U H := by
  obtain ⟨scr, h1, h2, h3⟩ := h
  exact ⟨scr, h1, State.isArrayOf_alike hvm h2, h3⟩
theorem hr_at.kept {D : va_G} {cA : Nat → ClassId} {U : State} {H H1 : Heap} {a : Nat} {e : PE} (h : hr_at D cA U H a e) (hq : H1[a]? = H[a]?) : hr_at D cA U H1 a e := by
  match e, h with
  | .inl (t, x), h =>
    rcases h with ⟨h1, h2⟩ | ⟨h1, xs, h2, h3⟩
    · exact Or.inl ⟨h1, h2.kept hq⟩
    · exact Or.inr ⟨h1, xs, h2, va_X_kept h3 hq⟩
  | .inr o, h => exact va_at.kept (q := (a, .inr o)) h hq
theorem hr_at.moved {D : va_G} {cA : Nat → ClassId} {u U : State} {H : Heap} {a : Nat} {e : PE} (hvm : u.vm.Alike U.vm) (h : hr_at D cA u H a e) : hr_at D cA U H a e := by
  match e, h with
  | .inl (t, x), h =>
    rcases h with h | ⟨h1, xs, h2, h3⟩
    · exact Or.inl h
    · exact Or.inr ⟨h1, xs, h2, va_X_moved hvm h3⟩
  | .inr o, h => exact h
theorem hr_at.lt {D : va_G} {cA : Nat → ClassId} {U : State} {H : Heap} {a : Nat} {e : PE} (h : hr_at D cA U H a e) : a < H.size := by
  match e, h with
  | .inl (t, x), h =>
    rcases h with ⟨h1, h2⟩ | ⟨h1, xs, h2, scr, h3, h4⟩
    · exact va_at.lt h2
    · exact (Array.getElem?_eq_some_iff.mp h3).1
  | .inr o, h => exact va_at.lt (q := (a, .inr o)) h
theorem HR.moved {D : va_G} {cA : Nat → ClassId} {base : Nat} {u U : State} {G : PH} {H : Heap} (hvm : u.vm.Alike U.vm) (h : HR D cA base u G H) : HR D cA base U G H := ⟨h.1, h.2.1, fun a e he => ⟨(h.2.2 a e he).1.moved hvm, (h.2.2 a e he).2⟩⟩
theorem HR.up {D : va_G} {cA : Nat → ClassId} {base : Nat} {U : State} {G : PH} {H H1 : Heap} {a : Nat} {e : PE} (h : HR D cA base U G H) (hz : H1.size = H.size) (oq : ∀ q, q ≠ a → H1[q]? = H[q]?) (ha : base ≤ a) (he : hr_at D cA U H1 a e) : HR D cA base U (phUp G a e) H1 := by
  refine ⟨hz.trans h.1, by rw [hz]; exact h.2.1, fun b e' hb => ?_⟩
  by_cases hba : b = a
  · subst hba
    have : e' = e := by simpa [phUp] using hb.symm
    subst this
    exact ⟨he, Or.inr ha⟩
  · have hb' : G.2.2 b = some e' := by simpa [phUp, hba] using hb
    obtain ⟨h1, h2⟩ := h.2.2 b e' hb'
    exact ⟨h1.kept (oq b hba), h2⟩
theorem HR.new {D : va_G} {cA : Nat → ClassId} {base : Nat} {U : State} {G : PH} {H H1 : Heap} {n : Nat} {e : PE} (h : HR D cA base U G H) (hz : H1.size = H.size + 1) (oq : ∀ q, q < H.size → H1[q]? = H[q]?) (he : hr_at D cA U H1 H.size e) : HR D cA base U (phNew G n e) H1 := by
  refine ⟨by rw [hz, h.1]; rfl, by rw [hz]; have := h.2.1; omega, fun b e' hb => ?_⟩
  by_cases hba : b = G.1
  · subst hba
    have : e' = e := by simpa [phNew] using hb.symm
    subst this
    rw [h.1] at he
    exact ⟨he, Or.inr (by rw [← h.1]; exact h.2.1)⟩
  · have hb' : G.2.2 b = some e' := by simpa [phNew, hba] using hb
    obtain ⟨h1, h2⟩ := h.2.2 b e' hb'
    exact ⟨h1.kept (oq b h1.lt), h2⟩
theorem vP1 {D : va_G} {cl : List vw_C} {a : Nat} {e : va_E} {H : Heap} (h : va_at D cl (a, e) H) : va_P D cl [(a, e)] H := by
  intro k q hk
  match k, hk with
  | 0, hk => cases hk; exact h
  | k + 1, hk => simp at hk
theorem lw_g_of {w : Cond} (h : w ∈ lw_tbl) (hg : goodWord w = true) : w ∈ lw_g := List.mem_filter.mpr ⟨h, hg⟩
theorem lw_gIn {ws : List Cond} (h : ∀ w ∈ ws, w ∈ lw_tbl ∧ goodWord w = true) : GoodIn lw_g ws := fun w hw => ⟨lw_g_of (h w hw).1 (h w hw).2, good_of_word (h w hw).2⟩
theorem u_ws_good {C : String} {T : u_T} {n : Nat} : ∀ w ∈ u_ws C T n, goodWord w = true := by
  intro w hw
  unfold u_ws at hw
  obtain ⟨k, -, rfl⟩ := List.mem_map.mp hw
  unfold u_lay
  split <;> rfl
theorem CF.hin {ci : Nat} {C : String} {T : u_T} {n : Nat} {ty : Nat → FieldType} (h : CF ci C T n ty) : ∀ w ∈ u_ws C T n, w ∈ lw_g := fun w hw => lw_g_of (h.2.1 w hw) (u_ws_good w hw)
def wd (N : MI) : List Cond := Cond.code (mY N) (mC N) (mL N) (mR N) :: lw_g
def rmN (N : MI) (mc ms : Nat) : Room := { frames := mFr N, cells := mc, slots := ms, locals := mLc N }
theorem wd_good {N : MI} (h : okM N) : ∀ w ∈ wd N, w ∈ lw_tbl ∧ goodWord w = true := by
  intro w hw
  rcases List.mem_cons.mp hw with rfl | hw
  · exact ⟨h.1, rfl⟩
  · exact List.mem_filter.mp hw
def retOk (M : MI) (pc : Nat) (v : Option Value) : Prop :=
  (∃ (x : Int32) (ty : FieldType), v = some (.int x) ∧ decode (mC M) pc = .ok (.ireturn, 1) ∧ mR M = some ty ∧ narrow ty (.int x) = .int x) ∨
  (∃ x : Int64, v = some (.long x) ∧ decode (mC M) pc = .ok (.lreturn, 1) ∧ mR M = some .long) ∨
  (∃ (x : Value) (rt : FieldType), v = some x ∧ decode (mC M) pc = .ok (.areturn, 1) ∧ mR M = some rt ∧ ((∃ n, rt = .object n) ∨ ∃ t, rt = .array t) ∧ isRf x) ∨
  (v = none ∧ decode (mC M) pc = .ok (.return_, 1) ∧ mR M = none)
def CxS (l : Launch) (D : va_G) (cA : Nat → ClassId) (base : Nat) (p : Program) (e : Env) (R : Room) (s : State) (m : MethodId) (args : Array Value) (below : List Frame) (meth : Method) (cd : Code) (M : MI) (r : Rs) (mc ms : Nat) (Q : State → Prop) : Prop :=
  p.tables.exec = Jvm.exec ∧ cd.code = mC M ∧ cd.maxLocals = mL M ∧ s.vm.findClass (mY M).cls = some m.cls ∧ ((mY M).name = "<init>" → meth.name = "<init>") ∧ (∀ w ∈ lw_g, w.before args s = true) ∧ (∀ w ∈ lw_n, va_Nw w s) ∧ va_AO RX1 s ∧ va_K D vwCl (tysOf cA) s ∧ base ≤ s.heap.size ∧ (mc ≤ R.cells ∧ ms ≤ R.slots) ∧ (mFr M ≤ R.frames ∧ mLc M ≤ R.locals) ∧
  ∀ (pc' : Nat) (ls' : Array Slot) (H' : Heap) (locs' : List Loc), HR D cA base s r.2 H' → va_S (fun q => base ≤ q) s.heap H' locs' → retOk M pc' r.1 → W p l e R s m args below meth cd H' locs' mc ms Q (F0 m pc' ls' r.1.toList)
def CxD (D : va_G) (cA : Nat → ClassId) (base : Nat) (s : State) (M : MI) (L : PLoc) (G : PH) (r : Rs) (mc ms : Nat) (H : Heap) (locs : List Loc) (cells slots : Nat) (ls : Array Slot) : Prop :=
  pl ls (mL M) L ∧ HR D cA base s G H ∧ va_S (fun q => base ≤ q) s.heap H locs ∧ cells + (r.2.1 - G.1) ≤ mc ∧ slots + (r.2.2.1 - G.2.1) ≤ ms
def Sn (l : Launch) (D : va_G) (cA : Nat → ClassId) (base : Nat) : TT := fun M pc L st G r => G.1 ≤ r.2.1 ∧ G.2.1 ≤ r.2.2.1 ∧
  ∀ (p : Program) (e : Env) (R : Room) (s : State) (m : MethodId) (args : Array Value) (below : List Frame) (meth : Method) (cd : Code) (mc ms : Nat) (Q : State → Prop), CxS l D cA base p e R s m args below meth cd M r mc ms Q →
  ∀ (H : Heap) (locs : List Loc) (cells slots : Nat) (ls : Array Slot), CxD D cA base s M L G r mc ms H locs cells slots ls → W p l e R s m args below meth cd H locs cells slots Q (F0 m pc ls st)
section SND
variable {l : Launch} {D : va_G} {cA : Nat → ClassId} {base : Nat} {M : MI} {pc pc' : Nat} {L L' : PLoc} {st st' : List Value} {G G1 : PH} {r : Rs}
/-- one step that changes neither heap nor locals -/
theorem Sn.stA (h : Sn l D cA base M pc' L st' G r)
    (row : ∀ (p : Program) (e : Env) (R : Room) (s : State) (m : MethodId) (args : Array Value) (below : List Frame) (meth : Method) (cd : Code) (mc ms : Nat) (Q : State → Prop) (H : Heap) (locs : List Loc) (cells slots : Nat) (ls : Array Slot), CxS l D cA base p e R s m args below meth cd M r mc ms Q → CxD D cA base s M L G r mc ms H locs cells slots ls → W p l e R s m args below meth cd H locs cells slots Q (F0 m pc' ls st') → W p l e R s m args below meth cd H locs cells slots Q (F0 m pc ls st)) : Sn l D cA base M pc L st G r :=
  ⟨h.1, h.2.1, fun p e R s m args below meth cd mc ms Q S H locs cells slots ls Dn => row p e R s m args below meth cd mc ms Q H locs cells slots ls S Dn (h.2.2 p e R s m args below meth cd mc ms Q S H locs cells slots ls Dn)⟩
/-- one step that changes the locals -/
theorem Sn.stL (h : Sn l D cA base M pc' L' st' G r)
    (row : ∀ (p : Program) (e : Env) (R : Room) (s : State) (m : MethodId) (args : Array Value) (below : List Frame) (meth : Method) (cd : Code) (mc ms : Nat) (Q : State → Prop) (H : Heap) (locs : List Loc) (cells slots : Nat) (ls : Array Slot), CxS l D cA base p e R s m args below meth cd M r mc ms Q → CxD D cA base s M L G r mc ms H locs cells slots ls → (∀ ls' : Array Slot, pl ls' (mL M) L' → W p l e R s m args below meth cd H locs cells slots Q (F0 m pc' ls' st')) → W p l e R s m args below meth cd H locs cells slots Q (F0 m pc ls st)) : Sn l D cA base M pc L st G r :=
  ⟨h.1, h.2.1, fun p e R s m args below meth cd mc ms Q S H locs cells slots ls Dn => row p e R s m args below meth cd mc ms Q H locs cells slots ls S Dn (fun ls' hl => h.2.2 p e R s m args below meth cd mc ms Q S H locs cells slots ls' ⟨hl, Dn.2⟩)⟩
/-- one step that writes a cell -/
theorem Sn.stU {a : Nat} {x : PE} (h : Sn l D cA base M pc' L st' (phUp G a x) r)
    (row : ∀ (p : Program) (e : Env) (R : Room) (s : State) (m : MethodId) (args : Array Value) (below : List Frame) (meth : Method) (cd : Code) (mc ms : Nat) (Q : State → Prop) (H : Heap) (locs : List Loc) (cells slots : Nat) (ls : Array Slot), CxS l D cA base p e R s m args below meth cd M r mc ms Q → CxD D cA base s M L G r mc ms H locs cells slots ls → (∀ (H1 : Heap) (locs1 : List Loc), HR D cA base s (phUp G a x) H1 → va_S (fun q => base ≤ q) s.heap H1 locs1 → W p l e R s m args below meth cd H1 locs1 cells slots Q (F0 m pc' ls st')) → W p l e R s m args below meth cd H locs cells slots Q (F0 m pc ls st)) : Sn l D cA base M pc L st G r :=
  ⟨h.1, h.2.1, fun p e R s m args below meth cd mc ms Q S H locs cells slots ls Dn => row p e R s m args below meth cd mc ms Q H locs cells slots ls S Dn (fun H1 locs1 h1 h2 => h.2.2 p e R s m args below meth cd mc ms Q S H1 locs1 cells slots ls ⟨Dn.1, h1, h2, Dn.2.2.2⟩)⟩
/-- one step that makes a cell -/
theorem Sn.stN {n : Nat} {x : PE} (h : Sn l D cA base M pc' L st' (phNew G n x) r)
    (row : ∀ (p : Program) (e : Env) (R : Room) (s : State) (m : MethodId) (args : Array Value) (below : List Frame) (meth : Method) (cd : Code) (mc ms : Nat) (Q : State → Prop) (H : Heap) (locs : List Loc) (cells slots : Nat) (ls : Array Slot), CxS l D cA base p e R s m args below meth cd M r mc ms Q → CxD D cA base s M L G r mc ms H locs cells slots ls → cells + 1 ≤ R.cells → slots + n ≤ R.slots → (∀ H1 : Heap, HR D cA base s (phNew G n x) H1 → va_S (fun q => base ≤ q) s.heap H1 locs → W p l e R s m args below meth cd H1 locs (cells + 1) (slots + n) Q (F0 m pc' ls st')) → W p l e R s m args below meth cd H locs cells slots Q (F0 m pc ls st)) : Sn l D cA base M pc L st G r := by
  have h1 : G.1 + 1 ≤ r.2.1 := h.1
  have h2 : G.2.1 + n ≤ r.2.2.1 := h.2.1
  refine ⟨by omega, by omega, fun p e R s m args below meth cd mc ms Q S H locs cells slots ls Dn => ?_⟩
  obtain ⟨d1, d2, d3, d4, d5⟩ := id Dn
  obtain ⟨g1, g2⟩ := S.2.2.2.2.2.2.2.2.2.2.1
  refine row p e R s m args below meth cd mc ms Q H locs cells slots ls S Dn (by omega) (by omega) (fun H1 k1 k2 => h.2.2 p e R s m args below meth cd mc ms Q S H1 locs (cells + 1) (slots + n) ls ⟨d1, k1, k2, ?_, ?_⟩)
  · show cells + 1 + (r.2.1 - (G.1 + 1)) ≤ mc
    omega
  · show slots + n + (r.2.2.1 - (G.2.1 + n)) ≤ ms
    omega
theorem CxS.tb {p : Program} {e : Env} {R : Room} {s : State} {m : MethodId} {args : Array Value} {below : List Frame} {meth : Method} {cd : Code} {mc ms : Nat} {Q : State → Prop} (S : CxS l D cA base p e R s m args below meth cd M r mc ms Q) {w : Cond} (h : w ∈ lw_tbl) (hg : goodWord w = true) : w.before args s = true := S.2.2.2.2.2.1 w (lw_g_of h hg)
end SND
end
section
section SNR
variable {l : Launch} {D : va_G} {cA : Nat → ClassId} {base : Nat}
theorem sn_iconst : Ru_iconst (Sn l D cA base) := fun M pc L st G r n v hd hv h => h.stA (fun _ _ _ _ _ _ _ _ _ _ _ _ _ _ _ _ _ S Dn kk => lv_iconst S.1 S.2.1 hd hv kk)
theorem sn_bipush : Ru_bipush (Sn l D cA base) := fun M pc L st G r n v hd hv h => h.stA (fun _ _ _ _ _ _ _ _ _ _ _ _ _ _ _ _ _ S Dn kk => lv_bipush S.1 S.2.1 hd hv kk)
theorem sn_sipush : Ru_sipush (Sn l D cA base) := fun M pc L st G r n v hd hv h => h.stA (fun _ _ _ _ _ _ _ _ _ _ _ _ _ _ _ _ _ S Dn kk => lv_sipush S.1 S.2.1 hd hv kk)
theorem sn_lconst : Ru_lconst (Sn l D cA base) := fun M pc L st G r n v hd hv h => h.stA (fun _ _ _ _ _ _ _ _ _ _ _ _ _ _ _ _ _ S Dn kk => lv_lconst S.1 S.2.1 hd hv kk)
theorem sn_null : Ru_null (Sn l D cA base) := fun M pc L st G r hd h => h.stA (fun _ _ _ _ _ _ _ _ _ _ _ _ _ _ _ _ _ S Dn kk => lv_null S.1 S.2.1 hd kk)
theorem sn_ldc : Ru_ldc (Sn l D cA base) := fun M pc L st G r i v hd hv h => h.stA (fun _ _ _ _ _ _ _ _ _ _ _ _ _ _ _ _ _ S Dn kk => lv_ldc S.1 S.2.1 S.2.2.2.1 (S.tb hv rfl) hd kk)
theorem sn_ldc2 : Ru_ldc2 (Sn l D cA base) := fun M pc L st G r i v hd hv h => h.stA (fun _ _ _ _ _ _ _ _ _ _ _ _ _ _ _ _ _ S Dn kk => lv_ldc2 S.1 S.2.1 S.2.2.2.1 (S.tb hv rfl) hd kk)
theorem sn_iload_n : Ru_iload_n (Sn l D cA base) := fun M pc L st G r k x hd hv h => h.stA (fun _ _ _ _ _ _ _ _ _ _ _ _ _ _ _ _ _ S Dn kk => lv_iload_n S.1 S.2.1 hd rfl (Dn.1.2.2 _ _ hv) kk)
theorem sn_iload : Ru_iload (Sn l D cA base) := fun M pc L st G r i x hd hv h => h.stA (fun _ _ _ _ _ _ _ _ _ _ _ _ _ _ _ _ _ S Dn kk => lv_iload S.1 S.2.1 hd (Dn.1.2.2 _ _ hv) kk)
theorem sn_lload_n : Ru_lload_n (Sn l D cA base) := fun M pc L st G r k x hd hv h => h.stA (fun _ _ _ _ _ _ _ _ _ _ _ _ _ _ _ _ _ S Dn kk => lv_lload_n S.1 S.2.1 hd rfl (Dn.1.2.2 _ _ hv) kk)
theorem sn_lload : Ru_lload (Sn l D cA base) := fun M pc L st G r i x hd hv h => h.stA (fun _ _ _ _ _ _ _ _ _ _ _ _ _ _ _ _ _ S Dn kk => lv_lload S.1 S.2.1 hd (Dn.1.2.2 _ _ hv) kk)
theorem sn_aload_n : Ru_aload_n (Sn l D cA base) := by
  intro M pc L st G r i x hd hv hr h
  rcases hr with rfl | ⟨a, rfl⟩
  · exact h.stA (fun _ _ _ _ _ _ _ _ _ _ _ _ _ _ _ _ _ S Dn kk => lv_aload_nN S.1 S.2.1 hd rfl (Dn.1.2.2 _ _ hv) kk)
  · exact h.stA (fun _ _ _ _ _ _ _ _ _ _ _ _ _ _ _ _ _ S Dn kk => lv_aload_n S.1 S.2.1 hd rfl (Dn.1.2.2 _ _ hv) kk)
theorem sn_aload : Ru_aload (Sn l D cA base) := by
  intro M pc L st G r i x hd hv hr h
  rcases hr with rfl | ⟨a, rfl⟩
  · exact h.stA (fun _ _ _ _ _ _ _ _ _ _ _ _ _ _ _ _ _ S Dn kk => lv_aloadN S.1 S.2.1 hd (Dn.1.2.2 _ _ hv) kk)
  · exact h.stA (fun _ _ _ _ _ _ _ _ _ _ _ _ _ _ _ _ _ S Dn kk => lv_aload S.1 S.2.1 hd (Dn.1.2.2 _ _ hv) kk)
theorem sn_istore_n : Ru_istore_n (Sn l D cA base) := fun M pc L st G r k x L' hd hlt hL h => h.stL (fun _ _ _ _ _ _ _ _ _ _ _ _ _ _ _ _ _ S Dn kk => lv_istore_n S.1 S.2.1 hd rfl Dn.1.has hlt rfl (fun ls' hl => kk ls' (pl.of1 hl hL)))
theorem sn_istore : Ru_istore (Sn l D cA base) := fun M pc L st G r k x L' hd hlt hL h => h.stL (fun _ _ _ _ _ _ _ _ _ _ _ _ _ _ _ _ _ S Dn kk => lv_istore S.1 S.2.1 hd Dn.1.has hlt rfl (fun ls' hl => kk ls' (pl.of1 hl hL)))
theorem sn_lstore_n : Ru_lstore_n (Sn l D cA base) := fun M pc L st G r k x L' hd hlt hL h => h.stL (fun _ _ _ _ _ _ _ _ _ _ _ _ _ _ _ _ _ S Dn kk => lv_lstore_n S.1 S.2.1 hd rfl Dn.1.has hlt rfl (fun ls' hl => kk ls' (pl.of2 hl hL)))
theorem sn_lstore : Ru_lstore (Sn l D cA base) := fun M pc L st G r k x L' hd hlt hL h => h.stL (fun _ _ _ _ _ _ _ _ _ _ _ _ _ _ _ _ _ S Dn kk => lv_lstore S.1 S.2.1 hd Dn.1.has hlt rfl (fun ls' hl => kk ls' (pl.of2 hl hL)))
theorem sn_astore_n : Ru_astore_n (Sn l D cA base) := by
  intro M pc L st G r i x L' hd hr hlt hL h
  rcases hr with rfl | ⟨a, rfl⟩
  · exact h.stL (fun _ _ _ _ _ _ _ _ _ _ _ _ _ _ _ _ _ S Dn kk => lv_astore_nN S.1 S.2.1 hd rfl Dn.1.has hlt rfl (fun ls' hl => kk ls' (pl.of1 hl hL)))
  · exact h.stL (fun _ _ _ _ _ _ _ _ _ _ _ _ _ _ _ _ _ S Dn kk => lv_astore_n S.1 S.2.1 hd rfl Dn.1.has hlt rfl (fun ls' hl => kk ls' (pl.of1 hl hL)))
theorem sn_astore : Ru_astore (Sn l D cA base) := by
  intro M pc L st G r i x L' hd hr hlt hL h
  rcases hr with rfl | ⟨a, rfl⟩
  · exact h.stL (fun _ _ _ _ _ _ _ _ _ _ _ _ _ _ _ _ _ S Dn kk => lv_astoreN S.1 S.2.1 hd Dn.1.has hlt rfl (fun ls' hl => kk ls' (pl.of1 hl hL)))
  · exact h.stL (fun _ _ _ _ _ _ _ _ _ _ _ _ _ _ _ _ _ S Dn kk => lv_astore S.1 S.2.1 hd Dn.1.has hlt rfl (fun ls' hl => kk ls' (pl.of1 hl hL)))
theorem sn_iinc : Ru_iinc (Sn l D cA base) := by
  intro M pc L st G r i n x v L' hd hx hv hL h
  obtain ⟨q, hq⟩ := List.getElem?_of_mem (lst_mem.mpr hx)
  exact h.stL (fun _ _ _ _ _ _ _ _ _ _ _ _ _ _ _ _ _ S Dn kk => lv_iinc S.1 S.2.1 hd Dn.1.has hq hv (Dn.1.lt hx) rfl (fun ls' hl => kk ls' (pl.of1 hl hL)))
theorem sn_iadd : Ru_iadd (Sn l D cA base) := fun M pc L st G r x y hd h => h.stA (fun _ _ _ _ _ _ _ _ _ _ _ _ _ _ _ _ _ S Dn kk => lv_iadd S.1 S.2.1 hd kk)
theorem sn_isub : Ru_isub (Sn l D cA base) := fun M pc L st G r x y hd h => h.stA (fun _ _ _ _ _ _ _ _ _ _ _ _ _ _ _ _ _ S Dn kk => lv_isub S.1 S.2.1 hd kk)
theorem sn_imul : Ru_imul (Sn l D cA base) := fun M pc L st G r x y hd h => h.stA (fun _ _ _ _ _ _ _ _ _ _ _ _ _ _ _ _ _ S Dn kk => lv_imul S.1 S.2.1 hd kk)
theorem sn_iand : Ru_iand (Sn l D cA base) := fun M pc L st G r x y hd h => h.stA (fun _ _ _ _ _ _ _ _ _ _ _ _ _ _ _ _ _ S Dn kk => lv_iand S.1 S.2.1 hd kk)
theorem sn_ladd : Ru_ladd (Sn l D cA base) := fun M pc L st G r x y hd h => h.stA (fun _ _ _ _ _ _ _ _ _ _ _ _ _ _ _ _ _ S Dn kk => lv_ladd S.1 S.2.1 hd kk)
theorem sn_lmul : Ru_lmul (Sn l D cA base) := fun M pc L st G r x y hd h => h.stA (fun _ _ _ _ _ _ _ _ _ _ _ _ _ _ _ _ _ S Dn kk => lv_lmul S.1 S.2.1 hd kk)
theorem sn_land : Ru_land (Sn l D cA base) := fun M pc L st G r x y hd h => h.stA (fun _ _ _ _ _ _ _ _ _ _ _ _ _ _ _ _ _ S Dn kk => lv_land S.1 S.2.1 hd kk)
theorem sn_lor : Ru_lor (Sn l D cA base) := fun M pc L st G r x y hd h => h.stA (fun _ _ _ _ _ _ _ _ _ _ _ _ _ _ _ _ _ S Dn kk => lv_lor S.1 S.2.1 hd kk)
theorem sn_lxor : Ru_lxor (Sn l D cA base) := fun M pc L st G r x y hd h => h.stA (fun _ _ _ _ _ _ _ _ _ _ _ _ _ _ _ _ _ S Dn kk => lv_lxor S.1 S.2.1 hd kk)
theorem sn_ineg : Ru_ineg (Sn l D cA base) := fun M pc L st G r x hd h => h.stA (fun _ _ _ _ _ _ _ _ _ _ _ _ _ _ _ _ _ S Dn kk => lv_ineg S.1 S.2.1 hd kk)
theorem sn_lrem : Ru_lrem (Sn l D cA base) := fun M pc L st G r x y hd hn h => h.stA (fun _ _ _ _ _ _ _ _ _ _ _ _ _ _ _ _ _ S Dn kk => lv_lrem S.1 S.2.1 hd hn kk)
theorem sn_i2l : Ru_i2l (Sn l D cA base) := fun M pc L st G r x hd h => h.stA (fun _ _ _ _ _ _ _ _ _ _ _ _ _ _ _ _ _ S Dn kk => lv_i2l S.1 S.2.1 hd rfl kk)
theorem sn_l2i : Ru_l2i (Sn l D cA base) := fun M pc L st G r x hd h => h.stA (fun _ _ _ _ _ _ _ _ _ _ _ _ _ _ _ _ _ S Dn kk => lv_l2i S.1 S.2.1 hd rfl kk)
theorem sn_lushr : Ru_lushr (Sn l D cA base) := fun M pc L st G r x y hd h => h.stA (fun _ _ _ _ _ _ _ _ _ _ _ _ _ _ _ _ _ S Dn kk => lv_lushr S.1 S.2.1 hd rfl kk)
theorem sn_lshl : Ru_lshl (Sn l D cA base) := fun M pc L st G r x y hd h => h.stA (fun _ _ _ _ _ _ _ _ _ _ _ _ _ _ _ _ _ S Dn kk => lv_lshl S.1 S.2.1 hd rfl kk)
theorem sn_lcmp : Ru_lcmp (Sn l D cA base) := fun M pc L st G r x y hd h => h.stA (fun _ _ _ _ _ _ _ _ _ _ _ _ _ _ _ _ _ S Dn kk => W.lcmp S.1 S.2.1 hd kk)
theorem sn_dup : Ru_dup (Sn l D cA base) := fun M pc L st G r v hd hc h => h.stA (fun _ _ _ _ _ _ _ _ _ _ _ _ _ _ _ _ _ S Dn kk => lv_dup S.1 S.2.1 hd hc kk)
theorem sn_pop : Ru_pop (Sn l D cA base) := fun M pc L st G r v hd hc h => h.stA (fun _ _ _ _ _ _ _ _ _ _ _ _ _ _ _ _ _ S Dn kk => lv_pop S.1 S.2.1 hd hc kk)
theorem sn_dup2 : Ru_dup2 (Sn l D cA base) := fun M pc L st G r v w hd h1 h2 h => h.stA (fun _ _ _ _ _ _ _ _ _ _ _ _ _ _ _ _ _ S Dn kk => lv_dup2_11 S.1 S.2.1 hd h1 h2 kk)
theorem sn_pop2 : Ru_pop2 (Sn l D cA base) := fun M pc L st G r v hd hc h => h.stA (fun _ _ _ _ _ _ _ _ _ _ _ _ _ _ _ _ _ S Dn kk => lv_pop2_2 S.1 S.2.1 hd hc kk)
theorem sn_if_eq : Ru_if_eq (Sn l D cA base) := by
  intro M pc L st G r x off tgt hd ht h1 h2
  have hm : G.1 ≤ r.2.1 ∧ G.2.1 ≤ r.2.2.1 := by
    by_cases c : x = 0
    · exact ⟨(h1 c).1, (h1 c).2.1⟩
    · exact ⟨(h2 c).1, (h2 c).2.1⟩
  exact ⟨hm.1, hm.2, fun p e R s m args below meth cd mc ms Q S H locs cells slots ls Dn => lv_if_eq S.1 S.2.1 hd ht (fun c => (h1 c).2.2 p e R s m args below meth cd mc ms Q S H locs cells slots ls Dn) (fun c => (h2 c).2.2 p e R s m args below meth cd mc ms Q S H locs cells slots ls Dn)⟩
theorem sn_if_ne : Ru_if_ne (Sn l D cA base) := by
  intro M pc L st G r x off tgt hd ht h1 h2
  have hm : G.1 ≤ r.2.1 ∧ G.2.1 ≤ r.2.2.1 := by
    by_cases c : x = 0
    · exact ⟨(h2 c).1, (h2 c).2.1⟩
    · exact ⟨(h1 c).1, (h1 c).2.1⟩
  exact ⟨hm.1, hm.2, fun p e R s m args below meth cd mc ms Q S H locs cells slots ls Dn => lv_if_ne S.1 S.2.1 hd ht (fun c => (h1 c).2.2 p e R s m args below meth cd mc ms Q S H locs cells slots ls Dn) (fun c => (h2 c).2.2 p e R s m args below meth cd mc ms Q S H locs cells slots ls Dn)⟩
theorem sn_if_lt : Ru_if_lt (Sn l D cA base) := by
  intro M pc L st G r x off tgt hd ht h1 h2
  have hm : G.1 ≤ r.2.1 ∧ G.2.1 ≤ r.2.2.1 := by
    by_cases c : x < 0
    · exact ⟨(h1 c).1, (h1 c).2.1⟩
    · exact ⟨(h2 c).1, (h2 c).2.1⟩
  exact ⟨hm.1, hm.2, fun p e R s m args below meth cd mc ms Q S H locs cells slots ls Dn => lv_if_lt S.1 S.2.1 hd ht (fun c => (h1 c).2.2 p e R s m args below meth cd mc ms Q S H locs cells slots ls Dn) (fun c => (h2 c).2.2 p e R s m args below meth cd mc ms Q S H locs cells slots ls Dn)⟩
theorem sn_if_ge : Ru_if_ge (Sn l D cA base) := by
  intro M pc L st G r x off tgt hd ht h1 h2
  have hm : G.1 ≤ r.2.1 ∧ G.2.1 ≤ r.2.2.1 := by
    by_cases c : 0 ≤ x
    · exact ⟨(h1 c).1, (h1 c).2.1⟩
    · exact ⟨(h2 c).1, (h2 c).2.1⟩
  exact ⟨hm.1, hm.2, fun p e R s m args below meth cd mc ms Q S H locs cells slots ls Dn => lv_if_ge S.1 S.2.1 hd ht (fun c => (h1 c).2.2 p e R s m args below meth cd mc ms Q S H locs cells slots ls Dn) (fun c => (h2 c).2.2 p e R s m args below meth cd mc ms Q S H locs cells slots ls Dn)⟩
theorem sn_if_gt : Ru_if_gt (Sn l D cA base) := by
  intro M pc L st G r x off tgt hd ht h1 h2
  have hm : G.1 ≤ r.2.1 ∧ G.2.1 ≤ r.2.2.1 := by
    by_cases c : 0 < x
    · exact ⟨(h1 c).1, (h1 c).2.1⟩
    · exact ⟨(h2 c).1, (h2 c).2.1⟩
  exact ⟨hm.1, hm.2, fun p e R s m args below meth cd mc ms Q S H locs cells slots ls Dn => lv_if_gt S.1 S.2.1 hd ht (fun c => (h1 c).2.2 p e R s m args below meth cd mc ms Q S H locs cells slots ls Dn) (fun c => (h2 c).2.2 p e R s m args below meth cd mc ms Q S H locs cells slots ls Dn)⟩
theorem sn_if_le : Ru_if_le (Sn l D cA base) := by
  intro M pc L st G r x off tgt hd ht h1 h2
  have hm : G.1 ≤ r.2.1 ∧ G.2.1 ≤ r.2.2.1 := by
    by_cases c : x ≤ 0
    · exact ⟨(h1 c).1, (h1 c).2.1⟩
    · exact ⟨(h2 c).1, (h2 c).2.1⟩
  exact ⟨hm.1, hm.2, fun p e R s m args below meth cd mc ms Q S H locs cells slots ls Dn => lv_if_le S.1 S.2.1 hd ht (fun c => (h1 c).2.2 p e R s m args below meth cd mc ms Q S H locs cells slots ls Dn) (fun c => (h2 c).2.2 p e R s m args below meth cd mc ms Q S H locs cells slots ls Dn)⟩
theorem sn_icmp_eq : Ru_icmp_eq (Sn l D cA base) := by
  intro M pc L st G r x y off tgt hd ht h1 h2
  have hm : G.1 ≤ r.2.1 ∧ G.2.1 ≤ r.2.2.1 := by
    by_cases c : x = y
    · exact ⟨(h1 c).1, (h1 c).2.1⟩
    · exact ⟨(h2 c).1, (h2 c).2.1⟩
  exact ⟨hm.1, hm.2, fun p e R s m args below meth cd mc ms Q S H locs cells slots ls Dn => lv_icmp_eq S.1 S.2.1 hd ht (fun c => (h1 c).2.2 p e R s m args below meth cd mc ms Q S H locs cells slots ls Dn) (fun c => (h2 c).2.2 p e R s m args below meth cd mc ms Q S H locs cells slots ls Dn)⟩
theorem sn_icmp_ne : Ru_icmp_ne (Sn l D cA base) := by
  intro M pc L st G r x y off tgt hd ht h1 h2
  have hm : G.1 ≤ r.2.1 ∧ G.2.1 ≤ r.2.2.1 := by
    by_cases c : x = y
    · exact ⟨(h2 c).1, (h2 c).2.1⟩
    · exact ⟨(h1 c).1, (h1 c).2.1⟩
  exact ⟨hm.1, hm.2, fun p e R s m args below meth cd mc ms Q S H locs cells slots ls Dn => lv_icmp_ne S.1 S.2.1 hd ht (fun c => (h1 c).2.2 p e R s m args below meth cd mc ms Q S H locs cells slots ls Dn) (fun c => (h2 c).2.2 p e R s m args below meth cd mc ms Q S H locs cells slots ls Dn)⟩
theorem sn_icmp_lt : Ru_icmp_lt (Sn l D cA base) := by
  intro M pc L st G r x y off tgt hd ht h1 h2
  have hm : G.1 ≤ r.2.1 ∧ G.2.1 ≤ r.2.2.1 := by
    by_cases c : x < y
    · exact ⟨(h1 c).1, (h1 c).2.1⟩
    · exact ⟨(h2 c).1, (h2 c).2.1⟩
  exact ⟨hm.1, hm.2, fun p e R s m args below meth cd mc ms Q S H locs cells slots ls Dn => lv_icmp_lt S.1 S.2.1 hd ht (fun c => (h1 c).2.2 p e R s m args below meth cd mc ms Q S H locs cells slots ls Dn) (fun c => (h2 c).2.2 p e R s m args below meth cd mc ms Q S H locs cells slots ls Dn)⟩
theorem sn_icmp_ge : Ru_icmp_ge (Sn l D cA base) := by
  intro M pc L st G r x y off tgt hd ht h1 h2
  have hm : G.1 ≤ r.2.1 ∧ G.2.1 ≤ r.2.2.1 := by
    by_cases c : y ≤ x
    · exact ⟨(h1 c).1, (h1 c).2.1⟩
    · exact ⟨(h2 c).1, (h2 c).2.1⟩
  exact ⟨hm.1, hm.2, fun p e R s m args below meth cd mc ms Q S H locs cells slots ls Dn => lv_icmp_ge S.1 S.2.1 hd ht (fun c => (h1 c).2.2 p e R s m args below meth cd mc ms Q S H locs cells slots ls Dn) (fun c => (h2 c).2.2 p e R s m args below meth cd mc ms Q S H locs cells slots ls Dn)⟩
theorem sn_icmp_gt : Ru_icmp_gt (Sn l D cA base) := by
  intro M pc L st G r x y off tgt hd ht h1 h2
  have hm : G.1 ≤ r.2.1 ∧ G.2.1 ≤ r.2.2.1 := by
    by_cases c : y < x
    · exact ⟨(h1 c).1, (h1 c).2.1⟩
    · exact ⟨(h2 c).1, (h2 c).2.1⟩
  exact ⟨hm.1, hm.2, fun p e R s m args below meth cd mc ms Q S H locs cells slots ls Dn => lv_icmp_gt S.1 S.2.1 hd ht (fun c => (h1 c).2.2 p e R s m args below meth cd mc ms Q S H locs cells slots ls Dn) (fun c => (h2 c).2.2 p e R s m args below meth cd mc ms Q S H locs cells slots ls Dn)⟩
theorem sn_icmp_le : Ru_icmp_le (Sn l D cA base) := by
  intro M pc L st G r x y off tgt hd ht h1 h2
  have hm : G.1 ≤ r.2.1 ∧ G.2.1 ≤ r.2.2.1 := by
    by_cases c : x ≤ y
    · exact ⟨(h1 c).1, (h1 c).2.1⟩
    · exact ⟨(h2 c).1, (h2 c).2.1⟩
  exact ⟨hm.1, hm.2, fun p e R s m args below meth cd mc ms Q S H locs cells slots ls Dn => lv_icmp_le S.1 S.2.1 hd ht (fun c => (h1 c).2.2 p e R s m args below meth cd mc ms Q S H locs cells slots ls Dn) (fun c => (h2 c).2.2 p e R s m args below meth cd mc ms Q S H locs cells slots ls Dn)⟩
theorem sn_goto : Ru_goto (Sn l D cA base) := fun M pc L st G r off tgt hd ht h => h.stA (fun _ _ _ _ _ _ _ _ _ _ _ _ _ _ _ _ _ S Dn kk => lv_goto S.1 S.2.1 hd ht kk)
theorem sn_ifnull_r : Ru_ifnull_r (Sn l D cA base) := fun M pc L st G r x off hd h => h.stA (fun _ _ _ _ _ _ _ _ _ _ _ _ _ _ _ _ _ S Dn kk => lv_ifnull S.1 S.2.1 hd kk)
theorem sn_ifnull_n : Ru_ifnull_n (Sn l D cA base) := fun M pc L st G r off tgt hd ht h => h.stA (fun _ _ _ _ _ _ _ _ _ _ _ _ _ _ _ _ _ S Dn kk => lv_ifnullN S.1 S.2.1 hd ht kk)
theorem sn_ifnonnull_r : Ru_ifnonnull_r (Sn l D cA base) := fun M pc L st G r x off tgt hd ht h => h.stA (fun _ _ _ _ _ _ _ _ _ _ _ _ _ _ _ _ _ S Dn kk => lv_ifnonnull S.1 S.2.1 hd ht kk)
theorem sn_ifnonnull_n : Ru_ifnonnull_n (Sn l D cA base) := fun M pc L st G r off hd h => h.stA (fun _ _ _ _ _ _ _ _ _ _ _ _ _ _ _ _ _ S Dn kk => lv_ifnonnullN S.1 S.2.1 hd kk)
theorem sn_tswOut : Ru_tswOut (Sn l D cA base) := fun M pc L st G r x dflt lo hi offs len tgt hd h1 ht h => h.stA (fun _ _ _ _ _ _ _ _ _ _ _ _ _ _ _ _ _ S Dn kk => lv_tableOut S.1 S.2.1 hd h1 ht kk)
theorem sn_tswIn : Ru_tswIn (Sn l D cA base) := fun M pc L st G r x dflt lo hi off offs len tgt hd h1 h2 ho ht h => h.stA (fun _ _ _ _ _ _ _ _ _ _ _ _ _ _ _ _ _ S Dn kk => lv_tableIn S.1 S.2.1 hd h1 h2 ho ht kk)
theorem sn_get : Ru_get (Sn l D cA base) := by
  intro M pc L st G r a idx ci k t fin fs v hd hf hg hv h
  obtain ⟨C, T, n, ty, hcf, hk, hl, ht, hfin, hdecl⟩ := hf
  exact h.stA (fun _ _ _ _ _ _ _ _ _ _ _ _ _ _ _ _ _ S Dn kk => va_get S.1 S.2.1 S.2.2.2.2.2.1 hcf.hin S.2.2.2.1 S.2.2.2.2.2.2.2.2.1 (vP1 (a := a) (e := .inr (ci, fs)) (Dn.2.1.2.2 _ _ hg).1) 0 rfl hcf.1 k hk (S.tb hl rfl) (fun x hx => hx) hv hd kk)
theorem sn_iald : Ru_iald (Sn l D cA base) := by
  intro M pc L st G r a n i f hd hg hi h
  refine h.stA (fun _ _ _ _ _ _ _ _ _ _ _ _ _ _ _ _ _ S Dn kk => ?_)
  have hat := (Dn.2.1.2.2 _ _ hg).1
  rcases hat with ⟨-, hat⟩ | ⟨hat, -⟩
  · exact va_iald S.1 S.2.1 S.2.2.2.2.2.2.2.2.1 (vP1 hat) 0 0 rfl rfl hi hd kk
  · cases hat
theorem sn_zald : Ru_zald (Sn l D cA base) := by
  intro M pc L st G r a n i f hd hg hi h
  refine h.stA (fun _ _ _ _ _ _ _ _ _ _ _ _ _ _ _ _ _ S Dn kk => ?_)
  have hat := (Dn.2.1.2.2 _ _ hg).1
  rcases hat with ⟨-, hat⟩ | ⟨hat, -⟩
  · exact va_zald S.1 S.2.1 S.2.2.2.2.2.2.2.2.1 (vP1 hat) 0 2 rfl rfl hi hd kk
  · cases hat
theorem sn_lald : Ru_lald (Sn l D cA base) := by
  intro M pc L st G r a n i f hd hg hi h
  refine h.stA (fun _ _ _ _ _ _ _ _ _ _ _ _ _ _ _ _ _ S Dn kk => ?_)
  have hat := (Dn.2.1.2.2 _ _ hg).1
  rcases hat with ⟨-, hat⟩ | ⟨hat, -⟩
  · exact va_lald S.1 S.2.1 S.2.2.2.2.2.2.2.2.1 (vP1 hat) 0 1 rfl rfl hi hd kk
  · cases hat
theorem sn_aald : Ru_aald (Sn l D cA base) := by
  intro M pc L st G r a n i f hd hg hi h
  refine h.stA (fun _ _ _ _ _ _ _ _ _ _ _ _ _ _ _ _ _ S Dn kk => ?_)
  have hat := (Dn.2.1.2.2 _ _ hg).1
  rcases hat with ⟨-, hat⟩ | ⟨hat, -⟩
  · exact va_aldq S.1 S.2.1 S.2.2.2.2.2.2.2.2.1 (vP1 hat) 0 3 rfl rfl hi hd kk
  · cases hat
theorem sn_alen : Ru_alen (Sn l D cA base) := by
  intro M pc L st G r a t x v hd hg ht hv h
  refine h.stA (fun _ _ _ _ _ _ _ _ _ _ _ _ _ _ _ _ _ S Dn kk => ?_)
  have hat := (Dn.2.1.2.2 _ _ hg).1
  rcases hat with ⟨-, hat⟩ | ⟨hat, -⟩
  · match t, ht, hat with
    | 0, _, hat => exact va_alen S.1 S.2.1 S.2.2.2.2.2.2.2.2.1 (vP1 hat) 0 0 rfl rfl hv hd kk
    | 1, _, hat => exact va_alen S.1 S.2.1 S.2.2.2.2.2.2.2.2.1 (vP1 hat) 0 1 rfl rfl hv hd kk
    | 2, _, hat => exact va_alen S.1 S.2.1 S.2.2.2.2.2.2.2.2.1 (vP1 hat) 0 2 rfl rfl hv hd kk
    | 3, _, hat => exact va_alen S.1 S.2.1 S.2.2.2.2.2.2.2.2.1 (vP1 hat) 0 3 rfl rfl hv hd kk
    | t + 4, ht, _ => omega
  · omega
theorem sn_sld : Ru_sld (Sn l D cA base) := by
  intro M pc L st G r a n i f hd hg hi h
  refine h.stA (fun _ _ _ _ _ _ _ _ _ _ _ _ _ _ _ _ _ S Dn kk => ?_)
  have hat := (Dn.2.1.2.2 _ _ hg).1
  rcases hat with ⟨hat, -⟩ | ⟨-, xs, hxs, scr, h1, h2, h3, h4, h5⟩
  · omega
  · cases hxs
    have hlt : i.toNatClampNeg < n := Nat.not_le.mp fun q => hi (Or.inr q)
    exact W.iald (v := .int (f i.toNatClampNeg)) S.1 S.2.1 h1 h2 h3 (by rw [h4]; exact hi) (h5 _ hlt) rfl rfl hd kk
theorem sn_slen : Ru_slen (Sn l D cA base) := by
  intro M pc L st G r a n f hd hg h
  refine h.stA (fun _ _ _ _ _ _ _ _ _ _ _ _ _ _ _ _ _ S Dn kk => ?_)
  have hat := (Dn.2.1.2.2 _ _ hg).1
  rcases hat with ⟨hat, -⟩ | ⟨-, xs, hxs, scr, h1, h2, h3, h4, h5⟩
  · omega
  · exact W.alen (n := Int32.ofNat n) S.1 S.2.1 h1 h2 (by rw [h4] <;> rfl) rfl rfl hd kk
end SNR
end
section
section WPUT
variable {p : Program} {l : Launch} {e : Env} {R : Room} {s : State} {m : MethodId} {args : Array Value} {below : List Frame} {meth : Method} {c : Code} {H : Heap} {locs : List Loc} {cells slots : Nat} {Q : State → Prop}
variable {cc : ByteArray} {pc : Nat} {ls : Array Slot} {rest : List Value} {D : va_G} {cA : Nat → ClassId} {a : Nat} {base : Nat} {tys : List (ClassId × FieldType)}
theorem w_put (hx : p.tables.exec = Jvm.exec) (hb : c.code = cc) {own C : String} {T : u_T} {n ci index k : Nat} {ty : Nat → FieldType} (hcf : CF ci C T n ty) (hts : ∀ w ∈ lw_g, w.before args s = true) (hown : s.vm.findClass own = some m.cls) (hK : va_K D vwCl tys s) {fs : List Value} (hat : va_at D vwCl (a, .inr (ci, fs)) H) (hk : k < n) (hlink : (Cond.fieldLink own index (T k).1 (T k).2.1 (T k).2.2.1).before args s = true) (hdecl : (T k).1 = C) {v : Value} (hn : narrow (ty k) v = v) (hfit : fits (ty k) v = true) (hl : k < fs.length) (hfin : (T k).2.2.2 = false ∨ (meth.name = "<init>" ∧ C = own))
    (hdg : decode cc pc = .ok (.putfield index, 3)) (kk : ∀ (H1 : Heap) (j : Nat), va_at D vwCl (a, .inr (ci, fs.set k v)) H1 → H1.size = H.size → (∀ q, q ≠ a → H1[q]? = H[q]?) → W p l e R s m args below meth c H1 (locs ++ [⟨a, j⟩]) cells slots Q (F0 m (pc + 3) ls rest)) : W p l e R s m args below meth c H locs cells slots Q (F0 m pc ls (v :: .ref a :: rest)) := by
  obtain ⟨hc, -, hty, hnm, -⟩ := id hcf
  have hin := hcf.hin
  have hd := hty k hk
  have hap := va_apart (own := own) hts hin ty hty hnm hK hc
  obtain ⟨r, h1, cell, q1, q2, q3, q4⟩ := hat
  have hr : r = (C, T, n) := Option.some.inj (h1.symm.trans hc)
  subst hr
  obtain ⟨hS, hfc, kC, hkC, hkind⟩ := hK.1 ci _ hc
  obtain ⟨cf, kf, fi, f, hi, hsl⟩ := hS k hk
  have hst := (u_facts hfc hkC (u_lays hts hin hk) hi).1
  have hlay := hts _ (hin _ (u_in_lay hk))
  by_cases hF : (T k).2.2.2 = false
  · unfold u_lay at hlay
    rw [if_neg (by rw [hF]; decide)] at hlay
    have h6 := u_store hfc hkC hkind hlay hi hd hn hfit
    refine W.putK hx hb (f := f) ⟨hown, hlink, ⟨_, _, _, hi⟩, hst⟩ (by rw [q2]; exact h6) q1 q3 (by rw [hsl]; exact k2_hasslot (q4 k hk)) rfl rfl hdg fun H' e1 e2 e3 => ?_
    rw [hsl] at e1 ⊢
    exact kk H' _ ⟨_, hc, t_OB.to (V := updV (vp_V fs) k v) ⟨_, e1, q2, q3, t_set q4 hap hk v⟩ (fun j _ => vp_updV_set hl v j)⟩ e2 e3
  · have hT : (T k).2.2.2 = true := by simpa using hF
    rcases hfin with h | ⟨hin2, hco⟩
    · exact absurd h hF
    unfold u_lay at hlay
    rw [if_pos hT] at hlay
    have hcf2 : m.cls = cf := by
      obtain ⟨_, _, c', _, _, _, -, -, hf', -, -, -, hown2, -⟩ := Cond.laysFinal_spec hlay
      have e1 : c' = cf := by have := hi.symm.trans hf'; simp at this; exact this.1.symm
      rw [hdecl, hco] at hown2
      rw [← e1]; exact Option.some.inj (hown.symm.trans hown2)
    have h6 := u_fits hfc hkC hkind (Or.inr hlay) hi hd hn hfit
    refine W.putFinK hx hb hown hlink hi hst hcf2 hin2 (by rw [q2]; exact h6) q1 q3 (by rw [hsl]; exact k2_hasslot (q4 k hk)) rfl rfl hdg fun H' e1 e2 e3 => ?_
    rw [hsl] at e1 ⊢
    exact kk H' _ ⟨_, hc, t_OB.to (V := updV (vp_V fs) k v) ⟨_, e1, q2, q3, t_set q4 hap hk v⟩ (fun j _ => vp_updV_set hl v j)⟩ e2 e3
end WPUT
section SNW
variable {l : Launch} {D : va_G} {cA : Nat → ClassId} {base : Nat}
theorem HR.bs {D : va_G} {cA : Nat → ClassId} {base : Nat} {U : State} {G : PH} {H : Heap} (h : HR D cA base U G H) {a : Nat} {e : PE} (he : G.2.2 a = some e) (hn : ∀ x, e ≠ .inl (9, x)) : base ≤ a := by
  rcases (h.2.2 a e he).2 with ⟨x, hx⟩ | hb
  · exact absurd hx (hn x)
  · exact hb

theorem sn_put : Ru_put (Sn l D cA base) := by
  intro M pc L st G r a idx ci k t fs v hd hf hg hk hn hfit h
  obtain ⟨C, T, n, ty, hcf, hkn, hl, ht, hfin, hdecl⟩ := hf
  subst ht
  refine h.stU (fun _ _ _ _ _ _ _ _ _ _ _ _ _ _ _ _ _ S Dn kk => ?_)
  have hba := Dn.2.1.bs hg (fun x hx => by cases hx)
  exact w_put S.1 S.2.1 hcf S.2.2.2.2.2.1 S.2.2.2.1 S.2.2.2.2.2.2.2.2.1 (Dn.2.1.2.2 _ _ hg).1 hkn (S.tb hl rfl) hdecl hn hfit hk (Or.inl hfin) hd (fun H1 j h1 h2 h3 => kk H1 _ (Dn.2.1.up h2 h3 hba h1) (Dn.2.2.1.put h2 h3 hba))
theorem sn_putF : Ru_putF (Sn l D cA base) := by
  intro M pc L st G r a idx ci k t fs v hd hf hg hk hn hfit hini hcl h
  obtain ⟨C, T, n, ty, hcf, hkn, hl, ht, hfin, hdecl⟩ := hf
  subst ht
  refine h.stU (fun _ _ _ _ _ _ _ _ _ _ _ _ _ _ _ _ _ S Dn kk => ?_)
  have hba := Dn.2.1.bs hg (fun x hx => by cases hx)
  have hC : C = (mY M).cls := by rw [hcf.1] at hcl; simpa using hcl
  exact w_put S.1 S.2.1 hcf S.2.2.2.2.2.1 S.2.2.2.1 S.2.2.2.2.2.2.2.2.1 (Dn.2.1.2.2 _ _ hg).1 hkn (S.tb hl rfl) hdecl hn hfit hk (Or.inr ⟨S.2.2.2.2.1 hini, hC⟩) hd (fun H1 j h1 h2 h3 => kk H1 _ (Dn.2.1.up h2 h3 hba h1) (Dn.2.2.1.put h2 h3 hba))

theorem sn_iast : Ru_iast (Sn l D cA base) := by
  intro M pc L st G r a n i x f hd hg hi h
  refine h.stU (fun _ _ _ _ _ _ _ _ _ _ _ _ _ _ _ _ _ S Dn kk => ?_)
  have hba := Dn.2.1.bs hg (fun x hx => by cases hx)
  have hat := (Dn.2.1.2.2 _ _ hg).1
  rcases hat with ⟨h4, hat⟩ | ⟨hat, -⟩
  · refine W.iast S.1 S.2.1 hat ((S.2.2.2.2.2.2.2.2.1).2 0 _ rfl |>.1 n (fun j => .int (f j))) (fun q => by cases q) (by show ¬ (i < 0 ∨ (arrV _ _ _).slots.size ≤ _); rw [arrV_size]; exact hi) rfl rfl hd fun H1 e1 z oq => ?_
    refine kk H1 _ (Dn.2.1.up z oq hba (Or.inl ⟨h4, ?_⟩)) (Dn.2.2.1.put z oq hba)
    show H1[a]? = some (vp_cell _ _)
    rw [e1]
    rw [vp_cell_i, vp_cell_i, arrV_store]
    congr 2
    funext q
    by_cases hq : q = i.toNatClampNeg
    · subst hq
      simp [updV, upd]
    · simp [updV, upd, hq]
  · cases hat
theorem sn_last : Ru_last (Sn l D cA base) := by
  intro M pc L st G r a n i x f hd hg hi h
  refine h.stU (fun _ _ _ _ _ _ _ _ _ _ _ _ _ _ _ _ _ S Dn kk => ?_)
  have hba := Dn.2.1.bs hg (fun x hx => by cases hx)
  have hat := (Dn.2.1.2.2 _ _ hg).1
  rcases hat with ⟨h4, hat⟩ | ⟨hat, -⟩
  · refine W.last S.1 S.2.1 hat ((S.2.2.2.2.2.2.2.2.1).2 1 _ rfl |>.1 n (fun j => .long (f j))) (fun q => by cases q) (by show ¬ (i < 0 ∨ (arrV _ _ _).slots.size ≤ _); rw [arrV_size]; exact hi) rfl rfl hd fun H1 e1 z oq => ?_
    refine kk H1 _ (Dn.2.1.up z oq hba (Or.inl ⟨h4, ?_⟩)) (Dn.2.2.1.put z oq hba)
    show H1[a]? = some (vp_cell _ _)
    rw [e1]
    rw [vp_cell_l, vp_cell_l, arrV_store]
    congr 2
    funext q
    by_cases hq : q = i.toNatClampNeg
    · subst hq
      simp [updV, vp_updL]
    · simp [updV, vp_updL, hq]
  · cases hat
theorem sn_zast : Ru_zast (Sn l D cA base) := by
  intro M pc L st G r a n i x f hd hg hi hnar h
  refine h.stU (fun _ _ _ _ _ _ _ _ _ _ _ _ _ _ _ _ _ S Dn kk => ?_)
  have hba := Dn.2.1.bs hg (fun x hx => by cases hx)
  have hat := (Dn.2.1.2.2 _ _ hg).1
  rcases hat with ⟨h4, hat⟩ | ⟨hat, -⟩
  · refine W.zast S.1 S.2.1 hat ((S.2.2.2.2.2.2.2.2.1).2 2 _ rfl |>.1 n (fun j => .int (f j))) (fun q => by cases q) (by show ¬ (i < 0 ∨ (arrV _ _ _).slots.size ≤ _); rw [arrV_size]; exact hi) rfl rfl hd fun H1 e1 z oq => ?_
    refine kk H1 _ (Dn.2.1.up z oq hba (Or.inl ⟨h4, ?_⟩)) (Dn.2.2.1.put z oq hba)
    show H1[a]? = some (vp_cell _ _)
    rw [e1]
    rw [vp_cell_i, vp_cell_i, arrV_store]
    congr 2
    funext q
    by_cases hq : q = i.toNatClampNeg
    · subst hq
      simp [updV, upd]; unfold vp_nar at hnar; simp only [narrow] at hnar ⊢; rw [hnar]
    · simp [updV, upd, hq]
  · cases hat
theorem sn_aast : Ru_aast (Sn l D cA base) := by
  intro M pc L st G r a n v i fs f hd hg hv hi h
  refine h.stU (fun _ _ _ _ _ _ _ _ _ _ _ _ _ _ _ _ _ S Dn kk => ?_)
  have hba := Dn.2.1.bs hg (fun x hx => by cases hx)
  have hlt : i.toNatClampNeg < n := Nat.not_le.mp fun q => hi (Or.inr q)
  have h0 : ¬ i < 0 := fun q => hi (Or.inl q)
  have hat := (Dn.2.1.2.2 _ _ hg).1
  have hvt := (Dn.2.1.2.2 _ _ hv).1
  obtain ⟨r', hr', cellV, g1, g2, g3, -⟩ := hvt
  have hK := S.2.2.2.2.2.2.2.2.1
  have hcls := (hK.1 1 _ cf1.1).2
  obtain ⟨kA, comp, k1, k2, k3, -⟩ := (hK.2 3 _ rfl).2
  have hcomp : comp = D.1 1 := Option.some.inj (k3.symm.trans hcls.1)
  subst hcomp
  have hcl2 := hcls
  obtain ⟨kC, hkC, -⟩ := hcls.2
  rcases hat with ⟨h4, hat⟩ | ⟨hat, -⟩
  · refine W.aast S.1 S.2.1 hat (fun q h => by cases h) (fun h => by cases h) k1 k2 rfl hkC ⟨h0, by show _ < (arrV _ _ _).slots.size; rw [arrV_size]; exact hlt⟩ g1 (fun q h => by rw [g3] at h; cases h) (by rw [g2]; exact hkC) (by rw [g2]; exact va_assign hcl2) rfl rfl hd fun H1 e1 z oq => ?_
    refine kk H1 _ (Dn.2.1.up z oq hba (Or.inl ⟨h4, ?_⟩)) (Dn.2.2.1.put z oq hba)
    show H1[a]? = some (vp_cell _ _)
    rw [e1]
    rw [vp_cell_q, vp_cell_q, arrV_store]
    congr 2
    funext q
    by_cases hq : q = i.toNatClampNeg
    · subst hq
      simp [updV, va_up, va_rf]
    · simp [updV, va_up, hq]
  · cases hat
theorem va_S.nw {A : Nat → Prop} {H0 H H1 : Heap} {locs : List Loc} (h : va_S A H0 H locs) (hz : H1.size = H.size + 1) (oq : ∀ q, q < H.size → H1[q]? = H[q]?) : va_S A H0 H1 locs := ⟨Nat.le_trans h.1 (by omega), fun x h1 h2 => (oq x (Nat.lt_of_lt_of_le h1 h.1)).trans (h.2.1 x h1 h2), h.2.2⟩
theorem sn_new : Ru_new (Sn l D cA base) := by
  intro M pc L st G r idx ci fs hd hl h
  obtain ⟨C, T, n, ty, hcf, hcl, hn, hdef⟩ := hl
  subst hn
  refine h.stN (fun _ _ _ _ _ _ _ _ _ _ _ _ _ _ _ _ _ S Dn hc hs kk => ?_)
  have hKn := (S.2.2.2.2.2.2.2.2.1).1 ci _ hcf.1
  refine W.newcK S.1 S.2.1 S.2.2.2.1 (S.tb hcl rfl) (S.tb hcf.2.2.2.2.1 rfl) (S.tb hcf.2.2.2.2.2 rfl) rfl hd hc hs hKn.2.1 rfl fun H1 kC hkC e1 z1 o1 => ?_
  have hz := Dn.2.1.1
  refine W.eq (g2 := F0 _ _ _ (.ref G.1 :: st)) (by rw [← hz]) ?_
  exact kk H1 (Dn.2.1.new z1 o1 ⟨_, hcf.1, (u_born ty S.2.2.2.2.2.1 hcf.hin hKn hkC e1 hcf.2.2.1).to hdef⟩) (Dn.2.2.1.nw z1 o1)

theorem sn_newi : Ru_newi (Sn l D cA base) := by
  intro M pc L st G r n x hd h0 hn hle h
  refine h.stN (fun _ _ _ _ _ _ _ _ _ _ _ _ _ _ _ _ _ S Dn hc hs kk => ?_)
  refine va_newaK (atype := .int) S.1 S.2.1 (S.tb ka_int rfl) rfl hd rfl h0 hn (by show n * 4 ≤ _; omega) hc hs rfl fun H1 c1 e1 z1 o1 hAr hNm => ?_
  have hra := ((S.2.2.2.2.2.2.2.2.1).2 0 _ rfl).2
  have hce : c1 = cA 0 := Option.some.inj (hNm.symm.trans hra)
  subst hce
  have hz := Dn.2.1.1
  refine W.eq (g2 := F0 _ _ _ (.ref G.1 :: st)) (by rw [← hz]) ?_
  exact kk H1 (Dn.2.1.new z1 o1 (Or.inl ⟨by decide, e1⟩)) (Dn.2.2.1.nw z1 o1)
theorem sn_newl : Ru_newl (Sn l D cA base) := by
  intro M pc L st G r n x hd h0 hn hle h
  refine h.stN (fun _ _ _ _ _ _ _ _ _ _ _ _ _ _ _ _ _ S Dn hc hs kk => ?_)
  refine va_newaK (atype := .long) S.1 S.2.1 (S.tb ka_long rfl) rfl hd rfl h0 hn (by show n * 8 ≤ _; omega) hc hs rfl fun H1 c1 e1 z1 o1 hAr hNm => ?_
  have hra := ((S.2.2.2.2.2.2.2.2.1).2 1 _ rfl).2
  have hce : c1 = cA 1 := Option.some.inj (hNm.symm.trans hra)
  subst hce
  have hz := Dn.2.1.1
  refine W.eq (g2 := F0 _ _ _ (.ref G.1 :: st)) (by rw [← hz]) ?_
  exact kk H1 (Dn.2.1.new z1 o1 (Or.inl ⟨by decide, e1⟩)) (Dn.2.2.1.nw z1 o1)
theorem sn_newz : Ru_newz (Sn l D cA base) := by
  intro M pc L st G r n x hd h0 hn hle h
  refine h.stN (fun _ _ _ _ _ _ _ _ _ _ _ _ _ _ _ _ _ S Dn hc hs kk => ?_)
  refine va_newaK (atype := .boolean) S.1 S.2.1 (S.tb ka_boolean rfl) rfl hd rfl h0 hn (by show n * 1 ≤ _; omega) hc hs rfl fun H1 c1 e1 z1 o1 hAr hNm => ?_
  have hra := ((S.2.2.2.2.2.2.2.2.1).2 2 _ rfl).2
  have hce : c1 = cA 2 := Option.some.inj (hNm.symm.trans hra)
  subst hce
  have hz := Dn.2.1.1
  refine W.eq (g2 := F0 _ _ _ (.ref G.1 :: st)) (by rw [← hz]) ?_
  exact kk H1 (Dn.2.1.new z1 o1 (Or.inl ⟨by decide, e1⟩)) (Dn.2.2.1.nw z1 o1)
theorem sn_anew : Ru_anew (Sn l D cA base) := by
  intro M pc L st G r idx n x hd hl h0 hn hle h
  refine h.stN (fun _ _ _ _ _ _ _ _ _ _ _ _ H _ _ _ _ S Dn hc hs kk => ?_)
  subst hn
  refine W.anew S.1 S.2.1 S.2.2.2.1 (S.tb hl.1 rfl) (va_AO.use S.2.2.2.2.2.2.2.1) rfl hd rfl h0 (by omega) hc hs fun c1 kA comp f1 f2 f3 f4 => ?_
  obtain ⟨kA2, comp2, k1, k2, k3, k4⟩ := ((S.2.2.2.2.2.2.2.2.1).2 3 _ rfl).2
  have hce : c1 = cA 3 := Option.some.inj (f1.symm.trans k4)
  subst hce
  have hz := Dn.2.1.1
  refine W.eq (g2 := F0 _ _ _ (.ref G.1 :: st)) (by rw [← hz]) ?_
  have z1 : ∀ x : Cell, (H.push x).size = H.size + 1 := fun x => Array.size_push x
  refine kk _ (Dn.2.1.new (z1 _) (fun q hq => ?_) (Or.inl ⟨by decide, ?_⟩)) (Dn.2.2.1.nw (z1 _) (fun q hq => ?_))
  · rw [Array.getElem?_push, if_neg (Nat.ne_of_lt hq)]
  · show _ = some (vp_cell _ _)
    rw [Array.getElem?_push_size, vp_cell_q, ← arrV_new]
    rfl
  · rw [Array.getElem?_push, if_neg (Nat.ne_of_lt hq)]
theorem sn_objI : Ru_objI (Sn l D cA base) := by
  intro M pc L st G r idx a hd hl hf hlc h
  refine h.stA (fun _ _ _ _ _ _ _ _ _ _ _ _ _ _ _ _ _ S Dn kk => ?_)
  have hR := S.2.2.2.2.2.2.2.2.2.2.2.1
  exact W.objInit S.1 S.2.1 S.2.2.2.1 (S.tb hl.1 rfl) (S.tb hl.2.1 rfl) (S.tb hl.2.2 rfl) rfl (Dn.1.1.trans S.2.2.1.symm) rfl hd (Nat.le_trans hf hR.1) (by show 2 * 0 + _ + 12 ≤ _; have := hR.2; omega) kk
theorem sn_mmax : Ru_mmax (Sn l D cA base) := by
  intro M pc L st G r idx x y hd hl hf hlc h
  refine ⟨h.1, h.2.1, fun p e R s m args below meth cd mc ms Q S H locs cells slots ls Dn => ?_⟩
  have hR := S.2.2.2.2.2.2.2.2.2.2.2.1
  have hc := S.2.2.2.2.2.2.2.2.2.2.1
  have h1 := Dn.2.2.2
  exact va_mmax S.1 S.2.1 (S.2.2.1.trans Dn.1.1.symm) S.2.2.2.1 (S.tb hl.1 rfl) (S.tb hl.2.1 rfl) (S.tb hl.2.2.1 rfl) (S.tb hl.2.2.2 rfl) (Nat.le_trans hf hR.1) (Nat.le_trans hlc hR.2) (by omega) (by omega) hd (h.2.2 p e R s m args below meth cd mc ms Q S H locs cells slots ls Dn)
theorem sn_mmin : Ru_mmin (Sn l D cA base) := by
  intro M pc L st G r idx x y hd hl hf hlc h
  refine ⟨h.1, h.2.1, fun p e R s m args below meth cd mc ms Q S H locs cells slots ls Dn => ?_⟩
  have hR := S.2.2.2.2.2.2.2.2.2.2.2.1
  have hc := S.2.2.2.2.2.2.2.2.2.2.1
  have h1 := Dn.2.2.2
  exact va_mmin S.1 S.2.1 (S.2.2.1.trans Dn.1.1.symm) S.2.2.2.1 (S.tb hl.1 rfl) (S.tb hl.2.1 rfl) (S.tb hl.2.2.1 rfl) (S.tb hl.2.2.2 rfl) (Nat.le_trans hf hR.1) (Nat.le_trans hlc hR.2) (by omega) (by omega) hd (h.2.2 p e R s m args below meth cd mc ms Q S H locs cells slots ls Dn)
theorem nn_clamp (z : Int32) (hz : ¬ z < 0) : z.toInt = (z.toNatClampNeg : Int) := by
  have hz0 : (0 : Int) ≤ z.toInt := by
    have := Int32.not_lt.mp hz
    simpa using Int32.le_iff_toInt_le.mp this
  show z.toInt = ((z.toInt.toNat : Nat) : Int)
  omega

theorem sn_copyi : Ru_copyi (Sn l D cA base) := by
  intro M pc L st G r idx a b n1 n2 sp dp n f g hd hl ha hb h1 h2 h3 h4 h5 hf hlc h
  refine h.stU (fun _ _ _ _ _ _ _ _ _ _ _ _ _ _ _ _ _ S Dn kk => ?_)
  have hba := Dn.2.1.bs hb (fun x hx => by cases hx)
  have hR := S.2.2.2.2.2.2.2.2.2.2.2.1
  have hK := S.2.2.2.2.2.2.2.2.1
  have hata := (Dn.2.1.2.2 _ _ ha).1
  have hatb := (Dn.2.1.2.2 _ _ hb).1
  replace hata := hata.resolve_right (fun h => by cases h.1)
  replace hatb := hatb.resolve_right (fun h => by cases h.1)
  obtain ⟨-, hata⟩ := hata
  obtain ⟨ht4, hatb⟩ := hatb
  intro T hT X
  obtain ⟨-, k0, hk0, cm0, hkk0⟩ := (hK.2 0 _ rfl).1 n1 (fun j => .int (f j))
  obtain ⟨-, k1, hk1, cm1, hkk1⟩ := (hK.2 0 _ rfl).1 n2 (fun j => .int (g j))
  obtain ⟨vm', X', step⟩ := X.arraycopy S.1 S.2.2.2.1 (S.tb hl.1 rfl) (S.tb hl.2.1 rfl) (S.tb hl.2.2.1 rfl) (S.tb hl.2.2.2 rfl) (src := a) (dst := b) (cs := vp_cell (cA 0) (n1, .inl f)) (cd := vp_cell (cA 0) (n2, .inl g)) (srcPos := sp) (destPos := dp) (n := n) (by rw [hT]; exact hata) (by rw [hT]; exact hatb)
    (fun _ h => by cases h) (fun _ h => by cases h) (fun h => by cases h) (fun h => by cases h) hk0 hk1 hkk0 hkk1 (by simp [refKind]) h1 h2 h3
    (by rw [nn_clamp sp h1, nn_clamp n h3]; show ¬ _ > ((arrV (cA 0) n1 (fun j => .int (f j))).slots.size : Int); rw [arrV_size]; omega)
    (by rw [nn_clamp dp h2, nn_clamp n h3]; show ¬ _ > ((arrV (cA 0) n2 (fun j => .int (g j))).slots.size : Int); rw [arrV_size]; omega)
    (fun vm₁ _ i hi => by
      have e : (vp_cell (cA 0) (n1, .inl f)).slots.getD (sp.toNatClampNeg + i) .null = .int (f (sp.toNatClampNeg + i)) := by
        show (arrV (cA 0) n1 (fun j => .int (f j))).slots.getD _ _ = _
        rw [Array.getD_eq_getD_getElem?, arrV_read _ _ (by omega)]
        rfl
      refine ⟨?_, ?_⟩
      · rw [e]
        rfl
      · rw [e]
        exact trivial)
    (g := F0 _ pc _ (.int n :: .int dp :: .ref b :: .int sp :: .ref a :: st)) rfl (Dn.1.1.trans S.2.2.1.symm) (rest := st) rfl (by rw [S.2.1]; exact hd) (Nat.le_trans hf hR.1) (by show 2 * 0 + _ + (7 + 11) ≤ _; have := hR.2; omega)
  have e1 : copied (vp_cell (cA 0) (n1, .inl f)) (vp_cell (cA 0) (n2, .inl g)) sp dp n = vp_cell (cA 0) (n2, .inl (va_cpy f g sp.toNatClampNeg dp.toNatClampNeg n.toNatClampNeg)) := va_copied (fun z => .int z) (cA 0) (cA 0) f g h4
  rw [e1] at X' step
  have hlt : b < T.heap.size := by rw [hT]; exact (Array.getElem?_eq_some_iff.mp hatb).1
  have oq : ∀ q : Nat, q ≠ b → (T.heap.setIfInBounds b (vp_cell (cA 0) (n2, .inl (va_cpy f g sp.toNatClampNeg dp.toNatClampNeg n.toNatClampNeg))))[q]? = T.heap[q]? := fun q hq => by simp [Array.getElem?_setIfInBounds, Ne.symm hq]
  subst hT
  obtain ⟨t, a1, b1⟩ := kk _ _ (Dn.2.1.up (by simp) oq hba (Or.inl ⟨ht4, show (T.heap.setIfInBounds b _)[b]? = some _ by simp [Array.getElem?_setIfInBounds, hlt]⟩)) ⟨by simp; exact Dn.2.2.1.1, fun q g1 g2 => by
      rw [oq q (fun e => g2 (by rw [e]; exact hba))]
      exact Dn.2.2.1.2.1 q g1 g2, fun q hq => by
      rcases List.mem_append.mp hq with h | h
      · exact Dn.2.2.1.2.2 q h
      · obtain ⟨z, -, hz⟩ := List.mem_map.mp h
        rw [← hz]
        exact hba⟩ _ rfl X'
  exact ⟨t, step t a1, b1⟩
theorem sn_copyl : Ru_copyl (Sn l D cA base) := by
  intro M pc L st G r idx a b n1 n2 sp dp n f g hd hl ha hb h1 h2 h3 h4 h5 hf hlc h
  refine h.stU (fun _ _ _ _ _ _ _ _ _ _ _ _ _ _ _ _ _ S Dn kk => ?_)
  have hba := Dn.2.1.bs hb (fun x hx => by cases hx)
  have hR := S.2.2.2.2.2.2.2.2.2.2.2.1
  have hK := S.2.2.2.2.2.2.2.2.1
  have hata := (Dn.2.1.2.2 _ _ ha).1
  have hatb := (Dn.2.1.2.2 _ _ hb).1
  replace hata := hata.resolve_right (fun h => by cases h.1)
  replace hatb := hatb.resolve_right (fun h => by cases h.1)
  obtain ⟨-, hata⟩ := hata
  obtain ⟨ht4, hatb⟩ := hatb
  intro T hT X
  obtain ⟨-, k0, hk0, cm0, hkk0⟩ := (hK.2 1 _ rfl).1 n1 (fun j => .long (f j))
  obtain ⟨-, k1, hk1, cm1, hkk1⟩ := (hK.2 1 _ rfl).1 n2 (fun j => .long (g j))
  obtain ⟨vm', X', step⟩ := X.arraycopy S.1 S.2.2.2.1 (S.tb hl.1 rfl) (S.tb hl.2.1 rfl) (S.tb hl.2.2.1 rfl) (S.tb hl.2.2.2 rfl) (src := a) (dst := b) (cs := vp_cell (cA 1) (n1, .inr (.inl f))) (cd := vp_cell (cA 1) (n2, .inr (.inl g))) (srcPos := sp) (destPos := dp) (n := n) (by rw [hT]; exact hata) (by rw [hT]; exact hatb)
    (fun _ h => by cases h) (fun _ h => by cases h) (fun h => by cases h) (fun h => by cases h) hk0 hk1 hkk0 hkk1 (by simp [refKind]) h1 h2 h3
    (by rw [nn_clamp sp h1, nn_clamp n h3]; show ¬ _ > ((arrV (cA 1) n1 (fun j => .long (f j))).slots.size : Int); rw [arrV_size]; omega)
    (by rw [nn_clamp dp h2, nn_clamp n h3]; show ¬ _ > ((arrV (cA 1) n2 (fun j => .long (g j))).slots.size : Int); rw [arrV_size]; omega)
    (fun vm₁ _ i hi => by
      have e : (vp_cell (cA 1) (n1, .inr (.inl f))).slots.getD (sp.toNatClampNeg + i) .null = .long (f (sp.toNatClampNeg + i)) := by
        show (arrV (cA 1) n1 (fun j => .long (f j))).slots.getD _ _ = _
        rw [Array.getD_eq_getD_getElem?, arrV_read _ _ (by omega)]
        rfl
      refine ⟨?_, ?_⟩
      · rw [e]
        rfl
      · rw [e]
        exact trivial)
    (g := F0 _ pc _ (.int n :: .int dp :: .ref b :: .int sp :: .ref a :: st)) rfl (Dn.1.1.trans S.2.2.1.symm) (rest := st) rfl (by rw [S.2.1]; exact hd) (Nat.le_trans hf hR.1) (by show 2 * 0 + _ + (7 + 11) ≤ _; have := hR.2; omega)
  have e1 : copied (vp_cell (cA 1) (n1, .inr (.inl f))) (vp_cell (cA 1) (n2, .inr (.inl g))) sp dp n = vp_cell (cA 1) (n2, .inr (.inl (va_cpy f g sp.toNatClampNeg dp.toNatClampNeg n.toNatClampNeg))) := va_copied (fun z => .long z) (cA 1) (cA 1) f g h4
  rw [e1] at X' step
  have hlt : b < T.heap.size := by rw [hT]; exact (Array.getElem?_eq_some_iff.mp hatb).1
  have oq : ∀ q : Nat, q ≠ b → (T.heap.setIfInBounds b (vp_cell (cA 1) (n2, .inr (.inl (va_cpy f g sp.toNatClampNeg dp.toNatClampNeg n.toNatClampNeg)))))[q]? = T.heap[q]? := fun q hq => by simp [Array.getElem?_setIfInBounds, Ne.symm hq]
  subst hT
  obtain ⟨t, a1, b1⟩ := kk _ _ (Dn.2.1.up (by simp) oq hba (Or.inl ⟨ht4, show (T.heap.setIfInBounds b _)[b]? = some _ by simp [Array.getElem?_setIfInBounds, hlt]⟩)) ⟨by simp; exact Dn.2.2.1.1, fun q g1 g2 => by
      rw [oq q (fun e => g2 (by rw [e]; exact hba))]
      exact Dn.2.2.1.2.1 q g1 g2, fun q hq => by
      rcases List.mem_append.mp hq with h | h
      · exact Dn.2.2.1.2.2 q h
      · obtain ⟨z, -, hz⟩ := List.mem_map.mp h
        rw [← hz]
        exact hba⟩ _ rfl X'
  exact ⟨t, step t a1, b1⟩
end SNW
end
section
section SNC
variable {l : Launch} {D : va_G} {cA : Nat → ClassId} {base : Nat}
def PcN (D : va_G) (cA : Nat → ClassId) (base : Nat) (vs : List Value) (G : PH) : Array Value → State → Prop := va_Pc vs (fun U => HR D cA base U G U.heap ∧ va_K D vwCl (tysOf cA) U ∧ (∀ w ∈ lw_n, va_Nw w U) ∧ va_AO RX1 U)
def QcN (D : va_G) (cA : Nat → ClassId) (base : Nat) (v : Option Value) (G1 : PH) : Array Value → State → Outcome → State → Prop := fun _ st oc t => oc = .returned v ∧ HR D cA base t G1 t.heap ∧ va_F (fun q => base ≤ q) st t
theorem nest_is {w : Cond} (h : w ∈ lw_n) : ∃ a i x h', w = .methodLinkNest a i x h' := by
  have := (List.mem_filter.mp h).2
  unfold isNest at this
  split at this
  · exact ⟨_, _, _, _, rfl⟩
  · cases this
theorem PcN.blind {vs : List Value} {G : PH} : FrameBlind (PcN D cA base vs G) := by
  intro a U g mk q
  obtain ⟨h1, h2, h3, h4, h5⟩ := q
  refine ⟨h1, HR.moved (u := U) (U := U.calling g mk a) (Vm.Alike.refl U.vm) h2, va_K.moved (u := U) (U := U.calling g mk a) (Vm.Alike.refl U.vm) h3, fun w hw => ?_, va_AO.moved (u := U) (U := U.calling g mk a) (Vm.Alike.refl U.vm) h5⟩
  obtain ⟨x1, x2, x3, x4, rfl⟩ := nest_is hw
  exact va_Nw.same (u := U) (U := U.calling g mk a) rfl rfl (h4 _ hw)
theorem PcN.at_ {p : Program} {e : Env} {R : Room} {s : State} {m : MethodId} {args : Array Value} {below : List Frame} {meth : Method} {cd : Code} {M : MI} {r : Rs} {mc ms : Nat} {Q : State → Prop} {vs : List Value} {G : PH} {H : Heap} (S : CxS l D cA base p e R s m args below meth cd M r mc ms Q) (hH : HR D cA base s G H) : ∀ U : State, U.heap = H → s.WarmedH U.vm → PcN D cA base vs G vs.toArray U := by
  intro U hU hW
  obtain ⟨-, -, -, -, -, -, h7, h8, h9, -⟩ := S
  refine ⟨rfl, by rw [hU]; exact hH.moved hW.alike, va_K.moved hW.alike h9, fun w hw => ?_, va_AO.moved hW.alike h8⟩
  obtain ⟨x1, x2, x3, x4, rfl⟩ := nest_is hw
  exact va_Nw.warmM hW (h7 _ hw)
set_option maxHeartbeats 1000000 in
theorem Sn.met {N : MI} (hN : okM N) {vs : List Value} (hlen : (entL vs).length ≤ mL N) {G G1 : PH} {v : Option Value} (h : Sn l D cA base N 0 (ent N vs) [] G (v, G1)) : Met l (mY N) (wd N) (rmN N (G1.1 - G.1) (G1.2.1 - G.2.1)) (PcN D cA base vs G) (QcN D cA base v G1) (G1.1 - G.1) (G1.2.1 - G.2.1) (fun q => base ≤ q) := by
  refine Met.ofW (cc := mC N) (maxL := mL N) (ret := mR N) hN.2.2.1 rfl ?_
  intro p e s m args below meth c s₁ B hml hv
  obtain ⟨rfl, hH, hK, hnw, hao⟩ := hv
  have hts := atoms_spec (ws := wd N) B.pre
  have hown : s.vm.findClass (mY N).cls = some m.cls := findClass_of_methodNamed B.named
  have hnm : meth.name = (mY N).name := (name_of_methodNamed B.named B.method).1
  have hlocks := B.notSynchronized
  have hret : meth.sig.returnType = mR N := B.returns
  have hl := lv_entry vs (n := mL N) (by rw [← entL_len]; exact hlen)
  rw [lg_entry_eq]
  refine h.2.2 p e _ s m _ below meth c (G1.1 - G.1) (G1.2.1 - G.2.1) _ ⟨B.exec, B.bytes, hml, hown, fun hi => by rw [hnm]; exact hi, fun w hw => hts w (List.mem_cons_of_mem _ hw), hnw, hao, hK, hH.2.1, ⟨Nat.le_refl _, Nat.le_refl _⟩, ⟨Nat.le_refl _, Nat.le_refl _⟩, ?_⟩ s.heap [] 0 0 _ ⟨⟨hl.1, hl.2.1, fun j w hj => hl.2.2 (j, w) (ent_mem N vs j w hj)⟩, hH, va_S.rf, by simp, by simp⟩
  intro pc' ls' H' locs' hH' hS' hro
  have hq : ∀ t : State, t.heap = H' → s.WarmedH t.vm → QcN D cA base v G1 vs.toArray s (.returned v) t := fun t ht hW => ⟨rfl, by rw [ht]; exact hH'.moved hW.alike, hS'.F ht⟩
  rcases hro with ⟨x, ty, hv, hdg, hr, hn⟩ | ⟨x, hv, hdg, hr⟩ | ⟨x, rt, hv, hdg, hr, hrt, hx⟩ | ⟨hv, hdg, hr⟩
  · dsimp only at hv
    subst hv
    exact W.zret (cc := mC N) B.exec B.bytes (hret.trans hr) hn hq hS'.2.2 hdg
  · dsimp only at hv
    subst hv
    exact W.lret (cc := mC N) B.exec B.bytes (hret.trans hr) hq hS'.2.2 hdg
  · dsimp only at hv
    subst hv
    exact W.aret (cc := mC N) B.exec B.bytes (hret.trans hr) hrt hx hq hS'.2.2 hdg
  · dsimp only at hv
    subst hv
    exact W.vret (cc := mC N) B.exec B.bytes (hret.trans hr) hq hS'.2.2 hdg
theorem Sn.after {M : MI} {pc : Nat} {L : PLoc} {st st0 : List Value} {G G1 : PH} {v : Option Value} {r : Rs} {a : Array Value} (h2 : Sn l D cA base M (pc + 3) L (v.toList ++ st) G1 r) (hm1 : G.1 ≤ G1.1) (hm2 : G.2.1 ≤ G1.2.1) {p : Program} {e : Env} {R : Room} {s : State} {m : MethodId} {args : Array Value} {below : List Frame} {meth : Method} {cd : Code} {mc ms : Nat} {Q : State → Prop} {H : Heap} {locs : List Loc} {cells slots : Nat} {ls : Array Slot} (S : CxS l D cA base p e R s m args below meth cd M r mc ms Q) (Dn : CxD D cA base s M L G r mc ms H locs cells slots ls)
    (run : va_Run p l e R s m args below meth cd H locs cells slots (G1.1 - G.1) (G1.2.1 - G.2.1) (F0 m pc ls st0) st (QcN D cA base v G1 a) (fun q => base ≤ q)) : W p l e R s m args below meth cd H locs cells slots Q (F0 m pc ls st0) := by
  intro T hT X
  obtain ⟨v', st₀, t, T', L', e0, X', hL', e1, e2, ⟨hv, hH1, hF1⟩, go⟩ := run T hT X
  cases hv
  obtain ⟨d1, d2, d3, d4, d5⟩ := Dn
  have hal : t.vm.Alike s.vm := by rw [← e2]; exact X'.warmed.alike.symm
  have g1 := h2.1
  have g2 := h2.2.1
  obtain ⟨t2, a1, b1⟩ := h2.2.2 p e R s m args below meth cd mc ms Q S T'.heap (locs ++ L') (cells + (G1.1 - G.1)) (slots + (G1.2.1 - G.2.1)) ls ⟨d1, by rw [e1]; exact hH1.moved hal, ⟨Nat.le_trans d3.1 (by rw [e1, ← e0]; exact hF1.1), fun q k1 k2 => by
      rw [e1, hF1.2 q (by rw [e0]; exact Nat.lt_of_lt_of_le k1 d3.1) k2, e0]
      exact d3.2.1 q k1 k2, fun q hq => by
      rcases List.mem_append.mp hq with h | h
      · exact d3.2.2 q h
      · exact hL' q h⟩, by omega, by omega⟩ T' rfl X'
  exact ⟨t2, go t2 a1, b1⟩

set_option maxHeartbeats 1000000 in
theorem sn_callV : Ru_callV (Sn l D cA base) := by
  intro M pc L st G r idx b ci N As fs v G1 hd hl hcell hcls hlen hcat hfr hlc hel h1 h2
  have hok := hl.1
  have hM := h1.met hok hel
  have hw := wd_good hok
  have m1 := h1.1
  have m2 := h1.2.1
  have m3 := h2.1
  have m4 := h2.2.1
  refine ⟨Nat.le_trans m1 m3, Nat.le_trans m2 m4, fun p e R s m args below meth cd mc ms Q S H locs cells slots ls Dn => ?_⟩
  have hR := S.2.2.2.2.2.2.2.2.2.2.2.1
  have hC := S.2.2.2.2.2.2.2.2.2.2.1
  have c1 := Dn.2.2.2.1
  have c2 := Dn.2.2.2.2
  dsimp only at m1 m2 m3 m4
  have room : cells + (G1.1 - G.1) ≤ R.cells ∧ slots + (G1.2.1 - G.2.1) ≤ R.slots := ⟨by omega, by omega⟩
  have rm2 : (rmN N (G1.1 - G.1) (G1.2.1 - G.2.1)).frames + 1 ≤ R.frames ∧ 8 + (mL N + 11) + (rmN N (G1.1 - G.1) (G1.2.1 - G.2.1)).locals ≤ R.locals := ⟨Nat.le_trans hfr hR.1, Nat.le_trans hlc hR.2⟩
  have fix : CallFix p m cd (mC M) (mL M) s args lw_g (mY M).cls := ⟨S.1, S.2.1, S.2.2.1, S.2.2.2.1, S.2.2.2.2.2.1⟩
  have hpre := PcN.at_ (vs := (.ref b :: As)) S Dn.2.1
  obtain ⟨q, hq⟩ : ∃ q : vw_C, vwCl[ci]? = some q := by
    cases hc : vwCl[ci]? with
    | none => rw [hc] at hcls; cases hcls
    | some q => exact ⟨q, rfl⟩
  have hqn : q.1 = (mY N).cls := by rw [hq] at hcls; simpa using hcls
  have hrecv := va_recv S.2.2.2.2.2.2.2.2.1 (vP1 (a := b) (e := .inr (ci, fs)) (Dn.2.1.2.2 _ _ hcell).1) hq (q0 := 0) rfl
  rw [hqn] at hrecv
  exact h2.after m1 m2 S Dn (va_runV (As := As) (rest := st) fix hM (cwV (mNp N) S.2.2.2.2.2.1 (lw_gIn (fun w hw' => by
    rcases List.mem_append.mp hw' with h | h
    · simp only [List.mem_cons, List.not_mem_nil, or_false] at h
      rcases h with rfl | rfl | rfl | rfl
      · exact ⟨hl.2.1, rfl⟩
      · exact ⟨hl.2.2.1, rfl⟩
      · exact ⟨hl.2.2.2, rfl⟩
      · exact ⟨hok.2.1, rfl⟩
    · exact hw w h)) rfl rfl rfl ⟨rfl, hok.2.2.2.1, hok.2.2.2.2.1, hok.2.2.2.2.2⟩ rm2) ⟨PcN.blind, hrecv, hpre⟩ rfl hlen Dn.1.1 rfl (lv_room hcat) hd room)
set_option maxHeartbeats 1000000 in
theorem sn_callS : Ru_callS (Sn l D cA base) := by
  intro M pc L st G r idx N As v G1 hd hl hlen hcat hfr hlc hel h1 h2
  have hok := hl.1
  have hM := h1.met hok hel
  have hw := wd_good hok
  have m1 := h1.1
  have m2 := h1.2.1
  have m3 := h2.1
  have m4 := h2.2.1
  refine ⟨Nat.le_trans m1 m3, Nat.le_trans m2 m4, fun p e R s m args below meth cd mc ms Q S H locs cells slots ls Dn => ?_⟩
  have hR := S.2.2.2.2.2.2.2.2.2.2.2.1
  have hC := S.2.2.2.2.2.2.2.2.2.2.1
  have c1 := Dn.2.2.2.1
  have c2 := Dn.2.2.2.2
  dsimp only at m1 m2 m3 m4
  have room : cells + (G1.1 - G.1) ≤ R.cells ∧ slots + (G1.2.1 - G.2.1) ≤ R.slots := ⟨by omega, by omega⟩
  have rm2 : (rmN N (G1.1 - G.1) (G1.2.1 - G.2.1)).frames + 1 ≤ R.frames ∧ 8 + (mL N + 11) + (rmN N (G1.1 - G.1) (G1.2.1 - G.2.1)).locals ≤ R.locals := ⟨Nat.le_trans hfr hR.1, Nat.le_trans hlc hR.2⟩
  have fix : CallFix p m cd (mC M) (mL M) s args lw_g (mY M).cls := ⟨S.1, S.2.1, S.2.2.1, S.2.2.2.1, S.2.2.2.2.2.1⟩
  have hpre := PcN.at_ (vs := As) S Dn.2.1
  exact h2.after m1 m2 S Dn (va_runS (As := As) (rest := st) fix hM ⟨callB_of (mNp N) S.2.2.2.2.2.1 (lw_gIn hw) rfl rfl rfl (S.tb hok.2.1 rfl) (S.tb hl.2.1 rfl) ⟨hok.2.2.2.1, hok.2.2.2.2.1, hok.2.2.2.2.2⟩ rm2, S.tb hl.2.2 rfl⟩ ⟨PcN.blind, hpre⟩ rfl hlen Dn.1.1 rfl (lv_room hcat) hd room)
set_option maxHeartbeats 1000000 in
theorem sn_callN : Ru_callN (Sn l D cA base) := by
  intro M pc L st G r idx N As v G1 hd hl hlen hcat hfr hlc hel h1 h2
  have hok := hl.1
  have hM := h1.met hok hel
  have hw := wd_good hok
  have m1 := h1.1
  have m2 := h1.2.1
  have m3 := h2.1
  have m4 := h2.2.1
  refine ⟨Nat.le_trans m1 m3, Nat.le_trans m2 m4, fun p e R s m args below meth cd mc ms Q S H locs cells slots ls Dn => ?_⟩
  have hR := S.2.2.2.2.2.2.2.2.2.2.2.1
  have hC := S.2.2.2.2.2.2.2.2.2.2.1
  have c1 := Dn.2.2.2.1
  have c2 := Dn.2.2.2.2
  dsimp only at m1 m2 m3 m4
  have room : cells + (G1.1 - G.1) ≤ R.cells ∧ slots + (G1.2.1 - G.2.1) ≤ R.slots := ⟨by omega, by omega⟩
  have rm2 : (rmN N (G1.1 - G.1) (G1.2.1 - G.2.1)).frames + 1 ≤ R.frames ∧ 8 + (mL N + 11) + (rmN N (G1.1 - G.1) (G1.2.1 - G.2.1)).locals ≤ R.locals := ⟨Nat.le_trans hfr hR.1, Nat.le_trans hlc hR.2⟩
  have fix : CallFix p m cd (mC M) (mL M) s args lw_g (mY M).cls := ⟨S.1, S.2.1, S.2.2.1, S.2.2.2.1, S.2.2.2.2.2.1⟩
  have hpre := PcN.at_ (vs := As) S Dn.2.1
  obtain ⟨host, hhost⟩ := hl.2.1
  have hnw := S.2.2.2.2.2.2.1 _ (List.mem_filter.mpr ⟨hhost, rfl⟩)
  exact h2.after m1 m2 S Dn (va_runSN (As := As) (rest := st) fix hM ⟨va_cnB (mNp N) S.2.2.2.2.2.1 (lw_gIn hw) rfl rfl rfl hnw (S.tb hok.2.1 rfl) ⟨hok.2.2.2.1, hok.2.2.2.2.1, hok.2.2.2.2.2⟩ rm2, S.tb hl.2.2 rfl, trivial⟩ ⟨PcN.blind, hpre⟩ rfl hlen Dn.1.1 rfl (lv_room hcat) hd room)
set_option maxHeartbeats 1000000 in
theorem sn_callI : Ru_callI (Sn l D cA base) := by
  intro M pc L st G r idx b N As v G1 hd hl hlen hcat hfr hlc hel h1 h2
  have hok := hl.1
  have hM := h1.met hok hel
  have hw := wd_good hok
  have m1 := h1.1
  have m2 := h1.2.1
  have m3 := h2.1
  have m4 := h2.2.1
  refine ⟨Nat.le_trans m1 m3, Nat.le_trans m2 m4, fun p e R s m args below meth cd mc ms Q S H locs cells slots ls Dn => ?_⟩
  have hR := S.2.2.2.2.2.2.2.2.2.2.2.1
  have hC := S.2.2.2.2.2.2.2.2.2.2.1
  have c1 := Dn.2.2.2.1
  have c2 := Dn.2.2.2.2
  dsimp only at m1 m2 m3 m4
  have room : cells + (G1.1 - G.1) ≤ R.cells ∧ slots + (G1.2.1 - G.2.1) ≤ R.slots := ⟨by omega, by omega⟩
  have rm2 : (rmN N (G1.1 - G.1) (G1.2.1 - G.2.1)).frames + 1 ≤ R.frames ∧ 8 + (mL N + 11) + (rmN N (G1.1 - G.1) (G1.2.1 - G.2.1)).locals ≤ R.locals := ⟨Nat.le_trans hfr hR.1, Nat.le_trans hlc hR.2⟩
  have fix : CallFix p m cd (mC M) (mL M) s args lw_g (mY M).cls := ⟨S.1, S.2.1, S.2.2.1, S.2.2.2.1, S.2.2.2.2.2.1⟩
  have hpre := PcN.at_ (vs := (.ref b :: As)) S Dn.2.1
  have hnone : mR N = none := hl.2.2.2.2
  exact h2.after m1 m2 S Dn (va_runI (As := As) (rest := st) fix hM ⟨callB_of (mNp N) S.2.2.2.2.2.1 (lw_gIn hw) (by unfold wd; rw [hnone]) rfl rfl (S.tb hok.2.1 rfl) (S.tb hl.2.1 rfl) ⟨hok.2.2.2.1, hok.2.2.2.2.1, hok.2.2.2.2.2⟩ rm2, hl.2.2.2.1, S.tb hl.2.2.1 rfl⟩ ⟨PcN.blind, hpre⟩ rfl hlen Dn.1.1 rfl (lv_room hcat) hd room)
theorem sn_iret : Ru_iret (Sn l D cA base) := by
  intro M pc L G v ty hd hr hn
  refine ⟨Nat.le_refl _, Nat.le_refl _, fun p e R s m args below meth cd mc ms Q S H locs cells slots ls Dn => ?_⟩
  have h1 := Dn.2.2.2.1
  have h2 := Dn.2.2.2.2
  exact W.widen (by omega) (by omega) (S.2.2.2.2.2.2.2.2.2.2.2.2 pc ls H locs Dn.2.1 Dn.2.2.1 (Or.inl ⟨v, ty, rfl, hd, hr, hn⟩))
theorem sn_lret : Ru_lret (Sn l D cA base) := by
  intro M pc L G v hd hr
  refine ⟨Nat.le_refl _, Nat.le_refl _, fun p e R s m args below meth cd mc ms Q S H locs cells slots ls Dn => ?_⟩
  have h1 := Dn.2.2.2.1
  have h2 := Dn.2.2.2.2
  exact W.widen (by omega) (by omega) (S.2.2.2.2.2.2.2.2.2.2.2.2 pc ls H locs Dn.2.1 Dn.2.2.1 (Or.inr (Or.inl ⟨v, rfl, hd, hr⟩)))
theorem sn_aret : Ru_aret (Sn l D cA base) := by
  intro M pc L G v rt hd hr hrt hx
  refine ⟨Nat.le_refl _, Nat.le_refl _, fun p e R s m args below meth cd mc ms Q S H locs cells slots ls Dn => ?_⟩
  have h1 := Dn.2.2.2.1
  have h2 := Dn.2.2.2.2
  exact W.widen (by omega) (by omega) (S.2.2.2.2.2.2.2.2.2.2.2.2 pc ls H locs Dn.2.1 Dn.2.2.1 (Or.inr (Or.inr (Or.inl ⟨v, rt, rfl, hd, hr, hrt, hx⟩))))
theorem sn_vret : Ru_vret (Sn l D cA base) := by
  intro M pc L G hd hr
  refine ⟨Nat.le_refl _, Nat.le_refl _, fun p e R s m args below meth cd mc ms Q S H locs cells slots ls Dn => ?_⟩
  have h1 := Dn.2.2.2.1
  have h2 := Dn.2.2.2.2
  exact W.widen (by omega) (by omega) (S.2.2.2.2.2.2.2.2.2.2.2.2 pc ls H locs Dn.2.1 Dn.2.2.1 (Or.inr (Or.inr (Or.inr ⟨rfl, hd, hr⟩))))
/-- the machine follows the pure one -/
theorem sn_closed : Closed (Sn l D cA base) := ⟨sn_iconst, sn_bipush, sn_sipush, sn_lconst, sn_null, sn_ldc, sn_ldc2, sn_iload_n, sn_iload, sn_lload_n, sn_lload, sn_aload_n, sn_aload, sn_istore_n, sn_istore, sn_lstore_n, sn_lstore, sn_astore_n, sn_astore, sn_iinc, sn_iadd, sn_isub, sn_imul, sn_iand, sn_ineg, sn_ladd, sn_lmul, sn_land, sn_lor, sn_lxor, sn_lrem, sn_i2l, sn_l2i, sn_lushr, sn_lshl, sn_lcmp, sn_dup, sn_pop, sn_dup2, sn_pop2, sn_if_eq, sn_if_ne, sn_if_lt, sn_if_ge, sn_if_gt, sn_if_le, sn_icmp_eq, sn_icmp_ne, sn_icmp_lt, sn_icmp_ge, sn_icmp_gt, sn_icmp_le, sn_goto, sn_ifnull_r, sn_ifnull_n, sn_ifnonnull_r, sn_ifnonnull_n, sn_tswOut, sn_tswIn, sn_get, sn_put, sn_putF, sn_iald, sn_zald, sn_lald, sn_aald, sn_iast, sn_zast, sn_last, sn_aast, sn_alen, sn_sld, sn_slen, sn_new, sn_newi, sn_newl, sn_newz, sn_anew, sn_copyi, sn_copyl, sn_mmax, sn_mmin, sn_objI, sn_callV, sn_callS, sn_callN, sn_callI, sn_iret, sn_lret, sn_aret, sn_vret⟩
theorem Ex.sn {M : MI} {pc : Nat} {L : PLoc} {st : List Value} {G : PH} {r : Rs} (h : Ex M pc L st G r) : Sn l D cA base M pc L st G r := h _ sn_closed
end SNC
end
