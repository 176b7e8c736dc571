section
-- ===== PART A: goes FIRST, ahead of the names: the tables' words, and 'selects' of the private methods out of them =====
/-- a private method of a class that the tables say can be made, by its rows of tables_1 -/
def lw_okq (q : MethodName × Nat) : Prop := (q.1.cls ≠ "java/lang/invoke/MethodHandle" ∧ q.1.cls ≠ "java/lang/invoke/VarHandle") ∧ Cond.instantiable q.1.cls q.2 ∈ tables_1 ∧ Cond.privateMethod q.1 ∈ tables_1 ∧ Cond.instanceMethod q.1 ∈ tables_1
theorem lw_p0 : lw_okq (⟨"LightInRoom", "refuse", "(I)I"⟩, 6) := ⟨⟨by decide +kernel, by decide +kernel⟩, List.mem_of_getElem? (i := 22) (by decide +kernel), List.mem_of_getElem? (i := 186) (by decide +kernel), List.mem_of_getElem? (i := 187) (by decide +kernel)⟩
theorem lw_p1 : lw_okq (⟨"LightInRoom$Tape", "readSize", "()Z"⟩, 9) := ⟨⟨by decide +kernel, by decide +kernel⟩, List.mem_of_getElem? (i := 30) (by decide +kernel), List.mem_of_getElem? (i := 207) (by decide +kernel), List.mem_of_getElem? (i := 208) (by decide +kernel)⟩
theorem lw_p2 : lw_okq (⟨"LightInRoom$Tape", "passes", "(C)Z"⟩, 9) := ⟨⟨by decide +kernel, by decide +kernel⟩, List.mem_of_getElem? (i := 30) (by decide +kernel), List.mem_of_getElem? (i := 211) (by decide +kernel), List.mem_of_getElem? (i := 212) (by decide +kernel)⟩
theorem lw_p3 : lw_okq (⟨"LightInRoom$Tape", "byteHere", "()I"⟩, 9) := ⟨⟨by decide +kernel, by decide +kernel⟩, List.mem_of_getElem? (i := 30) (by decide +kernel), List.mem_of_getElem? (i := 215) (by decide +kernel), List.mem_of_getElem? (i := 216) (by decide +kernel)⟩
theorem lw_p4 : lw_okq (⟨"LightInRoom$Tape", "readNumber", "(I)I"⟩, 9) := ⟨⟨by decide +kernel, by decide +kernel⟩, List.mem_of_getElem? (i := 30) (by decide +kernel), List.mem_of_getElem? (i := 219) (by decide +kernel), List.mem_of_getElem? (i := 220) (by decide +kernel)⟩
theorem lw_p5 : lw_okq (⟨"LightInRoom$Tape", "digitHere", "()Z"⟩, 9) := ⟨⟨by decide +kernel, by decide +kernel⟩, List.mem_of_getElem? (i := 30) (by decide +kernel), List.mem_of_getElem? (i := 223) (by decide +kernel), List.mem_of_getElem? (i := 224) (by decide +kernel)⟩
theorem lw_p6 : lw_okq (⟨"LightInRoom$Tape", "readSeconds", "()Z"⟩, 9) := ⟨⟨by decide +kernel, by decide +kernel⟩, List.mem_of_getElem? (i := 30) (by decide +kernel), List.mem_of_getElem? (i := 227) (by decide +kernel), List.mem_of_getElem? (i := 228) (by decide +kernel)⟩
theorem lw_p7 : lw_okq (⟨"LightInRoom$Tape", "readColour", "()Z"⟩, 9) := ⟨⟨by decide +kernel, by decide +kernel⟩, List.mem_of_getElem? (i := 30) (by decide +kernel), List.mem_of_getElem? (i := 231) (by decide +kernel), List.mem_of_getElem? (i := 232) (by decide +kernel)⟩
theorem lw_p8 : lw_okq (⟨"LightInRoom$Tape", "readMarks", "()Z"⟩, 9) := ⟨⟨by decide +kernel, by decide +kernel⟩, List.mem_of_getElem? (i := 30) (by decide +kernel), List.mem_of_getElem? (i := 235) (by decide +kernel), List.mem_of_getElem? (i := 236) (by decide +kernel)⟩
theorem lw_p9 : lw_okq (⟨"LightInRoom$Tape", "readYears", "()Z"⟩, 9) := ⟨⟨by decide +kernel, by decide +kernel⟩, List.mem_of_getElem? (i := 30) (by decide +kernel), List.mem_of_getElem? (i := 288) (by decide +kernel), List.mem_of_getElem? (i := 289) (by decide +kernel)⟩
theorem lw_p10 : lw_okq (⟨"LightInRoom$Tape", "readAsked", "()Z"⟩, 9) := ⟨⟨by decide +kernel, by decide +kernel⟩, List.mem_of_getElem? (i := 30) (by decide +kernel), List.mem_of_getElem? (i := 292) (by decide +kernel), List.mem_of_getElem? (i := 293) (by decide +kernel)⟩
theorem lw_p11 : lw_okq (⟨"LightInRoom$Room", "heldNumber", "(LLightInRoom$Telling;I)I"⟩, 11) := ⟨⟨by decide +kernel, by decide +kernel⟩, List.mem_of_getElem? (i := 73) (by decide +kernel), List.mem_of_getElem? (i := 549) (by decide +kernel), List.mem_of_getElem? (i := 550) (by decide +kernel)⟩
theorem lw_p12 : lw_okq (⟨"LightInRoom", "refuseAsTold", "(I)I"⟩, 6) := ⟨⟨by decide +kernel, by decide +kernel⟩, List.mem_of_getElem? (i := 22) (by decide +kernel), List.mem_of_getElem? (i := 563) (by decide +kernel), List.mem_of_getElem? (i := 564) (by decide +kernel)⟩
theorem lw_p13 : lw_okq (⟨"LightInRoom", "howManyFitOnly", "(II)I"⟩, 6) := ⟨⟨by decide +kernel, by decide +kernel⟩, List.mem_of_getElem? (i := 22) (by decide +kernel), List.mem_of_getElem? (i := 581) (by decide +kernel), List.mem_of_getElem? (i := 582) (by decide +kernel)⟩
theorem lw_p14 : lw_okq (⟨"LightInRoom", "noteLaws", "()V"⟩, 6) := ⟨⟨by decide +kernel, by decide +kernel⟩, List.mem_of_getElem? (i := 22) (by decide +kernel), List.mem_of_getElem? (i := 594) (by decide +kernel), List.mem_of_getElem? (i := 595) (by decide +kernel)⟩
theorem lw_p15 : lw_okq (⟨"LightInRoom", "coversAll", "(I)Z"⟩, 6) := ⟨⟨by decide +kernel, by decide +kernel⟩, List.mem_of_getElem? (i := 22) (by decide +kernel), List.mem_of_getElem? (i := 604) (by decide +kernel), List.mem_of_getElem? (i := 605) (by decide +kernel)⟩
def lw_privs_1 : List (MethodName × Nat) := [(⟨"LightInRoom", "refuse", "(I)I"⟩, 6), (⟨"LightInRoom$Tape", "readSize", "()Z"⟩, 9), (⟨"LightInRoom$Tape", "passes", "(C)Z"⟩, 9), (⟨"LightInRoom$Tape", "byteHere", "()I"⟩, 9), (⟨"LightInRoom$Tape", "readNumber", "(I)I"⟩, 9), (⟨"LightInRoom$Tape", "digitHere", "()Z"⟩, 9), (⟨"LightInRoom$Tape", "readSeconds", "()Z"⟩, 9), (⟨"LightInRoom$Tape", "readColour", "()Z"⟩, 9), (⟨"LightInRoom$Tape", "readMarks", "()Z"⟩, 9), (⟨"LightInRoom$Tape", "readYears", "()Z"⟩, 9), (⟨"LightInRoom$Tape", "readAsked", "()Z"⟩, 9), (⟨"LightInRoom$Room", "heldNumber", "(LLightInRoom$Telling;I)I"⟩, 11), (⟨"LightInRoom", "refuseAsTold", "(I)I"⟩, 6), (⟨"LightInRoom", "howManyFitOnly", "(II)I"⟩, 6), (⟨"LightInRoom", "noteLaws", "()V"⟩, 6), (⟨"LightInRoom", "coversAll", "(I)Z"⟩, 6)]
theorem lw_r1 : ∀ q ∈ lw_privs_1, lw_okq q := List.forall_mem_cons.mpr ⟨lw_p0, List.forall_mem_cons.mpr ⟨lw_p1, List.forall_mem_cons.mpr ⟨lw_p2, List.forall_mem_cons.mpr ⟨lw_p3, List.forall_mem_cons.mpr ⟨lw_p4, List.forall_mem_cons.mpr ⟨lw_p5, List.forall_mem_cons.mpr ⟨lw_p6, List.forall_mem_cons.mpr ⟨lw_p7, List.forall_mem_cons.mpr ⟨lw_p8, List.forall_mem_cons.mpr ⟨lw_p9, List.forall_mem_cons.mpr ⟨lw_p10, List.forall_mem_cons.mpr ⟨lw_p11, List.forall_mem_cons.mpr ⟨lw_p12, List.forall_mem_cons.mpr ⟨lw_p13, List.forall_mem_cons.mpr ⟨lw_p14, List.forall_mem_cons.mpr ⟨lw_p15, fun _ h => absurd h List.not_mem_nil⟩⟩⟩⟩⟩⟩⟩⟩⟩⟩⟩⟩⟩⟩⟩⟩
theorem lw_p16 : lw_okq (⟨"LightInRoom", "noteBroken", "(LLightInRoom$Law;)V"⟩, 6) := ⟨⟨by decide +kernel, by decide +kernel⟩, List.mem_of_getElem? (i := 22) (by decide +kernel), List.mem_of_getElem? (i := 612) (by decide +kernel), List.mem_of_getElem? (i := 613) (by decide +kernel)⟩
theorem lw_p17 : lw_okq (⟨"LightInRoom", "halfFitsWithout", "(I)Z"⟩, 6) := ⟨⟨by decide +kernel, by decide +kernel⟩, List.mem_of_getElem? (i := 22) (by decide +kernel), List.mem_of_getElem? (i := 616) (by decide +kernel), List.mem_of_getElem? (i := 617) (by decide +kernel)⟩
theorem lw_p18 : lw_okq (⟨"LightInRoom", "firstNotedLike", "(I)I"⟩, 6) := ⟨⟨by decide +kernel, by decide +kernel⟩, List.mem_of_getElem? (i := 22) (by decide +kernel), List.mem_of_getElem? (i := 624) (by decide +kernel), List.mem_of_getElem? (i := 625) (by decide +kernel)⟩
theorem lw_p19 : lw_okq (⟨"LightInRoom", "howManyNotedLike", "(I)I"⟩, 6) := ⟨⟨by decide +kernel, by decide +kernel⟩, List.mem_of_getElem? (i := 22) (by decide +kernel), List.mem_of_getElem? (i := 628) (by decide +kernel), List.mem_of_getElem? (i := 629) (by decide +kernel)⟩
theorem lw_p20 : lw_okq (⟨"LightInRoom", "refusalsCounted", "(I)I"⟩, 6) := ⟨⟨by decide +kernel, by decide +kernel⟩, List.mem_of_getElem? (i := 22) (by decide +kernel), List.mem_of_getElem? (i := 818) (by decide +kernel), List.mem_of_getElem? (i := 819) (by decide +kernel)⟩
theorem lw_p21 : lw_okq (⟨"LightInRoomModel", "refuse", "(I)I"⟩, 8) := ⟨⟨by decide +kernel, by decide +kernel⟩, List.mem_of_getElem? (i := 822) (by decide +kernel), List.mem_of_getElem? (i := 857) (by decide +kernel), List.mem_of_getElem? (i := 858) (by decide +kernel)⟩
theorem lw_p22 : lw_okq (⟨"LightInRoomModel", "reads", "()Z"⟩, 8) := ⟨⟨by decide +kernel, by decide +kernel⟩, List.mem_of_getElem? (i := 822) (by decide +kernel), List.mem_of_getElem? (i := 866) (by decide +kernel), List.mem_of_getElem? (i := 867) (by decide +kernel)⟩
theorem lw_p23 : lw_okq (⟨"LightInRoomModel", "takes", "(I)Z"⟩, 8) := ⟨⟨by decide +kernel, by decide +kernel⟩, List.mem_of_getElem? (i := 822) (by decide +kernel), List.mem_of_getElem? (i := 870) (by decide +kernel), List.mem_of_getElem? (i := 871) (by decide +kernel)⟩
theorem lw_p24 : lw_okq (⟨"LightInRoomModel", "sign", "()I"⟩, 8) := ⟨⟨by decide +kernel, by decide +kernel⟩, List.mem_of_getElem? (i := 822) (by decide +kernel), List.mem_of_getElem? (i := 874) (by decide +kernel), List.mem_of_getElem? (i := 875) (by decide +kernel)⟩
theorem lw_p25 : lw_okq (⟨"LightInRoomModel", "readsNumber", "(II)Z"⟩, 8) := ⟨⟨by decide +kernel, by decide +kernel⟩, List.mem_of_getElem? (i := 822) (by decide +kernel), List.mem_of_getElem? (i := 878) (by decide +kernel), List.mem_of_getElem? (i := 879) (by decide +kernel)⟩
theorem lw_p26 : lw_okq (⟨"LightInRoomModel", "isDigit", "()Z"⟩, 8) := ⟨⟨by decide +kernel, by decide +kernel⟩, List.mem_of_getElem? (i := 822) (by decide +kernel), List.mem_of_getElem? (i := 882) (by decide +kernel), List.mem_of_getElem? (i := 883) (by decide +kernel)⟩
theorem lw_p27 : lw_okq (⟨"LightInRoomModel", "isTelling", "(I)Z"⟩, 8) := ⟨⟨by decide +kernel, by decide +kernel⟩, List.mem_of_getElem? (i := 822) (by decide +kernel), List.mem_of_getElem? (i := 893) (by decide +kernel), List.mem_of_getElem? (i := 894) (by decide +kernel)⟩
theorem lw_p28 : lw_okq (⟨"LightInRoomModel", "get", "(II)I"⟩, 8) := ⟨⟨by decide +kernel, by decide +kernel⟩, List.mem_of_getElem? (i := 822) (by decide +kernel), List.mem_of_getElem? (i := 900) (by decide +kernel), List.mem_of_getElem? (i := 901) (by decide +kernel)⟩
theorem lw_p29 : lw_okq (⟨"LightInRoomModel", "kindOf", "(I)I"⟩, 8) := ⟨⟨by decide +kernel, by decide +kernel⟩, List.mem_of_getElem? (i := 822) (by decide +kernel), List.mem_of_getElem? (i := 908) (by decide +kernel), List.mem_of_getElem? (i := 909) (by decide +kernel)⟩
theorem lw_p30 : lw_okq (⟨"LightInRoomModel", "isMarked", "(II)Z"⟩, 8) := ⟨⟨by decide +kernel, by decide +kernel⟩, List.mem_of_getElem? (i := 822) (by decide +kernel), List.mem_of_getElem? (i := 912) (by decide +kernel), List.mem_of_getElem? (i := 913) (by decide +kernel)⟩
theorem lw_p31 : lw_okq (⟨"LightInRoomModel", "weightOf", "(I)I"⟩, 8) := ⟨⟨by decide +kernel, by decide +kernel⟩, List.mem_of_getElem? (i := 822) (by decide +kernel), List.mem_of_getElem? (i := 920) (by decide +kernel), List.mem_of_getElem? (i := 921) (by decide +kernel)⟩
def lw_privs_2 : List (MethodName × Nat) := [(⟨"LightInRoom", "noteBroken", "(LLightInRoom$Law;)V"⟩, 6), (⟨"LightInRoom", "halfFitsWithout", "(I)Z"⟩, 6), (⟨"LightInRoom", "firstNotedLike", "(I)I"⟩, 6), (⟨"LightInRoom", "howManyNotedLike", "(I)I"⟩, 6), (⟨"LightInRoom", "refusalsCounted", "(I)I"⟩, 6), (⟨"LightInRoomModel", "refuse", "(I)I"⟩, 8), (⟨"LightInRoomModel", "reads", "()Z"⟩, 8), (⟨"LightInRoomModel", "takes", "(I)Z"⟩, 8), (⟨"LightInRoomModel", "sign", "()I"⟩, 8), (⟨"LightInRoomModel", "readsNumber", "(II)Z"⟩, 8), (⟨"LightInRoomModel", "isDigit", "()Z"⟩, 8), (⟨"LightInRoomModel", "isTelling", "(I)Z"⟩, 8), (⟨"LightInRoomModel", "get", "(II)I"⟩, 8), (⟨"LightInRoomModel", "kindOf", "(I)I"⟩, 8), (⟨"LightInRoomModel", "isMarked", "(II)Z"⟩, 8), (⟨"LightInRoomModel", "weightOf", "(I)I"⟩, 8)]
theorem lw_r2 : ∀ q ∈ lw_privs_2, lw_okq q := List.forall_mem_cons.mpr ⟨lw_p16, List.forall_mem_cons.mpr ⟨lw_p17, List.forall_mem_cons.mpr ⟨lw_p18, List.forall_mem_cons.mpr ⟨lw_p19, List.forall_mem_cons.mpr ⟨lw_p20, List.forall_mem_cons.mpr ⟨lw_p21, List.forall_mem_cons.mpr ⟨lw_p22, List.forall_mem_cons.mpr ⟨lw_p23, List.forall_mem_cons.mpr ⟨lw_p24, List.forall_mem_cons.mpr ⟨lw_p25, List.forall_mem_cons.mpr ⟨lw_p26, List.forall_mem_cons.mpr ⟨lw_p27, List.forall_mem_cons.mpr ⟨lw_p28, List.forall_mem_cons.mpr ⟨lw_p29, List.forall_mem_cons.mpr ⟨lw_p30, List.forall_mem_cons.mpr ⟨lw_p31, fun _ h => absurd h List.not_mem_nil⟩⟩⟩⟩⟩⟩⟩⟩⟩⟩⟩⟩⟩⟩⟩⟩
theorem lw_p32 : lw_okq (⟨"LightInRoomModel", "becomes", "(II)I"⟩, 8) := ⟨⟨by decide +kernel, by decide +kernel⟩, List.mem_of_getElem? (i := 822) (by decide +kernel), List.mem_of_getElem? (i := 934) (by decide +kernel), List.mem_of_getElem? (i := 935) (by decide +kernel)⟩
theorem lw_p33 : lw_okq (⟨"LightInRoomModel", "rightOf", "(II)I"⟩, 8) := ⟨⟨by decide +kernel, by decide +kernel⟩, List.mem_of_getElem? (i := 822) (by decide +kernel), List.mem_of_getElem? (i := 950) (by decide +kernel), List.mem_of_getElem? (i := 951) (by decide +kernel)⟩
theorem lw_p34 : lw_okq (⟨"LightInRoomModel", "isFit", "(III)Z"⟩, 8) := ⟨⟨by decide +kernel, by decide +kernel⟩, List.mem_of_getElem? (i := 822) (by decide +kernel), List.mem_of_getElem? (i := 958) (by decide +kernel), List.mem_of_getElem? (i := 959) (by decide +kernel)⟩
theorem lw_p35 : lw_okq (⟨"LightInRoomModel", "meets", "(III)Z"⟩, 8) := ⟨⟨by decide +kernel, by decide +kernel⟩, List.mem_of_getElem? (i := 822) (by decide +kernel), List.mem_of_getElem? (i := 962) (by decide +kernel), List.mem_of_getElem? (i := 963) (by decide +kernel)⟩
theorem lw_p36 : lw_okq (⟨"LightInRoomModel", "lawsOf", "(I)I"⟩, 8) := ⟨⟨by decide +kernel, by decide +kernel⟩, List.mem_of_getElem? (i := 822) (by decide +kernel), List.mem_of_getElem? (i := 981) (by decide +kernel), List.mem_of_getElem? (i := 982) (by decide +kernel)⟩
theorem lw_p37 : lw_okq (⟨"LightInRoomModel", "isCover", "(I)Z"⟩, 8) := ⟨⟨by decide +kernel, by decide +kernel⟩, List.mem_of_getElem? (i := 822) (by decide +kernel), List.mem_of_getElem? (i := 992) (by decide +kernel), List.mem_of_getElem? (i := 993) (by decide +kernel)⟩
theorem lw_p38 : lw_okq (⟨"LightInRoomModel", "shouldOf", "(I)I"⟩, 8) := ⟨⟨by decide +kernel, by decide +kernel⟩, List.mem_of_getElem? (i := 822) (by decide +kernel), List.mem_of_getElem? (i := 1036) (by decide +kernel), List.mem_of_getElem? (i := 1037) (by decide +kernel)⟩
theorem lw_p39 : lw_okq (⟨"LightInRoomModel", "seenOf", "(I)I"⟩, 8) := ⟨⟨by decide +kernel, by decide +kernel⟩, List.mem_of_getElem? (i := 822) (by decide +kernel), List.mem_of_getElem? (i := 1044) (by decide +kernel), List.mem_of_getElem? (i := 1045) (by decide +kernel)⟩
theorem lw_p40 : lw_okq (⟨"LightInRoomModel", "hasLine", "(II)Z"⟩, 8) := ⟨⟨by decide +kernel, by decide +kernel⟩, List.mem_of_getElem? (i := 822) (by decide +kernel), List.mem_of_getElem? (i := 1068) (by decide +kernel), List.mem_of_getElem? (i := 1069) (by decide +kernel)⟩
def lw_privs_3 : List (MethodName × Nat) := [(⟨"LightInRoomModel", "becomes", "(II)I"⟩, 8), (⟨"LightInRoomModel", "rightOf", "(II)I"⟩, 8), (⟨"LightInRoomModel", "isFit", "(III)Z"⟩, 8), (⟨"LightInRoomModel", "meets", "(III)Z"⟩, 8), (⟨"LightInRoomModel", "lawsOf", "(I)I"⟩, 8), (⟨"LightInRoomModel", "isCover", "(I)Z"⟩, 8), (⟨"LightInRoomModel", "shouldOf", "(I)I"⟩, 8), (⟨"LightInRoomModel", "seenOf", "(I)I"⟩, 8), (⟨"LightInRoomModel", "hasLine", "(II)Z"⟩, 8)]
theorem lw_r3 : ∀ q ∈ lw_privs_3, lw_okq q := List.forall_mem_cons.mpr ⟨lw_p32, List.forall_mem_cons.mpr ⟨lw_p33, List.forall_mem_cons.mpr ⟨lw_p34, List.forall_mem_cons.mpr ⟨lw_p35, List.forall_mem_cons.mpr ⟨lw_p36, List.forall_mem_cons.mpr ⟨lw_p37, List.forall_mem_cons.mpr ⟨lw_p38, List.forall_mem_cons.mpr ⟨lw_p39, List.forall_mem_cons.mpr ⟨lw_p40, fun _ h => absurd h List.not_mem_nil⟩⟩⟩⟩⟩⟩⟩⟩⟩
def lw_privs : List (MethodName × Nat) := lw_privs_1 ++ (lw_privs_2 ++ (lw_privs_3))
def lw_tbl : List Cond := k2_sels lw_privs ++ tables_1
theorem lw_privs_ok : ∀ q ∈ lw_privs, lw_okq q := by
  show ∀ q ∈ lw_privs_1 ++ (lw_privs_2 ++ (lw_privs_3)), lw_okq q
  exact List.forall_mem_append.mpr ⟨lw_r1, List.forall_mem_append.mpr ⟨lw_r2, lw_r3⟩⟩
end
section
def zF_Ben : u_T := fun k => match k with
  | 0 => ("LightInRoom$Bench", "size", "I", false)
  | 1 => ("LightInRoom$Bench", "seconds", "I", false)
  | 2 => ("LightInRoom$Bench", "colour", "I", false)
  | _ => ("LightInRoom$Bench", "marks", "I", false)
def zt_Ben : Nat → FieldType := fun k => match k with
  | 0 => .int
  | 1 => .int
  | 2 => .int
  | _ => .int
theorem zn_Ben : ∀ a, a < 4 → ∀ b, b < 4 → a ≠ b → (zF_Ben a).2.1 ≠ (zF_Ben b).2.1 := by decide +kernel
theorem zy_Ben : ∀ k, k < 4 → parseFieldDescriptor (zF_Ben k).2.2.1 = some (zt_Ben k) := by decide +kernel
def zF_Cal : u_T := fun k => match k with
  | 0 => ("LightInRoom$Telling", "size", "I", true)
  | 1 => ("LightInRoom$Telling", "seconds", "I", true)
  | 2 => ("LightInRoom$Telling", "colour", "I", true)
  | 3 => ("LightInRoom$Telling", "marks", "I", true)
  | 4 => ("LightInRoom$Telling", "years", "I", true)
  | _ => ("LightInRoom$Telling", "asked", "Z", true)
def zt_Cal : Nat → FieldType := fun k => match k with
  | 0 => .int
  | 1 => .int
  | 2 => .int
  | 3 => .int
  | 4 => .int
  | _ => .boolean
theorem zn_Cal : ∀ a, a < 6 → ∀ b, b < 6 → a ≠ b → (zF_Cal a).2.1 ≠ (zF_Cal b).2.1 := by decide +kernel
theorem zy_Cal : ∀ k, k < 6 → parseFieldDescriptor (zF_Cal k).2.2.1 = some (zt_Cal k) := by decide +kernel
def zF_Eye : u_T := fun k => match k with
  | 0 => ("LightInRoom$Telling", "size", "I", true)
  | 1 => ("LightInRoom$Telling", "seconds", "I", true)
  | 2 => ("LightInRoom$Telling", "colour", "I", true)
  | 3 => ("LightInRoom$Telling", "marks", "I", true)
  | 4 => ("LightInRoom$Telling", "years", "I", true)
  | _ => ("LightInRoom$Telling", "asked", "Z", true)
def zt_Eye : Nat → FieldType := fun k => match k with
  | 0 => .int
  | 1 => .int
  | 2 => .int
  | 3 => .int
  | 4 => .int
  | _ => .boolean
theorem zn_Eye : ∀ a, a < 6 → ∀ b, b < 6 → a ≠ b → (zF_Eye a).2.1 ≠ (zF_Eye b).2.1 := by decide +kernel
theorem zy_Eye : ∀ k, k < 6 → parseFieldDescriptor (zF_Eye k).2.2.1 = some (zt_Eye k) := by decide +kernel
def zF_Gro : u_T := fun k => match k with
  | 0 => ("LightInRoom$Telling", "size", "I", true)
  | 1 => ("LightInRoom$Telling", "seconds", "I", true)
  | 2 => ("LightInRoom$Telling", "colour", "I", true)
  | 3 => ("LightInRoom$Telling", "marks", "I", true)
  | 4 => ("LightInRoom$Telling", "years", "I", true)
  | _ => ("LightInRoom$Telling", "asked", "Z", true)
def zt_Gro : Nat → FieldType := fun k => match k with
  | 0 => .int
  | 1 => .int
  | 2 => .int
  | 3 => .int
  | 4 => .int
  | _ => .boolean
theorem zn_Gro : ∀ a, a < 6 → ∀ b, b < 6 → a ≠ b → (zF_Gro a).2.1 ≠ (zF_Gro b).2.1 := by decide +kernel
theorem zy_Gro : ∀ k, k < 6 → parseFieldDescriptor (zF_Gro k).2.2.1 = some (zt_Gro k) := by decide +kernel
def zF_Law : u_T := fun k => match k with
  | 0 => ("LightInRoom$Law", "conditions", "[I", true)
  | _ => ("LightInRoom$Law", "ringsReached", "I", false)
def zt_Law : Nat → FieldType := fun k => match k with
  | 0 => .array .int
  | _ => .int
theorem zn_Law : ∀ a, a < 2 → ∀ b, b < 2 → a ≠ b → (zF_Law a).2.1 ≠ (zF_Law b).2.1 := by decide +kernel
theorem zy_Law : ∀ k, k < 2 → parseFieldDescriptor (zF_Law k).2.2.1 = some (zt_Law k) := by decide +kernel
def zF_Nea : u_T := fun k => match k with
  | 0 => ("LightInRoom$Telling", "size", "I", true)
  | 1 => ("LightInRoom$Telling", "seconds", "I", true)
  | 2 => ("LightInRoom$Telling", "colour", "I", true)
  | 3 => ("LightInRoom$Telling", "marks", "I", true)
  | 4 => ("LightInRoom$Telling", "years", "I", true)
  | _ => ("LightInRoom$Telling", "asked", "Z", true)
def zt_Nea : Nat → FieldType := fun k => match k with
  | 0 => .int
  | 1 => .int
  | 2 => .int
  | 3 => .int
  | 4 => .int
  | _ => .boolean
theorem zn_Nea : ∀ a, a < 6 → ∀ b, b < 6 → a ≠ b → (zF_Nea a).2.1 ≠ (zF_Nea b).2.1 := by decide +kernel
theorem zy_Nea : ∀ k, k < 6 → parseFieldDescriptor (zF_Nea k).2.2.1 = some (zt_Nea k) := by decide +kernel
def zF_Roo : u_T := fun k => match k with
  | 0 => ("LightInRoom$Room", "tellings", "[LLightInRoom$Telling;", true)
  | 1 => ("LightInRoom$Room", "laws", "[LLightInRoom$Law;", true)
  | 2 => ("LightInRoom$Room", "pairFirsts", "[LLightInRoom$Telling;", true)
  | 3 => ("LightInRoom$Room", "pairSeconds", "[LLightInRoom$Telling;", true)
  | 4 => ("LightInRoom$Room", "growths", "[I", true)
  | 5 => ("LightInRoom$Room", "ringPeople", "[I", true)
  | 6 => ("LightInRoom$Room", "benchMade", "LLightInRoom$Bench;", true)
  | 7 => ("LightInRoom$Room", "tellingCount", "I", false)
  | 8 => ("LightInRoom$Room", "pairCount", "I", false)
  | 9 => ("LightInRoom$Room", "strokeCount", "I", false)
  | _ => ("LightInRoom$Room", "putsRight", "Z", false)
def zt_Roo : Nat → FieldType := fun k => match k with
  | 0 => .array (.object "LightInRoom$Telling")
  | 1 => .array (.object "LightInRoom$Law")
  | 2 => .array (.object "LightInRoom$Telling")
  | 3 => .array (.object "LightInRoom$Telling")
  | 4 => .array .int
  | 5 => .array .int
  | 6 => .object "LightInRoom$Bench"
  | 7 => .int
  | 8 => .int
  | 9 => .int
  | _ => .boolean
theorem zn_Roo : ∀ a, a < 11 → ∀ b, b < 11 → a ≠ b → (zF_Roo a).2.1 ≠ (zF_Roo b).2.1 := by decide +kernel
theorem zy_Roo : ∀ k, k < 11 → parseFieldDescriptor (zF_Roo k).2.2.1 = some (zt_Roo k) := by decide +kernel
def zF_Tap : u_T := fun k => match k with
  | 0 => ("LightInRoom$Tape", "bytes", "[I", true)
  | 1 => ("LightInRoom$Tape", "length", "I", false)
  | 2 => ("LightInRoom$Tape", "place", "I", false)
  | 3 => ("LightInRoom$Tape", "size", "I", false)
  | 4 => ("LightInRoom$Tape", "seconds", "I", false)
  | 5 => ("LightInRoom$Tape", "colour", "I", false)
  | 6 => ("LightInRoom$Tape", "marks", "I", false)
  | 7 => ("LightInRoom$Tape", "years", "I", false)
  | _ => ("LightInRoom$Tape", "asked", "Z", false)
def zt_Tap : Nat → FieldType := fun k => match k with
  | 0 => .array .int
  | 1 => .int
  | 2 => .int
  | 3 => .int
  | 4 => .int
  | 5 => .int
  | 6 => .int
  | 7 => .int
  | _ => .boolean
theorem zn_Tap : ∀ a, a < 9 → ∀ b, b < 9 → a ≠ b → (zF_Tap a).2.1 ≠ (zF_Tap b).2.1 := by decide +kernel
theorem zy_Tap : ∀ k, k < 9 → parseFieldDescriptor (zF_Tap k).2.2.1 = some (zt_Tap k) := by decide +kernel
def zF_Thr : u_T := fun k => match k with
  | 0 => ("LightInRoom$Telling", "size", "I", true)
  | 1 => ("LightInRoom$Telling", "seconds", "I", true)
  | 2 => ("LightInRoom$Telling", "colour", "I", true)
  | 3 => ("LightInRoom$Telling", "marks", "I", true)
  | 4 => ("LightInRoom$Telling", "years", "I", true)
  | _ => ("LightInRoom$Telling", "asked", "Z", true)
def zt_Thr : Nat → FieldType := fun k => match k with
  | 0 => .int
  | 1 => .int
  | 2 => .int
  | 3 => .int
  | 4 => .int
  | _ => .boolean
theorem zn_Thr : ∀ a, a < 6 → ∀ b, b < 6 → a ≠ b → (zF_Thr a).2.1 ≠ (zF_Thr b).2.1 := by decide +kernel
theorem zy_Thr : ∀ k, k < 6 → parseFieldDescriptor (zF_Thr k).2.2.1 = some (zt_Thr k) := by decide +kernel
def zF_Wit : u_T := fun k => match k with
  | 0 => ("LightInRoom$Telling", "size", "I", true)
  | 1 => ("LightInRoom$Telling", "seconds", "I", true)
  | 2 => ("LightInRoom$Telling", "colour", "I", true)
  | 3 => ("LightInRoom$Telling", "marks", "I", true)
  | 4 => ("LightInRoom$Telling", "years", "I", true)
  | _ => ("LightInRoom$Telling", "asked", "Z", true)
def zt_Wit : Nat → FieldType := fun k => match k with
  | 0 => .int
  | 1 => .int
  | 2 => .int
  | 3 => .int
  | 4 => .int
  | _ => .boolean
theorem zn_Wit : ∀ a, a < 6 → ∀ b, b < 6 → a ≠ b → (zF_Wit a).2.1 ≠ (zF_Wit b).2.1 := by decide +kernel
theorem zy_Wit : ∀ k, k < 6 → parseFieldDescriptor (zF_Wit k).2.2.1 = some (zt_Wit k) := by decide +kernel
def zF_Lir : u_T := fun k => match k with
  | 0 => ("LightInRoom", "tape", "LLightInRoom$Tape;", true)
  | 1 => ("LightInRoom", "now", "LLightInRoom$Room;", true)
  | 2 => ("LightInRoom", "then", "LLightInRoom$Room;", true)
  | 3 => ("LightInRoom", "refusals", "[I", true)
  | 4 => ("LightInRoom", "notes", "[I", true)
  | _ => ("LightInRoom", "taken", "Z", false)
def zt_Lir : Nat → FieldType := fun k => match k with
  | 0 => .object "LightInRoom$Tape"
  | 1 => .object "LightInRoom$Room"
  | 2 => .object "LightInRoom$Room"
  | 3 => .array .int
  | 4 => .array .int
  | _ => .boolean
theorem zn_Lir : ∀ a, a < 6 → ∀ b, b < 6 → a ≠ b → (zF_Lir a).2.1 ≠ (zF_Lir b).2.1 := by decide +kernel
theorem zy_Lir : ∀ k, k < 6 → parseFieldDescriptor (zF_Lir k).2.2.1 = some (zt_Lir k) := by decide +kernel
def zF_Mod : u_T := fun k => match k with
  | 0 => ("LightInRoomModel", "refusals", "[I", true)
  | 1 => ("LightInRoomModel", "s", "[I", true)
  | 2 => ("LightInRoomModel", "image", "[I", true)
  | 3 => ("LightInRoomModel", "isImage", "Z", false)
  | 4 => ("LightInRoomModel", "tape", "[I", true)
  | 5 => ("LightInRoomModel", "read", "[I", true)
  | 6 => ("LightInRoomModel", "taped", "I", false)
  | _ => ("LightInRoomModel", "at", "I", false)
def zt_Mod : Nat → FieldType := fun k => match k with
  | 0 => .array .int
  | 1 => .array .int
  | 2 => .array .int
  | 3 => .boolean
  | 4 => .array .int
  | 5 => .array .int
  | 6 => .int
  | _ => .int
theorem zn_Mod : ∀ a, a < 8 → ∀ b, b < 8 → a ≠ b → (zF_Mod a).2.1 ≠ (zF_Mod b).2.1 := by decide +kernel
theorem zy_Mod : ∀ k, k < 8 → parseFieldDescriptor (zF_Mod k).2.2.1 = some (zt_Mod k) := by decide +kernel
/-- the classes whose objects the heap holds, by number -/
abbrev zCl : List vw_C := [("LightInRoom$Bench", zF_Ben, 4), ("LightInRoom$Called", zF_Cal, 6), ("LightInRoom$Eye", zF_Eye, 6), ("LightInRoom$Grown", zF_Gro, 6), ("LightInRoom$Law", zF_Law, 2), ("LightInRoom$Near", zF_Nea, 6), ("LightInRoom$Room", zF_Roo, 11), ("LightInRoom$Tape", zF_Tap, 9), ("LightInRoom$Through", zF_Thr, 6), ("LightInRoom$Without", zF_Wit, 6), ("LightInRoom", zF_Lir, 6), ("LightInRoomModel", zF_Mod, 8)]
abbrev m_Lir_init : MethodName × ByteArray × Nat × Option FieldType := (⟨"LightInRoom", "<init>", "()V"⟩, prog_1_method_1_code, 1, none)
abbrev m_Tap_init : MethodName × ByteArray × Nat × Option FieldType := (⟨"LightInRoom$Tape", "<init>", "()V"⟩, prog_9_method_1_code, 1, none)
abbrev m_Roo_init : MethodName × ByteArray × Nat × Option FieldType := (⟨"LightInRoom$Room", "<init>", "()V"⟩, prog_8_method_1_code, 2, none)
abbrev m_Law_init : MethodName × ByteArray × Nat × Option FieldType := (⟨"LightInRoom$Law", "<init>", "()V"⟩, prog_6_method_1_code, 1, none)
abbrev m_Ben_init : MethodName × ByteArray × Nat × Option FieldType := (⟨"LightInRoom$Bench", "<init>", "()V"⟩, prog_2_method_1_code, 1, none)
abbrev m_Lir_feed : MethodName × ByteArray × Nat × Option FieldType := (⟨"LightInRoom", "feed", "(IJ)I"⟩, prog_1_method_2_code, 4, some .int)
abbrev m_Lir_refuse : MethodName × ByteArray × Nat × Option FieldType := (⟨"LightInRoom", "refuse", "(I)I"⟩, prog_1_method_37_code, 3, some .int)
abbrev m_Tap_roomLeft : MethodName × ByteArray × Nat × Option FieldType := (⟨"LightInRoom$Tape", "roomLeft", "()I"⟩, prog_9_method_2_code, 1, some .int)
abbrev m_Tap_add : MethodName × ByteArray × Nat × Option FieldType := (⟨"LightInRoom$Tape", "add", "(IJ)V"⟩, prog_9_method_3_code, 5, none)
abbrev m_Lir_telling : MethodName × ByteArray × Nat × Option FieldType := (⟨"LightInRoom", "telling", "()I"⟩, prog_1_method_3_code, 2, some .int)
abbrev m_Tap_read : MethodName × ByteArray × Nat × Option FieldType := (⟨"LightInRoom$Tape", "read", "()Z"⟩, prog_9_method_5_code, 1, some .boolean)
abbrev m_Tap_readSize : MethodName × ByteArray × Nat × Option FieldType := (⟨"LightInRoom$Tape", "readSize", "()Z"⟩, prog_9_method_11_code, 1, some .boolean)
abbrev m_Tap_passes : MethodName × ByteArray × Nat × Option FieldType := (⟨"LightInRoom$Tape", "passes", "(C)Z"⟩, prog_9_method_8_code, 2, some .boolean)
abbrev m_Tap_byteHere : MethodName × ByteArray × Nat × Option FieldType := (⟨"LightInRoom$Tape", "byteHere", "()I"⟩, prog_9_method_7_code, 1, some .int)
abbrev m_Tap_readNumber : MethodName × ByteArray × Nat × Option FieldType := (⟨"LightInRoom$Tape", "readNumber", "(I)I"⟩, prog_9_method_10_code, 4, some .int)
abbrev m_Tap_digitHere : MethodName × ByteArray × Nat × Option FieldType := (⟨"LightInRoom$Tape", "digitHere", "()Z"⟩, prog_9_method_9_code, 1, some .boolean)
abbrev m_Tap_readSeconds : MethodName × ByteArray × Nat × Option FieldType := (⟨"LightInRoom$Tape", "readSeconds", "()Z"⟩, prog_9_method_12_code, 1, some .boolean)
abbrev m_Tap_readColour : MethodName × ByteArray × Nat × Option FieldType := (⟨"LightInRoom$Tape", "readColour", "()Z"⟩, prog_9_method_13_code, 1, some .boolean)
abbrev m_Tap_readMarks : MethodName × ByteArray × Nat × Option FieldType := (⟨"LightInRoom$Tape", "readMarks", "()Z"⟩, prog_9_method_14_code, 2, some .boolean)
abbrev m_Str_length : MethodName × ByteArray × Nat × Option FieldType := (⟨"java/lang/String", "length", "()I"⟩, prog_17_method_54_code, 1, some .int)
abbrev m_Str_coder : MethodName × ByteArray × Nat × Option FieldType := (⟨"java/lang/String", "coder", "()B"⟩, prog_17_method_152_code, 1, some .byte)
abbrev m_Str_charAt : MethodName × ByteArray × Nat × Option FieldType := (⟨"java/lang/String", "charAt", "(I)C"⟩, prog_17_method_56_code, 2, some .char)
abbrev m_Str_isLatin1 : MethodName × ByteArray × Nat × Option FieldType := (⟨"java/lang/String", "isLatin1", "()Z"⟩, prog_17_method_154_code, 1, some .boolean)
abbrev m_SLa_charAt : MethodName × ByteArray × Nat × Option FieldType := (⟨"java/lang/StringLatin1", "charAt", "([BI)C"⟩, prog_18_method_2_code, 2, some .char)
abbrev m_Str_checkIndex : MethodName × ByteArray × Nat × Option FieldType := (⟨"java/lang/String", "checkIndex", "(II)V"⟩, prog_17_method_155_code, 2, none)
abbrev m_Pre_checkIndex : MethodName × ByteArray × Nat × Option FieldType := (⟨"jdk/internal/util/Preconditions", "checkIndex", "(IILjava/util/function/BiFunction;)I"⟩, prog_21_method_11_code, 3, some .int)
abbrev m_SUt_charAt : MethodName × ByteArray × Nat × Option FieldType := (⟨"java/lang/StringUTF16", "charAt", "([BI)C"⟩, prog_19_method_83_code, 2, some .char)
abbrev m_SUt_checkIndex : MethodName × ByteArray × Nat × Option FieldType := (⟨"java/lang/StringUTF16", "checkIndex", "(I[B)V"⟩, prog_19_method_91_code, 2, none)
abbrev m_SUt_length : MethodName × ByteArray × Nat × Option FieldType := (⟨"java/lang/StringUTF16", "length", "([B)I"⟩, prog_19_method_6_code, 1, some .int)
abbrev m_SUt_getChar : MethodName × ByteArray × Nat × Option FieldType := (⟨"java/lang/StringUTF16", "getChar", "([BI)C"⟩, prog_19_method_5_code, 2, some .char)
abbrev m_Tap_readYears : MethodName × ByteArray × Nat × Option FieldType := (⟨"LightInRoom$Tape", "readYears", "()Z"⟩, prog_9_method_15_code, 1, some .boolean)
abbrev m_Tap_readAsked : MethodName × ByteArray × Nat × Option FieldType := (⟨"LightInRoom$Tape", "readAsked", "()Z"⟩, prog_9_method_16_code, 1, some .boolean)
abbrev m_Tap_clear : MethodName × ByteArray × Nat × Option FieldType := (⟨"LightInRoom$Tape", "clear", "()V"⟩, prog_9_method_4_code, 1, none)
abbrev m_Tap_newTelling : MethodName × ByteArray × Nat × Option FieldType := (⟨"LightInRoom$Tape", "newTelling", "()LLightInRoom$Telling;"⟩, prog_9_method_6_code, 1, some (.object "LightInRoom$Telling"))
abbrev m_Cal_init : MethodName × ByteArray × Nat × Option FieldType := (⟨"LightInRoom$Called", "<init>", "(LLightInRoom$Tape;)V"⟩, prog_3_method_1_code, 2, none)
abbrev m_Tel_init : MethodName × ByteArray × Nat × Option FieldType := (⟨"LightInRoom$Telling", "<init>", "(LLightInRoom$Tape;)V"⟩, prog_10_method_1_code, 2, none)
abbrev m_Lir_hasBit : MethodName × ByteArray × Nat × Option FieldType := (⟨"LightInRoom", "hasBit", "(II)Z"⟩, prog_1_method_44_code, 2, some .boolean)
abbrev m_Eye_init : MethodName × ByteArray × Nat × Option FieldType := (⟨"LightInRoom$Eye", "<init>", "(LLightInRoom$Tape;)V"⟩, prog_4_method_1_code, 2, none)
abbrev m_Thr_init : MethodName × ByteArray × Nat × Option FieldType := (⟨"LightInRoom$Through", "<init>", "(LLightInRoom$Tape;)V"⟩, prog_11_method_1_code, 2, none)
abbrev m_Nea_init : MethodName × ByteArray × Nat × Option FieldType := (⟨"LightInRoom$Near", "<init>", "(LLightInRoom$Tape;)V"⟩, prog_7_method_1_code, 2, none)
abbrev m_Gro_init : MethodName × ByteArray × Nat × Option FieldType := (⟨"LightInRoom$Grown", "<init>", "(LLightInRoom$Tape;)V"⟩, prog_5_method_1_code, 2, none)
abbrev m_Wit_init : MethodName × ByteArray × Nat × Option FieldType := (⟨"LightInRoom$Without", "<init>", "(LLightInRoom$Tape;)V"⟩, prog_12_method_1_code, 2, none)
abbrev m_Roo_addTelling : MethodName × ByteArray × Nat × Option FieldType := (⟨"LightInRoom$Room", "addTelling", "(LLightInRoom$Telling;)I"⟩, prog_8_method_9_code, 2, some .int)
abbrev m_Lir_tellingOf : MethodName × ByteArray × Nat × Option FieldType := (⟨"LightInRoom", "tellingOf", "(II)I"⟩, prog_1_method_4_code, 4, some .int)
abbrev m_Roo_tellingAt : MethodName × ByteArray × Nat × Option FieldType := (⟨"LightInRoom$Room", "tellingAt", "(I)LLightInRoom$Telling;"⟩, prog_8_method_4_code, 2, some (.object "LightInRoom$Telling"))
abbrev m_Roo_inRow : MethodName × ByteArray × Nat × Option FieldType := (⟨"LightInRoom$Room", "inRow", "([LLightInRoom$Telling;I)LLightInRoom$Telling;"⟩, prog_8_method_7_code, 2, some (.object "LightInRoom$Telling"))
abbrev m_Lir_kind : MethodName × ByteArray × Nat × Option FieldType := (⟨"LightInRoom", "kind", "(I)I"⟩, prog_1_method_5_code, 3, some .int)
abbrev m_Cal_kindNumber : MethodName × ByteArray × Nat × Option FieldType := (⟨"LightInRoom$Called", "kindNumber", "()I"⟩, prog_3_method_2_code, 1, some .int)
abbrev m_Eye_kindNumber : MethodName × ByteArray × Nat × Option FieldType := (⟨"LightInRoom$Eye", "kindNumber", "()I"⟩, prog_4_method_2_code, 1, some .int)
abbrev m_Gro_kindNumber : MethodName × ByteArray × Nat × Option FieldType := (⟨"LightInRoom$Grown", "kindNumber", "()I"⟩, prog_5_method_2_code, 1, some .int)
abbrev m_Nea_kindNumber : MethodName × ByteArray × Nat × Option FieldType := (⟨"LightInRoom$Near", "kindNumber", "()I"⟩, prog_7_method_2_code, 1, some .int)
abbrev m_Thr_kindNumber : MethodName × ByteArray × Nat × Option FieldType := (⟨"LightInRoom$Through", "kindNumber", "()I"⟩, prog_11_method_2_code, 1, some .int)
abbrev m_Wit_kindNumber : MethodName × ByteArray × Nat × Option FieldType := (⟨"LightInRoom$Without", "kindNumber", "()I"⟩, prog_12_method_2_code, 1, some .int)
abbrev m_Lir_weight : MethodName × ByteArray × Nat × Option FieldType := (⟨"LightInRoom", "weight", "(I)I"⟩, prog_1_method_6_code, 3, some .int)
abbrev m_Cal_ownWeight : MethodName × ByteArray × Nat × Option FieldType := (⟨"LightInRoom$Called", "ownWeight", "()I"⟩, prog_3_method_3_code, 1, some .int)
abbrev m_Eye_ownWeight : MethodName × ByteArray × Nat × Option FieldType := (⟨"LightInRoom$Eye", "ownWeight", "()I"⟩, prog_4_method_3_code, 1, some .int)
abbrev m_Gro_ownWeight : MethodName × ByteArray × Nat × Option FieldType := (⟨"LightInRoom$Grown", "ownWeight", "()I"⟩, prog_5_method_3_code, 1, some .int)
abbrev m_Wit_ownWeight : MethodName × ByteArray × Nat × Option FieldType := (⟨"LightInRoom$Without", "ownWeight", "()I"⟩, prog_12_method_3_code, 1, some .int)
abbrev m_Nea_ownWeight : MethodName × ByteArray × Nat × Option FieldType := (⟨"LightInRoom$Near", "ownWeight", "()I"⟩, prog_7_method_3_code, 1, some .int)
abbrev m_Thr_ownWeight : MethodName × ByteArray × Nat × Option FieldType := (⟨"LightInRoom$Through", "ownWeight", "()I"⟩, prog_11_method_3_code, 1, some .int)
abbrev m_Lir_law : MethodName × ByteArray × Nat × Option FieldType := (⟨"LightInRoom", "law", "(III)I"⟩, prog_1_method_7_code, 7, some .int)
abbrev m_Roo_lawAt : MethodName × ByteArray × Nat × Option FieldType := (⟨"LightInRoom$Room", "lawAt", "(I)LLightInRoom$Law;"⟩, prog_8_method_8_code, 2, some (.object "LightInRoom$Law"))
abbrev m_Lir_outside : MethodName × ByteArray × Nat × Option FieldType := (⟨"LightInRoom", "outside", "(III)I"⟩, prog_1_method_40_code, 3, some .int)
abbrev m_Lir_exchange : MethodName × ByteArray × Nat × Option FieldType := (⟨"LightInRoom", "exchange", "([III)I"⟩, prog_1_method_45_code, 4, some .int)
abbrev m_Lir_right : MethodName × ByteArray × Nat × Option FieldType := (⟨"LightInRoom", "right", "(Z)I"⟩, prog_1_method_8_code, 2, some .int)
abbrev m_Lir_growth : MethodName × ByteArray × Nat × Option FieldType := (⟨"LightInRoom", "growth", "(II)I"⟩, prog_1_method_9_code, 4, some .int)
abbrev m_Lir_isSizeOrSeconds : MethodName × ByteArray × Nat × Option FieldType := (⟨"LightInRoom", "isSizeOrSeconds", "(I)Z"⟩, prog_1_method_41_code, 1, some .boolean)
abbrev m_Lir_put : MethodName × ByteArray × Nat × Option FieldType := (⟨"LightInRoom", "put", "(II)I"⟩, prog_1_method_10_code, 4, some .int)
abbrev m_Roo_rightNumber : MethodName × ByteArray × Nat × Option FieldType := (⟨"LightInRoom$Room", "rightNumber", "(LLightInRoom$Telling;I)I"⟩, prog_8_method_11_code, 4, some .int)
abbrev m_Tel_lacks : MethodName × ByteArray × Nat × Option FieldType := (⟨"LightInRoom$Telling", "lacks", "(I)Z"⟩, prog_10_method_6_code, 2, some .boolean)
abbrev m_Tel_numberTold : MethodName × ByteArray × Nat × Option FieldType := (⟨"LightInRoom$Telling", "numberTold", "(I)I"⟩, prog_10_method_5_code, 2, some .int)
abbrev m_Lir_fits : MethodName × ByteArray × Nat × Option FieldType := (⟨"LightInRoom", "fits", "(II)I"⟩, prog_1_method_11_code, 5, some .int)
abbrev m_Roo_brokenBy : MethodName × ByteArray × Nat × Option FieldType := (⟨"LightInRoom$Room", "brokenBy", "(LLightInRoom$Telling;LLightInRoom$Law;)I"⟩, prog_8_method_13_code, 3, some .int)
abbrev m_Roo_heldNumber : MethodName × ByteArray × Nat × Option FieldType := (⟨"LightInRoom$Room", "heldNumber", "(LLightInRoom$Telling;I)I"⟩, prog_8_method_12_code, 3, some .int)
abbrev m_Law_brokenBy : MethodName × ByteArray × Nat × Option FieldType := (⟨"LightInRoom$Law", "brokenBy", "(LLightInRoom$Telling;II)I"⟩, prog_6_method_3_code, 5, some .int)
abbrev m_Lir_share : MethodName × ByteArray × Nat × Option FieldType := (⟨"LightInRoom", "share", "(II)I"⟩, prog_1_method_12_code, 11, some .int)
abbrev m_Lir_refuseAsTold : MethodName × ByteArray × Nat × Option FieldType := (⟨"LightInRoom", "refuseAsTold", "(I)I"⟩, prog_1_method_38_code, 2, some .int)
abbrev m_Lir_isPart : MethodName × ByteArray × Nat × Option FieldType := (⟨"LightInRoom", "isPart", "(I)Z"⟩, prog_1_method_42_code, 1, some .boolean)
abbrev m_Lir_leastTerms : MethodName × ByteArray × Nat × Option FieldType := (⟨"LightInRoom", "leastTerms", "(III)I"⟩, prog_1_method_47_code, 4, some .int)
abbrev m_Lir_greatestCommon : MethodName × ByteArray × Nat × Option FieldType := (⟨"LightInRoom", "greatestCommon", "(II)I"⟩, prog_1_method_48_code, 6, some .int)
abbrev m_Lir_only : MethodName × ByteArray × Nat × Option FieldType := (⟨"LightInRoom", "only", "(I)I"⟩, prog_1_method_13_code, 2, some .int)
abbrev m_Lir_howManyFitOnly : MethodName × ByteArray × Nat × Option FieldType := (⟨"LightInRoom", "howManyFitOnly", "(II)I"⟩, prog_1_method_50_code, 8, some .int)
abbrev m_Roo_lawsFitted : MethodName × ByteArray × Nat × Option FieldType := (⟨"LightInRoom$Room", "lawsFitted", "(LLightInRoom$Telling;)I"⟩, prog_8_method_14_code, 7, some .int)
abbrev m_Lir_cover : MethodName × ByteArray × Nat × Option FieldType := (⟨"LightInRoom", "cover", "()I"⟩, prog_1_method_14_code, 3, some .int)
abbrev m_Lir_noteLaws : MethodName × ByteArray × Nat × Option FieldType := (⟨"LightInRoom", "noteLaws", "()V"⟩, prog_1_method_51_code, 3, none)
abbrev m_Int_bitCount : MethodName × ByteArray × Nat × Option FieldType := (⟨"java/lang/Integer", "bitCount", "(I)I"⟩, prog_15_method_49_code, 1, some .int)
abbrev m_Lir_coversAll : MethodName × ByteArray × Nat × Option FieldType := (⟨"LightInRoom", "coversAll", "(I)Z"⟩, prog_1_method_53_code, 3, some .boolean)
abbrev m_Lir_half : MethodName × ByteArray × Nat × Option FieldType := (⟨"LightInRoom", "half", "(I)I"⟩, prog_1_method_15_code, 5, some .int)
abbrev m_Lir_noteBroken : MethodName × ByteArray × Nat × Option FieldType := (⟨"LightInRoom", "noteBroken", "(LLightInRoom$Law;)V"⟩, prog_1_method_52_code, 4, none)
abbrev m_Lir_halfFitsWithout : MethodName × ByteArray × Nat × Option FieldType := (⟨"LightInRoom", "halfFitsWithout", "(I)Z"⟩, prog_1_method_54_code, 4, some .boolean)
abbrev m_Lir_sorts : MethodName × ByteArray × Nat × Option FieldType := (⟨"LightInRoom", "sorts", "(I)I"⟩, prog_1_method_16_code, 5, some .int)
abbrev m_Lir_firstNotedLike : MethodName × ByteArray × Nat × Option FieldType := (⟨"LightInRoom", "firstNotedLike", "(I)I"⟩, prog_1_method_55_code, 3, some .int)
abbrev m_Lir_howManyNotedLike : MethodName × ByteArray × Nat × Option FieldType := (⟨"LightInRoom", "howManyNotedLike", "(I)I"⟩, prog_1_method_56_code, 4, some .int)
abbrev m_Mat_max : MethodName × ByteArray × Nat × Option FieldType := (⟨"java/lang/Math", "max", "(II)I"⟩, prog_16_method_65_code, 2, some .int)
abbrev m_Lir_alike : MethodName × ByteArray × Nat × Option FieldType := (⟨"LightInRoom", "alike", "(I)I"⟩, prog_1_method_17_code, 2, some .int)
abbrev m_Lir_together : MethodName × ByteArray × Nat × Option FieldType := (⟨"LightInRoom", "together", "(II)I"⟩, prog_1_method_18_code, 12, some .int)
abbrev m_Lir_isMark : MethodName × ByteArray × Nat × Option FieldType := (⟨"LightInRoom", "isMark", "(I)Z"⟩, prog_1_method_43_code, 1, some .boolean)
abbrev m_Tel_has : MethodName × ByteArray × Nat × Option FieldType := (⟨"LightInRoom$Telling", "has", "(I)Z"⟩, prog_10_method_4_code, 2, some .boolean)
abbrev m_Lir_hundredths : MethodName × ByteArray × Nat × Option FieldType := (⟨"LightInRoom", "hundredths", "(II)I"⟩, prog_1_method_46_code, 2, some .int)
abbrev m_Lir_twice : MethodName × ByteArray × Nat × Option FieldType := (⟨"LightInRoom", "twice", "(II)I"⟩, prog_1_method_19_code, 5, some .int)
abbrev m_Roo_addPair : MethodName × ByteArray × Nat × Option FieldType := (⟨"LightInRoom$Room", "addPair", "(LLightInRoom$Telling;LLightInRoom$Telling;)I"⟩, prog_8_method_10_code, 3, some .int)
abbrev m_Lir_grows : MethodName × ByteArray × Nat × Option FieldType := (⟨"LightInRoom", "grows", "(II)I"⟩, prog_1_method_20_code, 8, some .int)
abbrev m_Roo_firstOfPair : MethodName × ByteArray × Nat × Option FieldType := (⟨"LightInRoom$Room", "firstOfPair", "(I)LLightInRoom$Telling;"⟩, prog_8_method_5_code, 2, some (.object "LightInRoom$Telling"))
abbrev m_Roo_secondOfPair : MethodName × ByteArray × Nat × Option FieldType := (⟨"LightInRoom$Room", "secondOfPair", "(I)LLightInRoom$Telling;"⟩, prog_8_method_6_code, 2, some (.object "LightInRoom$Telling"))
abbrev m_Lir_people : MethodName × ByteArray × Nat × Option FieldType := (⟨"LightInRoom", "people", "(II)I"⟩, prog_1_method_21_code, 4, some .int)
abbrev m_Lir_strokes : MethodName × ByteArray × Nat × Option FieldType := (⟨"LightInRoom", "strokes", "(I)I"⟩, prog_1_method_22_code, 4, some .int)
abbrev m_Lir_reach : MethodName × ByteArray × Nat × Option FieldType := (⟨"LightInRoom", "reach", "(II)I"⟩, prog_1_method_23_code, 6, some .int)
abbrev m_Lir_should : MethodName × ByteArray × Nat × Option FieldType := (⟨"LightInRoom", "should", "(I)I"⟩, prog_1_method_24_code, 3, some .int)
abbrev m_Roo_shownTo : MethodName × ByteArray × Nat × Option FieldType := (⟨"LightInRoom$Room", "shownTo", "(LLightInRoom$Law;)I"⟩, prog_8_method_20_code, 4, some .int)
abbrev m_Lir_seen : MethodName × ByteArray × Nat × Option FieldType := (⟨"LightInRoom", "seen", "(I)I"⟩, prog_1_method_25_code, 3, some .int)
abbrev m_Roo_howManyFit : MethodName × ByteArray × Nat × Option FieldType := (⟨"LightInRoom$Room", "howManyFit", "(LLightInRoom$Law;)I"⟩, prog_8_method_15_code, 7, some .int)
abbrev m_Lir_beyond : MethodName × ByteArray × Nat × Option FieldType := (⟨"LightInRoom", "beyond", "(II)I"⟩, prog_1_method_26_code, 5, some .int)
abbrev m_Lir_leads : MethodName × ByteArray × Nat × Option FieldType := (⟨"LightInRoom", "leads", "()I"⟩, prog_1_method_27_code, 10, some .int)
abbrev m_Roo_howManyAsked : MethodName × ByteArray × Nat × Option FieldType := (⟨"LightInRoom$Room", "howManyAsked", "()I"⟩, prog_8_method_17_code, 6, some .int)
abbrev m_Roo_howManyAskedFit : MethodName × ByteArray × Nat × Option FieldType := (⟨"LightInRoom$Room", "howManyAskedFit", "(LLightInRoom$Law;)I"⟩, prog_8_method_16_code, 7, some .int)
abbrev m_Lir_pictures : MethodName × ByteArray × Nat × Option FieldType := (⟨"LightInRoom", "pictures", "(I)I"⟩, prog_1_method_28_code, 2, some .int)
abbrev m_Lir_bench : MethodName × ByteArray × Nat × Option FieldType := (⟨"LightInRoom", "bench", "(IIII)I"⟩, prog_1_method_29_code, 5, some .int)
abbrev m_Ben_tell : MethodName × ByteArray × Nat × Option FieldType := (⟨"LightInRoom$Bench", "tell", "(IIII)V"⟩, prog_2_method_2_code, 5, none)
abbrev m_Lir_lines : MethodName × ByteArray × Nat × Option FieldType := (⟨"LightInRoom", "lines", "(I)I"⟩, prog_1_method_30_code, 3, some .int)
abbrev m_Ben_linesLacking : MethodName × ByteArray × Nat × Option FieldType := (⟨"LightInRoom$Bench", "linesLacking", "(LLightInRoom$Telling;)I"⟩, prog_2_method_3_code, 3, some .int)
abbrev m_Lir_misses : MethodName × ByteArray × Nat × Option FieldType := (⟨"LightInRoom", "misses", "(I)I"⟩, prog_1_method_31_code, 5, some .int)
abbrev m_Lir_barred : MethodName × ByteArray × Nat × Option FieldType := (⟨"LightInRoom", "barred", "(I)I"⟩, prog_1_method_32_code, 5, some .int)
abbrev m_Lir_glasses : MethodName × ByteArray × Nat × Option FieldType := (⟨"LightInRoom", "glasses", "(II)I"⟩, prog_1_method_33_code, 8, some .int)
abbrev m_Roo_fullestRing : MethodName × ByteArray × Nat × Option FieldType := (⟨"LightInRoom$Room", "fullestRing", "(II)I"⟩, prog_8_method_21_code, 6, some .int)
abbrev m_Lir_image : MethodName × ByteArray × Nat × Option FieldType := (⟨"LightInRoom", "image", "()I"⟩, prog_1_method_34_code, 1, some .int)
abbrev m_Roo_becomeLike : MethodName × ByteArray × Nat × Option FieldType := (⟨"LightInRoom$Room", "becomeLike", "(LLightInRoom$Room;)V"⟩, prog_8_method_2_code, 5, none)
abbrev m_Roo_copyTellings : MethodName × ByteArray × Nat × Option FieldType := (⟨"LightInRoom$Room", "copyTellings", "([LLightInRoom$Telling;[LLightInRoom$Telling;)V"⟩, prog_8_method_3_code, 3, none)
abbrev m_Law_becomeLike : MethodName × ByteArray × Nat × Option FieldType := (⟨"LightInRoom$Law", "becomeLike", "(LLightInRoom$Law;)V"⟩, prog_6_method_2_code, 2, none)
abbrev m_Lir_copyRow : MethodName × ByteArray × Nat × Option FieldType := (⟨"LightInRoom", "copyRow", "([I[I)V"⟩, prog_1_method_49_code, 2, none)
abbrev m_Mat_min : MethodName × ByteArray × Nat × Option FieldType := (⟨"java/lang/Math", "min", "(II)I"⟩, prog_16_method_69_code, 2, some .int)
abbrev m_Lir_on : MethodName × ByteArray × Nat × Option FieldType := (⟨"LightInRoom", "on", "()I"⟩, prog_1_method_35_code, 1, some .int)
abbrev m_Lir_count : MethodName × ByteArray × Nat × Option FieldType := (⟨"LightInRoom", "count", "(I)I"⟩, prog_1_method_36_code, 2, some .int)
abbrev m_Roo_howManyGaps : MethodName × ByteArray × Nat × Option FieldType := (⟨"LightInRoom$Room", "howManyGaps", "()I"⟩, prog_8_method_18_code, 6, some .int)
abbrev m_Tel_gaps : MethodName × ByteArray × Nat × Option FieldType := (⟨"LightInRoom$Telling", "gaps", "()I"⟩, prog_10_method_7_code, 1, some .int)
abbrev m_Roo_howManyMarks : MethodName × ByteArray × Nat × Option FieldType := (⟨"LightInRoom$Room", "howManyMarks", "()I"⟩, prog_8_method_19_code, 6, some .int)
abbrev m_Lir_refusalsCounted : MethodName × ByteArray × Nat × Option FieldType := (⟨"LightInRoom", "refusalsCounted", "(I)I"⟩, prog_1_method_39_code, 2, some .int)
abbrev m_Mod_init : MethodName × ByteArray × Nat × Option FieldType := (⟨"LightInRoomModel", "<init>", "()V"⟩, prog_14_method_1_code, 2, none)
abbrev m_Mod_feed : MethodName × ByteArray × Nat × Option FieldType := (⟨"LightInRoomModel", "feed", "(IJ)I"⟩, prog_14_method_9_code, 5, some .int)
abbrev m_Mod_refuse : MethodName × ByteArray × Nat × Option FieldType := (⟨"LightInRoomModel", "refuse", "(I)I"⟩, prog_14_method_2_code, 2, some .int)
abbrev m_Mod_telling : MethodName × ByteArray × Nat × Option FieldType := (⟨"LightInRoomModel", "telling", "()I"⟩, prog_14_method_16_code, 3, some .int)
abbrev m_Mod_reads : MethodName × ByteArray × Nat × Option FieldType := (⟨"LightInRoomModel", "reads", "()Z"⟩, prog_14_method_15_code, 2, some .boolean)
abbrev m_Mod_takes : MethodName × ByteArray × Nat × Option FieldType := (⟨"LightInRoomModel", "takes", "(I)Z"⟩, prog_14_method_14_code, 2, some .boolean)
abbrev m_Mod_sign : MethodName × ByteArray × Nat × Option FieldType := (⟨"LightInRoomModel", "sign", "()I"⟩, prog_14_method_10_code, 1, some .int)
abbrev m_Mod_readsNumber : MethodName × ByteArray × Nat × Option FieldType := (⟨"LightInRoomModel", "readsNumber", "(II)Z"⟩, prog_14_method_12_code, 4, some .boolean)
abbrev m_Mod_isDigit : MethodName × ByteArray × Nat × Option FieldType := (⟨"LightInRoomModel", "isDigit", "()Z"⟩, prog_14_method_11_code, 1, some .boolean)
abbrev m_Mod_markOf : MethodName × ByteArray × Nat × Option FieldType := (⟨"LightInRoomModel", "markOf", "(I)I"⟩, prog_14_method_13_code, 1, some .int)
abbrev m_Mod_tellingOf : MethodName × ByteArray × Nat × Option FieldType := (⟨"LightInRoomModel", "tellingOf", "(II)I"⟩, prog_14_method_17_code, 3, some .int)
abbrev m_Mod_isTelling : MethodName × ByteArray × Nat × Option FieldType := (⟨"LightInRoomModel", "isTelling", "(I)Z"⟩, prog_14_method_5_code, 2, some .boolean)
abbrev m_Mod_isIn : MethodName × ByteArray × Nat × Option FieldType := (⟨"LightInRoomModel", "isIn", "(II)Z"⟩, prog_14_method_3_code, 2, some .boolean)
abbrev m_Mod_get : MethodName × ByteArray × Nat × Option FieldType := (⟨"LightInRoomModel", "get", "(II)I"⟩, prog_14_method_7_code, 3, some .int)
abbrev m_Mod_kind : MethodName × ByteArray × Nat × Option FieldType := (⟨"LightInRoomModel", "kind", "(I)I"⟩, prog_14_method_20_code, 2, some .int)
abbrev m_Mod_kindOf : MethodName × ByteArray × Nat × Option FieldType := (⟨"LightInRoomModel", "kindOf", "(I)I"⟩, prog_14_method_19_code, 2, some .int)
abbrev m_Mod_isMarked : MethodName × ByteArray × Nat × Option FieldType := (⟨"LightInRoomModel", "isMarked", "(II)Z"⟩, prog_14_method_18_code, 3, some .boolean)
abbrev m_Mod_weight : MethodName × ByteArray × Nat × Option FieldType := (⟨"LightInRoomModel", "weight", "(I)I"⟩, prog_14_method_22_code, 2, some .int)
abbrev m_Mod_weightOf : MethodName × ByteArray × Nat × Option FieldType := (⟨"LightInRoomModel", "weightOf", "(I)I"⟩, prog_14_method_21_code, 2, some .int)
abbrev m_Mod_law : MethodName × ByteArray × Nat × Option FieldType := (⟨"LightInRoomModel", "law", "(III)I"⟩, prog_14_method_23_code, 5, some .int)
abbrev m_Mod_isLaw : MethodName × ByteArray × Nat × Option FieldType := (⟨"LightInRoomModel", "isLaw", "(I)Z"⟩, prog_14_method_6_code, 1, some .boolean)
abbrev m_Mod_within : MethodName × ByteArray × Nat × Option FieldType := (⟨"LightInRoomModel", "within", "(III)I"⟩, prog_14_method_4_code, 3, some .int)
abbrev m_Mod_becomes : MethodName × ByteArray × Nat × Option FieldType := (⟨"LightInRoomModel", "becomes", "(II)I"⟩, prog_14_method_8_code, 4, some .int)
abbrev m_Mod_right : MethodName × ByteArray × Nat × Option FieldType := (⟨"LightInRoomModel", "right", "(Z)I"⟩, prog_14_method_24_code, 3, some .int)
abbrev m_Mod_growth : MethodName × ByteArray × Nat × Option FieldType := (⟨"LightInRoomModel", "growth", "(II)I"⟩, prog_14_method_25_code, 4, some .int)
abbrev m_Mod_put : MethodName × ByteArray × Nat × Option FieldType := (⟨"LightInRoomModel", "put", "(II)I"⟩, prog_14_method_27_code, 3, some .int)
abbrev m_Mod_rightOf : MethodName × ByteArray × Nat × Option FieldType := (⟨"LightInRoomModel", "rightOf", "(II)I"⟩, prog_14_method_26_code, 3, some .int)
abbrev m_Mod_fits : MethodName × ByteArray × Nat × Option FieldType := (⟨"LightInRoomModel", "fits", "(II)I"⟩, prog_14_method_31_code, 3, some .int)
abbrev m_Mod_isFit : MethodName × ByteArray × Nat × Option FieldType := (⟨"LightInRoomModel", "isFit", "(III)Z"⟩, prog_14_method_29_code, 5, some .boolean)
abbrev m_Mod_meets : MethodName × ByteArray × Nat × Option FieldType := (⟨"LightInRoomModel", "meets", "(III)Z"⟩, prog_14_method_28_code, 7, some .boolean)
abbrev m_Mod_share : MethodName × ByteArray × Nat × Option FieldType := (⟨"LightInRoomModel", "share", "(II)I"⟩, prog_14_method_34_code, 6, some .int)
abbrev m_Mod_partOf : MethodName × ByteArray × Nat × Option FieldType := (⟨"LightInRoomModel", "partOf", "(III)I"⟩, prog_14_method_33_code, 4, some .int)
abbrev m_Mod_common : MethodName × ByteArray × Nat × Option FieldType := (⟨"LightInRoomModel", "common", "(II)I"⟩, prog_14_method_32_code, 2, some .int)
abbrev m_Mod_only : MethodName × ByteArray × Nat × Option FieldType := (⟨"LightInRoomModel", "only", "(I)I"⟩, prog_14_method_35_code, 4, some .int)
abbrev m_Mod_lawsOf : MethodName × ByteArray × Nat × Option FieldType := (⟨"LightInRoomModel", "lawsOf", "(I)I"⟩, prog_14_method_30_code, 4, some .int)
abbrev m_Mod_cover : MethodName × ByteArray × Nat × Option FieldType := (⟨"LightInRoomModel", "cover", "()I"⟩, prog_14_method_38_code, 3, some .int)
abbrev m_Mod_bits : MethodName × ByteArray × Nat × Option FieldType := (⟨"LightInRoomModel", "bits", "(I)I"⟩, prog_14_method_36_code, 3, some .int)
abbrev m_Mod_isCover : MethodName × ByteArray × Nat × Option FieldType := (⟨"LightInRoomModel", "isCover", "(I)Z"⟩, prog_14_method_37_code, 3, some .boolean)
abbrev m_Mod_half : MethodName × ByteArray × Nat × Option FieldType := (⟨"LightInRoomModel", "half", "(I)I"⟩, prog_14_method_39_code, 6, some .int)
abbrev m_Mod_sorts : MethodName × ByteArray × Nat × Option FieldType := (⟨"LightInRoomModel", "sorts", "(I)I"⟩, prog_14_method_40_code, 7, some .int)
abbrev m_Mod_alike : MethodName × ByteArray × Nat × Option FieldType := (⟨"LightInRoomModel", "alike", "(I)I"⟩, prog_14_method_41_code, 3, some .int)
abbrev m_Mod_together : MethodName × ByteArray × Nat × Option FieldType := (⟨"LightInRoomModel", "together", "(II)I"⟩, prog_14_method_42_code, 8, some .int)
abbrev m_Mod_twice : MethodName × ByteArray × Nat × Option FieldType := (⟨"LightInRoomModel", "twice", "(II)I"⟩, prog_14_method_43_code, 4, some .int)
abbrev m_Mod_grows : MethodName × ByteArray × Nat × Option FieldType := (⟨"LightInRoomModel", "grows", "(II)I"⟩, prog_14_method_44_code, 8, some .int)
abbrev m_Mod_people : MethodName × ByteArray × Nat × Option FieldType := (⟨"LightInRoomModel", "people", "(II)I"⟩, prog_14_method_45_code, 4, some .int)
abbrev m_Mod_strokes : MethodName × ByteArray × Nat × Option FieldType := (⟨"LightInRoomModel", "strokes", "(I)I"⟩, prog_14_method_46_code, 3, some .int)
abbrev m_Mod_reach : MethodName × ByteArray × Nat × Option FieldType := (⟨"LightInRoomModel", "reach", "(II)I"⟩, prog_14_method_47_code, 4, some .int)
abbrev m_Mod_should : MethodName × ByteArray × Nat × Option FieldType := (⟨"LightInRoomModel", "should", "(I)I"⟩, prog_14_method_49_code, 2, some .int)
abbrev m_Mod_shouldOf : MethodName × ByteArray × Nat × Option FieldType := (⟨"LightInRoomModel", "shouldOf", "(I)I"⟩, prog_14_method_48_code, 4, some .int)
abbrev m_Mod_seen : MethodName × ByteArray × Nat × Option FieldType := (⟨"LightInRoomModel", "seen", "(I)I"⟩, prog_14_method_51_code, 2, some .int)
abbrev m_Mod_seenOf : MethodName × ByteArray × Nat × Option FieldType := (⟨"LightInRoomModel", "seenOf", "(I)I"⟩, prog_14_method_50_code, 4, some .int)
abbrev m_Mod_beyond : MethodName × ByteArray × Nat × Option FieldType := (⟨"LightInRoomModel", "beyond", "(II)I"⟩, prog_14_method_52_code, 4, some .int)
abbrev m_Mod_leads : MethodName × ByteArray × Nat × Option FieldType := (⟨"LightInRoomModel", "leads", "()I"⟩, prog_14_method_53_code, 7, some .int)
abbrev m_Mod_pictures : MethodName × ByteArray × Nat × Option FieldType := (⟨"LightInRoomModel", "pictures", "(I)I"⟩, prog_14_method_54_code, 4, some .int)
abbrev m_Mod_bench : MethodName × ByteArray × Nat × Option FieldType := (⟨"LightInRoomModel", "bench", "(IIII)I"⟩, prog_14_method_55_code, 6, some .int)
abbrev m_Mod_lines : MethodName × ByteArray × Nat × Option FieldType := (⟨"LightInRoomModel", "lines", "(I)I"⟩, prog_14_method_57_code, 4, some .int)
abbrev m_Mod_hasLine : MethodName × ByteArray × Nat × Option FieldType := (⟨"LightInRoomModel", "hasLine", "(II)Z"⟩, prog_14_method_56_code, 4, some .boolean)
abbrev m_Mod_misses : MethodName × ByteArray × Nat × Option FieldType := (⟨"LightInRoomModel", "misses", "(I)I"⟩, prog_14_method_58_code, 3, some .int)
abbrev m_Mod_barred : MethodName × ByteArray × Nat × Option FieldType := (⟨"LightInRoomModel", "barred", "(I)I"⟩, prog_14_method_59_code, 4, some .int)
abbrev m_Mod_glasses : MethodName × ByteArray × Nat × Option FieldType := (⟨"LightInRoomModel", "glasses", "(II)I"⟩, prog_14_method_60_code, 11, some .int)
abbrev m_Mod_image : MethodName × ByteArray × Nat × Option FieldType := (⟨"LightInRoomModel", "image", "()I"⟩, prog_14_method_61_code, 2, some .int)
abbrev m_Mod_on : MethodName × ByteArray × Nat × Option FieldType := (⟨"LightInRoomModel", "on", "()I"⟩, prog_14_method_62_code, 2, some .int)
abbrev m_Mod_count : MethodName × ByteArray × Nat × Option FieldType := (⟨"LightInRoomModel", "count", "(I)I"⟩, prog_14_method_63_code, 5, some .int)
abbrev m_LLL_law : MethodName × ByteArray × Nat × Option FieldType := (x, code, 4, some .boolean)
end
section
/-! MY OWN MACHINE OVER THE KIT: the heap from the law's entry on is a list of cells; a reference is its place in that list (an old cell is .retAddr n); a method answers and leaves a list -/
def zT : List Cond := lw_tbl.filter goodWord
theorem zT_good : ∀ w ∈ zT, goodWord w = true := fun w h => (List.mem_filter.mp h).2
theorem zT_sub : ∀ w ∈ zT, w ∈ lw_tbl := fun w h => (List.mem_filter.mp h).1
theorem zT_in {w : Cond} (i : Nat) (h : lw_tbl[i]? = some w) (g : goodWord w = true) : w ∈ zT := List.mem_filter.mpr ⟨List.mem_of_getElem? h, g⟩
theorem zT_GI {w : Cond} (hw : w ∈ zT) : GoodIn zT (w :: zT) := fun v h => by
  rcases List.mem_cons.mp h with rfl | h
  · exact ⟨hw, good_of_word (zT_good _ hw)⟩
  · exact ⟨h, good_of_word (zT_good _ h)⟩
/-- a cell: an array of ints; an array of references (kind 0 Law, 1 Telling); an object -/
abbrev zC : Type := (Nat × (Nat → Int32)) ⊕ ((Nat × Nat × (Nat → Option Nat)) ⊕ (Nat × List Value))
/-- (classes, slots), array classes (0 int, 1 Law, 2 Telling), old addresses (0 script, 1 string, 2 its bytes) -/
abbrev zG : Type := va_G × (Nat → ClassId) × (Nat → Nat)
/-- the script: how many, which -/
abbrev zS : Type := Nat × (Nat → Int32)
abbrev zM : Type := MethodName × ByteArray × Nat × Option FieldType
def zr (B : Nat) (Y : Nat → Nat) : Value → Value
  | .ref k => .ref (B + k)
  | .retAddr n => .ref (Y n)
  | v => v
def zrel (G : zG) (B : Nat) : zC → va_E
  | .inl a => .inl (G.2.1 0, a.1, .inl a.2)
  | .inr (.inl a) => .inl (G.2.1 (a.1 + 1), a.2.1, .inr (.inr (.inr (.inr (fun j => (a.2.2 j).map (B + ·))))))
  | .inr (.inr a) => .inr (a.1, a.2.map (zr B G.2.2))
def zw (G : zG) (B : Nat) (hp : List zC) : va_W := hp.mapIdx (fun k c => (B + k, zrel G B c))
theorem zw_get (G : zG) (B : Nat) (hp : List zC) (k : Nat) : (zw G B hp)[k]? = (hp[k]?).map (fun c => (B + k, zrel G B c)) := List.getElem?_mapIdx
theorem zw_at {G : zG} {B : Nat} {hp : List zC} {k : Nat} {c : zC} (h : hp[k]? = some c) : (zw G B hp)[k]? = some (B + k, zrel G B c) := by rw [zw_get, h]; rfl
theorem zw_inv {G : zG} {B : Nat} {hp : List zC} {k : Nat} {q : Nat × va_E} (h : (zw G B hp)[k]? = some q) : ∃ c, hp[k]? = some c ∧ q = (B + k, zrel G B c) := by
  rw [zw_get] at h
  cases hc : hp[k]? with
  | none => rw [hc] at h; cases h
  | some c => rw [hc] at h; exact ⟨c, rfl, (Option.some.inj h).symm⟩
theorem zw_D (G : zG) (B : Nat) (hp : List zC) : va_D (fun q : Nat => B ≤ q) (zw G B hp) := by
  refine ⟨fun i j p q hi hj hpq => ?_, fun k q hk => ?_⟩
  · obtain ⟨c1, -, rfl⟩ := zw_inv hi
    obtain ⟨c2, -, rfl⟩ := zw_inv hj
    have : B + i = B + j := hpq
    omega
  · obtain ⟨c, -, rfl⟩ := zw_inv hk
    exact Nat.le_add_right B k
theorem zw_set (G : zG) (B : Nat) (hp : List zC) (k : Nat) (c : zC) : (zw G B hp).set k (B + k, zrel G B c) = zw G B (hp.set k c) := by
  apply List.ext_getElem?
  intro i
  rw [zw_get]
  by_cases h : i = k
  · subst h
    by_cases hl : i < hp.length
    · rw [List.getElem?_set_self (by simpa [zw] using hl), List.getElem?_set_self hl]; rfl
    · rw [List.getElem?_eq_none (by simpa [zw] using hl), List.getElem?_eq_none (by simpa using hl)]; rfl
  · rw [List.getElem?_set_ne (Ne.symm h), List.getElem?_set_ne (Ne.symm h), zw_get]
theorem zw_push (G : zG) (B : Nat) (hp : List zC) (c : zC) : zw G B (hp ++ [c]) = zw G B hp ++ [(B + hp.length, zrel G B c)] := by
  simp [zw, List.mapIdx_append]
/-- the heap H holds the list hp from B on, and nothing more -/
def zH (G : zG) (B : Nat) (hp : List zC) (H : Heap) : Prop := va_P G.1 zCl (zw G B hp) H ∧ H.size = B + hp.length
abbrev zTy (G : zG) : List (ClassId × FieldType) := [(G.2.1 0, .int), (G.2.1 1, .object "LightInRoom$Law"), (G.2.1 2, .object "LightInRoom$Telling")]
abbrev zK (G : zG) (U : State) : Prop := va_K G.1 zCl (zTy G) U
def zNest : List (String × Nat × MethodName) := [("LightInRoom$Room", 39, m_Ben_init.1), ("LightInRoom$Tape", 55, m_Lir_hasBit.1), ("LightInRoom$Law", 28, m_Lir_hasBit.1), ("LightInRoom$Telling", 39, m_Lir_hasBit.1), ("LightInRoom$Room", 135, m_Lir_hasBit.1), ("LightInRoom$Law", 19, m_Lir_copyRow.1), ("LightInRoom$Room", 56, m_Lir_copyRow.1)]
def zCast : List String := ["LightInRoom$Called", "LightInRoom$Eye", "LightInRoom$Through", "LightInRoom$Near", "LightInRoom$Grown", "LightInRoom$Without"]
def zDecl : List MethodName := [⟨"LightInRoom$Telling", "kindNumber", "()I"⟩, ⟨"LightInRoom$Telling", "ownWeight", "()I"⟩]
def zStr : List Int32 := [98, 104, 117, 119, 110, 109, 111, 112]
/-- what else is known of the tables and of the old heap -/
def zX (X : zS) (G : zG) (B : Nat) (U : State) (H : Heap) : Prop :=
  (∀ q ∈ zNest, va_Nw (.methodLinkNest q.1 q.2.1 q.2.2 "LightInRoom") U) ∧ (∀ q ∈ zCast, va_Nw (.castable q "LightInRoom$Telling") U) ∧ (∀ q ∈ zDecl, va_Nw (.declares q) U) ∧ va_AO "LightInRoom$Law" U ∧ va_AO "LightInRoom$Telling" U ∧ vk_R "LightInRoom$Tape" 101 "bhuwnmop" (G.2.2 1) U ∧ vk_S 1 [8] [zStr] (fun _ => G.2.2 1) (fun _ => G.2.2 2) (fun q => B ≤ q) U H ∧ va_Z "java/lang/String" "COMPACT_STRINGS" "Z" (.int 1) (fun q => B ≤ q) U H ∧ va_X (G.2.2 0) X.1 X.2 U H ∧ G.2.2 0 < B
theorem zX.moved {X : zS} {G : zG} {B : Nat} {s U : State} {H : Heap} (hW : s.WarmedH U.vm) (h : zX X G B s H) : zX X G B U H :=
  ⟨fun q hq => (h.1 q hq).warmM hW, fun q hq => (h.2.1 q hq).warmC hW, fun q hq => (h.2.2.1 q hq).warmD hW, h.2.2.2.1.moved hW.alike, h.2.2.2.2.1.moved hW.alike, h.2.2.2.2.2.1.warm hW, h.2.2.2.2.2.2.1.moved hW.alike, h.2.2.2.2.2.2.2.1.moved hW.alike, h.2.2.2.2.2.2.2.2.1.moved hW.alike, h.2.2.2.2.2.2.2.2.2⟩
theorem zX.kept {X : zS} {G : zG} {B : Nat} {U : State} {H H1 : Heap} (hq : ∀ a : Nat, a < H.size → ¬ B ≤ a → H1[a]? = H[a]?) (hB : B ≤ H.size) (h : zX X G B U H) : zX X G B U H1 :=
  ⟨h.1, h.2.1, h.2.2.1, h.2.2.2.1, h.2.2.2.2.1, h.2.2.2.2.2.1, h.2.2.2.2.2.2.1.kept hq, h.2.2.2.2.2.2.2.1.kept hq, h.2.2.2.2.2.2.2.2.1.kept (hq _ (Nat.lt_of_lt_of_le h.2.2.2.2.2.2.2.2.2 hB) (Nat.not_le.mpr h.2.2.2.2.2.2.2.2.2)), h.2.2.2.2.2.2.2.2.2⟩
/-- the locals as a list -/
def zl (B : Nat) (Y : Nat → Nat) : Nat → List (Option Value) → List (Nat × Value)
  | _, [] => []
  | i, none :: L => zl B Y (i + 1) L
  | i, some v :: L => (i, zr B Y v) :: zl B Y (i + 1) L
theorem zl_mem (B : Nat) (Y : Nat → Nat) : ∀ (L : List (Option Value)) (i k : Nat) (v : Value), L[k]? = some (some v) → (i + k, zr B Y v) ∈ zl B Y i L
  | [], i, k, v, h => by simp at h
  | none :: L, i, 0, v, h => by simp at h
  | some w :: L, i, 0, v, h => by
    simp at h
    subst h
    exact List.mem_cons_self
  | none :: L, i, k + 1, v, h => by
    have := zl_mem B Y L (i + 1) k v (by simpa using h)
    rw [show i + (k + 1) = i + 1 + k by omega]
    exact this
  | some w :: L, i, k + 1, v, h => by
    have := zl_mem B Y L (i + 1) k v (by simpa using h)
    rw [show i + (k + 1) = i + 1 + k by omega]
    exact List.mem_cons_of_mem _ this
theorem zl_inv (B : Nat) (Y : Nat → Nat) : ∀ (L : List (Option Value)) (i : Nat) (q : Nat × Value), q ∈ zl B Y i L → ∃ k v, L[k]? = some (some v) ∧ q = (i + k, zr B Y v)
  | [], i, q, h => by simp [zl] at h
  | none :: L, i, q, h => by
    obtain ⟨k, v, h1, h2⟩ := zl_inv B Y L (i + 1) q h
    exact ⟨k + 1, v, by simpa using h1, by rw [h2, show i + (k + 1) = i + 1 + k by omega]⟩
  | some w :: L, i, q, h => by
    rcases List.mem_cons.mp h with rfl | h
    · exact ⟨0, w, rfl, rfl⟩
    · obtain ⟨k, v, h1, h2⟩ := zl_inv B Y L (i + 1) q h
      exact ⟨k + 1, v, by simpa using h1, by rw [h2, show i + (k + 1) = i + 1 + k by omega]⟩
/-- a value of two slots before place i? -/
def zlong (L : List (Option Value)) : Nat → Bool
  | 0 => false
  | i + 1 => match L[i]? with
    | some (some (.long _)) => true
    | some (some (.double _)) => true
    | _ => false
theorem zr_cat (B : Nat) (Y : Nat → Nat) (v : Value) : (zr B Y v).category = v.category := by cases v <;> rfl
theorem zl_set {B : Nat} {Y : Nat → Nat} {ls : Array Slot} {nL i : Nat} {L : List (Option Value)} {v : Value} (hn : zlong L i = false)
    (h : lv_has ls nL ((i, zr B Y v) :: (zl B Y 0 L).filter (fun q => !(q.1 == i) && !(q.1 + 1 == i && q.2.category == 2)))) : lv_has ls nL (zl B Y 0 (L.set i (some v))) := by
  refine ⟨h.1, h.2.1, fun q hq => h.2.2 q ?_⟩
  obtain ⟨k, w, hk, rfl⟩ := zl_inv B Y _ 0 q hq
  rw [Nat.zero_add] at hq ⊢
  by_cases hki : k = i
  · subst hki
    have hl : k < L.length := by
      have := (List.getElem?_eq_some_iff.mp hk).1
      simpa using this
    rw [List.getElem?_set_self hl] at hk
    have hw : v = w := Option.some.inj (Option.some.inj hk)
    subst hw
    exact List.mem_cons_self
  · rw [List.getElem?_set_ne (Ne.symm hki)] at hk
    refine List.mem_cons_of_mem _ (List.mem_filter.mpr ⟨?_, ?_⟩)
    · have := zl_mem B Y L 0 k w hk
      rwa [Nat.zero_add] at this
    · simp only [Bool.and_eq_true, Bool.not_eq_true', beq_eq_false_iff_ne, ne_eq, Bool.and_eq_false_iff]
      refine ⟨hki, ?_⟩
      by_cases h2 : k + 1 = i
      · right
        subst h2
        rw [zr_cat]
        intro hc
        simp only [zlong, hk] at hn
        cases w <;> simp [Value.category] at hc hn
      · exact Or.inl h2
def zri : Option Value → Instr
  | none => .return_
  | some (.int _) => .ireturn
  | some _ => .areturn
def zAt (X : zS) (M : zM) (G : zG) (B : Nat) (p : Program) (s : State) (m : MethodId) (args : Array Value) (meth : Method) (c : Code) : Prop :=
  p.tables.exec = Jvm.exec ∧ c.code = M.2.1 ∧ c.maxLocals = M.2.2.1 ∧ s.vm.findClass M.1.cls = some m.cls ∧ (∀ w ∈ zT, w.before args s = true) ∧ zK G s ∧ zX X G B s s.heap ∧ meth.name = M.1.name ∧ B ≤ s.heap.size
def zFin (M : zM) (G : zG) (B : Nat) (p : Program) (l : Launch) (e : Env) (R : Room) (s : State) (m : MethodId) (args : Array Value) (below : List Frame) (meth : Method) (c : Code) (Q : State → Prop) (r : Option Value) (hp' : List zC) : Prop :=
  ∀ (H : Heap) (locs : List Loc) (cells slots pc : Nat) (ls : Array Slot), zH G B hp' H → va_S (fun q => B ≤ q) s.heap H locs → cells ≤ R.cells → slots ≤ R.slots → decode M.2.1 pc = .ok (zri r, 1) → W p l e R s m args below meth c H locs cells slots Q (F0 m pc ls (r.map (zr B G.2.2)).toList)
/-- from pc, with these locals, this stack and this heap, the method M answers r and leaves hp'; d more frames, kc more cells of ks slots are enough -/
def Z (X : zS) (M : zM) (d kc ks : Nat) (r : Option Value) (hp' : List zC) (pc : Nat) (L : List (Option Value)) (st : List Value) (hp : List zC) : Prop :=
  ∀ (G : zG) (B : Nat) (p : Program) (l : Launch) (e : Env) (R : Room) (s : State) (m : MethodId) (args : Array Value) (below : List Frame) (meth : Method) (c : Code) (Q : State → Prop) (H : Heap) (locs : List Loc) (cells slots : Nat) (ls : Array Slot),
    zAt X M G B p s m args meth c → zFin M G B p l e R s m args below meth c Q r hp' → zH G B hp H → va_S (fun q => B ≤ q) s.heap H locs → d ≤ R.frames → 60 * d ≤ R.locals → cells + kc ≤ R.cells → slots + ks ≤ R.slots → lv_has ls M.2.2.1 (zl B G.2.2 0 L) →
    W p l e R s m args below meth c H locs cells slots Q (F0 m pc ls (st.map (zr B G.2.2)))
/-- what a method called with av over hp answers and leaves -/
def Ret (d mc ms : Nat) (M : zM) (av : List Value) (hp : List zC) (r : Option Value) (hp' : List zC) : Prop :=
  ∀ (X : zS) (l : Launch) (G : zG) (B : Nat), Met l M.1 (Cond.code M.1 M.2.1 M.2.2.1 M.2.2.2 :: zT) { frames := d, cells := mc, slots := ms, locals := 60 * d } (va_Pc (av.map (zr B G.2.2)) (fun U => zH G B hp U.heap ∧ zK G U ∧ zX X G B U U.heap))
    (fun _ st o t => (o = .returned (r.map (zr B G.2.2)) ∧ zH G B hp' t.heap) ∧ va_F (fun q => B ≤ q) st t) mc ms (fun q => B ≤ q)
/-- what a method may answer -/
def zrt : Option FieldType → Option Value → Prop
  | none, none => True
  | some ty, some (.int v) => narrow ty (.int v) = .int v
  | some (.object _), some .null => True
  | some (.object _), some (.ref _) => True
  | _, _ => False
/-- the arguments as locals -/
def zargs : List Value → List (Option Value)
  | [] => []
  | .long v :: l => some (.long v) :: none :: zargs l
  | .double v :: l => some (.double v) :: none :: zargs l
  | v :: l => some v :: zargs l
theorem zargs_mem (B : Nat) (Y : Nat → Nat) : ∀ (av : List Value) (i : Nat) (q : Nat × Value), q ∈ zl B Y i (zargs av) → q ∈ lv_args i (av.map (zr B Y))
  | [], i, q, h => by simp [zl, zargs] at h
  | v :: l, i, q, h => by
    have ih1 := zargs_mem B Y l (i + 1) q
    have ih2 := zargs_mem B Y l (i + 2) q
    cases v <;> simp only [zargs, zl, List.map_cons, lv_args, zr, Value.category, List.mem_cons] at h ⊢ <;>
      first
      | (rcases h with h | h
         · exact Or.inl h
         · exact Or.inr (by simpa using ih1 h))
      | (rcases h with h | h
         · exact Or.inl h
         · exact Or.inr (by simpa using ih2 h))
theorem zl_pad (B : Nat) (Y : Nat → Nat) : ∀ (L : List (Option Value)) (i n : Nat), zl B Y i (L ++ List.replicate n none) = zl B Y i L
  | [], i, 0 => rfl
  | [], i, n + 1 => by
    have := zl_pad B Y [] (i + 1) n
    simpa [zl, List.replicate_succ] using this
  | none :: L, i, n => by simp only [List.cons_append, zl]; exact zl_pad B Y L (i + 1) n
  | some v :: L, i, n => by simp only [List.cons_append, zl, zl_pad B Y L (i + 1) n]
theorem lg_sl_z (B : Nat) (Y : Nat → Nat) : ∀ av : List Value, (lg_sl (av.map (zr B Y))).length = (zargs av).length
  | [] => rfl
  | v :: l => by
    have ih := lg_sl_z B Y l
    cases v <;> simp [lg_sl, zargs, zr, Value.category] at ih ⊢ <;> omega
theorem Ret.of {d mc ms : Nat} {M : zM} {av : List Value} {hp hp' : List zC} {r : Option Value} (hy : plainName M.1.cls = true) (hr : zrt M.2.2.2 r) {n : Nat} (hn : (zargs av).length + n = M.2.2.1)
    (h : ∀ X : zS, Z X M d mc ms r hp' 0 (zargs av ++ List.replicate n none) [] hp) : Ret d mc ms M av hp r hp' := by
  intro X l G B
  refine Met.ofW (cc := M.2.1) (maxL := M.2.2.1) (ret := M.2.2.2) hy rfl ?_
  intro p e s m args below meth c s₁ Bd hml hv
  obtain ⟨rfl, hH, hK, hX⟩ := hv
  have hx := Bd.exec
  have hb := Bd.bytes
  have hret := Bd.returns
  have hts := atoms_spec (ws := Cond.code M.1 M.2.1 M.2.2.1 M.2.2.2 :: zT) Bd.pre
  have hown : s.vm.findClass M.1.cls = some m.cls := findClass_of_methodNamed Bd.named
  have hlocks := Bd.notSynchronized
  have hnm : meth.name = M.1.name := (name_of_methodNamed Bd.named Bd.method).1
  have hl := lv_entry (av.map (zr B G.2.2)) (n := M.2.2.1) (by rw [lg_sl_z]; omega)
  rw [lg_entry_eq]
  generalize (lg_sl (av.map (zr B G.2.2)) ++ List.replicate (M.2.2.1 - (lg_sl (av.map (zr B G.2.2))).length) Slot.unset).toArray = ls at hl ⊢
  have hl2 : lv_has ls M.2.2.1 (zl B G.2.2 0 (zargs av ++ List.replicate n none)) := ⟨hl.1, hl.2.1, fun q hq => hl.2.2 q (zargs_mem B G.2.2 av 0 q (by rwa [zl_pad] at hq))⟩
  refine h X G B p l e _ s m _ below meth c _ s.heap [] 0 0 ls ⟨hx, hb, hml, hown, fun w hw => hts w (List.mem_cons_of_mem _ hw), hK, hX, hnm, by rw [hH.2]; exact Nat.le_add_right _ _⟩ ?_ hH va_S.rf (Nat.le_refl _) (Nat.le_refl _) (by show 0 + mc ≤ mc; omega) (by show 0 + ms ≤ ms; omega) hl2
  intro H locs cells slots pc ls' hH' hS hc hs hdg
  refine W.widen (k := mc) (n := ms) hc hs ?_
  generalize hM : M.2.2.2 = rt at hr hret
  match rt, r, hr, hdg with
  | none, none, _, hdg => exact W.vret hx hb hret (fun t ht hW => ⟨⟨rfl, by rw [ht]; exact hH'⟩, hS.F ht⟩) hS.2.2 hdg
  | some ty, some (.int v), hr, hdg => exact W.zret (v := v) hx hb hret hr (fun t ht hW => ⟨⟨rfl, by rw [ht]; exact hH'⟩, hS.F ht⟩) hS.2.2 hdg
  | some (.object n), some .null, _, hdg => exact W.aret hx hb hret (Or.inl ⟨n, rfl⟩) (Or.inl rfl) (fun t ht hW => ⟨⟨rfl, by rw [ht]; exact hH'⟩, hS.F ht⟩) hS.2.2 hdg
  | some (.object n), some (.ref k), _, hdg => exact W.aret hx hb hret (Or.inl ⟨n, rfl⟩) (Or.inr ⟨_, rfl⟩) (fun t ht hW => ⟨⟨rfl, by rw [ht]; exact hH'⟩, hS.F ht⟩) hS.2.2 hdg
/-- behind a call -/
theorem z_run {X : zS} {M : zM} {G : zG} {B : Nat} {p : Program} {l : Launch} {e : Env} {R : Room} {s : State} {m : MethodId} {args : Array Value} {below : List Frame} {meth : Method} {c : Code} {Q : State → Prop} {H : Heap} {locs : List Loc} {cells slots mc ms pc : Nat} {ls : Array Slot} {st0 rest : List Value} {r : Option Value} {hp1 : List zC} {av : Array Value}
    (hS : va_S (fun q => B ≤ q) s.heap H locs)
    (hr : va_Run p l e R s m args below meth c H locs cells slots mc ms (F0 m pc ls st0) rest ((fun (_ : Array Value) (st : State) (o : Outcome) (t : State) => (o = .returned r ∧ zH G B hp1 t.heap) ∧ va_F (fun q => B ≤ q) st t) av) (fun q => B ≤ q))
    (kk : ∀ (H1 : Heap) (locs1 : List Loc), zH G B hp1 H1 → va_S (fun q => B ≤ q) s.heap H1 locs1 → W p l e R s m args below meth c H1 locs1 (cells + mc) (slots + ms) Q (F0 m (pc + 3) ls (r.toList ++ rest))) : W p l e R s m args below meth c H locs cells slots Q (F0 m pc ls st0) := by
  intro T hT X'
  obtain ⟨v, st₀, t, T', L, h0, X', hL, e1, e2, ⟨⟨hv, hz1⟩, hz, hk⟩, st⟩ := hr T hT X'
  cases hv
  rw [h0] at hz hk
  obtain ⟨t2, a1, b1⟩ := kk T'.heap (locs ++ L) (by rw [e1]; exact hz1)
    ⟨Nat.le_trans hS.1 (by rw [e1]; exact hz), fun q h1 h2 => by rw [e1, hk q (Nat.lt_of_lt_of_le h1 hS.1) h2]; exact hS.2.1 q h1 h2, fun q hq => by
      rcases List.mem_append.mp hq with h | h
      · exact hS.2.2 q h
      · exact hL q h⟩ T' rfl X'
  exact ⟨t2, st t2 a1, b1⟩
theorem zX.at {X : zS} {M : zM} {G : zG} {B : Nat} {p : Program} {s : State} {m : MethodId} {args : Array Value} {meth : Method} {c : Code} {H : Heap} {locs : List Loc} (A : zAt X M G B p s m args meth c) (hS : va_S (fun q => B ≤ q) s.heap H locs) : zX X G B s H :=
  zX.kept (fun a h1 h2 => hS.2.1 a h1 h2) A.2.2.2.2.2.2.2.2 A.2.2.2.2.2.2.1
theorem z_blind {X : zS} {G : zG} {B : Nat} {hp : List zC} (av : List Value) : FrameBlind (va_Pc av (fun U => zH G B hp U.heap ∧ zK G U ∧ zX X G B U U.heap)) :=
  fun a U g mk h => ⟨h.1, h.2.1, va_K.moved (u := U) (U := U.calling g mk a) (Vm.Alike.refl U.vm) h.2.2.1, zX.moved (U := U.calling g mk a) (State.WarmedH.refl U) h.2.2.2⟩
theorem z_preS {X : zS} {M : zM} {G : zG} {B : Nat} {p : Program} {s : State} {m : MethodId} {args : Array Value} {meth : Method} {c : Code} {H : Heap} {locs : List Loc} {hp : List zC} (A : zAt X M G B p s m args meth c) (hS : va_S (fun q => B ≤ q) s.heap H locs) (h : zH G B hp H) (av : List Value) :
    PreS s H (va_Pc av (fun U => zH G B hp U.heap ∧ zK G U ∧ zX X G B U U.heap)) av :=
  ⟨z_blind av, fun U hU hW => ⟨rfl, by rw [hU]; exact h, va_K.moved hW.alike A.2.2.2.2.2.1, by rw [hU]; exact (zX.at A hS).moved hW⟩⟩
end
section
theorem zl_at {B : Nat} {Y : Nat → Nat} {ls : Array Slot} {nL i : Nat} {L : List (Option Value)} {v : Value} (h : lv_has ls nL (zl B Y 0 L)) (hk : L[i]? = some (some v)) : ls[i]? = some (.val (zr B Y v)) := by
  have := zl_mem B Y L 0 i v hk
  rw [Nat.zero_add] at this
  exact h.2.2 _ this
theorem z_iconst {X : zS} {M : zM} {d kc ks : Nat} {r : Option Value} {hp' : List zC} {pc : Nat} {L : List (Option Value)} {st : List Value} {hp : List zC} {n0 : Int} (hdg : decode M.2.1 pc = .ok (.iconst n0, 1)) (v : Int32) (hv : Int32.ofInt n0 = v) (n : Nat) (en : pc + 1 = n) (k : Z X M d kc ks r hp' n L (.int v :: st) hp) : Z X M d kc ks r hp' pc L st hp := by
  subst en
  intro G B p l e R s m args below meth c Q H locs cells slots ls A F h hS h1 h2 h3 h4 hl
  exact lv_iconst A.1 A.2.1 hdg hv (k G B p l e R s m args below meth c Q H locs cells slots ls A F h hS h1 h2 h3 h4 hl)
theorem z_bipush {X : zS} {M : zM} {d kc ks : Nat} {r : Option Value} {hp' : List zC} {pc : Nat} {L : List (Option Value)} {st : List Value} {hp : List zC} {n0 : Int} (hdg : decode M.2.1 pc = .ok (.bipush n0, 2)) (v : Int32) (hv : (Int8.ofInt n0).toInt32 = v) (n : Nat) (en : pc + 2 = n) (k : Z X M d kc ks r hp' n L (.int v :: st) hp) : Z X M d kc ks r hp' pc L st hp := by
  subst en
  intro G B p l e R s m args below meth c Q H locs cells slots ls A F h hS h1 h2 h3 h4 hl
  exact lv_bipush A.1 A.2.1 hdg hv (k G B p l e R s m args below meth c Q H locs cells slots ls A F h hS h1 h2 h3 h4 hl)
theorem z_sipush {X : zS} {M : zM} {d kc ks : Nat} {r : Option Value} {hp' : List zC} {pc : Nat} {L : List (Option Value)} {st : List Value} {hp : List zC} {n0 : Int} (hdg : decode M.2.1 pc = .ok (.sipush n0, 3)) (v : Int32) (hv : (Int16.ofInt n0).toInt32 = v) (n : Nat) (en : pc + 3 = n) (k : Z X M d kc ks r hp' n L (.int v :: st) hp) : Z X M d kc ks r hp' pc L st hp := by
  subst en
  intro G B p l e R s m args below meth c Q H locs cells slots ls A F h hS h1 h2 h3 h4 hl
  exact lv_sipush A.1 A.2.1 hdg hv (k G B p l e R s m args below meth c Q H locs cells slots ls A F h hS h1 h2 h3 h4 hl)
theorem z_ldc {X : zS} {M : zM} {d kc ks : Nat} {r : Option Value} {hp' : List zC} {pc : Nat} {L : List (Option Value)} {st : List Value} {hp : List zC} {ix : Nat} {v : Int32} (hdg : decode M.2.1 pc = .ok (.ldc ix, 2)) (hw : Cond.constant M.1.cls ix v ∈ zT) (n : Nat) (en : pc + 2 = n) (k : Z X M d kc ks r hp' n L (.int v :: st) hp) : Z X M d kc ks r hp' pc L st hp := by
  subst en
  intro G B p l e R s m args below meth c Q H locs cells slots ls A F h hS h1 h2 h3 h4 hl
  exact lv_ldc A.1 A.2.1 A.2.2.2.1 (A.2.2.2.2.1 _ hw) hdg (k G B p l e R s m args below meth c Q H locs cells slots ls A F h hS h1 h2 h3 h4 hl)
theorem z_ldc_w {X : zS} {M : zM} {d kc ks : Nat} {r : Option Value} {hp' : List zC} {pc : Nat} {L : List (Option Value)} {st : List Value} {hp : List zC} {ix : Nat} {v : Int32} (hdg : decode M.2.1 pc = .ok (.ldc_w ix, 3)) (hw : Cond.constant M.1.cls ix v ∈ zT) (n : Nat) (en : pc + 3 = n) (k : Z X M d kc ks r hp' n L (.int v :: st) hp) : Z X M d kc ks r hp' pc L st hp := by
  subst en
  intro G B p l e R s m args below meth c Q H locs cells slots ls A F h hS h1 h2 h3 h4 hl
  exact lv_ldcw A.1 A.2.1 A.2.2.2.1 (A.2.2.2.2.1 _ hw) hdg (k G B p l e R s m args below meth c Q H locs cells slots ls A F h hS h1 h2 h3 h4 hl)
theorem z_ldc2_w {X : zS} {M : zM} {d kc ks : Nat} {r : Option Value} {hp' : List zC} {pc : Nat} {L : List (Option Value)} {st : List Value} {hp : List zC} {ix : Nat} {v : Int64} (hdg : decode M.2.1 pc = .ok (.ldc2_w ix, 3)) (hw : Cond.constantLong M.1.cls ix v ∈ zT) (n : Nat) (en : pc + 3 = n) (k : Z X M d kc ks r hp' n L (.long v :: st) hp) : Z X M d kc ks r hp' pc L st hp := by
  subst en
  intro G B p l e R s m args below meth c Q H locs cells slots ls A F h hS h1 h2 h3 h4 hl
  exact lv_ldc2 A.1 A.2.1 A.2.2.2.1 (A.2.2.2.2.1 _ hw) hdg (k G B p l e R s m args below meth c Q H locs cells slots ls A F h hS h1 h2 h3 h4 hl)
theorem z_aconst_null {X : zS} {M : zM} {d kc ks : Nat} {r : Option Value} {hp' : List zC} {pc : Nat} {L : List (Option Value)} {st : List Value} {hp : List zC} (hdg : decode M.2.1 pc = .ok (.aconst_null, 1)) (n : Nat) (en : pc + 1 = n) (k : Z X M d kc ks r hp' n L (.null :: st) hp) : Z X M d kc ks r hp' pc L st hp := by
  subst en
  intro G B p l e R s m args below meth c Q H locs cells slots ls A F h hS h1 h2 h3 h4 hl
  exact lv_null A.1 A.2.1 hdg (k G B p l e R s m args below meth c Q H locs cells slots ls A F h hS h1 h2 h3 h4 hl)
theorem z_iload_n {X : zS} {M : zM} {d kc ks : Nat} {r : Option Value} {hp' : List zC} {pc : Nat} {L : List (Option Value)} {st : List Value} {hp : List zC} {i : Fin 4} {x : Int32} (hdg : decode M.2.1 pc = .ok (.iload_n i, 1)) (hi : L[(i : Nat)]? = some (some (.int x))) (n : Nat) (en : pc + 1 = n) (k : Z X M d kc ks r hp' n L (.int x :: st) hp) : Z X M d kc ks r hp' pc L st hp := by
  subst en
  intro G B p l e R s m args below meth c Q H locs cells slots ls A F h hS h1 h2 h3 h4 hl
  exact lv_iload_n A.1 A.2.1 hdg rfl (zl_at hl hi) (k G B p l e R s m args below meth c Q H locs cells slots ls A F h hS h1 h2 h3 h4 hl)
theorem z_iload {X : zS} {M : zM} {d kc ks : Nat} {r : Option Value} {hp' : List zC} {pc : Nat} {L : List (Option Value)} {st : List Value} {hp : List zC} {i : Nat} {x : Int32} (hdg : decode M.2.1 pc = .ok (.iload i, 2)) (hi : L[i]? = some (some (.int x))) (n : Nat) (en : pc + 2 = n) (k : Z X M d kc ks r hp' n L (.int x :: st) hp) : Z X M d kc ks r hp' pc L st hp := by
  subst en
  intro G B p l e R s m args below meth c Q H locs cells slots ls A F h hS h1 h2 h3 h4 hl
  exact lv_iload A.1 A.2.1 hdg (zl_at hl hi) (k G B p l e R s m args below meth c Q H locs cells slots ls A F h hS h1 h2 h3 h4 hl)
theorem z_lload_n {X : zS} {M : zM} {d kc ks : Nat} {r : Option Value} {hp' : List zC} {pc : Nat} {L : List (Option Value)} {st : List Value} {hp : List zC} {i : Fin 4} {x : Int64} (hdg : decode M.2.1 pc = .ok (.lload_n i, 1)) (hi : L[(i : Nat)]? = some (some (.long x))) (n : Nat) (en : pc + 1 = n) (k : Z X M d kc ks r hp' n L (.long x :: st) hp) : Z X M d kc ks r hp' pc L st hp := by
  subst en
  intro G B p l e R s m args below meth c Q H locs cells slots ls A F h hS h1 h2 h3 h4 hl
  exact lv_lload_n A.1 A.2.1 hdg rfl (zl_at hl hi) (k G B p l e R s m args below meth c Q H locs cells slots ls A F h hS h1 h2 h3 h4 hl)
theorem z_lload {X : zS} {M : zM} {d kc ks : Nat} {r : Option Value} {hp' : List zC} {pc : Nat} {L : List (Option Value)} {st : List Value} {hp : List zC} {i : Nat} {x : Int64} (hdg : decode M.2.1 pc = .ok (.lload i, 2)) (hi : L[i]? = some (some (.long x))) (n : Nat) (en : pc + 2 = n) (k : Z X M d kc ks r hp' n L (.long x :: st) hp) : Z X M d kc ks r hp' pc L st hp := by
  subst en
  intro G B p l e R s m args below meth c Q H locs cells slots ls A F h hS h1 h2 h3 h4 hl
  exact lv_lload A.1 A.2.1 hdg (zl_at hl hi) (k G B p l e R s m args below meth c Q H locs cells slots ls A F h hS h1 h2 h3 h4 hl)
theorem z_aload_n {X : zS} {M : zM} {d kc ks : Nat} {r : Option Value} {hp' : List zC} {pc : Nat} {L : List (Option Value)} {st : List Value} {hp : List zC} {i : Fin 4} {x : Nat} (hdg : decode M.2.1 pc = .ok (.aload_n i, 1)) (hi : L[(i : Nat)]? = some (some (.ref x))) (n : Nat) (en : pc + 1 = n) (k : Z X M d kc ks r hp' n L (.ref x :: st) hp) : Z X M d kc ks r hp' pc L st hp := by
  subst en
  intro G B p l e R s m args below meth c Q H locs cells slots ls A F h hS h1 h2 h3 h4 hl
  exact lv_aload_n A.1 A.2.1 hdg rfl (zl_at hl hi) (k G B p l e R s m args below meth c Q H locs cells slots ls A F h hS h1 h2 h3 h4 hl)
theorem z_aload {X : zS} {M : zM} {d kc ks : Nat} {r : Option Value} {hp' : List zC} {pc : Nat} {L : List (Option Value)} {st : List Value} {hp : List zC} {i : Nat} {x : Nat} (hdg : decode M.2.1 pc = .ok (.aload i, 2)) (hi : L[i]? = some (some (.ref x))) (n : Nat) (en : pc + 2 = n) (k : Z X M d kc ks r hp' n L (.ref x :: st) hp) : Z X M d kc ks r hp' pc L st hp := by
  subst en
  intro G B p l e R s m args below meth c Q H locs cells slots ls A F h hS h1 h2 h3 h4 hl
  exact lv_aload A.1 A.2.1 hdg (zl_at hl hi) (k G B p l e R s m args below meth c Q H locs cells slots ls A F h hS h1 h2 h3 h4 hl)
theorem z_aload_nX {X : zS} {M : zM} {d kc ks : Nat} {r : Option Value} {hp' : List zC} {pc : Nat} {L : List (Option Value)} {st : List Value} {hp : List zC} {i : Fin 4} {x : Nat} (hdg : decode M.2.1 pc = .ok (.aload_n i, 1)) (hi : L[(i : Nat)]? = some (some (.retAddr x))) (n : Nat) (en : pc + 1 = n) (k : Z X M d kc ks r hp' n L (.retAddr x :: st) hp) : Z X M d kc ks r hp' pc L st hp := by
  subst en
  intro G B p l e R s m args below meth c Q H locs cells slots ls A F h hS h1 h2 h3 h4 hl
  exact lv_aload_n A.1 A.2.1 hdg rfl (zl_at hl hi) (k G B p l e R s m args below meth c Q H locs cells slots ls A F h hS h1 h2 h3 h4 hl)
theorem z_aload_nN {X : zS} {M : zM} {d kc ks : Nat} {r : Option Value} {hp' : List zC} {pc : Nat} {L : List (Option Value)} {st : List Value} {hp : List zC} {i : Fin 4} (hdg : decode M.2.1 pc = .ok (.aload_n i, 1)) (hi : L[(i : Nat)]? = some (some .null)) (n : Nat) (en : pc + 1 = n) (k : Z X M d kc ks r hp' n L (.null :: st) hp) : Z X M d kc ks r hp' pc L st hp := by
  subst en
  intro G B p l e R s m args below meth c Q H locs cells slots ls A F h hS h1 h2 h3 h4 hl
  exact lv_aload_nN A.1 A.2.1 hdg rfl (zl_at hl hi) (k G B p l e R s m args below meth c Q H locs cells slots ls A F h hS h1 h2 h3 h4 hl)
theorem z_aloadN {X : zS} {M : zM} {d kc ks : Nat} {r : Option Value} {hp' : List zC} {pc : Nat} {L : List (Option Value)} {st : List Value} {hp : List zC} {i : Nat} (hdg : decode M.2.1 pc = .ok (.aload i, 2)) (hi : L[i]? = some (some .null)) (n : Nat) (en : pc + 2 = n) (k : Z X M d kc ks r hp' n L (.null :: st) hp) : Z X M d kc ks r hp' pc L st hp := by
  subst en
  intro G B p l e R s m args below meth c Q H locs cells slots ls A F h hS h1 h2 h3 h4 hl
  exact lv_aloadN A.1 A.2.1 hdg (zl_at hl hi) (k G B p l e R s m args below meth c Q H locs cells slots ls A F h hS h1 h2 h3 h4 hl)
theorem z_istore_n {X : zS} {M : zM} {d kc ks : Nat} {r : Option Value} {hp' : List zC} {pc : Nat} {L : List (Option Value)} {st : List Value} {hp : List zC} {i : Fin 4} {x : Int32} (hdg : decode M.2.1 pc = .ok (.istore_n i, 1)) (n : Nat) (en : pc + 1 = n) (hi : (i : Nat) < M.2.2.1) (hz : zlong L (i : Nat) = false) (k : Z X M d kc ks r hp' n (L.set (i : Nat) (some (.int x))) st hp) : Z X M d kc ks r hp' pc L (.int x :: st) hp := by
  subst en
  intro G B p l e R s m args below meth c Q H locs cells slots ls A F h hS h1 h2 h3 h4 hl
  exact lv_istore_n A.1 A.2.1 hdg rfl hl hi rfl (fun ls' hl' => k G B p l e R s m args below meth c Q H locs cells slots ls' A F h hS h1 h2 h3 h4 (zl_set (v := .int x) hz hl'))
theorem z_istore {X : zS} {M : zM} {d kc ks : Nat} {r : Option Value} {hp' : List zC} {pc : Nat} {L : List (Option Value)} {st : List Value} {hp : List zC} {i : Nat} {x : Int32} (hdg : decode M.2.1 pc = .ok (.istore i, 2)) (n : Nat) (en : pc + 2 = n) (hi : i < M.2.2.1) (hz : zlong L i = false) (k : Z X M d kc ks r hp' n (L.set i (some (.int x))) st hp) : Z X M d kc ks r hp' pc L (.int x :: st) hp := by
  subst en
  intro G B p l e R s m args below meth c Q H locs cells slots ls A F h hS h1 h2 h3 h4 hl
  exact lv_istore A.1 A.2.1 hdg hl hi rfl (fun ls' hl' => k G B p l e R s m args below meth c Q H locs cells slots ls' A F h hS h1 h2 h3 h4 (zl_set (v := .int x) hz hl'))
theorem z_astore_n {X : zS} {M : zM} {d kc ks : Nat} {r : Option Value} {hp' : List zC} {pc : Nat} {L : List (Option Value)} {st : List Value} {hp : List zC} {i : Fin 4} {x : Nat} (hdg : decode M.2.1 pc = .ok (.astore_n i, 1)) (n : Nat) (en : pc + 1 = n) (hi : (i : Nat) < M.2.2.1) (hz : zlong L (i : Nat) = false) (k : Z X M d kc ks r hp' n (L.set (i : Nat) (some (.ref x))) st hp) : Z X M d kc ks r hp' pc L (.ref x :: st) hp := by
  subst en
  intro G B p l e R s m args below meth c Q H locs cells slots ls A F h hS h1 h2 h3 h4 hl
  exact lv_astore_n A.1 A.2.1 hdg rfl hl hi rfl (fun ls' hl' => k G B p l e R s m args below meth c Q H locs cells slots ls' A F h hS h1 h2 h3 h4 (zl_set (v := .ref x) hz hl'))
theorem z_astore {X : zS} {M : zM} {d kc ks : Nat} {r : Option Value} {hp' : List zC} {pc : Nat} {L : List (Option Value)} {st : List Value} {hp : List zC} {i : Nat} {x : Nat} (hdg : decode M.2.1 pc = .ok (.astore i, 2)) (n : Nat) (en : pc + 2 = n) (hi : i < M.2.2.1) (hz : zlong L i = false) (k : Z X M d kc ks r hp' n (L.set i (some (.ref x))) st hp) : Z X M d kc ks r hp' pc L (.ref x :: st) hp := by
  subst en
  intro G B p l e R s m args below meth c Q H locs cells slots ls A F h hS h1 h2 h3 h4 hl
  exact lv_astore A.1 A.2.1 hdg hl hi rfl (fun ls' hl' => k G B p l e R s m args below meth c Q H locs cells slots ls' A F h hS h1 h2 h3 h4 (zl_set (v := .ref x) hz hl'))
theorem z_astore_nN {X : zS} {M : zM} {d kc ks : Nat} {r : Option Value} {hp' : List zC} {pc : Nat} {L : List (Option Value)} {st : List Value} {hp : List zC} {i : Fin 4} (hdg : decode M.2.1 pc = .ok (.astore_n i, 1)) (n : Nat) (en : pc + 1 = n) (hi : (i : Nat) < M.2.2.1) (hz : zlong L (i : Nat) = false) (k : Z X M d kc ks r hp' n (L.set (i : Nat) (some (.null))) st hp) : Z X M d kc ks r hp' pc L (.null :: st) hp := by
  subst en
  intro G B p l e R s m args below meth c Q H locs cells slots ls A F h hS h1 h2 h3 h4 hl
  exact lv_astore_nN A.1 A.2.1 hdg rfl hl hi rfl (fun ls' hl' => k G B p l e R s m args below meth c Q H locs cells slots ls' A F h hS h1 h2 h3 h4 (zl_set (v := .null) hz hl'))
theorem z_astoreN {X : zS} {M : zM} {d kc ks : Nat} {r : Option Value} {hp' : List zC} {pc : Nat} {L : List (Option Value)} {st : List Value} {hp : List zC} {i : Nat} (hdg : decode M.2.1 pc = .ok (.astore i, 2)) (n : Nat) (en : pc + 2 = n) (hi : i < M.2.2.1) (hz : zlong L i = false) (k : Z X M d kc ks r hp' n (L.set i (some (.null))) st hp) : Z X M d kc ks r hp' pc L (.null :: st) hp := by
  subst en
  intro G B p l e R s m args below meth c Q H locs cells slots ls A F h hS h1 h2 h3 h4 hl
  exact lv_astoreN A.1 A.2.1 hdg hl hi rfl (fun ls' hl' => k G B p l e R s m args below meth c Q H locs cells slots ls' A F h hS h1 h2 h3 h4 (zl_set (v := .null) hz hl'))
theorem zl_ix {B : Nat} {Y : Nat → Nat} {L : List (Option Value)} {i : Nat} {v : Value} (hk : L[i]? = some (some v)) : ∃ k : Nat, (zl B Y 0 L)[k]? = some (i, zr B Y v) := by
  have := zl_mem B Y L 0 i v hk
  rw [Nat.zero_add] at this
  exact List.getElem?_of_mem this
theorem z_iinc {X : zS} {M : zM} {d kc ks : Nat} {r : Option Value} {hp' : List zC} {pc : Nat} {L : List (Option Value)} {st : List Value} {hp : List zC} {i : Nat} {n0 : Int} {x : Int32} (hdg : decode M.2.1 pc = .ok (.iinc i n0, 3)) (v : Int32) (hv : Int32.ofInt n0 = v) (n : Nat) (en : pc + 3 = n) (hi : L[i]? = some (some (.int x))) (hb : i < M.2.2.1) (hz : zlong L i = false) (k : Z X M d kc ks r hp' n (L.set i (some (.int (x + v)))) st hp) : Z X M d kc ks r hp' pc L st hp := by
  subst en
  subst hv
  intro G B p l e R s m args below meth c Q H locs cells slots ls A F h hS h1 h2 h3 h4 hl
  obtain ⟨q, hq⟩ := zl_ix (B := B) (Y := G.2.2) hi
  exact lv_iinc A.1 A.2.1 hdg hl hq rfl hb rfl (fun ls' hl' => k G B p l e R s m args below meth c Q H locs cells slots ls' A F h hS h1 h2 h3 h4 (zl_set (v := .int (x + Int32.ofInt n0)) hz hl'))
theorem z_iadd {X : zS} {M : zM} {d kc ks : Nat} {r : Option Value} {hp' : List zC} {pc : Nat} {L : List (Option Value)} {st : List Value} {hp : List zC} {x y : Int32} (hdg : decode M.2.1 pc = .ok (.iadd, 1)) (n : Nat) (en : pc + 1 = n) (k : Z X M d kc ks r hp' n L (.int (x + y) :: st) hp) : Z X M d kc ks r hp' pc L (.int y :: .int x :: st) hp := by
  subst en
  intro G B p l e R s m args below meth c Q H locs cells slots ls A F h hS h1 h2 h3 h4 hl
  exact lv_iadd A.1 A.2.1 hdg (k G B p l e R s m args below meth c Q H locs cells slots ls A F h hS h1 h2 h3 h4 hl)
theorem z_isub {X : zS} {M : zM} {d kc ks : Nat} {r : Option Value} {hp' : List zC} {pc : Nat} {L : List (Option Value)} {st : List Value} {hp : List zC} {x y : Int32} (hdg : decode M.2.1 pc = .ok (.isub, 1)) (n : Nat) (en : pc + 1 = n) (k : Z X M d kc ks r hp' n L (.int (x - y) :: st) hp) : Z X M d kc ks r hp' pc L (.int y :: .int x :: st) hp := by
  subst en
  intro G B p l e R s m args below meth c Q H locs cells slots ls A F h hS h1 h2 h3 h4 hl
  exact lv_isub A.1 A.2.1 hdg (k G B p l e R s m args below meth c Q H locs cells slots ls A F h hS h1 h2 h3 h4 hl)
theorem z_imul {X : zS} {M : zM} {d kc ks : Nat} {r : Option Value} {hp' : List zC} {pc : Nat} {L : List (Option Value)} {st : List Value} {hp : List zC} {x y : Int32} (hdg : decode M.2.1 pc = .ok (.imul, 1)) (n : Nat) (en : pc + 1 = n) (k : Z X M d kc ks r hp' n L (.int (x * y) :: st) hp) : Z X M d kc ks r hp' pc L (.int y :: .int x :: st) hp := by
  subst en
  intro G B p l e R s m args below meth c Q H locs cells slots ls A F h hS h1 h2 h3 h4 hl
  exact lv_imul A.1 A.2.1 hdg (k G B p l e R s m args below meth c Q H locs cells slots ls A F h hS h1 h2 h3 h4 hl)
theorem z_iand {X : zS} {M : zM} {d kc ks : Nat} {r : Option Value} {hp' : List zC} {pc : Nat} {L : List (Option Value)} {st : List Value} {hp : List zC} {x y : Int32} (hdg : decode M.2.1 pc = .ok (.iand, 1)) (n : Nat) (en : pc + 1 = n) (k : Z X M d kc ks r hp' n L (.int (x &&& y) :: st) hp) : Z X M d kc ks r hp' pc L (.int y :: .int x :: st) hp := by
  subst en
  intro G B p l e R s m args below meth c Q H locs cells slots ls A F h hS h1 h2 h3 h4 hl
  exact lv_iand A.1 A.2.1 hdg (k G B p l e R s m args below meth c Q H locs cells slots ls A F h hS h1 h2 h3 h4 hl)
theorem z_ior {X : zS} {M : zM} {d kc ks : Nat} {r : Option Value} {hp' : List zC} {pc : Nat} {L : List (Option Value)} {st : List Value} {hp : List zC} {x y : Int32} (hdg : decode M.2.1 pc = .ok (.ior, 1)) (n : Nat) (en : pc + 1 = n) (k : Z X M d kc ks r hp' n L (.int (x ||| y) :: st) hp) : Z X M d kc ks r hp' pc L (.int y :: .int x :: st) hp := by
  subst en
  intro G B p l e R s m args below meth c Q H locs cells slots ls A F h hS h1 h2 h3 h4 hl
  exact lv_ior A.1 A.2.1 hdg (k G B p l e R s m args below meth c Q H locs cells slots ls A F h hS h1 h2 h3 h4 hl)
theorem z_ixor {X : zS} {M : zM} {d kc ks : Nat} {r : Option Value} {hp' : List zC} {pc : Nat} {L : List (Option Value)} {st : List Value} {hp : List zC} {x y : Int32} (hdg : decode M.2.1 pc = .ok (.ixor, 1)) (n : Nat) (en : pc + 1 = n) (k : Z X M d kc ks r hp' n L (.int (x ^^^ y) :: st) hp) : Z X M d kc ks r hp' pc L (.int y :: .int x :: st) hp := by
  subst en
  intro G B p l e R s m args below meth c Q H locs cells slots ls A F h hS h1 h2 h3 h4 hl
  exact lv_ixor A.1 A.2.1 hdg (k G B p l e R s m args below meth c Q H locs cells slots ls A F h hS h1 h2 h3 h4 hl)
theorem z_ishl {X : zS} {M : zM} {d kc ks : Nat} {r : Option Value} {hp' : List zC} {pc : Nat} {L : List (Option Value)} {st : List Value} {hp : List zC} {x y : Int32} (hdg : decode M.2.1 pc = .ok (.ishl, 1)) (n : Nat) (en : pc + 1 = n) (k : Z X M d kc ks r hp' n L (.int (x <<< (y &&& 31)) :: st) hp) : Z X M d kc ks r hp' pc L (.int y :: .int x :: st) hp := by
  subst en
  intro G B p l e R s m args below meth c Q H locs cells slots ls A F h hS h1 h2 h3 h4 hl
  exact lv_ishl A.1 A.2.1 hdg (k G B p l e R s m args below meth c Q H locs cells slots ls A F h hS h1 h2 h3 h4 hl)
theorem z_ishr {X : zS} {M : zM} {d kc ks : Nat} {r : Option Value} {hp' : List zC} {pc : Nat} {L : List (Option Value)} {st : List Value} {hp : List zC} {x y : Int32} (hdg : decode M.2.1 pc = .ok (.ishr, 1)) (n : Nat) (en : pc + 1 = n) (k : Z X M d kc ks r hp' n L (.int (x >>> (y &&& 31)) :: st) hp) : Z X M d kc ks r hp' pc L (.int y :: .int x :: st) hp := by
  subst en
  intro G B p l e R s m args below meth c Q H locs cells slots ls A F h hS h1 h2 h3 h4 hl
  exact lv_ishr A.1 A.2.1 hdg (k G B p l e R s m args below meth c Q H locs cells slots ls A F h hS h1 h2 h3 h4 hl)
theorem z_idiv {X : zS} {M : zM} {d kc ks : Nat} {r : Option Value} {hp' : List zC} {pc : Nat} {L : List (Option Value)} {st : List Value} {hp : List zC} {x y : Int32} (hdg : decode M.2.1 pc = .ok (.idiv, 1)) (hne : ¬ y = 0) (n : Nat) (en : pc + 1 = n) (k : Z X M d kc ks r hp' n L (.int (x / y) :: st) hp) : Z X M d kc ks r hp' pc L (.int y :: .int x :: st) hp := by
  subst en
  intro G B p l e R s m args below meth c Q H locs cells slots ls A F h hS h1 h2 h3 h4 hl
  exact lv_idiv A.1 A.2.1 hdg hne (k G B p l e R s m args below meth c Q H locs cells slots ls A F h hS h1 h2 h3 h4 hl)
theorem z_irem {X : zS} {M : zM} {d kc ks : Nat} {r : Option Value} {hp' : List zC} {pc : Nat} {L : List (Option Value)} {st : List Value} {hp : List zC} {x y : Int32} (hdg : decode M.2.1 pc = .ok (.irem, 1)) (hne : ¬ y = 0) (n : Nat) (en : pc + 1 = n) (k : Z X M d kc ks r hp' n L (.int (x - x / y * y) :: st) hp) : Z X M d kc ks r hp' pc L (.int y :: .int x :: st) hp := by
  subst en
  intro G B p l e R s m args below meth c Q H locs cells slots ls A F h hS h1 h2 h3 h4 hl
  exact lv_irem A.1 A.2.1 hdg hne (k G B p l e R s m args below meth c Q H locs cells slots ls A F h hS h1 h2 h3 h4 hl)
theorem z_ineg {X : zS} {M : zM} {d kc ks : Nat} {r : Option Value} {hp' : List zC} {pc : Nat} {L : List (Option Value)} {st : List Value} {hp : List zC} {x : Int32} (hdg : decode M.2.1 pc = .ok (.ineg, 1)) (n : Nat) (en : pc + 1 = n) (k : Z X M d kc ks r hp' n L (.int (-x) :: st) hp) : Z X M d kc ks r hp' pc L (.int x :: st) hp := by
  subst en
  intro G B p l e R s m args below meth c Q H locs cells slots ls A F h hS h1 h2 h3 h4 hl
  exact lv_ineg A.1 A.2.1 hdg (k G B p l e R s m args below meth c Q H locs cells slots ls A F h hS h1 h2 h3 h4 hl)
theorem z_iushr {X : zS} {M : zM} {d kc ks : Nat} {r : Option Value} {hp' : List zC} {pc : Nat} {L : List (Option Value)} {st : List Value} {hp : List zC} {x y : Int32} (hdg : decode M.2.1 pc = .ok (.iushr, 1)) (n : Nat) (en : pc + 1 = n) (k : Z X M d kc ks r hp' n L (.int (x.toUInt32 >>> (y.toUInt32 &&& Int32.toUInt32 31)).toInt32 :: st) hp) : Z X M d kc ks r hp' pc L (.int y :: .int x :: st) hp := by
  subst en
  intro G B p l e R s m args below meth c Q H locs cells slots ls A F h hS h1 h2 h3 h4 hl
  exact lv_iushr A.1 A.2.1 hdg rfl (k G B p l e R s m args below meth c Q H locs cells slots ls A F h hS h1 h2 h3 h4 hl)
theorem z_land {X : zS} {M : zM} {d kc ks : Nat} {r : Option Value} {hp' : List zC} {pc : Nat} {L : List (Option Value)} {st : List Value} {hp : List zC} {x y : Int64} (hdg : decode M.2.1 pc = .ok (.land, 1)) (n : Nat) (en : pc + 1 = n) (k : Z X M d kc ks r hp' n L (.long (x &&& y) :: st) hp) : Z X M d kc ks r hp' pc L (.long y :: .long x :: st) hp := by
  subst en
  intro G B p l e R s m args below meth c Q H locs cells slots ls A F h hS h1 h2 h3 h4 hl
  exact lv_land A.1 A.2.1 hdg (k G B p l e R s m args below meth c Q H locs cells slots ls A F h hS h1 h2 h3 h4 hl)
theorem z_lor {X : zS} {M : zM} {d kc ks : Nat} {r : Option Value} {hp' : List zC} {pc : Nat} {L : List (Option Value)} {st : List Value} {hp : List zC} {x y : Int64} (hdg : decode M.2.1 pc = .ok (.lor, 1)) (n : Nat) (en : pc + 1 = n) (k : Z X M d kc ks r hp' n L (.long (x ||| y) :: st) hp) : Z X M d kc ks r hp' pc L (.long y :: .long x :: st) hp := by
  subst en
  intro G B p l e R s m args below meth c Q H locs cells slots ls A F h hS h1 h2 h3 h4 hl
  exact lv_lor A.1 A.2.1 hdg (k G B p l e R s m args below meth c Q H locs cells slots ls A F h hS h1 h2 h3 h4 hl)
theorem z_lshl {X : zS} {M : zM} {d kc ks : Nat} {r : Option Value} {hp' : List zC} {pc : Nat} {L : List (Option Value)} {st : List Value} {hp : List zC} {x : Int64} {y : Int32} (hdg : decode M.2.1 pc = .ok (.lshl, 1)) (n : Nat) (en : pc + 1 = n) (k : Z X M d kc ks r hp' n L (.long (x <<< (y.toInt64 &&& 63)) :: st) hp) : Z X M d kc ks r hp' pc L (.int y :: .long x :: st) hp := by
  subst en
  intro G B p l e R s m args below meth c Q H locs cells slots ls A F h hS h1 h2 h3 h4 hl
  exact lv_lshl A.1 A.2.1 hdg rfl (k G B p l e R s m args below meth c Q H locs cells slots ls A F h hS h1 h2 h3 h4 hl)
theorem z_lshr {X : zS} {M : zM} {d kc ks : Nat} {r : Option Value} {hp' : List zC} {pc : Nat} {L : List (Option Value)} {st : List Value} {hp : List zC} {x : Int64} {y : Int32} (hdg : decode M.2.1 pc = .ok (.lshr, 1)) (n : Nat) (en : pc + 1 = n) (k : Z X M d kc ks r hp' n L (.long (x >>> (y.toInt64 &&& 63)) :: st) hp) : Z X M d kc ks r hp' pc L (.int y :: .long x :: st) hp := by
  subst en
  intro G B p l e R s m args below meth c Q H locs cells slots ls A F h hS h1 h2 h3 h4 hl
  exact lv_lshr A.1 A.2.1 hdg rfl (k G B p l e R s m args below meth c Q H locs cells slots ls A F h hS h1 h2 h3 h4 hl)
theorem z_lushr {X : zS} {M : zM} {d kc ks : Nat} {r : Option Value} {hp' : List zC} {pc : Nat} {L : List (Option Value)} {st : List Value} {hp : List zC} {x : Int64} {y : Int32} (hdg : decode M.2.1 pc = .ok (.lushr, 1)) (n : Nat) (en : pc + 1 = n) (k : Z X M d kc ks r hp' n L (.long (x.toUInt64 >>> (y.toInt64.toUInt64 &&& Int64.toUInt64 63)).toInt64 :: st) hp) : Z X M d kc ks r hp' pc L (.int y :: .long x :: st) hp := by
  subst en
  intro G B p l e R s m args below meth c Q H locs cells slots ls A F h hS h1 h2 h3 h4 hl
  exact lv_lushr A.1 A.2.1 hdg rfl (k G B p l e R s m args below meth c Q H locs cells slots ls A F h hS h1 h2 h3 h4 hl)
theorem z_l2i {X : zS} {M : zM} {d kc ks : Nat} {r : Option Value} {hp' : List zC} {pc : Nat} {L : List (Option Value)} {st : List Value} {hp : List zC} {x : Int64} (hdg : decode M.2.1 pc = .ok (.l2i, 1)) (n : Nat) (en : pc + 1 = n) (k : Z X M d kc ks r hp' n L (.int x.toInt32 :: st) hp) : Z X M d kc ks r hp' pc L (.long x :: st) hp := by
  subst en
  intro G B p l e R s m args below meth c Q H locs cells slots ls A F h hS h1 h2 h3 h4 hl
  exact lv_l2i A.1 A.2.1 hdg rfl (k G B p l e R s m args below meth c Q H locs cells slots ls A F h hS h1 h2 h3 h4 hl)
theorem z_i2l {X : zS} {M : zM} {d kc ks : Nat} {r : Option Value} {hp' : List zC} {pc : Nat} {L : List (Option Value)} {st : List Value} {hp : List zC} {x : Int32} (hdg : decode M.2.1 pc = .ok (.i2l, 1)) (n : Nat) (en : pc + 1 = n) (k : Z X M d kc ks r hp' n L (.long x.toInt64 :: st) hp) : Z X M d kc ks r hp' pc L (.int x :: st) hp := by
  subst en
  intro G B p l e R s m args below meth c Q H locs cells slots ls A F h hS h1 h2 h3 h4 hl
  exact lv_i2l A.1 A.2.1 hdg rfl (k G B p l e R s m args below meth c Q H locs cells slots ls A F h hS h1 h2 h3 h4 hl)
theorem z_i2c {X : zS} {M : zM} {d kc ks : Nat} {r : Option Value} {hp' : List zC} {pc : Nat} {L : List (Option Value)} {st : List Value} {hp : List zC} {x : Int32} (hdg : decode M.2.1 pc = .ok (.i2c, 1)) (n : Nat) (en : pc + 1 = n) (k : Z X M d kc ks r hp' n L (.int (x.toUInt32 % 65536).toInt32 :: st) hp) : Z X M d kc ks r hp' pc L (.int x :: st) hp := by
  subst en
  intro G B p l e R s m args below meth c Q H locs cells slots ls A F h hS h1 h2 h3 h4 hl
  exact lv_i2c A.1 A.2.1 hdg rfl (k G B p l e R s m args below meth c Q H locs cells slots ls A F h hS h1 h2 h3 h4 hl)
theorem z_dup {X : zS} {M : zM} {d kc ks : Nat} {r : Option Value} {hp' : List zC} {pc : Nat} {L : List (Option Value)} {st : List Value} {hp : List zC} {v : Value} (hdg : decode M.2.1 pc = .ok (.dup, 1)) (hv : v.category = 1) (n : Nat) (en : pc + 1 = n) (k : Z X M d kc ks r hp' n L (v :: v :: st) hp) : Z X M d kc ks r hp' pc L (v :: st) hp := by
  subst en
  intro G B p l e R s m args below meth c Q H locs cells slots ls A F h hS h1 h2 h3 h4 hl
  exact lv_dup A.1 A.2.1 hdg ((zr_cat _ _ _).trans hv) (k G B p l e R s m args below meth c Q H locs cells slots ls A F h hS h1 h2 h3 h4 hl)
theorem z_pop {X : zS} {M : zM} {d kc ks : Nat} {r : Option Value} {hp' : List zC} {pc : Nat} {L : List (Option Value)} {st : List Value} {hp : List zC} {v : Value} (hdg : decode M.2.1 pc = .ok (.pop, 1)) (hv : v.category = 1) (n : Nat) (en : pc + 1 = n) (k : Z X M d kc ks r hp' n L st hp) : Z X M d kc ks r hp' pc L (v :: st) hp := by
  subst en
  intro G B p l e R s m args below meth c Q H locs cells slots ls A F h hS h1 h2 h3 h4 hl
  exact lv_pop A.1 A.2.1 hdg ((zr_cat _ _ _).trans hv) (k G B p l e R s m args below meth c Q H locs cells slots ls A F h hS h1 h2 h3 h4 hl)
theorem z_dup2 {X : zS} {M : zM} {d kc ks : Nat} {r : Option Value} {hp' : List zC} {pc : Nat} {L : List (Option Value)} {st : List Value} {hp : List zC} {v w : Value} (hdg : decode M.2.1 pc = .ok (.dup2, 1)) (hv : v.category = 1) (hw : w.category = 1) (n : Nat) (en : pc + 1 = n) (k : Z X M d kc ks r hp' n L (v :: w :: v :: w :: st) hp) : Z X M d kc ks r hp' pc L (v :: w :: st) hp := by
  subst en
  intro G B p l e R s m args below meth c Q H locs cells slots ls A F h hS h1 h2 h3 h4 hl
  exact lv_dup2_11 A.1 A.2.1 hdg ((zr_cat _ _ _).trans hv) ((zr_cat _ _ _).trans hw) (k G B p l e R s m args below meth c Q H locs cells slots ls A F h hS h1 h2 h3 h4 hl)
theorem z_if_eq {X : zS} {M : zM} {d kc ks : Nat} {r : Option Value} {hp' : List zC} {pc : Nat} {L : List (Option Value)} {st : List Value} {hp : List zC} {x : Int32} {off : Int} (hdg : decode M.2.1 pc = .ok (.ifCond .eq off, 3)) (n1 n2 : Nat) (e1 : (pc : Int) + off = (n1 : Int)) (e2 : pc + 3 = n2) (kt : x = 0 → Z X M d kc ks r hp' n1 L st hp) (kf : ¬ x = 0 → Z X M d kc ks r hp' n2 L st hp) : Z X M d kc ks r hp' pc L (.int x :: st) hp := by
  subst e2
  intro G B p l e R s m args below meth c Q H locs cells slots ls A F h hS h1 h2 h3 h4 hl
  exact lv_if_eq A.1 A.2.1 hdg e1 (fun q => kt q G B p l e R s m args below meth c Q H locs cells slots ls A F h hS h1 h2 h3 h4 hl) (fun q => kf q G B p l e R s m args below meth c Q H locs cells slots ls A F h hS h1 h2 h3 h4 hl)
theorem z_icmp_eq {X : zS} {M : zM} {d kc ks : Nat} {r : Option Value} {hp' : List zC} {pc : Nat} {L : List (Option Value)} {st : List Value} {hp : List zC} {x y : Int32} {off : Int} (hdg : decode M.2.1 pc = .ok (.if_icmp .eq off, 3)) (n1 n2 : Nat) (e1 : (pc : Int) + off = (n1 : Int)) (e2 : pc + 3 = n2) (kt : x = y → Z X M d kc ks r hp' n1 L st hp) (kf : ¬ x = y → Z X M d kc ks r hp' n2 L st hp) : Z X M d kc ks r hp' pc L (.int y :: .int x :: st) hp := by
  subst e2
  intro G B p l e R s m args below meth c Q H locs cells slots ls A F h hS h1 h2 h3 h4 hl
  exact lv_icmp_eq A.1 A.2.1 hdg e1 (fun q => kt q G B p l e R s m args below meth c Q H locs cells slots ls A F h hS h1 h2 h3 h4 hl) (fun q => kf q G B p l e R s m args below meth c Q H locs cells slots ls A F h hS h1 h2 h3 h4 hl)
theorem z_if_ne {X : zS} {M : zM} {d kc ks : Nat} {r : Option Value} {hp' : List zC} {pc : Nat} {L : List (Option Value)} {st : List Value} {hp : List zC} {x : Int32} {off : Int} (hdg : decode M.2.1 pc = .ok (.ifCond .ne off, 3)) (n1 n2 : Nat) (e1 : (pc : Int) + off = (n1 : Int)) (e2 : pc + 3 = n2) (kt : ¬ x = 0 → Z X M d kc ks r hp' n1 L st hp) (kf : x = 0 → Z X M d kc ks r hp' n2 L st hp) : Z X M d kc ks r hp' pc L (.int x :: st) hp := by
  subst e2
  intro G B p l e R s m args below meth c Q H locs cells slots ls A F h hS h1 h2 h3 h4 hl
  exact lv_if_ne A.1 A.2.1 hdg e1 (fun q => kt q G B p l e R s m args below meth c Q H locs cells slots ls A F h hS h1 h2 h3 h4 hl) (fun q => kf q G B p l e R s m args below meth c Q H locs cells slots ls A F h hS h1 h2 h3 h4 hl)
theorem z_icmp_ne {X : zS} {M : zM} {d kc ks : Nat} {r : Option Value} {hp' : List zC} {pc : Nat} {L : List (Option Value)} {st : List Value} {hp : List zC} {x y : Int32} {off : Int} (hdg : decode M.2.1 pc = .ok (.if_icmp .ne off, 3)) (n1 n2 : Nat) (e1 : (pc : Int) + off = (n1 : Int)) (e2 : pc + 3 = n2) (kt : ¬ x = y → Z X M d kc ks r hp' n1 L st hp) (kf : x = y → Z X M d kc ks r hp' n2 L st hp) : Z X M d kc ks r hp' pc L (.int y :: .int x :: st) hp := by
  subst e2
  intro G B p l e R s m args below meth c Q H locs cells slots ls A F h hS h1 h2 h3 h4 hl
  exact lv_icmp_ne A.1 A.2.1 hdg e1 (fun q => kt q G B p l e R s m args below meth c Q H locs cells slots ls A F h hS h1 h2 h3 h4 hl) (fun q => kf q G B p l e R s m args below meth c Q H locs cells slots ls A F h hS h1 h2 h3 h4 hl)
theorem z_if_lt {X : zS} {M : zM} {d kc ks : Nat} {r : Option Value} {hp' : List zC} {pc : Nat} {L : List (Option Value)} {st : List Value} {hp : List zC} {x : Int32} {off : Int} (hdg : decode M.2.1 pc = .ok (.ifCond .lt off, 3)) (n1 n2 : Nat) (e1 : (pc : Int) + off = (n1 : Int)) (e2 : pc + 3 = n2) (kt : x < 0 → Z X M d kc ks r hp' n1 L st hp) (kf : ¬ x < 0 → Z X M d kc ks r hp' n2 L st hp) : Z X M d kc ks r hp' pc L (.int x :: st) hp := by
  subst e2
  intro G B p l e R s m args below meth c Q H locs cells slots ls A F h hS h1 h2 h3 h4 hl
  exact lv_if_lt A.1 A.2.1 hdg e1 (fun q => kt q G B p l e R s m args below meth c Q H locs cells slots ls A F h hS h1 h2 h3 h4 hl) (fun q => kf q G B p l e R s m args below meth c Q H locs cells slots ls A F h hS h1 h2 h3 h4 hl)
theorem z_icmp_lt {X : zS} {M : zM} {d kc ks : Nat} {r : Option Value} {hp' : List zC} {pc : Nat} {L : List (Option Value)} {st : List Value} {hp : List zC} {x y : Int32} {off : Int} (hdg : decode M.2.1 pc = .ok (.if_icmp .lt off, 3)) (n1 n2 : Nat) (e1 : (pc : Int) + off = (n1 : Int)) (e2 : pc + 3 = n2) (kt : x < y → Z X M d kc ks r hp' n1 L st hp) (kf : ¬ x < y → Z X M d kc ks r hp' n2 L st hp) : Z X M d kc ks r hp' pc L (.int y :: .int x :: st) hp := by
  subst e2
  intro G B p l e R s m args below meth c Q H locs cells slots ls A F h hS h1 h2 h3 h4 hl
  exact lv_icmp_lt A.1 A.2.1 hdg e1 (fun q => kt q G B p l e R s m args below meth c Q H locs cells slots ls A F h hS h1 h2 h3 h4 hl) (fun q => kf q G B p l e R s m args below meth c Q H locs cells slots ls A F h hS h1 h2 h3 h4 hl)
theorem z_if_ge {X : zS} {M : zM} {d kc ks : Nat} {r : Option Value} {hp' : List zC} {pc : Nat} {L : List (Option Value)} {st : List Value} {hp : List zC} {x : Int32} {off : Int} (hdg : decode M.2.1 pc = .ok (.ifCond .ge off, 3)) (n1 n2 : Nat) (e1 : (pc : Int) + off = (n1 : Int)) (e2 : pc + 3 = n2) (kt : 0 ≤ x → Z X M d kc ks r hp' n1 L st hp) (kf : ¬ 0 ≤ x → Z X M d kc ks r hp' n2 L st hp) : Z X M d kc ks r hp' pc L (.int x :: st) hp := by
  subst e2
  intro G B p l e R s m args below meth c Q H locs cells slots ls A F h hS h1 h2 h3 h4 hl
  exact lv_if_ge A.1 A.2.1 hdg e1 (fun q => kt q G B p l e R s m args below meth c Q H locs cells slots ls A F h hS h1 h2 h3 h4 hl) (fun q => kf q G B p l e R s m args below meth c Q H locs cells slots ls A F h hS h1 h2 h3 h4 hl)
theorem z_icmp_ge {X : zS} {M : zM} {d kc ks : Nat} {r : Option Value} {hp' : List zC} {pc : Nat} {L : List (Option Value)} {st : List Value} {hp : List zC} {x y : Int32} {off : Int} (hdg : decode M.2.1 pc = .ok (.if_icmp .ge off, 3)) (n1 n2 : Nat) (e1 : (pc : Int) + off = (n1 : Int)) (e2 : pc + 3 = n2) (kt : y ≤ x → Z X M d kc ks r hp' n1 L st hp) (kf : ¬ y ≤ x → Z X M d kc ks r hp' n2 L st hp) : Z X M d kc ks r hp' pc L (.int y :: .int x :: st) hp := by
  subst e2
  intro G B p l e R s m args below meth c Q H locs cells slots ls A F h hS h1 h2 h3 h4 hl
  exact lv_icmp_ge A.1 A.2.1 hdg e1 (fun q => kt q G B p l e R s m args below meth c Q H locs cells slots ls A F h hS h1 h2 h3 h4 hl) (fun q => kf q G B p l e R s m args below meth c Q H locs cells slots ls A F h hS h1 h2 h3 h4 hl)
theorem z_if_gt {X : zS} {M : zM} {d kc ks : Nat} {r : Option Value} {hp' : List zC} {pc : Nat} {L : List (Option Value)} {st : List Value} {hp : List zC} {x : Int32} {off : Int} (hdg : decode M.2.1 pc = .ok (.ifCond .gt off, 3)) (n1 n2 : Nat) (e1 : (pc : Int) + off = (n1 : Int)) (e2 : pc + 3 = n2) (kt : 0 < x → Z X M d kc ks r hp' n1 L st hp) (kf : ¬ 0 < x → Z X M d kc ks r hp' n2 L st hp) : Z X M d kc ks r hp' pc L (.int x :: st) hp := by
  subst e2
  intro G B p l e R s m args below meth c Q H locs cells slots ls A F h hS h1 h2 h3 h4 hl
  exact lv_if_gt A.1 A.2.1 hdg e1 (fun q => kt q G B p l e R s m args below meth c Q H locs cells slots ls A F h hS h1 h2 h3 h4 hl) (fun q => kf q G B p l e R s m args below meth c Q H locs cells slots ls A F h hS h1 h2 h3 h4 hl)
theorem z_icmp_gt {X : zS} {M : zM} {d kc ks : Nat} {r : Option Value} {hp' : List zC} {pc : Nat} {L : List (Option Value)} {st : List Value} {hp : List zC} {x y : Int32} {off : Int} (hdg : decode M.2.1 pc = .ok (.if_icmp .gt off, 3)) (n1 n2 : Nat) (e1 : (pc : Int) + off = (n1 : Int)) (e2 : pc + 3 = n2) (kt : y < x → Z X M d kc ks r hp' n1 L st hp) (kf : ¬ y < x → Z X M d kc ks r hp' n2 L st hp) : Z X M d kc ks r hp' pc L (.int y :: .int x :: st) hp := by
  subst e2
  intro G B p l e R s m args below meth c Q H locs cells slots ls A F h hS h1 h2 h3 h4 hl
  exact lv_icmp_gt A.1 A.2.1 hdg e1 (fun q => kt q G B p l e R s m args below meth c Q H locs cells slots ls A F h hS h1 h2 h3 h4 hl) (fun q => kf q G B p l e R s m args below meth c Q H locs cells slots ls A F h hS h1 h2 h3 h4 hl)
theorem z_if_le {X : zS} {M : zM} {d kc ks : Nat} {r : Option Value} {hp' : List zC} {pc : Nat} {L : List (Option Value)} {st : List Value} {hp : List zC} {x : Int32} {off : Int} (hdg : decode M.2.1 pc = .ok (.ifCond .le off, 3)) (n1 n2 : Nat) (e1 : (pc : Int) + off = (n1 : Int)) (e2 : pc + 3 = n2) (kt : x ≤ 0 → Z X M d kc ks r hp' n1 L st hp) (kf : ¬ x ≤ 0 → Z X M d kc ks r hp' n2 L st hp) : Z X M d kc ks r hp' pc L (.int x :: st) hp := by
  subst e2
  intro G B p l e R s m args below meth c Q H locs cells slots ls A F h hS h1 h2 h3 h4 hl
  exact lv_if_le A.1 A.2.1 hdg e1 (fun q => kt q G B p l e R s m args below meth c Q H locs cells slots ls A F h hS h1 h2 h3 h4 hl) (fun q => kf q G B p l e R s m args below meth c Q H locs cells slots ls A F h hS h1 h2 h3 h4 hl)
theorem z_icmp_le {X : zS} {M : zM} {d kc ks : Nat} {r : Option Value} {hp' : List zC} {pc : Nat} {L : List (Option Value)} {st : List Value} {hp : List zC} {x y : Int32} {off : Int} (hdg : decode M.2.1 pc = .ok (.if_icmp .le off, 3)) (n1 n2 : Nat) (e1 : (pc : Int) + off = (n1 : Int)) (e2 : pc + 3 = n2) (kt : x ≤ y → Z X M d kc ks r hp' n1 L st hp) (kf : ¬ x ≤ y → Z X M d kc ks r hp' n2 L st hp) : Z X M d kc ks r hp' pc L (.int y :: .int x :: st) hp := by
  subst e2
  intro G B p l e R s m args below meth c Q H locs cells slots ls A F h hS h1 h2 h3 h4 hl
  exact lv_icmp_le A.1 A.2.1 hdg e1 (fun q => kt q G B p l e R s m args below meth c Q H locs cells slots ls A F h hS h1 h2 h3 h4 hl) (fun q => kf q G B p l e R s m args below meth c Q H locs cells slots ls A F h hS h1 h2 h3 h4 hl)
theorem z_goto {X : zS} {M : zM} {d kc ks : Nat} {r : Option Value} {hp' : List zC} {pc : Nat} {L : List (Option Value)} {st : List Value} {hp : List zC} {off : Int} (hdg : decode M.2.1 pc = .ok (.goto off, 3)) (n : Nat) (en : (pc : Int) + off = (n : Int)) (k : Z X M d kc ks r hp' n L st hp) : Z X M d kc ks r hp' pc L st hp := by
  intro G B p l e R s m args below meth c Q H locs cells slots ls A F h hS h1 h2 h3 h4 hl
  exact lv_goto A.1 A.2.1 hdg en (k G B p l e R s m args below meth c Q H locs cells slots ls A F h hS h1 h2 h3 h4 hl)
theorem z_ifnonnull {X : zS} {M : zM} {d kc ks : Nat} {r : Option Value} {hp' : List zC} {pc : Nat} {L : List (Option Value)} {st : List Value} {hp : List zC} {x : Nat} {off : Int} (hdg : decode M.2.1 pc = .ok (.ifnonnull off, 3)) (n : Nat) (en : (pc : Int) + off = (n : Int)) (k : Z X M d kc ks r hp' n L st hp) : Z X M d kc ks r hp' pc L (.ref x :: st) hp := by
  intro G B p l e R s m args below meth c Q H locs cells slots ls A F h hS h1 h2 h3 h4 hl
  exact lv_ifnonnull A.1 A.2.1 hdg en (k G B p l e R s m args below meth c Q H locs cells slots ls A F h hS h1 h2 h3 h4 hl)
theorem z_ifnull {X : zS} {M : zM} {d kc ks : Nat} {r : Option Value} {hp' : List zC} {pc : Nat} {L : List (Option Value)} {st : List Value} {hp : List zC} {x : Nat} {off : Int} (hdg : decode M.2.1 pc = .ok (.ifnull off, 3)) (n : Nat) (en : pc + 3 = n) (k : Z X M d kc ks r hp' n L st hp) : Z X M d kc ks r hp' pc L (.ref x :: st) hp := by
  subst en
  intro G B p l e R s m args below meth c Q H locs cells slots ls A F h hS h1 h2 h3 h4 hl
  exact lv_ifnull A.1 A.2.1 hdg (k G B p l e R s m args below meth c Q H locs cells slots ls A F h hS h1 h2 h3 h4 hl)
theorem z_ifnullN {X : zS} {M : zM} {d kc ks : Nat} {r : Option Value} {hp' : List zC} {pc : Nat} {L : List (Option Value)} {st : List Value} {hp : List zC} {off : Int} (hdg : decode M.2.1 pc = .ok (.ifnull off, 3)) (n : Nat) (en : (pc : Int) + off = (n : Int)) (k : Z X M d kc ks r hp' n L st hp) : Z X M d kc ks r hp' pc L (.null :: st) hp := by
  intro G B p l e R s m args below meth c Q H locs cells slots ls A F h hS h1 h2 h3 h4 hl
  exact lv_ifnullN A.1 A.2.1 hdg en (k G B p l e R s m args below meth c Q H locs cells slots ls A F h hS h1 h2 h3 h4 hl)
theorem z_ifnonnullN {X : zS} {M : zM} {d kc ks : Nat} {r : Option Value} {hp' : List zC} {pc : Nat} {L : List (Option Value)} {st : List Value} {hp : List zC} {off : Int} (hdg : decode M.2.1 pc = .ok (.ifnonnull off, 3)) (n : Nat) (en : pc + 3 = n) (k : Z X M d kc ks r hp' n L st hp) : Z X M d kc ks r hp' pc L (.null :: st) hp := by
  subst en
  intro G B p l e R s m args below meth c Q H locs cells slots ls A F h hS h1 h2 h3 h4 hl
  exact lv_ifnonnullN A.1 A.2.1 hdg (k G B p l e R s m args below meth c Q H locs cells slots ls A F h hS h1 h2 h3 h4 hl)
theorem z_tabOut {X : zS} {M : zM} {d kc ks : Nat} {r : Option Value} {hp' : List zC} {pc : Nat} {L : List (Option Value)} {st : List Value} {hp : List zC} {dflt lo hi : Int} {offs : Array Int} {len : Nat} {x : Int32} (hdg : decode M.2.1 pc = .ok (.tableswitch dflt lo hi offs, len)) (n : Nat) (hx : x.toInt < lo ∨ hi < x.toInt) (en : (pc : Int) + dflt = (n : Int)) (k : Z X M d kc ks r hp' n L st hp) : Z X M d kc ks r hp' pc L (.int x :: st) hp := by
  intro G B p l e R s m args below meth c Q H locs cells slots ls A F h hS h1 h2 h3 h4 hl
  exact lv_tableOut A.1 A.2.1 hdg hx en (k G B p l e R s m args below meth c Q H locs cells slots ls A F h hS h1 h2 h3 h4 hl)
theorem z_tabIn {X : zS} {M : zM} {d kc ks : Nat} {r : Option Value} {hp' : List zC} {pc : Nat} {L : List (Option Value)} {st : List Value} {hp : List zC} {dflt lo hi : Int} {offs : Array Int} {len : Nat} {x : Int32} {off : Int} (hdg : decode M.2.1 pc = .ok (.tableswitch dflt lo hi offs, len)) (n : Nat) (hx1 : ¬ x.toInt < lo) (hx2 : ¬ hi < x.toInt) (ho : offs[(x.toInt - lo).toNat]? = some off) (en : (pc : Int) + off = (n : Int)) (k : Z X M d kc ks r hp' n L st hp) : Z X M d kc ks r hp' pc L (.int x :: st) hp := by
  intro G B p l e R s m args below meth c Q H locs cells slots ls A F h hS h1 h2 h3 h4 hl
  exact lv_tableIn A.1 A.2.1 hdg hx1 hx2 ho en (k G B p l e R s m args below meth c Q H locs cells slots ls A F h hS h1 h2 h3 h4 hl)
theorem z_ret {X : zS} {M : zM} {d kc ks : Nat} {r : Option Value} {hp' : List zC} {pc : Nat} {L : List (Option Value)} {hp : List zC} {v : Value} (hdg : decode M.2.1 pc = .ok (zri (some v), 1)) (hv : some v = r) (hh : hp = hp') : Z X M d kc ks r hp' pc L [v] hp := by
  subst hv
  subst hh
  intro G B p l e R s m args below meth c Q H locs cells slots ls A F h hS h1 h2 h3 h4 hl
  exact F H locs cells slots pc ls h hS (by omega) (by omega) hdg
theorem z_ireturn {X : zS} {M : zM} {d kc ks : Nat} {r : Option Value} {hp' : List zC} {pc : Nat} {L : List (Option Value)} {hp : List zC} {v : Int32} (hdg : decode M.2.1 pc = .ok (.ireturn, 1)) (hv : some (.int v) = r) (hh : hp = hp') : Z X M d kc ks r hp' pc L [.int v] hp := z_ret hdg hv hh
theorem z_areturn {X : zS} {M : zM} {d kc ks : Nat} {r : Option Value} {hp' : List zC} {pc : Nat} {L : List (Option Value)} {hp : List zC} {v : Nat} (hdg : decode M.2.1 pc = .ok (.areturn, 1)) (hv : some (.ref v) = r) (hh : hp = hp') : Z X M d kc ks r hp' pc L [.ref v] hp := z_ret hdg hv hh
theorem z_areturnN {X : zS} {M : zM} {d kc ks : Nat} {r : Option Value} {hp' : List zC} {pc : Nat} {L : List (Option Value)} {hp : List zC} (hdg : decode M.2.1 pc = .ok (.areturn, 1)) (hv : some .null = r) (hh : hp = hp') : Z X M d kc ks r hp' pc L [.null] hp := z_ret hdg hv hh
theorem z_return {X : zS} {M : zM} {d kc ks : Nat} {r : Option Value} {hp' : List zC} {pc : Nat} {L : List (Option Value)} {hp : List zC} (hdg : decode M.2.1 pc = .ok (.return_, 1)) (hv : none = r) (hh : hp = hp') : Z X M d kc ks r hp' pc L [] hp := by
  subst hv
  subst hh
  intro G B p l e R s m args below meth c Q H locs cells slots ls A F h hS h1 h2 h3 h4 hl
  exact F H locs cells slots pc ls h hS (by omega) (by omega) hdg
end
section
/-! rows on the heap -/
/-- a field link: own's entry ix names the field k of the class ci -/
def zfl (own : String) (ix ci k : Nat) : Prop := ∃ (ref C : String) (T : u_T) (N : Nat), zCl[ci]? = some (C, T, N) ∧ k < N ∧ (∀ w ∈ u_ws C T N, w ∈ zT) ∧ Cond.fieldLink own ix ref (T k).2.1 (T k).2.2.1 ∈ zT ∧ (ref = (T k).1 ∨ Cond.sameField ref (T k).1 (T k).2.1 (T k).2.2.1 ∈ zT)
theorem z_get {X : zS} {M : zM} {d kc ks : Nat} {r : Option Value} {hp' : List zC} {pc : Nat} {L : List (Option Value)} {st : List Value} {hp : List zC} {ix ci k o : Nat} {fs : List Value} {v : Value} (hdg : decode M.2.1 pc = .ok (.getfield ix, 3)) (n : Nat) (en : pc + 3 = n) (hf : zfl M.1.cls ix ci k) (ho : hp[o]? = some (.inr (.inr (ci, fs)))) (hv : fs[k]? = some v) (kk : Z X M d kc ks r hp' n L (v :: st) hp) : Z X M d kc ks r hp' pc L (.ref o :: st) hp := by
  subst en
  intro G B p l e R s m args below meth c Q H locs cells slots ls A F h hS h1 h2 h3 h4 hl
  obtain ⟨ref, C, T, N, hc, hk, hin, hlk, hsm⟩ := hf
  refine va_get (D := G.1) (C := C) (T := T) (N := N) (ref := ref) A.1 A.2.1 A.2.2.2.2.1 hin A.2.2.2.1 A.2.2.2.2.2.1 h.1 o (zw_at ho) hc k hk (A.2.2.2.2.1 _ hlk) ?_ (v := zr B G.2.2 v) (by rw [List.getElem?_map, hv]; rfl) hdg (kk G B p l e R s m args below meth c Q H locs cells slots ls A F h hS h1 h2 h3 h4 hl)
  intro x hx
  rcases hsm with rfl | hsm
  · exact hx
  · exact u_same (A.2.2.2.2.1 _ hsm) x hx
/-- a class's table words, types, names -/
def zfp (own : String) (ix ci k : Nat) (fin : Bool) (ty : FieldType) : Prop := ∃ (C : String) (T : u_T) (N : Nat) (t : Nat → FieldType), zCl[ci]? = some (C, T, N) ∧ k < N ∧ (∀ w ∈ u_ws C T N, w ∈ zT) ∧ (∀ k, k < N → parseFieldDescriptor (T k).2.2.1 = some (t k)) ∧ (∀ a, a < N → ∀ b, b < N → a ≠ b → (T a).2.1 ≠ (T b).2.1) ∧ Cond.fieldLink own ix (T k).1 (T k).2.1 (T k).2.2.1 ∈ zT ∧ (T k).2.2.2 = fin ∧ (fin = true → (T k).1 = own) ∧ parseFieldDescriptor (T k).2.2.1 = some ty
/-- one cell is written -/
theorem zH.put {G : zG} {B : Nat} {hp : List zC} {H H1 : Heap} {o : Nat} {c0 c1 : zC} (h : zH G B hp H) (ho : hp[o]? = some c0) (he : va_at G.1 zCl (B + o, zrel G B c1) H1) (z : H1.size = H.size) (oq : ∀ q : Nat, q ≠ B + o → H1[q]? = H[q]?) : zH G B (hp.set o c1) H1 := by
  refine ⟨?_, by rw [z, h.2, List.length_set]⟩
  rw [← zw_set]
  exact h.1.set (zw_D G B hp) (zw_at ho) he oq
theorem zrel_obj (G : zG) (B ci : Nat) (fs : List Value) : zrel G B (.inr (.inr (ci, fs))) = .inr (ci, fs.map (zr B G.2.2)) := rfl
theorem z_put {X : zS} {M : zM} {d kc ks : Nat} {r : Option Value} {hp' : List zC} {pc : Nat} {L : List (Option Value)} {st : List Value} {hp : List zC} {ix ci k o : Nat} {fin : Bool} {ty : FieldType} {fs : List Value} {v : Value} (hdg : decode M.2.1 pc = .ok (.putfield ix, 3)) (n : Nat) (en : pc + 3 = n) (hf : zfp M.1.cls ix ci k fin ty) (hi : fin = false ∨ M.1.name = "<init>") (ho : hp[o]? = some (.inr (.inr (ci, fs)))) (hn : ∀ (B : Nat) (Y : Nat → Nat), narrow ty (zr B Y v) = zr B Y v) (hfit : ∀ (B : Nat) (Y : Nat → Nat), fits ty (zr B Y v) = true) (hk' : k < fs.length) (kk : Z X M d kc ks r hp' n L st (hp.set o (.inr (.inr (ci, fs.set k v))))) : Z X M d kc ks r hp' pc L (v :: .ref o :: st) hp := by
  subst en
  intro G B p l e R s m args below meth c Q H locs cells slots ls A F h hS h1 h2 h3 h4 hl
  obtain ⟨C, T, N, t, hc, hk, hin, hty, hnm, hlk, hfin, hdecl, hd⟩ := hf
  have hts := A.2.2.2.2.1
  have hK : zK G s := A.2.2.2.2.2.1
  have hap := va_apart (own := M.1.cls) (D := G.1) hts hin t hty hnm hK hc
  obtain ⟨r0, g1, cell, q1, q2, q3, q4⟩ := h.1 o _ (zw_at ho)
  have hr0 : r0 = (C, T, N) := Option.some.inj (g1.symm.trans hc)
  subst hr0
  obtain ⟨hSl, hfc, kC, hkC, hkind⟩ := hK.1 ci _ hc
  obtain ⟨cf, kf, fi, f, hfi, hsl⟩ := hSl k hk
  have hlay := hts _ (hin _ (u_in_lay hk))
  unfold u_lay at hlay
  have hst := (u_facts hfc hkC (u_lays hts hin hk) hfi).1
  have hcell : ∀ H' : Heap, H'[B + o]? = some (cell.setSlot f.slot (zr B G.2.2 v)) → va_at G.1 zCl (B + o, zrel G B (.inr (.inr (ci, fs.set k v)))) H' := by
    intro H' e1
    rw [hsl] at e1
    refine ⟨_, hc, t_OB.to (V := updV (vp_V (fs.map (zr B G.2.2))) k (zr B G.2.2 v)) ⟨_, e1, q2, q3, t_set q4 hap hk _⟩ (fun j _ => ?_)⟩
    rw [vp_updV_set (by simpa using hk')]
    show vp_V _ j = vp_V ((fs.set k v).map _) j
    rw [List.map_set]
  have fin2 : ∀ (H' : Heap) (sl : Nat), H'[B + o]? = some (cell.setSlot f.slot (zr B G.2.2 v)) → H'.size = H.size → (∀ q, q ≠ B + o → H'[q]? = H[q]?) → W p l e R s m args below meth c H' (locs ++ [⟨B + o, sl⟩]) cells slots Q (F0 m (pc + 3) ls (st.map (zr B G.2.2))) := fun H' sl e1 e2 e3 =>
    kk G B p l e R s m args below meth c Q H' _ cells slots ls A F (h.put ho (hcell H' e1) e2 e3) (hS.put e2 e3 (Nat.le_add_right B o)) h1 h2 h3 h4 hl
  cases fin with
  | false =>
    rw [if_neg (by rw [hfin]; decide)] at hlay
    have h6 := u_store hfc hkC hkind hlay hfi hd (hn B G.2.2) (hfit B G.2.2)
    exact W.putK A.1 A.2.1 (f := f) ⟨A.2.2.2.1, hts _ hlk, ⟨_, _, _, hfi⟩, hst⟩ (by rw [q2]; exact h6) q1 q3 (by rw [hsl]; exact k2_hasslot (q4 k hk)) rfl rfl hdg fun H' e1 e2 e3 => fin2 H' _ e1 e2 e3
  | true =>
    rw [if_pos hfin] at hlay
    have hcf : m.cls = cf := by
      obtain ⟨_, _, c', _, _, _, -, -, hf', -, -, -, hown2, -⟩ := Cond.laysFinal_spec hlay
      have e1 : c' = cf := by have := hfi.symm.trans hf'; simp at this; exact this.1.symm
      rw [hdecl rfl] at hown2
      rw [← e1]; exact Option.some.inj (A.2.2.2.1.symm.trans hown2)
    have h6 := u_fits hfc hkC hkind (Or.inr hlay) hfi hd (hn B G.2.2) (hfit B G.2.2)
    have hin2 : meth.name = "<init>" := by
      rcases hi with hi | hi
      · cases hi
      · rw [← hi]; exact A.2.2.2.2.2.2.2.1
    exact W.putFinK A.1 A.2.1 A.2.2.2.1 (hts _ hlk) hfi hst hcf hin2 (by rw [q2]; exact h6) q1 q3 (by rw [hsl]; exact k2_hasslot (q4 k hk)) rfl rfl hdg fun H' e1 e2 e3 => fin2 H' _ e1 e2 e3
theorem z_putI {X : zS} {M : zM} {d kc ks : Nat} {r : Option Value} {hp' : List zC} {pc : Nat} {L : List (Option Value)} {st : List Value} {hp : List zC} {ix ci k o : Nat} {fin : Bool} {fs : List Value} {v : Int32} (hdg : decode M.2.1 pc = .ok (.putfield ix, 3)) (n : Nat) (en : pc + 3 = n) (hf : zfp M.1.cls ix ci k fin .int) (hi : fin = false ∨ M.1.name = "<init>") (ho : hp[o]? = some (.inr (.inr (ci, fs)))) (hk' : k < fs.length) (kk : Z X M d kc ks r hp' n L st (hp.set o (.inr (.inr (ci, fs.set k (.int v)))))) : Z X M d kc ks r hp' pc L (.int v :: .ref o :: st) hp :=
  z_put hdg n en hf hi ho (fun _ _ => rfl) (fun _ _ => rfl) hk' kk
theorem z_iaload {X : zS} {M : zM} {d kc ks : Nat} {r : Option Value} {hp' : List zC} {pc : Nat} {L : List (Option Value)} {st : List Value} {hp : List zC} {o N : Nat} {f : Nat → Int32} {i : Int32} (hdg : decode M.2.1 pc = .ok (.iaload, 1)) (j n : Nat) (en : pc + 1 = n) (ho : hp[o]? = some (.inl (N, f))) (hj : i = nI j) (hb : j < N) (hN : N < 2 ^ 31) (kk : Z X M d kc ks r hp' n L (.int (f j) :: st) hp) : Z X M d kc ks r hp' pc L (.int i :: .ref o :: st) hp := by
  subst en
  subst hj
  intro G B p l e R s m args below meth c Q H locs cells slots ls A F h hS h1 h2 h3 h4 hl
  have e0 : (nI j).toNatClampNeg = j := nI_clamp (by omega)
  refine va_iald (D := G.1) A.1 A.2.1 A.2.2.2.2.2.1 h.1 o 0 (zw_at ho) rfl (vp_in_nI hb hN) hdg ?_
  rw [e0]
  exact kk G B p l e R s m args below meth c Q H locs cells slots ls A F h hS h1 h2 h3 h4 hl
theorem z_aaload {X : zS} {M : zM} {d kc ks : Nat} {r : Option Value} {hp' : List zC} {pc : Nat} {L : List (Option Value)} {st : List Value} {hp : List zC} {o t N : Nat} {C : String} {f : Nat → Option Nat} {i : Int32} {v : Value} (hdg : decode M.2.1 pc = .ok (.aaload, 1)) (j n : Nat) (en : pc + 1 = n) (ho : hp[o]? = some (.inr (.inl (t, N, f)))) (hC : (t, C) = (0, "LightInRoom$Law") ∨ (t, C) = (1, "LightInRoom$Telling")) (hj : i = nI j) (hb : j < N) (hN : N < 2 ^ 31) (hv : va_rf (f j) = v) (kk : Z X M d kc ks r hp' n L (v :: st) hp) : Z X M d kc ks r hp' pc L (.int i :: .ref o :: st) hp := by
  subst en
  subst hj
  subst hv
  intro G B p l e R s m args below meth c Q H locs cells slots ls A F h hS h1 h2 h3 h4 hl
  have e0 : (nI j).toNatClampNeg = j := nI_clamp (by omega)
  have ht : (zTy G)[t + 1]? = some (G.2.1 (t + 1), .object C) := by
    rcases hC with hC | hC <;> cases hC <;> rfl
  refine va_aldq (D := G.1) (C := C) A.1 A.2.1 A.2.2.2.2.2.1 h.1 o (t + 1) (zw_at ho) ht (vp_in_nI hb hN) hdg ?_
  rw [e0]
  have e2 : va_rf ((f j).map (B + ·)) = zr B G.2.2 (va_rf (f j)) := by cases f j <;> rfl
  rw [e2]
  exact kk G B p l e R s m args below meth c Q H locs cells slots ls A F h hS h1 h2 h3 h4 hl
theorem z_alenI {X : zS} {M : zM} {d kc ks : Nat} {r : Option Value} {hp' : List zC} {pc : Nat} {L : List (Option Value)} {st : List Value} {hp : List zC} {o N : Nat} {f : Nat → Int32} (hdg : decode M.2.1 pc = .ok (.arraylength, 1)) (n : Nat) (en : pc + 1 = n) (ho : hp[o]? = some (.inl (N, f))) (v : Int32) (hv : Int32.ofNat N = v) (kk : Z X M d kc ks r hp' n L (.int v :: st) hp) : Z X M d kc ks r hp' pc L (.ref o :: st) hp := by
  subst en
  intro G B p l e R s m args below meth c Q H locs cells slots ls A F h hS h1 h2 h3 h4 hl
  exact va_alen (D := G.1) A.1 A.2.1 A.2.2.2.2.2.1 h.1 o 0 (zw_at ho) rfl hv hdg (kk G B p l e R s m args below meth c Q H locs cells slots ls A F h hS h1 h2 h3 h4 hl)
theorem z_alenR {X : zS} {M : zM} {d kc ks : Nat} {r : Option Value} {hp' : List zC} {pc : Nat} {L : List (Option Value)} {st : List Value} {hp : List zC} {o t N : Nat} {f : Nat → Option Nat} (hdg : decode M.2.1 pc = .ok (.arraylength, 1)) (n : Nat) (en : pc + 1 = n) (ho : hp[o]? = some (.inr (.inl (t, N, f)))) (ht : t = 0 ∨ t = 1) (v : Int32) (hv : Int32.ofNat N = v) (kk : Z X M d kc ks r hp' n L (.int v :: st) hp) : Z X M d kc ks r hp' pc L (.ref o :: st) hp := by
  subst en
  intro G B p l e R s m args below meth c Q H locs cells slots ls A F h hS h1 h2 h3 h4 hl
  rcases ht with rfl | rfl
  · exact va_alen (D := G.1) A.1 A.2.1 A.2.2.2.2.2.1 h.1 o 1 (zw_at ho) rfl hv hdg (kk G B p l e R s m args below meth c Q H locs cells slots ls A F h hS h1 h2 h3 h4 hl)
  · exact va_alen (D := G.1) A.1 A.2.1 A.2.2.2.2.2.1 h.1 o 2 (zw_at ho) rfl hv hdg (kk G B p l e R s m args below meth c Q H locs cells slots ls A F h hS h1 h2 h3 h4 hl)
theorem z_iastore {X : zS} {M : zM} {d kc ks : Nat} {r : Option Value} {hp' : List zC} {pc : Nat} {L : List (Option Value)} {st : List Value} {hp : List zC} {o N : Nat} {f : Nat → Int32} {i x : Int32} (hdg : decode M.2.1 pc = .ok (.iastore, 1)) (j n : Nat) (en : pc + 1 = n) (ho : hp[o]? = some (.inl (N, f))) (hj : i = nI j) (hb : j < N) (hN : N < 2 ^ 31) (kk : Z X M d kc ks r hp' n L st (hp.set o (.inl (N, upd f j x)))) : Z X M d kc ks r hp' pc L (.int x :: .int i :: .ref o :: st) hp := by
  subst en
  subst hj
  intro G B p l e R s m args below meth c Q H locs cells slots ls A F h hS h1 h2 h3 h4 hl
  have e0 : (nI j).toNatClampNeg = j := nI_clamp (by omega)
  have hK : zK G s := A.2.2.2.2.2.1
  refine W.iast A.1 A.2.1 (h.1 o _ (zw_at ho)) ((hK.2 0 _ rfl).1 N (fun j => .int (f j))) (fun q => by cases q) (by show ¬ (nI j < 0 ∨ (arrV _ _ _).slots.size ≤ _); rw [arrV_size]; exact vp_in_nI hb hN) rfl rfl hdg fun H1 ew z oq => ?_
  refine kk G B p l e R s m args below meth c Q H1 _ cells slots ls A F (h.put ho ?_ z oq) (hS.put z oq (Nat.le_add_right B o)) h1 h2 h3 h4 hl
  show H1[B + o]? = some (vp_cell _ _)
  rw [ew]
  show some ((vp_cell (G.2.1 0) (N, .inl f)).setSlot _ _) = _
  rw [vp_cell_i, vp_cell_i, arrV_store, e0]
  congr 2
  funext q
  by_cases hq : q = j
  · subst hq
    simp [updV, upd]
  · simp [updV, upd, hq]
theorem z_aastore {X : zS} {M : zM} {d kc ks : Nat} {r : Option Value} {hp' : List zC} {pc : Nat} {L : List (Option Value)} {st : List Value} {hp : List zC} {o t N v ci : Nat} {C C1 : String} {T : u_T} {N1 : Nat} {fs : List Value} {f : Nat → Option Nat} {i : Int32} (hdg : decode M.2.1 pc = .ok (.aastore, 1)) (j n : Nat) (en : pc + 1 = n) (ho : hp[o]? = some (.inr (.inl (t, N, f)))) (hv : hp[v]? = some (.inr (.inr (ci, fs)))) (hc : zCl[ci]? = some (C1, T, N1)) (hC : (t = 0 ∧ C1 = "LightInRoom$Law") ∨ (t = 1 ∧ C1 ∈ zCast)) (hj : i = nI j) (hb : j < N) (hN : N < 2 ^ 31) (kk : Z X M d kc ks r hp' n L st (hp.set o (.inr (.inl (t, N, va_up f j (some v)))))) : Z X M d kc ks r hp' pc L (.ref v :: .int i :: .ref o :: st) hp := by
  subst en
  subst hj
  intro G B p l e R s m args below meth c Q H locs cells slots ls A F h hS h1 h2 h3 h4 hl
  have e0 : (nI j).toNatClampNeg = j := nI_clamp (by omega)
  have hK : zK G s := A.2.2.2.2.2.1
  obtain ⟨r', hr', cellV, g1, g2, g3, -⟩ := h.1 v _ (zw_at hv)
  have hcls := (hK.1 ci _ hc).2
  obtain ⟨kC, hkC, -⟩ := hcls.2
  have hinA : ¬ nI j < 0 := nI_pos (by omega)
  have core : ∀ (C : String), (zTy G)[t + 1]? = some (G.2.1 (t + 1), .object C) → (∀ comp : ClassId, s.vm.findClass C = some comp → s.vm.assignable (G.1.1 ci) comp = true) → W p l e R s m args below meth c H locs cells slots Q (F0 m pc ls ((.ref v :: .int (nI j) :: .ref o :: st).map (zr B G.2.2))) := by
    intro C ht hasg
    obtain ⟨kA, comp, k1, k2, k3, -⟩ := (hK.2 (t + 1) _ ht).2
    obtain ⟨kE, hkE, -⟩ := Vm.findClass_spec k3
    refine W.aast A.1 A.2.1 (h.1 o _ (zw_at ho)) (fun q h => by cases h) (fun h => by cases h) k1 k2 rfl hkE ⟨hinA, by show _ < (arrV _ _ _).slots.size; rw [arrV_size, e0]; exact hb⟩ g1 (fun q h => by rw [g3] at h; cases h) (by rw [g2]; exact hkC) (by rw [g2]; exact hasg comp k3) rfl rfl hdg fun H1 ew z oq => ?_
    refine kk G B p l e R s m args below meth c Q H1 _ cells slots ls A F (h.put ho ?_ z oq) (hS.put z oq (Nat.le_add_right B o)) h1 h2 h3 h4 hl
    show H1[B + o]? = some (vp_cell _ _)
    rw [ew]
    show some ((vp_cell (G.2.1 (t + 1)) (N, .inr (.inr (.inr (.inr (fun j => (f j).map (B + ·))))))).setSlot _ _) = _
    rw [vp_cell_q, vp_cell_q, arrV_store, e0]
    congr 2
    funext q
    by_cases hq : q = j
    · subst hq
      simp [updV, va_up, va_rf]
    · simp [updV, va_up, hq]
  rcases hC with ⟨rfl, rfl⟩ | ⟨rfl, hC⟩
  · refine core _ rfl (fun comp hcomp => ?_)
    have : comp = G.1.1 ci := Option.some.inj (hcomp.symm.trans hcls.1)
    subst this
    exact va_assign hcls
  · refine core _ rfl (fun comp hcomp => ?_)
    obtain ⟨c0, t1, f1, f2, f3⟩ := Cond.castable_spec (va_Nw.use (A := args) rfl (A.2.2.2.2.2.2.1.2.1 _ hC))
    cases hcls.1.symm.trans f1
    cases hcomp.symm.trans f2
    exact f3
theorem z_aastoreN {X : zS} {M : zM} {d kc ks : Nat} {r : Option Value} {hp' : List zC} {pc : Nat} {L : List (Option Value)} {st : List Value} {hp : List zC} {o t N : Nat} {f : Nat → Option Nat} {i : Int32} (hdg : decode M.2.1 pc = .ok (.aastore, 1)) (j n : Nat) (en : pc + 1 = n) (ho : hp[o]? = some (.inr (.inl (t, N, f)))) (ht : t = 0 ∨ t = 1) (hj : i = nI j) (hb : j < N) (hN : N < 2 ^ 31) (kk : Z X M d kc ks r hp' n L st (hp.set o (.inr (.inl (t, N, va_up f j none))))) : Z X M d kc ks r hp' pc L (.null :: .int i :: .ref o :: st) hp := by
  subst en
  subst hj
  intro G B p l e R s m args below meth c Q H locs cells slots ls A F h hS h1 h2 h3 h4 hl
  have e0 : (nI j).toNatClampNeg = j := nI_clamp (by omega)
  have hK : zK G s := A.2.2.2.2.2.1
  have ht : ∃ C : String, (zTy G)[t + 1]? = some (G.2.1 (t + 1), .object C) := by rcases ht with rfl | rfl <;> exact ⟨_, rfl⟩
  obtain ⟨C, ht⟩ := ht
  refine va_WaastN (C := C) A.1 A.2.1 (h.1 o _ (zw_at ho)) ((hK.2 (t + 1) _ ht).1 N (fun j => va_rf ((f j).map (B + ·)))) (fun h => by cases h) (by show ¬ (nI j < 0 ∨ (arrV _ _ _).slots.size ≤ _); rw [arrV_size]; exact vp_in_nI hb hN) rfl rfl hdg fun H1 ew z oq => ?_
  refine kk G B p l e R s m args below meth c Q H1 _ cells slots ls A F (h.put ho ?_ z oq) (hS.put z oq (Nat.le_add_right B o)) h1 h2 h3 h4 hl
  show H1[B + o]? = some (vp_cell _ _)
  rw [ew]
  show some ((vp_cell (G.2.1 (t + 1)) (N, .inr (.inr (.inr (.inr (fun j => (f j).map (B + ·))))))).setSlot _ _) = _
  rw [vp_cell_q, vp_cell_q, arrV_store, e0]
  congr 2
  funext q
  by_cases hq : q = j
  · subst hq
    simp [updV, va_up, va_rf]
  · simp [updV, va_up, hq]
end
section
/-! rows that make cells; calls -/
theorem zH.push {G : zG} {B : Nat} {hp : List zC} {H H1 : Heap} {c1 : zC} (h : zH G B hp H) (he : va_at G.1 zCl (H.size, zrel G B c1) H1) (z : H1.size = H.size + 1) (oq : ∀ q : Nat, q < H.size → H1[q]? = H[q]?) : zH G B (hp ++ [c1]) H1 := by
  refine ⟨?_, by rw [z, h.2, List.length_append]; simp; omega⟩
  rw [zw_push, ← h.2]
  refine (h.1.kept (fun k x hx => oq x.1 ((h.1 k x hx).lt))).app (fun k x hx => ?_)
  have hz : k < 1 := (List.getElem?_eq_some_iff.mp hx).1
  rw [show k = 0 by omega] at hx
  cases hx
  exact he
theorem va_S.push {A : Nat → Prop} {H0 H H1 : Heap} {locs : List Loc} (h : va_S A H0 H locs) (z : H1.size = H.size + 1) (oq : ∀ q : Nat, q < H.size → H1[q]? = H[q]?) : va_S A H0 H1 locs :=
  ⟨Nat.le_trans h.1 (by omega), fun x g1 g2 => (oq x (Nat.lt_of_lt_of_le g1 h.1)).trans (h.2.1 x g1 g2), h.2.2⟩
def zcNew (own : String) (ix ci : Nat) (fs : List Value) : Prop := ∃ (C : String) (T : u_T) (N : Nat) (t : Nat → FieldType), zCl[ci]? = some (C, T, N) ∧ (∀ w ∈ u_ws C T N, w ∈ zT) ∧ (∀ k, k < N → parseFieldDescriptor (T k).2.2.1 = some (t k)) ∧ Cond.classLink own ix C ∈ zT ∧ Cond.instantiable C N ∈ zT ∧ Cond.initialized C ∈ zT ∧ (∀ j, j < N → defaultValue (t j) = vp_V fs j) ∧ fs.length = N
theorem z_new {X : zS} {M : zM} {d kc ks : Nat} {r : Option Value} {hp' : List zC} {pc : Nat} {L : List (Option Value)} {st : List Value} {hp : List zC} {ix ci kc1 ks1 : Nat} {fs : List Value} (hdg : decode M.2.1 pc = .ok (.new ix, 3)) (n o : Nat) (hp1 : List zC) (en : pc + 3 = n) (hf : zcNew M.1.cls ix ci fs) (hfs : ∀ (B : Nat) (Y : Nat → Nat), fs.map (zr B Y) = fs) (hkc : kc = kc1 + 1) (hks : ks = ks1 + fs.length) (ho : hp.length = o) (hq : hp ++ [.inr (.inr (ci, fs))] = hp1) (kk : Z X M d kc1 ks1 r hp' n L (.ref o :: st) hp1) : Z X M d kc ks r hp' pc L st hp := by
  subst en
  subst ho
  subst hq
  intro G B p l e R s m args below meth c Q H locs cells slots ls A F h hS h1 h2 h3 h4 hl
  obtain ⟨C, T, N, t, hc, hin, hty, hcl, hinst, hini, hd, hN⟩ := hf
  have hts := A.2.2.2.2.1
  have hK : zK G s := A.2.2.2.2.2.1
  have hKn := hK.1 ci _ hc
  refine W.newcK A.1 A.2.1 A.2.2.2.1 (hts _ hcl) (hts _ hinst) (hts _ hini) rfl hdg (by omega) (by omega) hKn.2.1 rfl fun H1 kC hkC e1 z1 o1 => ?_
  have hH1 : zH G B (hp ++ [.inr (.inr (ci, fs))]) H1 := by
    refine h.push ?_ z1 o1
    refine ⟨_, hc, (u_born t hts hin hKn hkC e1 hty).to (fun j hj => ?_)⟩
    rw [hd j hj]
    show _ = vp_V (fs.map _) j
    rw [hfs]
  have := kk G B p l e R s m args below meth c Q H1 locs (cells + 1) (slots + N) ls A F hH1 (hS.push z1 o1) h1 h2 (by omega) (by omega) hl
  rw [h.2]
  exact this
theorem z_newarray {X : zS} {M : zM} {d kc ks : Nat} {r : Option Value} {hp' : List zC} {pc : Nat} {L : List (Option Value)} {st : List Value} {hp : List zC} {kc1 ks1 : Nat} {i : Int32} (hdg : decode M.2.1 pc = .ok (.newarray .int, 2)) (N : Nat) (n o : Nat) (hp1 : List zC) (en : pc + 2 = n) (hw : Cond.arrayClass .int ∈ zT) (hi : i = nI N) (hN : N < 1000) (hkc : kc = kc1 + 1) (hks : ks = ks1 + N) (ho : hp.length = o) (hq : hp ++ [.inl (N, fun _ => 0)] = hp1) (kk : Z X M d kc1 ks1 r hp' n L (.ref o :: st) hp1) : Z X M d kc ks r hp' pc L (.int i :: st) hp := by
  subst en
  subst ho
  subst hq
  subst hi
  intro G B p l e R s m args below meth c Q H locs cells slots ls A F h hS h1 h2 h3 h4 hl
  have hts := A.2.2.2.2.1
  have hK : zK G s := A.2.2.2.2.2.1
  refine va_newaK (atype := .int) A.1 A.2.1 (hts _ hw) rfl hdg rfl (nI_pos (by omega)) (nI_clamp (by omega)) (by show N * 4 ≤ 536870912; omega) (by omega) (by omega) rfl fun H1 cA e1 z1 o1 hAr hNm => ?_
  have hcA : cA = G.2.1 0 := Option.some.inj (hNm.symm.trans (hK.2 0 _ rfl).2)
  subst hcA
  have hH1 : zH G B (hp ++ [.inl (N, fun _ => 0)]) H1 := h.push e1 z1 o1
  have := kk G B p l e R s m args below meth c Q H1 locs (cells + 1) (slots + N) ls A F hH1 (hS.push z1 o1) h1 h2 (by omega) (by omega) hl
  rw [h.2]
  exact this
theorem z_anewarray {X : zS} {M : zM} {d kc ks : Nat} {r : Option Value} {hp' : List zC} {pc : Nat} {L : List (Option Value)} {st : List Value} {hp : List zC} {kc1 ks1 t ix : Nat} {C : String} {i : Int32} (hdg : decode M.2.1 pc = .ok (.anewarray ix, 3)) (N : Nat) (n o : Nat) (hp1 : List zC) (en : pc + 3 = n) (hC : (t, C) = (0, "LightInRoom$Law") ∨ (t, C) = (1, "LightInRoom$Telling")) (hw : Cond.classLink M.1.cls ix C ∈ zT) (hi : i = nI N) (hN : N < 1000) (hkc : kc = kc1 + 1) (hks : ks = ks1 + N) (ho : hp.length = o) (hq : hp ++ [.inr (.inl (t, N, fun _ => none))] = hp1) (kk : Z X M d kc1 ks1 r hp' n L (.ref o :: st) hp1) : Z X M d kc ks r hp' pc L (.int i :: st) hp := by
  subst en
  subst ho
  subst hq
  subst hi
  intro G B p l e R s m args below meth c Q H locs cells slots ls A F h hS h1 h2 h3 h4 hl
  have hts := A.2.2.2.2.1
  have hK : zK G s := A.2.2.2.2.2.1
  have e0 : (nI N).toNatClampNeg = N := nI_clamp (by omega)
  have hA : va_AO C s := by
    rcases hC with hC | hC <;> cases hC
    · exact A.2.2.2.2.2.2.1.2.2.2.1
    · exact A.2.2.2.2.2.2.1.2.2.2.2.1
  have ht : (zTy G)[t + 1]? = some (G.2.1 (t + 1), .object C) := by
    rcases hC with hC | hC <;> cases hC <;> rfl
  refine W.anew A.1 A.2.1 A.2.2.2.1 (hts _ hw) (va_AO.use hA) rfl hdg rfl (nI_pos (by omega)) (by rw [e0]; omega) (by omega) (by rw [e0]; omega) fun cA kA comp f1 f2 f3 f4 => ?_
  obtain ⟨_, _, _, _, _, g4⟩ := (hK.2 (t + 1) _ ht).2
  have hcA : cA = G.2.1 (t + 1) := Option.some.inj (f1.symm.trans g4)
  subst hcA
  rw [e0]
  generalize hH1 : H.push ({ cls := G.2.1 (t + 1), slots := Array.replicate N .null, vm := .none } : Cell) = H1
  have z1 : H1.size = H.size + 1 := by rw [← hH1, Array.size_push]
  have o1 : ∀ q : Nat, q < H.size → H1[q]? = H[q]? := fun q hq => by rw [← hH1, Array.getElem?_push, if_neg (Nat.ne_of_lt hq)]
  have e1 : H1[H.size]? = some (arrV (G.2.1 (t + 1)) N (fun _ => .null)) := by rw [← hH1, Array.getElem?_push_size, ← arrV_new]
  have hH : zH G B (hp ++ [.inr (.inl (t, N, fun _ => none))]) H1 := h.push e1 z1 o1
  have := kk G B p l e R s m args below meth c Q H1 locs (cells + 1) (slots + N) ls A F hH (hS.push z1 o1) h1 h2 (by omega) (by omega) hl
  rw [h.2]
  exact this
theorem z_objInit {X : zS} {M : zM} {d kc ks : Nat} {r : Option Value} {hp' : List zC} {pc : Nat} {L : List (Option Value)} {st : List Value} {hp : List zC} {ix o : Nat} (hdg : decode M.2.1 pc = .ok (.invokespecial ix, 3)) (n : Nat) (en : pc + 3 = n) (hw1 : Cond.methodLink M.1.cls ix objectInit ∈ zT) (hw2 : Cond.instanceMethod objectInit ∈ zT) (hw3 : Cond.code objectInit ⟨#[0xb1]⟩ 1 none ∈ zT) (hd : 1 ≤ d) (hst : (st.map fun v => v.category).sum ≤ 8) (kk : Z X M d kc ks r hp' n L st hp) : Z X M d kc ks r hp' pc L (.ref o :: st) hp := by
  subst en
  intro G B p l e R s m args below meth c Q H locs cells slots ls A F h hS h1 h2 h3 h4 hl
  have hts := A.2.2.2.2.1
  have hcat : ((st.map (zr B G.2.2)).map fun v => v.category).sum ≤ 8 := by
    rw [List.map_map]
    have : ((fun v => Value.category v) ∘ zr B G.2.2) = fun v => Value.category v := funext fun v => zr_cat B G.2.2 v
    rw [this]; exact hst
  refine W.objInit A.1 A.2.1 A.2.2.2.1 (hts _ hw1) (hts _ hw2) (hts _ hw3) rfl (by rw [A.2.2.1]; exact hl.1) rfl hdg (by omega) (by show 2 * 0 + _ + 12 ≤ _; omega) ?_
  exact kk G B p l e R s m args below meth c Q H locs cells slots ls A F h hS h1 h2 h3 h4 hl
theorem z_cats {B : Nat} {Y : Nat → Nat} {st : List Value} (h : (st.map fun v => v.category).sum ≤ 8) : ((st.map (zr B Y)).map fun v => v.category).sum ≤ 8 := by
  rw [List.map_map]
  have : ((fun v => Value.category v) ∘ zr B Y) = fun v => Value.category v := funext fun v => zr_cat B Y v
  rw [this]; exact h
/-- what the words say of a method, for a call -/
def zcM (M' : zM) (n : Nat) : Prop := Cond.code M'.1 M'.2.1 M'.2.2.1 M'.2.2.2 ∈ zT ∧ Cond.initialized M'.1.cls ∈ zT ∧ (M'.1.cls ≠ "java/lang/invoke/MethodHandle" ∧ M'.1.cls ≠ "java/lang/invoke/VarHandle" ∧ (parseMethodDescriptor M'.1.desc).map (fun d => d.parameters.length) = some n) ∧ M'.2.2.1 ≤ 41
theorem z_callB {X : zS} {M M' : zM} {G : zG} {B : Nat} {p : Program} {R : Room} {s : State} {m : MethodId} {args : Array Value} {meth : Method} {c : Code} {ix nn d d' mc ms : Nat} (A : zAt X M G B p s m args meth c) (hm : zcM M' nn) (hlk : Cond.methodLink M.1.cls ix M'.1 ∈ zT) (hd : d' + 1 ≤ d) (h1 : d ≤ R.frames) (h2 : 60 * d ≤ R.locals) :
    CallB R s args M.1.cls ix M'.1 M'.2.1 M'.2.2.1 M'.2.2.2 (Cond.code M'.1 M'.2.1 M'.2.2.1 M'.2.2.2 :: zT) { frames := d', cells := mc, slots := ms, locals := 60 * d' } mc ms nn :=
  callB_of nn A.2.2.2.2.1 (zT_GI hm.1) rfl rfl rfl (A.2.2.2.2.1 _ hm.2.1) (A.2.2.2.2.1 _ hlk) hm.2.2.1 ⟨Nat.le_trans hd h1, by have := hm.2.2.2; show 8 + (_ + 11) + 60 * d' ≤ _; omega⟩
theorem z_preV {X : zS} {M : zM} {G : zG} {B : Nat} {p : Program} {s : State} {m : MethodId} {args : Array Value} {meth : Method} {c : Code} {H : Heap} {locs : List Loc} {hp : List zC} {o ci : Nat} {fs : List Value} {C : String} {T : u_T} {N : Nat} (A : zAt X M G B p s m args meth c) (hS : va_S (fun q => B ≤ q) s.heap H locs) (h : zH G B hp H) (ho : hp[o]? = some (.inr (.inr (ci, fs)))) (hc : zCl[ci]? = some (C, T, N)) (av : List Value) :
    PreV s H C (B + o) (va_Pc ((.ref o :: av).map (zr B G.2.2)) (fun U => zH G B hp U.heap ∧ zK G U ∧ zX X G B U U.heap)) (av.map (zr B G.2.2)) :=
  ⟨z_blind _, va_recv (D := G.1) A.2.2.2.2.2.1 h.1 hc (zw_at ho), (z_preS A hS h ((.ref o :: av).map (zr B G.2.2))).2⟩
theorem z_invs {X : zS} {M : zM} {d kc ks : Nat} {r : Option Value} {hp' : List zC} {pc : Nat} {L : List (Option Value)} {st : List Value} {hp : List zC} {as : List Value} {v : Value} {M' : zM} {ix nn d' mc ms kc1 ks1 : Nat} {hp1 : List zC} {st0 : List Value} (hdg : decode M.2.1 pc = .ok (.invokestatic ix, 3)) (n : Nat) (en : pc + 3 = n) (hm : zcM M' nn) (hlk : Cond.methodLink M.1.cls ix M'.1 ∈ zT) (hs : Cond.static M'.1 ∈ zT) (hr : Ret d' mc ms M' as hp (some v) hp1) (hst : st0 = (as.reverse ++ st)) (hn : as.length = nn) (hd : d' + 1 ≤ d) (hkc : kc = kc1 + mc) (hks : ks = ks1 + ms) (hw : (st.map fun v => v.category).sum ≤ 8) (kk : Z X M d kc1 ks1 r hp' n L (v :: st) hp1) : Z X M d kc ks r hp' pc L st0 hp := by
  subst en
  subst hst
  intro G B p l e R s m args below meth c Q H locs cells slots ls A F h hS h1 h2 h3 h4 hl
  have hsz : ls.size = M.2.2.1 := hl.1
  have hlen : (as.map (zr B G.2.2)).length = nn := by rw [List.length_map]; exact hn
  refine z_run (X := X) (M := M) (G := G) (av := #[]) (rest := st.map (zr B G.2.2)) (r := ((some v) : Option Value).map (zr B G.2.2)) (hp1 := hp1) hS (va_runS (As := as.map (zr B G.2.2)) ⟨A.1, A.2.1, A.2.2.1, A.2.2.2.1, A.2.2.2.2.1⟩ (hr X l G B) ⟨z_callB A hm hlk hd h1 h2, A.2.2.2.2.1 _ hs⟩ (z_preS A hS h _) rfl hlen hsz (by rw [List.map_append, List.map_reverse]) (lv_room (z_cats hw)) hdg ⟨by omega, by omega⟩) (fun H1 locs1 g1 g2 => ?_)
  exact kk G B p l e R s m args below meth c Q H1 locs1 (cells + mc) (slots + ms) ls A F g1 g2 h1 h2 (by omega) (by omega) hl
theorem z_invv {X : zS} {M : zM} {d kc ks : Nat} {r : Option Value} {hp' : List zC} {pc : Nat} {L : List (Option Value)} {st : List Value} {hp : List zC} {o : Nat} {as : List Value} {v : Value} {M' : zM} {ix nn d' mc ms kc1 ks1 : Nat} {hp1 : List zC} {st0 : List Value} {ci : Nat} {fs : List Value} {C : String} {T : u_T} {N : Nat} (hdg : decode M.2.1 pc = .ok (.invokevirtual ix, 3)) (n : Nat) (en : pc + 3 = n) (hm : zcM M' nn) (hlk : Cond.methodLink M.1.cls ix M'.1 ∈ zT) (hi : Cond.instanceMethod M'.1 ∈ zT) (hsel : Cond.selects C M'.1 M'.1 ∈ zT) (hc : zCl[ci]? = some (C, T, N)) (ho : hp[o]? = some (.inr (.inr (ci, fs)))) (hr : Ret d' mc ms M' (.ref o :: as) hp (some v) hp1) (hst : st0 = (as.reverse ++ .ref o :: st)) (hn : as.length = nn) (hd : d' + 1 ≤ d) (hkc : kc = kc1 + mc) (hks : ks = ks1 + ms) (hw : (st.map fun v => v.category).sum ≤ 8) (kk : Z X M d kc1 ks1 r hp' n L (v :: st) hp1) : Z X M d kc ks r hp' pc L st0 hp := by
  subst en
  subst hst
  intro G B p l e R s m args below meth c Q H locs cells slots ls A F h hS h1 h2 h3 h4 hl
  have hsz : ls.size = M.2.2.1 := hl.1
  have hlen : (as.map (zr B G.2.2)).length = nn := by rw [List.length_map]; exact hn
  refine z_run (X := X) (M := M) (G := G) (av := #[]) (rest := st.map (zr B G.2.2)) (r := ((some v) : Option Value).map (zr B G.2.2)) (hp1 := hp1) hS (va_runV (b := B + o) (C := C) (As := as.map (zr B G.2.2)) ⟨A.1, A.2.1, A.2.2.1, A.2.2.2.1, A.2.2.2.2.1⟩ (hr X l G B) ⟨z_callB A hm hlk hd h1 h2, A.2.2.2.2.1 _ hi, A.2.2.2.2.1 _ hsel⟩ (z_preV A hS h ho hc as) rfl hlen hsz (by rw [List.map_append, List.map_reverse]; rfl) (lv_room (z_cats hw)) hdg ⟨by omega, by omega⟩) (fun H1 locs1 g1 g2 => ?_)
  exact kk G B p l e R s m args below meth c Q H1 locs1 (cells + mc) (slots + ms) ls A F g1 g2 h1 h2 (by omega) (by omega) hl
theorem z_invSN {X : zS} {M : zM} {d kc ks : Nat} {r : Option Value} {hp' : List zC} {pc : Nat} {L : List (Option Value)} {st : List Value} {hp : List zC} {as : List Value} {v : Value} {M' : zM} {ix nn d' mc ms kc1 ks1 : Nat} {hp1 : List zC} {st0 : List Value} (hdg : decode M.2.1 pc = .ok (.invokestatic ix, 3)) (n : Nat) (en : pc + 3 = n) (hm : zcM M' nn) (hlk : (M.1.cls, ix, M'.1) ∈ zNest) (hs : Cond.static M'.1 ∈ zT) (hr : Ret d' mc ms M' as hp (some v) hp1) (hst : st0 = (as.reverse ++ st)) (hn : as.length = nn) (hd : d' + 1 ≤ d) (hkc : kc = kc1 + mc) (hks : ks = ks1 + ms) (hw : (st.map fun v => v.category).sum ≤ 8) (kk : Z X M d kc1 ks1 r hp' n L (v :: st) hp1) : Z X M d kc ks r hp' pc L st0 hp := by
  subst en
  subst hst
  intro G B p l e R s m args below meth c Q H locs cells slots ls A F h hS h1 h2 h3 h4 hl
  have hsz : ls.size = M.2.2.1 := hl.1
  have hlen : (as.map (zr B G.2.2)).length = nn := by rw [List.length_map]; exact hn
  refine z_run (X := X) (M := M) (G := G) (av := #[]) (rest := st.map (zr B G.2.2)) (r := ((some v) : Option Value).map (zr B G.2.2)) (hp1 := hp1) hS (va_runSN (host := "LightInRoom") (As := as.map (zr B G.2.2)) ⟨A.1, A.2.1, A.2.2.1, A.2.2.2.1, A.2.2.2.2.1⟩ (hr X l G B) ⟨va_cnB nn A.2.2.2.2.1 (zT_GI hm.1) rfl rfl rfl (A.2.2.2.2.2.2.1.1 _ hlk) (A.2.2.2.2.1 _ hm.2.1) hm.2.2.1 ⟨Nat.le_trans hd h1, by have := hm.2.2.2; show 8 + (_ + 11) + 60 * d' ≤ _; omega⟩, A.2.2.2.2.1 _ hs, trivial⟩ (z_preS A hS h _) rfl hlen hsz (by rw [List.map_append, List.map_reverse]) (lv_room (z_cats hw)) hdg ⟨by omega, by omega⟩) (fun H1 locs1 g1 g2 => ?_)
  exact kk G B p l e R s m args below meth c Q H1 locs1 (cells + mc) (slots + ms) ls A F g1 g2 h1 h2 (by omega) (by omega) hl
theorem z_invsv {X : zS} {M : zM} {d kc ks : Nat} {r : Option Value} {hp' : List zC} {pc : Nat} {L : List (Option Value)} {st : List Value} {hp : List zC} {as : List Value} {M' : zM} {ix nn d' mc ms kc1 ks1 : Nat} {hp1 : List zC} {st0 : List Value} (hdg : decode M.2.1 pc = .ok (.invokestatic ix, 3)) (n : Nat) (en : pc + 3 = n) (hm : zcM M' nn) (hlk : Cond.methodLink M.1.cls ix M'.1 ∈ zT) (hs : Cond.static M'.1 ∈ zT) (hr : Ret d' mc ms M' as hp none hp1) (hst : st0 = (as.reverse ++ st)) (hn : as.length = nn) (hd : d' + 1 ≤ d) (hkc : kc = kc1 + mc) (hks : ks = ks1 + ms) (hw : (st.map fun v => v.category).sum ≤ 8) (kk : Z X M d kc1 ks1 r hp' n L st hp1) : Z X M d kc ks r hp' pc L st0 hp := by
  subst en
  subst hst
  intro G B p l e R s m args below meth c Q H locs cells slots ls A F h hS h1 h2 h3 h4 hl
  have hsz : ls.size = M.2.2.1 := hl.1
  have hlen : (as.map (zr B G.2.2)).length = nn := by rw [List.length_map]; exact hn
  refine z_run (X := X) (M := M) (G := G) (av := #[]) (rest := st.map (zr B G.2.2)) (r := (none : Option Value).map (zr B G.2.2)) (hp1 := hp1) hS (va_runS (As := as.map (zr B G.2.2)) ⟨A.1, A.2.1, A.2.2.1, A.2.2.2.1, A.2.2.2.2.1⟩ (hr X l G B) ⟨z_callB A hm hlk hd h1 h2, A.2.2.2.2.1 _ hs⟩ (z_preS A hS h _) rfl hlen hsz (by rw [List.map_append, List.map_reverse]) (lv_room (z_cats hw)) hdg ⟨by omega, by omega⟩) (fun H1 locs1 g1 g2 => ?_)
  exact kk G B p l e R s m args below meth c Q H1 locs1 (cells + mc) (slots + ms) ls A F g1 g2 h1 h2 (by omega) (by omega) hl
theorem z_invvv {X : zS} {M : zM} {d kc ks : Nat} {r : Option Value} {hp' : List zC} {pc : Nat} {L : List (Option Value)} {st : List Value} {hp : List zC} {o : Nat} {as : List Value} {M' : zM} {ix nn d' mc ms kc1 ks1 : Nat} {hp1 : List zC} {st0 : List Value} {ci : Nat} {fs : List Value} {C : String} {T : u_T} {N : Nat} (hdg : decode M.2.1 pc = .ok (.invokevirtual ix, 3)) (n : Nat) (en : pc + 3 = n) (hm : zcM M' nn) (hlk : Cond.methodLink M.1.cls ix M'.1 ∈ zT) (hi : Cond.instanceMethod M'.1 ∈ zT) (hsel : Cond.selects C M'.1 M'.1 ∈ zT) (hc : zCl[ci]? = some (C, T, N)) (ho : hp[o]? = some (.inr (.inr (ci, fs)))) (hr : Ret d' mc ms M' (.ref o :: as) hp none hp1) (hst : st0 = (as.reverse ++ .ref o :: st)) (hn : as.length = nn) (hd : d' + 1 ≤ d) (hkc : kc = kc1 + mc) (hks : ks = ks1 + ms) (hw : (st.map fun v => v.category).sum ≤ 8) (kk : Z X M d kc1 ks1 r hp' n L st hp1) : Z X M d kc ks r hp' pc L st0 hp := by
  subst en
  subst hst
  intro G B p l e R s m args below meth c Q H locs cells slots ls A F h hS h1 h2 h3 h4 hl
  have hsz : ls.size = M.2.2.1 := hl.1
  have hlen : (as.map (zr B G.2.2)).length = nn := by rw [List.length_map]; exact hn
  refine z_run (X := X) (M := M) (G := G) (av := #[]) (rest := st.map (zr B G.2.2)) (r := (none : Option Value).map (zr B G.2.2)) (hp1 := hp1) hS (va_runV (b := B + o) (C := C) (As := as.map (zr B G.2.2)) ⟨A.1, A.2.1, A.2.2.1, A.2.2.2.1, A.2.2.2.2.1⟩ (hr X l G B) ⟨z_callB A hm hlk hd h1 h2, A.2.2.2.2.1 _ hi, A.2.2.2.2.1 _ hsel⟩ (z_preV A hS h ho hc as) rfl hlen hsz (by rw [List.map_append, List.map_reverse]; rfl) (lv_room (z_cats hw)) hdg ⟨by omega, by omega⟩) (fun H1 locs1 g1 g2 => ?_)
  exact kk G B p l e R s m args below meth c Q H1 locs1 (cells + mc) (slots + ms) ls A F g1 g2 h1 h2 (by omega) (by omega) hl
theorem z_invSNv {X : zS} {M : zM} {d kc ks : Nat} {r : Option Value} {hp' : List zC} {pc : Nat} {L : List (Option Value)} {st : List Value} {hp : List zC} {as : List Value} {M' : zM} {ix nn d' mc ms kc1 ks1 : Nat} {hp1 : List zC} {st0 : List Value} (hdg : decode M.2.1 pc = .ok (.invokestatic ix, 3)) (n : Nat) (en : pc + 3 = n) (hm : zcM M' nn) (hlk : (M.1.cls, ix, M'.1) ∈ zNest) (hs : Cond.static M'.1 ∈ zT) (hr : Ret d' mc ms M' as hp none hp1) (hst : st0 = (as.reverse ++ st)) (hn : as.length = nn) (hd : d' + 1 ≤ d) (hkc : kc = kc1 + mc) (hks : ks = ks1 + ms) (hw : (st.map fun v => v.category).sum ≤ 8) (kk : Z X M d kc1 ks1 r hp' n L st hp1) : Z X M d kc ks r hp' pc L st0 hp := by
  subst en
  subst hst
  intro G B p l e R s m args below meth c Q H locs cells slots ls A F h hS h1 h2 h3 h4 hl
  have hsz : ls.size = M.2.2.1 := hl.1
  have hlen : (as.map (zr B G.2.2)).length = nn := by rw [List.length_map]; exact hn
  refine z_run (X := X) (M := M) (G := G) (av := #[]) (rest := st.map (zr B G.2.2)) (r := (none : Option Value).map (zr B G.2.2)) (hp1 := hp1) hS (va_runSN (host := "LightInRoom") (As := as.map (zr B G.2.2)) ⟨A.1, A.2.1, A.2.2.1, A.2.2.2.1, A.2.2.2.2.1⟩ (hr X l G B) ⟨va_cnB nn A.2.2.2.2.1 (zT_GI hm.1) rfl rfl rfl (A.2.2.2.2.2.2.1.1 _ hlk) (A.2.2.2.2.1 _ hm.2.1) hm.2.2.1 ⟨Nat.le_trans hd h1, by have := hm.2.2.2; show 8 + (_ + 11) + 60 * d' ≤ _; omega⟩, A.2.2.2.2.1 _ hs, trivial⟩ (z_preS A hS h _) rfl hlen hsz (by rw [List.map_append, List.map_reverse]) (lv_room (z_cats hw)) hdg ⟨by omega, by omega⟩) (fun H1 locs1 g1 g2 => ?_)
  exact kk G B p l e R s m args below meth c Q H1 locs1 (cells + mc) (slots + ms) ls A F g1 g2 h1 h2 (by omega) (by omega) hl
theorem z_invI {X : zS} {M : zM} {d kc ks : Nat} {r : Option Value} {hp' : List zC} {pc : Nat} {L : List (Option Value)} {st : List Value} {hp : List zC} {o : Nat} {as : List Value} {M' : zM} {ix nn d' mc ms kc1 ks1 : Nat} {hp1 : List zC} {st0 : List Value} (hdg : decode M.2.1 pc = .ok (.invokespecial ix, 3)) (n : Nat) (en : pc + 3 = n) (hm : zcM M' nn) (hlk : Cond.methodLink M.1.cls ix M'.1 ∈ zT) (hi : Cond.instanceMethod M'.1 ∈ zT) (hnm : M'.1.name = "<init>") (hvr : M'.2.2.2 = none) (hr : Ret d' mc ms M' (.ref o :: as) hp none hp1) (hst : st0 = (as.reverse ++ .ref o :: st)) (hn : as.length = nn) (hd : d' + 1 ≤ d) (hkc : kc = kc1 + mc) (hks : ks = ks1 + ms) (hw : (st.map fun v => v.category).sum ≤ 8) (kk : Z X M d kc1 ks1 r hp' n L st hp1) : Z X M d kc ks r hp' pc L st0 hp := by
  subst en
  subst hst
  intro G B p l e R s m args below meth c Q H locs cells slots ls A F h hS h1 h2 h3 h4 hl
  have hsz : ls.size = M.2.2.1 := hl.1
  have hlen : (as.map (zr B G.2.2)).length = nn := by rw [List.length_map]; exact hn
  refine z_run (X := X) (M := M) (G := G) (av := #[]) (rest := st.map (zr B G.2.2)) (r := (none : Option Value).map (zr B G.2.2)) (hp1 := hp1) hS (va_runI (b := B + o) (As := as.map (zr B G.2.2)) ⟨A.1, A.2.1, A.2.2.1, A.2.2.2.1, A.2.2.2.2.1⟩ (hr X l G B) ⟨by have := z_callB (mc := mc) (ms := ms) A hm hlk hd h1 h2; rw [hvr] at this ⊢; exact this, hnm, A.2.2.2.2.1 _ hi⟩ (z_preS A hS h ((.ref o :: as).map (zr B G.2.2))) rfl hlen hsz (by rw [List.map_append, List.map_reverse]; rfl) (lv_room (z_cats hw)) hdg ⟨by omega, by omega⟩) (fun H1 locs1 g1 g2 => ?_)
  exact kk G B p l e R s m args below meth c Q H1 locs1 (cells + mc) (slots + ms) ls A F g1 g2 h1 h2 (by omega) (by omega) hl
theorem z_invIN {X : zS} {M : zM} {d kc ks : Nat} {r : Option Value} {hp' : List zC} {pc : Nat} {L : List (Option Value)} {st : List Value} {hp : List zC} {o : Nat} {as : List Value} {M' : zM} {ix nn d' mc ms kc1 ks1 : Nat} {hp1 : List zC} {st0 : List Value} (hdg : decode M.2.1 pc = .ok (.invokespecial ix, 3)) (n : Nat) (en : pc + 3 = n) (hm : zcM M' nn) (hlk : (M.1.cls, ix, M'.1) ∈ zNest) (hi : Cond.instanceMethod M'.1 ∈ zT) (hnm : M'.1.name = "<init>") (hvr : M'.2.2.2 = none) (hr : Ret d' mc ms M' (.ref o :: as) hp none hp1) (hst : st0 = (as.reverse ++ .ref o :: st)) (hn : as.length = nn) (hd : d' + 1 ≤ d) (hkc : kc = kc1 + mc) (hks : ks = ks1 + ms) (hw : (st.map fun v => v.category).sum ≤ 8) (kk : Z X M d kc1 ks1 r hp' n L st hp1) : Z X M d kc ks r hp' pc L st0 hp := by
  subst en
  subst hst
  intro G B p l e R s m args below meth c Q H locs cells slots ls A F h hS h1 h2 h3 h4 hl
  have hsz : ls.size = M.2.2.1 := hl.1
  have hlen : (as.map (zr B G.2.2)).length = nn := by rw [List.length_map]; exact hn
  refine z_run (X := X) (M := M) (G := G) (av := #[]) (rest := st.map (zr B G.2.2)) (r := (none : Option Value).map (zr B G.2.2)) (hp1 := hp1) hS (va_runIN (b := B + o) (host := "LightInRoom") (As := as.map (zr B G.2.2)) ⟨A.1, A.2.1, A.2.2.1, A.2.2.2.1, A.2.2.2.2.1⟩ (hr X l G B) ⟨by have := va_cnB (R := R) (mc := mc) (ms := ms) (rm := { frames := d', cells := mc, slots := ms, locals := 60 * d' }) nn A.2.2.2.2.1 (zT_GI hm.1) rfl rfl rfl (A.2.2.2.2.2.2.1.1 _ hlk) (A.2.2.2.2.1 _ hm.2.1) hm.2.2.1 ⟨Nat.le_trans hd h1, by have := hm.2.2.2; show 8 + (_ + 11) + 60 * d' ≤ _; omega⟩; rw [hvr] at this ⊢; exact this, hnm, A.2.2.2.2.1 _ hi⟩ (z_preS A hS h ((.ref o :: as).map (zr B G.2.2))) rfl hlen hsz (by rw [List.map_append, List.map_reverse]; rfl) (lv_room (z_cats hw)) hdg ⟨by omega, by omega⟩) (fun H1 locs1 g1 g2 => ?_)
  exact kk G B p l e R s m args below meth c Q H1 locs1 (cells + mc) (slots + ms) ls A F g1 g2 h1 h2 (by omega) (by omega) hl
theorem z_invU {X : zS} {M : zM} {d kc ks : Nat} {r : Option Value} {hp' : List zC} {pc : Nat} {L : List (Option Value)} {st : List Value} {hp : List zC} {o : Nat} {as : List Value} {v : Value} {M' : zM} {ix nn d' mc ms kc1 ks1 : Nat} {hp1 : List zC} {st0 : List Value} {ci : Nat} {fs : List Value} {C : String} {T : u_T} {N : Nat} {x : MethodName} (hdg : decode M.2.1 pc = .ok (.invokevirtual ix, 3)) (n : Nat) (en : pc + 3 = n) (hm : zcM M' nn) (hlk : Cond.methodLink M.1.cls ix x ∈ zT) (hsm : Cond.sameMethod x.cls x.cls x.name x.desc ∈ zT) (hsel : Cond.selects C x M'.1 ∈ zT) (hi : Cond.instanceMethod M'.1 ∈ zT) (hxd : x.cls ≠ "java/lang/invoke/MethodHandle" ∧ x.cls ≠ "java/lang/invoke/VarHandle" ∧ (parseMethodDescriptor x.desc).map (fun d => d.parameters.length) = some nn) (hxd2 : x ∈ zDecl ∨ x = M'.1) (hc : zCl[ci]? = some (C, T, N)) (ho : hp[o]? = some (.inr (.inr (ci, fs)))) (hr : Ret d' mc ms M' (.ref o :: as) hp (some v) hp1) (hst : st0 = (as.reverse ++ .ref o :: st)) (hn : as.length = nn) (hd : d' + 1 ≤ d) (hkc : kc = kc1 + mc) (hks : ks = ks1 + ms) (hw : (st.map fun v => v.category).sum ≤ 8) (kk : Z X M d kc1 ks1 r hp' n L (v :: st) hp1) : Z X M d kc ks r hp' pc L st0 hp := by
  subst en
  subst hst
  intro G B p l e R s m args below meth c Q H locs cells slots ls A F h hS h1 h2 h3 h4 hl
  have hsz : ls.size = M.2.2.1 := hl.1
  have hlen : (as.map (zr B G.2.2)).length = nn := by rw [List.length_map]; exact hn
  refine z_run (X := X) (M := M) (G := G) (av := #[]) (rest := st.map (zr B G.2.2)) (r := ((some v) : Option Value).map (zr B G.2.2)) (hp1 := hp1) hS (va_runU (b := B + o) (C := C) (owner := x.cls) (x := x) (As := as.map (zr B G.2.2)) ⟨A.1, A.2.1, A.2.2.1, A.2.2.2.1, A.2.2.2.2.1⟩ (hr X l G B) ⟨⟨rfl, rfl, Nat.le_trans hd h1, by have := hm.2.2.2; show 8 + (_ + 11) + 60 * d' ≤ _; omega, pay_in A.2.2.2.2.1 (zT_GI hm.1), List.mem_cons_self⟩, A.2.2.2.2.1 _ hm.1, A.2.2.2.2.1 _ hm.2.1, ⟨hxd.1, hxd.2.1⟩, (fun sig hsig => by have h2 := hxd.2.2; rw [hsig] at h2; exact (Option.some.inj h2).symm), A.2.2.2.2.1 _ hlk, A.2.2.2.2.1 _ hsm, (by
      rcases hxd2 with hxd2 | rfl
      · exact va_Decl.abs (A.2.2.2.2.2.2.1.2.2.1 _ hxd2)
      · exact va_Decl.of (A.2.2.2.2.1 _ hi) (A.2.2.2.2.1 _ hm.1)), A.2.2.2.2.1 _ hsel, A.2.2.2.2.1 _ hi⟩ (z_preV A hS h ho hc as) rfl hlen hsz (by rw [List.map_append, List.map_reverse]; rfl) (lv_room (z_cats hw)) hdg ⟨by omega, by omega⟩) (fun H1 locs1 g1 g2 => ?_)
  exact kk G B p l e R s m args below meth c Q H1 locs1 (cells + mc) (slots + ms) ls A F g1 g2 h1 h2 (by omega) (by omega) hl
theorem z_invSU {X : zS} {M : zM} {d kc ks : Nat} {r : Option Value} {hp' : List zC} {pc : Nat} {L : List (Option Value)} {st : List Value} {hp : List zC} {o : Nat} {as : List Value} {v : Value} {M' : zM} {ix nn d' mc ms kc1 ks1 : Nat} {hp1 : List zC} {st0 : List Value} {ci : Nat} {fs : List Value} {C : String} {T : u_T} {N : Nat} (hdg : decode M.2.1 pc = .ok (.invokespecial ix, 3)) (n : Nat) (en : pc + 3 = n) (hm : zcM M' nn) (hlk : Cond.methodLink M.1.cls ix M'.1 ∈ zT) (hsm : Cond.sameMethod M'.1.cls M'.1.cls M'.1.name M'.1.desc ∈ zT) (hsup : Cond.superclass M.1.cls M'.1.cls ∈ zT) (hi : Cond.instanceMethod M'.1 ∈ zT) (hnm : M'.1.name ≠ "<init>") (hc : zCl[ci]? = some (C, T, N)) (ho : hp[o]? = some (.inr (.inr (ci, fs)))) (hr : Ret d' mc ms M' (.ref o :: as) hp (some v) hp1) (hst : st0 = (as.reverse ++ .ref o :: st)) (hn : as.length = nn) (hd : d' + 1 ≤ d) (hkc : kc = kc1 + mc) (hks : ks = ks1 + ms) (hw : (st.map fun v => v.category).sum ≤ 8) (kk : Z X M d kc1 ks1 r hp' n L (v :: st) hp1) : Z X M d kc ks r hp' pc L st0 hp := by
  subst en
  subst hst
  intro G B p l e R s m args below meth c Q H locs cells slots ls A F h hS h1 h2 h3 h4 hl
  have hsz : ls.size = M.2.2.1 := hl.1
  have hlen : (as.map (zr B G.2.2)).length = nn := by rw [List.length_map]; exact hn
  refine z_run (X := X) (M := M) (G := G) (av := #[]) (rest := st.map (zr B G.2.2)) (r := ((some v) : Option Value).map (zr B G.2.2)) (hp1 := hp1) hS (va_runSU (b := B + o) (C := C) (As := as.map (zr B G.2.2)) (A.2.2.2.2.2.1.1 ci _ hc).2 ⟨A.1, A.2.1, A.2.2.1, A.2.2.2.1, A.2.2.2.2.1⟩ (hr X l G B) ⟨⟨rfl, rfl, Nat.le_trans hd h1, by have := hm.2.2.2; show 8 + (_ + 11) + 60 * d' ≤ _; omega, pay_in A.2.2.2.2.1 (zT_GI hm.1), List.mem_cons_self⟩, A.2.2.2.2.1 _ hlk, A.2.2.2.2.1 _ hsm, A.2.2.2.2.1 _ hsup, A.2.2.2.2.1 _ hi, A.2.2.2.2.1 _ hm.2.1, A.2.2.2.2.1 _ hm.1, hnm, (fun sig hsig => by have h2 := hm.2.2.1.2.2; rw [hsig] at h2; exact (Option.some.inj h2).symm)⟩ (z_preV A hS h ho hc as) rfl hlen hsz (by rw [List.map_append, List.map_reverse]; rfl) (lv_room (z_cats hw)) hdg ⟨by omega, by omega⟩) (fun H1 locs1 g1 g2 => ?_)
  exact kk G B p l e R s m args below meth c Q H1 locs1 (cells + mc) (slots + ms) ls A F g1 g2 h1 h2 (by omega) (by omega) hl
theorem z_mmax {X : zS} {M : zM} {d kc ks : Nat} {r : Option Value} {hp' : List zC} {pc : Nat} {L : List (Option Value)} {st : List Value} {hp : List zC} {ix : Nat} {x y : Int32} (hdg : decode M.2.1 pc = .ok (.invokestatic ix, 3)) (n : Nat) (en : pc + 3 = n) (hw1 : Cond.methodLink M.1.cls ix Lib.Math.max.name ∈ zT) (hw2 : Cond.static Lib.Math.max.name ∈ zT) (hw3 : Cond.initialized "java/lang/Math" ∈ zT) (hw4 : Cond.code Lib.Math.max.name Lib.Math.max.code 2 (some .int) ∈ zT) (hd : 1 ≤ d) (hst : (st.map fun v => v.category).sum ≤ 8) (kk : Z X M d kc ks r hp' n L (.int (if x < y then y else x) :: st) hp) : Z X M d kc ks r hp' pc L (.int y :: .int x :: st) hp := by
  subst en
  intro G B p l e R s m args below meth c Q H locs cells slots ls A F h hS h1 h2 h3 h4 hl
  have hts := A.2.2.2.2.1
  have hcat := z_cats (B := B) (Y := G.2.2) hst
  exact va_mmax A.1 A.2.1 (by rw [A.2.2.1]; exact hl.1.symm) A.2.2.2.1 (hts _ hw1) (hts _ hw2) (hts _ hw3) (hts _ hw4) (by omega) (by omega) (by omega) (by omega) hdg (kk G B p l e R s m args below meth c Q H locs cells slots ls A F h hS h1 h2 h3 h4 hl)
theorem z_mmin {X : zS} {M : zM} {d kc ks : Nat} {r : Option Value} {hp' : List zC} {pc : Nat} {L : List (Option Value)} {st : List Value} {hp : List zC} {ix : Nat} {x y : Int32} (hdg : decode M.2.1 pc = .ok (.invokestatic ix, 3)) (n : Nat) (en : pc + 3 = n) (hw1 : Cond.methodLink M.1.cls ix Lib.Math.min.name ∈ zT) (hw2 : Cond.static Lib.Math.min.name ∈ zT) (hw3 : Cond.initialized "java/lang/Math" ∈ zT) (hw4 : Cond.code Lib.Math.min.name Lib.Math.min.code 2 (some .int) ∈ zT) (hd : 1 ≤ d) (hst : (st.map fun v => v.category).sum ≤ 8) (kk : Z X M d kc ks r hp' n L (.int (if y < x then y else x) :: st) hp) : Z X M d kc ks r hp' pc L (.int y :: .int x :: st) hp := by
  subst en
  intro G B p l e R s m args below meth c Q H locs cells slots ls A F h hS h1 h2 h3 h4 hl
  have hts := A.2.2.2.2.1
  have hcat := z_cats (B := B) (Y := G.2.2) hst
  exact va_mmin A.1 A.2.1 (by rw [A.2.2.1]; exact hl.1.symm) A.2.2.2.1 (hts _ hw1) (hts _ hw2) (hts _ hw3) (hts _ hw4) (by omega) (by omega) (by omega) (by omega) hdg (kk G B p l e R s m args below meth c Q H locs cells slots ls A F h hS h1 h2 h3 h4 hl)
end
section
theorem zc_Ben : ∀ w ∈ u_ws "LightInRoom$Bench" zF_Ben 4, w ∈ zT := by decide +kernel
theorem zc_Cal : ∀ w ∈ u_ws "LightInRoom$Called" zF_Cal 6, w ∈ zT := by decide +kernel
theorem zc_Eye : ∀ w ∈ u_ws "LightInRoom$Eye" zF_Eye 6, w ∈ zT := by decide +kernel
theorem zc_Gro : ∀ w ∈ u_ws "LightInRoom$Grown" zF_Gro 6, w ∈ zT := by decide +kernel
theorem zc_Law : ∀ w ∈ u_ws "LightInRoom$Law" zF_Law 2, w ∈ zT := by decide +kernel
theorem zc_Nea : ∀ w ∈ u_ws "LightInRoom$Near" zF_Nea 6, w ∈ zT := by decide +kernel
theorem zc_Roo : ∀ w ∈ u_ws "LightInRoom$Room" zF_Roo 11, w ∈ zT := by decide +kernel
theorem zc_Tap : ∀ w ∈ u_ws "LightInRoom$Tape" zF_Tap 9, w ∈ zT := by decide +kernel
theorem zc_Thr : ∀ w ∈ u_ws "LightInRoom$Through" zF_Thr 6, w ∈ zT := by decide +kernel
theorem zc_Wit : ∀ w ∈ u_ws "LightInRoom$Without" zF_Wit 6, w ∈ zT := by decide +kernel
theorem zc_Lir : ∀ w ∈ u_ws "LightInRoom" zF_Lir 6, w ∈ zT := by decide +kernel
theorem zc_Mod : ∀ w ∈ u_ws "LightInRoomModel" zF_Mod 8, w ∈ zT := by decide +kernel
theorem zi_Lir : Cond.initialized "LightInRoom" ∈ zT := zT_in 42 (by decide +kernel) (by decide +kernel)
theorem zi_Ben : Cond.initialized "LightInRoom$Bench" ∈ zT := zT_in 46 (by decide +kernel) (by decide +kernel)
theorem zi_Cal : Cond.initialized "LightInRoom$Called" ∈ zT := zT_in 53 (by decide +kernel) (by decide +kernel)
theorem zi_Eye : Cond.initialized "LightInRoom$Eye" ∈ zT := zT_in 54 (by decide +kernel) (by decide +kernel)
theorem zi_Gro : Cond.initialized "LightInRoom$Grown" ∈ zT := zT_in 58 (by decide +kernel) (by decide +kernel)
theorem zi_Law : Cond.initialized "LightInRoom$Law" ∈ zT := zT_in 45 (by decide +kernel) (by decide +kernel)
theorem zi_Nea : Cond.initialized "LightInRoom$Near" ∈ zT := zT_in 55 (by decide +kernel) (by decide +kernel)
theorem zi_Roo : Cond.initialized "LightInRoom$Room" ∈ zT := zT_in 44 (by decide +kernel) (by decide +kernel)
theorem zi_Tap : Cond.initialized "LightInRoom$Tape" ∈ zT := zT_in 43 (by decide +kernel) (by decide +kernel)
theorem zi_Tel : Cond.initialized "LightInRoom$Telling" ∈ zT := zT_in 52 (by decide +kernel) (by decide +kernel)
theorem zi_Thr : Cond.initialized "LightInRoom$Through" ∈ zT := zT_in 56 (by decide +kernel) (by decide +kernel)
theorem zi_Wit : Cond.initialized "LightInRoom$Without" ∈ zT := zT_in 57 (by decide +kernel) (by decide +kernel)
theorem zi_Mod : Cond.initialized "LightInRoomModel" ∈ zT := zT_in 47 (by decide +kernel) (by decide +kernel)
theorem zi_Int : Cond.initialized "java/lang/Integer" ∈ zT := zT_in 59 (by decide +kernel) (by decide +kernel)
theorem zi_Mat : Cond.initialized "java/lang/Math" ∈ zT := zT_in 60 (by decide +kernel) (by decide +kernel)
theorem zi_Str : Cond.initialized "java/lang/String" ∈ zT := zT_in 48 (by decide +kernel) (by decide +kernel)
theorem zi_SLa : Cond.initialized "java/lang/StringLatin1" ∈ zT := zT_in 49 (by decide +kernel) (by decide +kernel)
theorem zi_SUt : Cond.initialized "java/lang/StringUTF16" ∈ zT := zT_in 51 (by decide +kernel) (by decide +kernel)
theorem zi_Pre : Cond.initialized "jdk/internal/util/Preconditions" ∈ zT := zT_in 50 (by decide +kernel) (by decide +kernel)
theorem hm_Lir_init : zcM m_Lir_init 0 := ⟨zT_in 66 (by decide +kernel) (by decide +kernel), zi_Lir, by decide +kernel, by decide⟩
theorem im_Lir_init : Cond.instanceMethod m_Lir_init.1 ∈ zT := zT_in 65 (by decide +kernel) (by decide +kernel)
theorem hm_Tap_init : zcM m_Tap_init 0 := ⟨zT_in 74 (by decide +kernel) (by decide +kernel), zi_Tap, by decide +kernel, by decide⟩
theorem im_Tap_init : Cond.instanceMethod m_Tap_init.1 ∈ zT := zT_in 73 (by decide +kernel) (by decide +kernel)
theorem hm_Roo_init : zcM m_Roo_init 0 := ⟨zT_in 117 (by decide +kernel) (by decide +kernel), zi_Roo, by decide +kernel, by decide⟩
theorem im_Roo_init : Cond.instanceMethod m_Roo_init.1 ∈ zT := zT_in 116 (by decide +kernel) (by decide +kernel)
theorem hm_Law_init : zcM m_Law_init 0 := ⟨zT_in 126 (by decide +kernel) (by decide +kernel), zi_Law, by decide +kernel, by decide⟩
theorem im_Law_init : Cond.instanceMethod m_Law_init.1 ∈ zT := zT_in 125 (by decide +kernel) (by decide +kernel)
theorem hm_Ben_init : zcM m_Ben_init 0 := ⟨zT_in 142 (by decide +kernel) (by decide +kernel), zi_Ben, by decide +kernel, by decide⟩
theorem im_Ben_init : Cond.instanceMethod m_Ben_init.1 ∈ zT := zT_in 141 (by decide +kernel) (by decide +kernel)
theorem hm_Lir_feed : zcM m_Lir_feed 2 := ⟨zT_in 225 (by decide +kernel) (by decide +kernel), zi_Lir, by decide +kernel, by decide⟩
theorem im_Lir_feed : Cond.instanceMethod m_Lir_feed.1 ∈ zT := zT_in 223 (by decide +kernel) (by decide +kernel)
theorem hm_Lir_refuse : zcM m_Lir_refuse 1 := ⟨zT_in 229 (by decide +kernel) (by decide +kernel), zi_Lir, by decide +kernel, by decide⟩
theorem im_Lir_refuse : Cond.instanceMethod m_Lir_refuse.1 ∈ zT := zT_in 228 (by decide +kernel) (by decide +kernel)
theorem hm_Tap_roomLeft : zcM m_Tap_roomLeft 0 := ⟨zT_in 233 (by decide +kernel) (by decide +kernel), zi_Tap, by decide +kernel, by decide⟩
theorem im_Tap_roomLeft : Cond.instanceMethod m_Tap_roomLeft.1 ∈ zT := zT_in 231 (by decide +kernel) (by decide +kernel)
theorem hm_Tap_add : zcM m_Tap_add 2 := ⟨zT_in 237 (by decide +kernel) (by decide +kernel), zi_Tap, by decide +kernel, by decide⟩
theorem im_Tap_add : Cond.instanceMethod m_Tap_add.1 ∈ zT := zT_in 235 (by decide +kernel) (by decide +kernel)
theorem hm_Lir_telling : zcM m_Lir_telling 0 := ⟨zT_in 242 (by decide +kernel) (by decide +kernel), zi_Lir, by decide +kernel, by decide⟩
theorem im_Lir_telling : Cond.instanceMethod m_Lir_telling.1 ∈ zT := zT_in 240 (by decide +kernel) (by decide +kernel)
theorem hm_Tap_read : zcM m_Tap_read 0 := ⟨zT_in 246 (by decide +kernel) (by decide +kernel), zi_Tap, by decide +kernel, by decide⟩
theorem im_Tap_read : Cond.instanceMethod m_Tap_read.1 ∈ zT := zT_in 244 (by decide +kernel) (by decide +kernel)
theorem hm_Tap_readSize : zcM m_Tap_readSize 0 := ⟨zT_in 250 (by decide +kernel) (by decide +kernel), zi_Tap, by decide +kernel, by decide⟩
theorem im_Tap_readSize : Cond.instanceMethod m_Tap_readSize.1 ∈ zT := zT_in 249 (by decide +kernel) (by decide +kernel)
theorem hm_Tap_passes : zcM m_Tap_passes 1 := ⟨zT_in 254 (by decide +kernel) (by decide +kernel), zi_Tap, by decide +kernel, by decide⟩
theorem im_Tap_passes : Cond.instanceMethod m_Tap_passes.1 ∈ zT := zT_in 253 (by decide +kernel) (by decide +kernel)
theorem hm_Tap_byteHere : zcM m_Tap_byteHere 0 := ⟨zT_in 258 (by decide +kernel) (by decide +kernel), zi_Tap, by decide +kernel, by decide⟩
theorem im_Tap_byteHere : Cond.instanceMethod m_Tap_byteHere.1 ∈ zT := zT_in 257 (by decide +kernel) (by decide +kernel)
theorem hm_Tap_readNumber : zcM m_Tap_readNumber 1 := ⟨zT_in 262 (by decide +kernel) (by decide +kernel), zi_Tap, by decide +kernel, by decide⟩
theorem im_Tap_readNumber : Cond.instanceMethod m_Tap_readNumber.1 ∈ zT := zT_in 261 (by decide +kernel) (by decide +kernel)
theorem hm_Tap_digitHere : zcM m_Tap_digitHere 0 := ⟨zT_in 266 (by decide +kernel) (by decide +kernel), zi_Tap, by decide +kernel, by decide⟩
theorem im_Tap_digitHere : Cond.instanceMethod m_Tap_digitHere.1 ∈ zT := zT_in 265 (by decide +kernel) (by decide +kernel)
theorem hm_Tap_readSeconds : zcM m_Tap_readSeconds 0 := ⟨zT_in 270 (by decide +kernel) (by decide +kernel), zi_Tap, by decide +kernel, by decide⟩
theorem im_Tap_readSeconds : Cond.instanceMethod m_Tap_readSeconds.1 ∈ zT := zT_in 269 (by decide +kernel) (by decide +kernel)
theorem hm_Tap_readColour : zcM m_Tap_readColour 0 := ⟨zT_in 274 (by decide +kernel) (by decide +kernel), zi_Tap, by decide +kernel, by decide⟩
theorem im_Tap_readColour : Cond.instanceMethod m_Tap_readColour.1 ∈ zT := zT_in 273 (by decide +kernel) (by decide +kernel)
theorem hm_Tap_readMarks : zcM m_Tap_readMarks 0 := ⟨zT_in 278 (by decide +kernel) (by decide +kernel), zi_Tap, by decide +kernel, by decide⟩
theorem im_Tap_readMarks : Cond.instanceMethod m_Tap_readMarks.1 ∈ zT := zT_in 277 (by decide +kernel) (by decide +kernel)
theorem hm_Str_length : zcM m_Str_length 0 := ⟨zT_in 283 (by decide +kernel) (by decide +kernel), zi_Str, by decide +kernel, by decide⟩
theorem im_Str_length : Cond.instanceMethod m_Str_length.1 ∈ zT := zT_in 281 (by decide +kernel) (by decide +kernel)
theorem hm_Str_coder : zcM m_Str_coder 0 := ⟨zT_in 287 (by decide +kernel) (by decide +kernel), zi_Str, by decide +kernel, by decide⟩
theorem im_Str_coder : Cond.instanceMethod m_Str_coder.1 ∈ zT := zT_in 285 (by decide +kernel) (by decide +kernel)
theorem hm_Str_charAt : zcM m_Str_charAt 1 := ⟨zT_in 293 (by decide +kernel) (by decide +kernel), zi_Str, by decide +kernel, by decide⟩
theorem im_Str_charAt : Cond.instanceMethod m_Str_charAt.1 ∈ zT := zT_in 291 (by decide +kernel) (by decide +kernel)
theorem hm_Str_isLatin1 : zcM m_Str_isLatin1 0 := ⟨zT_in 297 (by decide +kernel) (by decide +kernel), zi_Str, by decide +kernel, by decide⟩
theorem im_Str_isLatin1 : Cond.instanceMethod m_Str_isLatin1.1 ∈ zT := zT_in 295 (by decide +kernel) (by decide +kernel)
theorem hm_SLa_charAt : zcM m_SLa_charAt 2 := ⟨zT_in 300 (by decide +kernel) (by decide +kernel), zi_SLa, by decide +kernel, by decide⟩
theorem st_SLa_charAt : Cond.static m_SLa_charAt.1 ∈ zT := zT_in 299 (by decide +kernel) (by decide +kernel)
theorem hm_Str_checkIndex : zcM m_Str_checkIndex 2 := ⟨zT_in 303 (by decide +kernel) (by decide +kernel), zi_Str, by decide +kernel, by decide⟩
theorem st_Str_checkIndex : Cond.static m_Str_checkIndex.1 ∈ zT := zT_in 302 (by decide +kernel) (by decide +kernel)
theorem hm_Pre_checkIndex : zcM m_Pre_checkIndex 3 := ⟨zT_in 308 (by decide +kernel) (by decide +kernel), zi_Pre, by decide +kernel, by decide⟩
theorem st_Pre_checkIndex : Cond.static m_Pre_checkIndex.1 ∈ zT := zT_in 307 (by decide +kernel) (by decide +kernel)
theorem hm_SUt_charAt : zcM m_SUt_charAt 2 := ⟨zT_in 311 (by decide +kernel) (by decide +kernel), zi_SUt, by decide +kernel, by decide⟩
theorem st_SUt_charAt : Cond.static m_SUt_charAt.1 ∈ zT := zT_in 310 (by decide +kernel) (by decide +kernel)
theorem hm_SUt_checkIndex : zcM m_SUt_checkIndex 2 := ⟨zT_in 314 (by decide +kernel) (by decide +kernel), zi_SUt, by decide +kernel, by decide⟩
theorem st_SUt_checkIndex : Cond.static m_SUt_checkIndex.1 ∈ zT := zT_in 313 (by decide +kernel) (by decide +kernel)
theorem hm_SUt_length : zcM m_SUt_length 1 := ⟨zT_in 317 (by decide +kernel) (by decide +kernel), zi_SUt, by decide +kernel, by decide⟩
theorem st_SUt_length : Cond.static m_SUt_length.1 ∈ zT := zT_in 316 (by decide +kernel) (by decide +kernel)
theorem hm_SUt_getChar : zcM m_SUt_getChar 2 := ⟨zT_in 321 (by decide +kernel) (by decide +kernel), zi_SUt, by decide +kernel, by decide⟩
theorem st_SUt_getChar : Cond.static m_SUt_getChar.1 ∈ zT := zT_in 320 (by decide +kernel) (by decide +kernel)
theorem hm_Tap_readYears : zcM m_Tap_readYears 0 := ⟨zT_in 331 (by decide +kernel) (by decide +kernel), zi_Tap, by decide +kernel, by decide⟩
theorem im_Tap_readYears : Cond.instanceMethod m_Tap_readYears.1 ∈ zT := zT_in 330 (by decide +kernel) (by decide +kernel)
theorem hm_Tap_readAsked : zcM m_Tap_readAsked 0 := ⟨zT_in 335 (by decide +kernel) (by decide +kernel), zi_Tap, by decide +kernel, by decide⟩
theorem im_Tap_readAsked : Cond.instanceMethod m_Tap_readAsked.1 ∈ zT := zT_in 334 (by decide +kernel) (by decide +kernel)
theorem hm_Tap_clear : zcM m_Tap_clear 0 := ⟨zT_in 339 (by decide +kernel) (by decide +kernel), zi_Tap, by decide +kernel, by decide⟩
theorem im_Tap_clear : Cond.instanceMethod m_Tap_clear.1 ∈ zT := zT_in 337 (by decide +kernel) (by decide +kernel)
theorem hm_Tap_newTelling : zcM m_Tap_newTelling 0 := ⟨zT_in 343 (by decide +kernel) (by decide +kernel), zi_Tap, by decide +kernel, by decide⟩
theorem im_Tap_newTelling : Cond.instanceMethod m_Tap_newTelling.1 ∈ zT := zT_in 341 (by decide +kernel) (by decide +kernel)
theorem hm_Cal_init : zcM m_Cal_init 1 := ⟨zT_in 348 (by decide +kernel) (by decide +kernel), zi_Cal, by decide +kernel, by decide⟩
theorem im_Cal_init : Cond.instanceMethod m_Cal_init.1 ∈ zT := zT_in 347 (by decide +kernel) (by decide +kernel)
theorem hm_Tel_init : zcM m_Tel_init 1 := ⟨zT_in 351 (by decide +kernel) (by decide +kernel), zi_Tel, by decide +kernel, by decide⟩
theorem im_Tel_init : Cond.instanceMethod m_Tel_init.1 ∈ zT := zT_in 350 (by decide +kernel) (by decide +kernel)
theorem hm_Lir_hasBit : zcM m_Lir_hasBit 2 := ⟨zT_in 394 (by decide +kernel) (by decide +kernel), zi_Lir, by decide +kernel, by decide⟩
theorem st_Lir_hasBit : Cond.static m_Lir_hasBit.1 ∈ zT := zT_in 393 (by decide +kernel) (by decide +kernel)
theorem hm_Eye_init : zcM m_Eye_init 1 := ⟨zT_in 399 (by decide +kernel) (by decide +kernel), zi_Eye, by decide +kernel, by decide⟩
theorem im_Eye_init : Cond.instanceMethod m_Eye_init.1 ∈ zT := zT_in 398 (by decide +kernel) (by decide +kernel)
theorem hm_Thr_init : zcM m_Thr_init 1 := ⟨zT_in 412 (by decide +kernel) (by decide +kernel), zi_Thr, by decide +kernel, by decide⟩
theorem im_Thr_init : Cond.instanceMethod m_Thr_init.1 ∈ zT := zT_in 411 (by decide +kernel) (by decide +kernel)
theorem hm_Nea_init : zcM m_Nea_init 1 := ⟨zT_in 415 (by decide +kernel) (by decide +kernel), zi_Nea, by decide +kernel, by decide⟩
theorem im_Nea_init : Cond.instanceMethod m_Nea_init.1 ∈ zT := zT_in 414 (by decide +kernel) (by decide +kernel)
theorem hm_Gro_init : zcM m_Gro_init 1 := ⟨zT_in 438 (by decide +kernel) (by decide +kernel), zi_Gro, by decide +kernel, by decide⟩
theorem im_Gro_init : Cond.instanceMethod m_Gro_init.1 ∈ zT := zT_in 437 (by decide +kernel) (by decide +kernel)
theorem hm_Wit_init : zcM m_Wit_init 1 := ⟨zT_in 441 (by decide +kernel) (by decide +kernel), zi_Wit, by decide +kernel, by decide⟩
theorem im_Wit_init : Cond.instanceMethod m_Wit_init.1 ∈ zT := zT_in 440 (by decide +kernel) (by decide +kernel)
theorem hm_Roo_addTelling : zcM m_Roo_addTelling 1 := ⟨zT_in 463 (by decide +kernel) (by decide +kernel), zi_Roo, by decide +kernel, by decide⟩
theorem im_Roo_addTelling : Cond.instanceMethod m_Roo_addTelling.1 ∈ zT := zT_in 461 (by decide +kernel) (by decide +kernel)
theorem hm_Lir_tellingOf : zcM m_Lir_tellingOf 2 := ⟨zT_in 467 (by decide +kernel) (by decide +kernel), zi_Lir, by decide +kernel, by decide⟩
theorem im_Lir_tellingOf : Cond.instanceMethod m_Lir_tellingOf.1 ∈ zT := zT_in 465 (by decide +kernel) (by decide +kernel)
theorem hm_Roo_tellingAt : zcM m_Roo_tellingAt 1 := ⟨zT_in 471 (by decide +kernel) (by decide +kernel), zi_Roo, by decide +kernel, by decide⟩
theorem im_Roo_tellingAt : Cond.instanceMethod m_Roo_tellingAt.1 ∈ zT := zT_in 469 (by decide +kernel) (by decide +kernel)
theorem hm_Roo_inRow : zcM m_Roo_inRow 2 := ⟨zT_in 474 (by decide +kernel) (by decide +kernel), zi_Roo, by decide +kernel, by decide⟩
theorem st_Roo_inRow : Cond.static m_Roo_inRow.1 ∈ zT := zT_in 473 (by decide +kernel) (by decide +kernel)
theorem hm_Lir_kind : zcM m_Lir_kind 1 := ⟨zT_in 478 (by decide +kernel) (by decide +kernel), zi_Lir, by decide +kernel, by decide⟩
theorem im_Lir_kind : Cond.instanceMethod m_Lir_kind.1 ∈ zT := zT_in 476 (by decide +kernel) (by decide +kernel)
theorem hm_Cal_kindNumber : zcM m_Cal_kindNumber 0 := ⟨zT_in 484 (by decide +kernel) (by decide +kernel), zi_Cal, by decide +kernel, by decide⟩
theorem im_Cal_kindNumber : Cond.instanceMethod m_Cal_kindNumber.1 ∈ zT := zT_in 483 (by decide +kernel) (by decide +kernel)
theorem hm_Eye_kindNumber : zcM m_Eye_kindNumber 0 := ⟨zT_in 487 (by decide +kernel) (by decide +kernel), zi_Eye, by decide +kernel, by decide⟩
theorem im_Eye_kindNumber : Cond.instanceMethod m_Eye_kindNumber.1 ∈ zT := zT_in 486 (by decide +kernel) (by decide +kernel)
theorem hm_Gro_kindNumber : zcM m_Gro_kindNumber 0 := ⟨zT_in 490 (by decide +kernel) (by decide +kernel), zi_Gro, by decide +kernel, by decide⟩
theorem im_Gro_kindNumber : Cond.instanceMethod m_Gro_kindNumber.1 ∈ zT := zT_in 489 (by decide +kernel) (by decide +kernel)
theorem hm_Nea_kindNumber : zcM m_Nea_kindNumber 0 := ⟨zT_in 493 (by decide +kernel) (by decide +kernel), zi_Nea, by decide +kernel, by decide⟩
theorem im_Nea_kindNumber : Cond.instanceMethod m_Nea_kindNumber.1 ∈ zT := zT_in 492 (by decide +kernel) (by decide +kernel)
theorem hm_Thr_kindNumber : zcM m_Thr_kindNumber 0 := ⟨zT_in 496 (by decide +kernel) (by decide +kernel), zi_Thr, by decide +kernel, by decide⟩
theorem im_Thr_kindNumber : Cond.instanceMethod m_Thr_kindNumber.1 ∈ zT := zT_in 495 (by decide +kernel) (by decide +kernel)
theorem hm_Wit_kindNumber : zcM m_Wit_kindNumber 0 := ⟨zT_in 499 (by decide +kernel) (by decide +kernel), zi_Wit, by decide +kernel, by decide⟩
theorem im_Wit_kindNumber : Cond.instanceMethod m_Wit_kindNumber.1 ∈ zT := zT_in 498 (by decide +kernel) (by decide +kernel)
theorem hm_Lir_weight : zcM m_Lir_weight 1 := ⟨zT_in 503 (by decide +kernel) (by decide +kernel), zi_Lir, by decide +kernel, by decide⟩
theorem im_Lir_weight : Cond.instanceMethod m_Lir_weight.1 ∈ zT := zT_in 501 (by decide +kernel) (by decide +kernel)
theorem hm_Cal_ownWeight : zcM m_Cal_ownWeight 0 := ⟨zT_in 509 (by decide +kernel) (by decide +kernel), zi_Cal, by decide +kernel, by decide⟩
theorem im_Cal_ownWeight : Cond.instanceMethod m_Cal_ownWeight.1 ∈ zT := zT_in 508 (by decide +kernel) (by decide +kernel)
theorem hm_Eye_ownWeight : zcM m_Eye_ownWeight 0 := ⟨zT_in 512 (by decide +kernel) (by decide +kernel), zi_Eye, by decide +kernel, by decide⟩
theorem im_Eye_ownWeight : Cond.instanceMethod m_Eye_ownWeight.1 ∈ zT := zT_in 511 (by decide +kernel) (by decide +kernel)
theorem hm_Gro_ownWeight : zcM m_Gro_ownWeight 0 := ⟨zT_in 515 (by decide +kernel) (by decide +kernel), zi_Gro, by decide +kernel, by decide⟩
theorem im_Gro_ownWeight : Cond.instanceMethod m_Gro_ownWeight.1 ∈ zT := zT_in 514 (by decide +kernel) (by decide +kernel)
theorem hm_Wit_ownWeight : zcM m_Wit_ownWeight 0 := ⟨zT_in 518 (by decide +kernel) (by decide +kernel), zi_Wit, by decide +kernel, by decide⟩
theorem im_Wit_ownWeight : Cond.instanceMethod m_Wit_ownWeight.1 ∈ zT := zT_in 517 (by decide +kernel) (by decide +kernel)
theorem hm_Nea_ownWeight : zcM m_Nea_ownWeight 0 := ⟨zT_in 521 (by decide +kernel) (by decide +kernel), zi_Nea, by decide +kernel, by decide⟩
theorem im_Nea_ownWeight : Cond.instanceMethod m_Nea_ownWeight.1 ∈ zT := zT_in 520 (by decide +kernel) (by decide +kernel)
theorem hm_Thr_ownWeight : zcM m_Thr_ownWeight 0 := ⟨zT_in 524 (by decide +kernel) (by decide +kernel), zi_Thr, by decide +kernel, by decide⟩
theorem im_Thr_ownWeight : Cond.instanceMethod m_Thr_ownWeight.1 ∈ zT := zT_in 523 (by decide +kernel) (by decide +kernel)
theorem hm_Lir_law : zcM m_Lir_law 3 := ⟨zT_in 530 (by decide +kernel) (by decide +kernel), zi_Lir, by decide +kernel, by decide⟩
theorem im_Lir_law : Cond.instanceMethod m_Lir_law.1 ∈ zT := zT_in 528 (by decide +kernel) (by decide +kernel)
theorem hm_Roo_lawAt : zcM m_Roo_lawAt 1 := ⟨zT_in 534 (by decide +kernel) (by decide +kernel), zi_Roo, by decide +kernel, by decide⟩
theorem im_Roo_lawAt : Cond.instanceMethod m_Roo_lawAt.1 ∈ zT := zT_in 532 (by decide +kernel) (by decide +kernel)
theorem hm_Lir_outside : zcM m_Lir_outside 3 := ⟨zT_in 537 (by decide +kernel) (by decide +kernel), zi_Lir, by decide +kernel, by decide⟩
theorem st_Lir_outside : Cond.static m_Lir_outside.1 ∈ zT := zT_in 536 (by decide +kernel) (by decide +kernel)
theorem hm_Lir_exchange : zcM m_Lir_exchange 3 := ⟨zT_in 540 (by decide +kernel) (by decide +kernel), zi_Lir, by decide +kernel, by decide⟩
theorem st_Lir_exchange : Cond.static m_Lir_exchange.1 ∈ zT := zT_in 539 (by decide +kernel) (by decide +kernel)
theorem hm_Lir_right : zcM m_Lir_right 1 := ⟨zT_in 544 (by decide +kernel) (by decide +kernel), zi_Lir, by decide +kernel, by decide⟩
theorem im_Lir_right : Cond.instanceMethod m_Lir_right.1 ∈ zT := zT_in 542 (by decide +kernel) (by decide +kernel)
theorem hm_Lir_growth : zcM m_Lir_growth 2 := ⟨zT_in 548 (by decide +kernel) (by decide +kernel), zi_Lir, by decide +kernel, by decide⟩
theorem im_Lir_growth : Cond.instanceMethod m_Lir_growth.1 ∈ zT := zT_in 546 (by decide +kernel) (by decide +kernel)
theorem hm_Lir_isSizeOrSeconds : zcM m_Lir_isSizeOrSeconds 1 := ⟨zT_in 551 (by decide +kernel) (by decide +kernel), zi_Lir, by decide +kernel, by decide⟩
theorem st_Lir_isSizeOrSeconds : Cond.static m_Lir_isSizeOrSeconds.1 ∈ zT := zT_in 550 (by decide +kernel) (by decide +kernel)
theorem hm_Lir_put : zcM m_Lir_put 2 := ⟨zT_in 555 (by decide +kernel) (by decide +kernel), zi_Lir, by decide +kernel, by decide⟩
theorem im_Lir_put : Cond.instanceMethod m_Lir_put.1 ∈ zT := zT_in 553 (by decide +kernel) (by decide +kernel)
theorem hm_Roo_rightNumber : zcM m_Roo_rightNumber 2 := ⟨zT_in 559 (by decide +kernel) (by decide +kernel), zi_Roo, by decide +kernel, by decide⟩
theorem im_Roo_rightNumber : Cond.instanceMethod m_Roo_rightNumber.1 ∈ zT := zT_in 557 (by decide +kernel) (by decide +kernel)
theorem hm_Tel_lacks : zcM m_Tel_lacks 1 := ⟨zT_in 569 (by decide +kernel) (by decide +kernel), zi_Tel, by decide +kernel, by decide⟩
theorem im_Tel_lacks : Cond.instanceMethod m_Tel_lacks.1 ∈ zT := zT_in 561 (by decide +kernel) (by decide +kernel)
theorem hm_Tel_numberTold : zcM m_Tel_numberTold 1 := ⟨zT_in 579 (by decide +kernel) (by decide +kernel), zi_Tel, by decide +kernel, by decide⟩
theorem im_Tel_numberTold : Cond.instanceMethod m_Tel_numberTold.1 ∈ zT := zT_in 571 (by decide +kernel) (by decide +kernel)
theorem hm_Lir_fits : zcM m_Lir_fits 2 := ⟨zT_in 584 (by decide +kernel) (by decide +kernel), zi_Lir, by decide +kernel, by decide⟩
theorem im_Lir_fits : Cond.instanceMethod m_Lir_fits.1 ∈ zT := zT_in 582 (by decide +kernel) (by decide +kernel)
theorem hm_Roo_brokenBy : zcM m_Roo_brokenBy 2 := ⟨zT_in 588 (by decide +kernel) (by decide +kernel), zi_Roo, by decide +kernel, by decide⟩
theorem im_Roo_brokenBy : Cond.instanceMethod m_Roo_brokenBy.1 ∈ zT := zT_in 586 (by decide +kernel) (by decide +kernel)
theorem hm_Roo_heldNumber : zcM m_Roo_heldNumber 2 := ⟨zT_in 592 (by decide +kernel) (by decide +kernel), zi_Roo, by decide +kernel, by decide⟩
theorem im_Roo_heldNumber : Cond.instanceMethod m_Roo_heldNumber.1 ∈ zT := zT_in 591 (by decide +kernel) (by decide +kernel)
theorem hm_Law_brokenBy : zcM m_Law_brokenBy 3 := ⟨zT_in 597 (by decide +kernel) (by decide +kernel), zi_Law, by decide +kernel, by decide⟩
theorem im_Law_brokenBy : Cond.instanceMethod m_Law_brokenBy.1 ∈ zT := zT_in 595 (by decide +kernel) (by decide +kernel)
theorem hm_Lir_share : zcM m_Lir_share 2 := ⟨zT_in 602 (by decide +kernel) (by decide +kernel), zi_Lir, by decide +kernel, by decide⟩
theorem im_Lir_share : Cond.instanceMethod m_Lir_share.1 ∈ zT := zT_in 600 (by decide +kernel) (by decide +kernel)
theorem hm_Lir_refuseAsTold : zcM m_Lir_refuseAsTold 1 := ⟨zT_in 606 (by decide +kernel) (by decide +kernel), zi_Lir, by decide +kernel, by decide⟩
theorem im_Lir_refuseAsTold : Cond.instanceMethod m_Lir_refuseAsTold.1 ∈ zT := zT_in 605 (by decide +kernel) (by decide +kernel)
theorem hm_Lir_isPart : zcM m_Lir_isPart 1 := ⟨zT_in 610 (by decide +kernel) (by decide +kernel), zi_Lir, by decide +kernel, by decide⟩
theorem st_Lir_isPart : Cond.static m_Lir_isPart.1 ∈ zT := zT_in 609 (by decide +kernel) (by decide +kernel)
theorem hm_Lir_leastTerms : zcM m_Lir_leastTerms 3 := ⟨zT_in 613 (by decide +kernel) (by decide +kernel), zi_Lir, by decide +kernel, by decide⟩
theorem st_Lir_leastTerms : Cond.static m_Lir_leastTerms.1 ∈ zT := zT_in 612 (by decide +kernel) (by decide +kernel)
theorem hm_Lir_greatestCommon : zcM m_Lir_greatestCommon 2 := ⟨zT_in 616 (by decide +kernel) (by decide +kernel), zi_Lir, by decide +kernel, by decide⟩
theorem st_Lir_greatestCommon : Cond.static m_Lir_greatestCommon.1 ∈ zT := zT_in 615 (by decide +kernel) (by decide +kernel)
theorem hm_Lir_only : zcM m_Lir_only 1 := ⟨zT_in 620 (by decide +kernel) (by decide +kernel), zi_Lir, by decide +kernel, by decide⟩
theorem im_Lir_only : Cond.instanceMethod m_Lir_only.1 ∈ zT := zT_in 618 (by decide +kernel) (by decide +kernel)
theorem hm_Lir_howManyFitOnly : zcM m_Lir_howManyFitOnly 2 := ⟨zT_in 624 (by decide +kernel) (by decide +kernel), zi_Lir, by decide +kernel, by decide⟩
theorem im_Lir_howManyFitOnly : Cond.instanceMethod m_Lir_howManyFitOnly.1 ∈ zT := zT_in 623 (by decide +kernel) (by decide +kernel)
theorem hm_Roo_lawsFitted : zcM m_Roo_lawsFitted 1 := ⟨zT_in 628 (by decide +kernel) (by decide +kernel), zi_Roo, by decide +kernel, by decide⟩
theorem im_Roo_lawsFitted : Cond.instanceMethod m_Roo_lawsFitted.1 ∈ zT := zT_in 626 (by decide +kernel) (by decide +kernel)
theorem hm_Lir_cover : zcM m_Lir_cover 0 := ⟨zT_in 633 (by decide +kernel) (by decide +kernel), zi_Lir, by decide +kernel, by decide⟩
theorem im_Lir_cover : Cond.instanceMethod m_Lir_cover.1 ∈ zT := zT_in 631 (by decide +kernel) (by decide +kernel)
theorem hm_Lir_noteLaws : zcM m_Lir_noteLaws 0 := ⟨zT_in 637 (by decide +kernel) (by decide +kernel), zi_Lir, by decide +kernel, by decide⟩
theorem im_Lir_noteLaws : Cond.instanceMethod m_Lir_noteLaws.1 ∈ zT := zT_in 636 (by decide +kernel) (by decide +kernel)
theorem hm_Int_bitCount : zcM m_Int_bitCount 1 := ⟨zT_in 640 (by decide +kernel) (by decide +kernel), zi_Int, by decide +kernel, by decide⟩
theorem st_Int_bitCount : Cond.static m_Int_bitCount.1 ∈ zT := zT_in 639 (by decide +kernel) (by decide +kernel)
theorem hm_Lir_coversAll : zcM m_Lir_coversAll 1 := ⟨zT_in 647 (by decide +kernel) (by decide +kernel), zi_Lir, by decide +kernel, by decide⟩
theorem im_Lir_coversAll : Cond.instanceMethod m_Lir_coversAll.1 ∈ zT := zT_in 646 (by decide +kernel) (by decide +kernel)
theorem hm_Lir_half : zcM m_Lir_half 1 := ⟨zT_in 651 (by decide +kernel) (by decide +kernel), zi_Lir, by decide +kernel, by decide⟩
theorem im_Lir_half : Cond.instanceMethod m_Lir_half.1 ∈ zT := zT_in 649 (by decide +kernel) (by decide +kernel)
theorem hm_Lir_noteBroken : zcM m_Lir_noteBroken 1 := ⟨zT_in 655 (by decide +kernel) (by decide +kernel), zi_Lir, by decide +kernel, by decide⟩
theorem im_Lir_noteBroken : Cond.instanceMethod m_Lir_noteBroken.1 ∈ zT := zT_in 654 (by decide +kernel) (by decide +kernel)
theorem hm_Lir_halfFitsWithout : zcM m_Lir_halfFitsWithout 1 := ⟨zT_in 659 (by decide +kernel) (by decide +kernel), zi_Lir, by decide +kernel, by decide⟩
theorem im_Lir_halfFitsWithout : Cond.instanceMethod m_Lir_halfFitsWithout.1 ∈ zT := zT_in 658 (by decide +kernel) (by decide +kernel)
theorem hm_Lir_sorts : zcM m_Lir_sorts 1 := ⟨zT_in 663 (by decide +kernel) (by decide +kernel), zi_Lir, by decide +kernel, by decide⟩
theorem im_Lir_sorts : Cond.instanceMethod m_Lir_sorts.1 ∈ zT := zT_in 661 (by decide +kernel) (by decide +kernel)
theorem hm_Lir_firstNotedLike : zcM m_Lir_firstNotedLike 1 := ⟨zT_in 667 (by decide +kernel) (by decide +kernel), zi_Lir, by decide +kernel, by decide⟩
theorem im_Lir_firstNotedLike : Cond.instanceMethod m_Lir_firstNotedLike.1 ∈ zT := zT_in 666 (by decide +kernel) (by decide +kernel)
theorem hm_Lir_howManyNotedLike : zcM m_Lir_howManyNotedLike 1 := ⟨zT_in 671 (by decide +kernel) (by decide +kernel), zi_Lir, by decide +kernel, by decide⟩
theorem im_Lir_howManyNotedLike : Cond.instanceMethod m_Lir_howManyNotedLike.1 ∈ zT := zT_in 670 (by decide +kernel) (by decide +kernel)
theorem hm_Mat_max : zcM m_Mat_max 2 := ⟨zT_in 674 (by decide +kernel) (by decide +kernel), zi_Mat, by decide +kernel, by decide⟩
theorem st_Mat_max : Cond.static m_Mat_max.1 ∈ zT := zT_in 673 (by decide +kernel) (by decide +kernel)
theorem hm_Lir_alike : zcM m_Lir_alike 1 := ⟨zT_in 678 (by decide +kernel) (by decide +kernel), zi_Lir, by decide +kernel, by decide⟩
theorem im_Lir_alike : Cond.instanceMethod m_Lir_alike.1 ∈ zT := zT_in 676 (by decide +kernel) (by decide +kernel)
theorem hm_Lir_together : zcM m_Lir_together 2 := ⟨zT_in 682 (by decide +kernel) (by decide +kernel), zi_Lir, by decide +kernel, by decide⟩
theorem im_Lir_together : Cond.instanceMethod m_Lir_together.1 ∈ zT := zT_in 680 (by decide +kernel) (by decide +kernel)
theorem hm_Lir_isMark : zcM m_Lir_isMark 1 := ⟨zT_in 685 (by decide +kernel) (by decide +kernel), zi_Lir, by decide +kernel, by decide⟩
theorem st_Lir_isMark : Cond.static m_Lir_isMark.1 ∈ zT := zT_in 684 (by decide +kernel) (by decide +kernel)
theorem hm_Tel_has : zcM m_Tel_has 1 := ⟨zT_in 695 (by decide +kernel) (by decide +kernel), zi_Tel, by decide +kernel, by decide⟩
theorem im_Tel_has : Cond.instanceMethod m_Tel_has.1 ∈ zT := zT_in 687 (by decide +kernel) (by decide +kernel)
theorem hm_Lir_hundredths : zcM m_Lir_hundredths 2 := ⟨zT_in 699 (by decide +kernel) (by decide +kernel), zi_Lir, by decide +kernel, by decide⟩
theorem st_Lir_hundredths : Cond.static m_Lir_hundredths.1 ∈ zT := zT_in 698 (by decide +kernel) (by decide +kernel)
theorem hm_Lir_twice : zcM m_Lir_twice 2 := ⟨zT_in 703 (by decide +kernel) (by decide +kernel), zi_Lir, by decide +kernel, by decide⟩
theorem im_Lir_twice : Cond.instanceMethod m_Lir_twice.1 ∈ zT := zT_in 701 (by decide +kernel) (by decide +kernel)
theorem hm_Roo_addPair : zcM m_Roo_addPair 2 := ⟨zT_in 707 (by decide +kernel) (by decide +kernel), zi_Roo, by decide +kernel, by decide⟩
theorem im_Roo_addPair : Cond.instanceMethod m_Roo_addPair.1 ∈ zT := zT_in 705 (by decide +kernel) (by decide +kernel)
theorem hm_Lir_grows : zcM m_Lir_grows 2 := ⟨zT_in 711 (by decide +kernel) (by decide +kernel), zi_Lir, by decide +kernel, by decide⟩
theorem im_Lir_grows : Cond.instanceMethod m_Lir_grows.1 ∈ zT := zT_in 709 (by decide +kernel) (by decide +kernel)
theorem hm_Roo_firstOfPair : zcM m_Roo_firstOfPair 1 := ⟨zT_in 715 (by decide +kernel) (by decide +kernel), zi_Roo, by decide +kernel, by decide⟩
theorem im_Roo_firstOfPair : Cond.instanceMethod m_Roo_firstOfPair.1 ∈ zT := zT_in 713 (by decide +kernel) (by decide +kernel)
theorem hm_Roo_secondOfPair : zcM m_Roo_secondOfPair 1 := ⟨zT_in 719 (by decide +kernel) (by decide +kernel), zi_Roo, by decide +kernel, by decide⟩
theorem im_Roo_secondOfPair : Cond.instanceMethod m_Roo_secondOfPair.1 ∈ zT := zT_in 717 (by decide +kernel) (by decide +kernel)
theorem hm_Lir_people : zcM m_Lir_people 2 := ⟨zT_in 725 (by decide +kernel) (by decide +kernel), zi_Lir, by decide +kernel, by decide⟩
theorem im_Lir_people : Cond.instanceMethod m_Lir_people.1 ∈ zT := zT_in 723 (by decide +kernel) (by decide +kernel)
theorem hm_Lir_strokes : zcM m_Lir_strokes 1 := ⟨zT_in 729 (by decide +kernel) (by decide +kernel), zi_Lir, by decide +kernel, by decide⟩
theorem im_Lir_strokes : Cond.instanceMethod m_Lir_strokes.1 ∈ zT := zT_in 727 (by decide +kernel) (by decide +kernel)
theorem hm_Lir_reach : zcM m_Lir_reach 2 := ⟨zT_in 733 (by decide +kernel) (by decide +kernel), zi_Lir, by decide +kernel, by decide⟩
theorem im_Lir_reach : Cond.instanceMethod m_Lir_reach.1 ∈ zT := zT_in 731 (by decide +kernel) (by decide +kernel)
theorem hm_Lir_should : zcM m_Lir_should 1 := ⟨zT_in 737 (by decide +kernel) (by decide +kernel), zi_Lir, by decide +kernel, by decide⟩
theorem im_Lir_should : Cond.instanceMethod m_Lir_should.1 ∈ zT := zT_in 735 (by decide +kernel) (by decide +kernel)
theorem hm_Roo_shownTo : zcM m_Roo_shownTo 1 := ⟨zT_in 741 (by decide +kernel) (by decide +kernel), zi_Roo, by decide +kernel, by decide⟩
theorem im_Roo_shownTo : Cond.instanceMethod m_Roo_shownTo.1 ∈ zT := zT_in 739 (by decide +kernel) (by decide +kernel)
theorem hm_Lir_seen : zcM m_Lir_seen 1 := ⟨zT_in 745 (by decide +kernel) (by decide +kernel), zi_Lir, by decide +kernel, by decide⟩
theorem im_Lir_seen : Cond.instanceMethod m_Lir_seen.1 ∈ zT := zT_in 743 (by decide +kernel) (by decide +kernel)
theorem hm_Roo_howManyFit : zcM m_Roo_howManyFit 1 := ⟨zT_in 749 (by decide +kernel) (by decide +kernel), zi_Roo, by decide +kernel, by decide⟩
theorem im_Roo_howManyFit : Cond.instanceMethod m_Roo_howManyFit.1 ∈ zT := zT_in 747 (by decide +kernel) (by decide +kernel)
theorem hm_Lir_beyond : zcM m_Lir_beyond 2 := ⟨zT_in 754 (by decide +kernel) (by decide +kernel), zi_Lir, by decide +kernel, by decide⟩
theorem im_Lir_beyond : Cond.instanceMethod m_Lir_beyond.1 ∈ zT := zT_in 752 (by decide +kernel) (by decide +kernel)
theorem hm_Lir_leads : zcM m_Lir_leads 0 := ⟨zT_in 758 (by decide +kernel) (by decide +kernel), zi_Lir, by decide +kernel, by decide⟩
theorem im_Lir_leads : Cond.instanceMethod m_Lir_leads.1 ∈ zT := zT_in 756 (by decide +kernel) (by decide +kernel)
theorem hm_Roo_howManyAsked : zcM m_Roo_howManyAsked 0 := ⟨zT_in 762 (by decide +kernel) (by decide +kernel), zi_Roo, by decide +kernel, by decide⟩
theorem im_Roo_howManyAsked : Cond.instanceMethod m_Roo_howManyAsked.1 ∈ zT := zT_in 760 (by decide +kernel) (by decide +kernel)
theorem hm_Roo_howManyAskedFit : zcM m_Roo_howManyAskedFit 1 := ⟨zT_in 766 (by decide +kernel) (by decide +kernel), zi_Roo, by decide +kernel, by decide⟩
theorem im_Roo_howManyAskedFit : Cond.instanceMethod m_Roo_howManyAskedFit.1 ∈ zT := zT_in 764 (by decide +kernel) (by decide +kernel)
theorem hm_Lir_pictures : zcM m_Lir_pictures 1 := ⟨zT_in 770 (by decide +kernel) (by decide +kernel), zi_Lir, by decide +kernel, by decide⟩
theorem im_Lir_pictures : Cond.instanceMethod m_Lir_pictures.1 ∈ zT := zT_in 768 (by decide +kernel) (by decide +kernel)
theorem hm_Lir_bench : zcM m_Lir_bench 4 := ⟨zT_in 774 (by decide +kernel) (by decide +kernel), zi_Lir, by decide +kernel, by decide⟩
theorem im_Lir_bench : Cond.instanceMethod m_Lir_bench.1 ∈ zT := zT_in 772 (by decide +kernel) (by decide +kernel)
theorem hm_Ben_tell : zcM m_Ben_tell 4 := ⟨zT_in 778 (by decide +kernel) (by decide +kernel), zi_Ben, by decide +kernel, by decide⟩
theorem im_Ben_tell : Cond.instanceMethod m_Ben_tell.1 ∈ zT := zT_in 776 (by decide +kernel) (by decide +kernel)
theorem hm_Lir_lines : zcM m_Lir_lines 1 := ⟨zT_in 782 (by decide +kernel) (by decide +kernel), zi_Lir, by decide +kernel, by decide⟩
theorem im_Lir_lines : Cond.instanceMethod m_Lir_lines.1 ∈ zT := zT_in 780 (by decide +kernel) (by decide +kernel)
theorem hm_Ben_linesLacking : zcM m_Ben_linesLacking 1 := ⟨zT_in 786 (by decide +kernel) (by decide +kernel), zi_Ben, by decide +kernel, by decide⟩
theorem im_Ben_linesLacking : Cond.instanceMethod m_Ben_linesLacking.1 ∈ zT := zT_in 784 (by decide +kernel) (by decide +kernel)
theorem hm_Lir_misses : zcM m_Lir_misses 1 := ⟨zT_in 790 (by decide +kernel) (by decide +kernel), zi_Lir, by decide +kernel, by decide⟩
theorem im_Lir_misses : Cond.instanceMethod m_Lir_misses.1 ∈ zT := zT_in 788 (by decide +kernel) (by decide +kernel)
theorem hm_Lir_barred : zcM m_Lir_barred 1 := ⟨zT_in 795 (by decide +kernel) (by decide +kernel), zi_Lir, by decide +kernel, by decide⟩
theorem im_Lir_barred : Cond.instanceMethod m_Lir_barred.1 ∈ zT := zT_in 793 (by decide +kernel) (by decide +kernel)
theorem hm_Lir_glasses : zcM m_Lir_glasses 2 := ⟨zT_in 799 (by decide +kernel) (by decide +kernel), zi_Lir, by decide +kernel, by decide⟩
theorem im_Lir_glasses : Cond.instanceMethod m_Lir_glasses.1 ∈ zT := zT_in 797 (by decide +kernel) (by decide +kernel)
theorem hm_Roo_fullestRing : zcM m_Roo_fullestRing 2 := ⟨zT_in 803 (by decide +kernel) (by decide +kernel), zi_Roo, by decide +kernel, by decide⟩
theorem im_Roo_fullestRing : Cond.instanceMethod m_Roo_fullestRing.1 ∈ zT := zT_in 801 (by decide +kernel) (by decide +kernel)
theorem hm_Lir_image : zcM m_Lir_image 0 := ⟨zT_in 808 (by decide +kernel) (by decide +kernel), zi_Lir, by decide +kernel, by decide⟩
theorem im_Lir_image : Cond.instanceMethod m_Lir_image.1 ∈ zT := zT_in 806 (by decide +kernel) (by decide +kernel)
theorem hm_Roo_becomeLike : zcM m_Roo_becomeLike 1 := ⟨zT_in 812 (by decide +kernel) (by decide +kernel), zi_Roo, by decide +kernel, by decide⟩
theorem im_Roo_becomeLike : Cond.instanceMethod m_Roo_becomeLike.1 ∈ zT := zT_in 810 (by decide +kernel) (by decide +kernel)
theorem hm_Roo_copyTellings : zcM m_Roo_copyTellings 2 := ⟨zT_in 815 (by decide +kernel) (by decide +kernel), zi_Roo, by decide +kernel, by decide⟩
theorem st_Roo_copyTellings : Cond.static m_Roo_copyTellings.1 ∈ zT := zT_in 814 (by decide +kernel) (by decide +kernel)
theorem hm_Law_becomeLike : zcM m_Law_becomeLike 1 := ⟨zT_in 819 (by decide +kernel) (by decide +kernel), zi_Law, by decide +kernel, by decide⟩
theorem im_Law_becomeLike : Cond.instanceMethod m_Law_becomeLike.1 ∈ zT := zT_in 817 (by decide +kernel) (by decide +kernel)
theorem hm_Lir_copyRow : zcM m_Lir_copyRow 2 := ⟨zT_in 822 (by decide +kernel) (by decide +kernel), zi_Lir, by decide +kernel, by decide⟩
theorem st_Lir_copyRow : Cond.static m_Lir_copyRow.1 ∈ zT := zT_in 821 (by decide +kernel) (by decide +kernel)
theorem hm_Mat_min : zcM m_Mat_min 2 := ⟨zT_in 825 (by decide +kernel) (by decide +kernel), zi_Mat, by decide +kernel, by decide⟩
theorem st_Mat_min : Cond.static m_Mat_min.1 ∈ zT := zT_in 824 (by decide +kernel) (by decide +kernel)
theorem hm_Lir_on : zcM m_Lir_on 0 := ⟨zT_in 834 (by decide +kernel) (by decide +kernel), zi_Lir, by decide +kernel, by decide⟩
theorem im_Lir_on : Cond.instanceMethod m_Lir_on.1 ∈ zT := zT_in 832 (by decide +kernel) (by decide +kernel)
theorem hm_Lir_count : zcM m_Lir_count 1 := ⟨zT_in 838 (by decide +kernel) (by decide +kernel), zi_Lir, by decide +kernel, by decide⟩
theorem im_Lir_count : Cond.instanceMethod m_Lir_count.1 ∈ zT := zT_in 836 (by decide +kernel) (by decide +kernel)
theorem hm_Roo_howManyGaps : zcM m_Roo_howManyGaps 0 := ⟨zT_in 842 (by decide +kernel) (by decide +kernel), zi_Roo, by decide +kernel, by decide⟩
theorem im_Roo_howManyGaps : Cond.instanceMethod m_Roo_howManyGaps.1 ∈ zT := zT_in 840 (by decide +kernel) (by decide +kernel)
theorem hm_Tel_gaps : zcM m_Tel_gaps 0 := ⟨zT_in 852 (by decide +kernel) (by decide +kernel), zi_Tel, by decide +kernel, by decide⟩
theorem im_Tel_gaps : Cond.instanceMethod m_Tel_gaps.1 ∈ zT := zT_in 844 (by decide +kernel) (by decide +kernel)
theorem hm_Roo_howManyMarks : zcM m_Roo_howManyMarks 0 := ⟨zT_in 856 (by decide +kernel) (by decide +kernel), zi_Roo, by decide +kernel, by decide⟩
theorem im_Roo_howManyMarks : Cond.instanceMethod m_Roo_howManyMarks.1 ∈ zT := zT_in 854 (by decide +kernel) (by decide +kernel)
theorem hm_Lir_refusalsCounted : zcM m_Lir_refusalsCounted 1 := ⟨zT_in 861 (by decide +kernel) (by decide +kernel), zi_Lir, by decide +kernel, by decide⟩
theorem im_Lir_refusalsCounted : Cond.instanceMethod m_Lir_refusalsCounted.1 ∈ zT := zT_in 860 (by decide +kernel) (by decide +kernel)
theorem hm_Mod_init : zcM m_Mod_init 0 := ⟨zT_in 866 (by decide +kernel) (by decide +kernel), zi_Mod, by decide +kernel, by decide⟩
theorem im_Mod_init : Cond.instanceMethod m_Mod_init.1 ∈ zT := zT_in 865 (by decide +kernel) (by decide +kernel)
theorem hm_Mod_feed : zcM m_Mod_feed 2 := ⟨zT_in 896 (by decide +kernel) (by decide +kernel), zi_Mod, by decide +kernel, by decide⟩
theorem im_Mod_feed : Cond.instanceMethod m_Mod_feed.1 ∈ zT := zT_in 894 (by decide +kernel) (by decide +kernel)
theorem hm_Mod_refuse : zcM m_Mod_refuse 1 := ⟨zT_in 900 (by decide +kernel) (by decide +kernel), zi_Mod, by decide +kernel, by decide⟩
theorem im_Mod_refuse : Cond.instanceMethod m_Mod_refuse.1 ∈ zT := zT_in 899 (by decide +kernel) (by decide +kernel)
theorem hm_Mod_telling : zcM m_Mod_telling 0 := ⟨zT_in 905 (by decide +kernel) (by decide +kernel), zi_Mod, by decide +kernel, by decide⟩
theorem im_Mod_telling : Cond.instanceMethod m_Mod_telling.1 ∈ zT := zT_in 903 (by decide +kernel) (by decide +kernel)
theorem hm_Mod_reads : zcM m_Mod_reads 0 := ⟨zT_in 909 (by decide +kernel) (by decide +kernel), zi_Mod, by decide +kernel, by decide⟩
theorem im_Mod_reads : Cond.instanceMethod m_Mod_reads.1 ∈ zT := zT_in 908 (by decide +kernel) (by decide +kernel)
theorem hm_Mod_takes : zcM m_Mod_takes 1 := ⟨zT_in 913 (by decide +kernel) (by decide +kernel), zi_Mod, by decide +kernel, by decide⟩
theorem im_Mod_takes : Cond.instanceMethod m_Mod_takes.1 ∈ zT := zT_in 912 (by decide +kernel) (by decide +kernel)
theorem hm_Mod_sign : zcM m_Mod_sign 0 := ⟨zT_in 917 (by decide +kernel) (by decide +kernel), zi_Mod, by decide +kernel, by decide⟩
theorem im_Mod_sign : Cond.instanceMethod m_Mod_sign.1 ∈ zT := zT_in 916 (by decide +kernel) (by decide +kernel)
theorem hm_Mod_readsNumber : zcM m_Mod_readsNumber 2 := ⟨zT_in 921 (by decide +kernel) (by decide +kernel), zi_Mod, by decide +kernel, by decide⟩
theorem im_Mod_readsNumber : Cond.instanceMethod m_Mod_readsNumber.1 ∈ zT := zT_in 920 (by decide +kernel) (by decide +kernel)
theorem hm_Mod_isDigit : zcM m_Mod_isDigit 0 := ⟨zT_in 925 (by decide +kernel) (by decide +kernel), zi_Mod, by decide +kernel, by decide⟩
theorem im_Mod_isDigit : Cond.instanceMethod m_Mod_isDigit.1 ∈ zT := zT_in 924 (by decide +kernel) (by decide +kernel)
theorem hm_Mod_markOf : zcM m_Mod_markOf 1 := ⟨zT_in 928 (by decide +kernel) (by decide +kernel), zi_Mod, by decide +kernel, by decide⟩
theorem st_Mod_markOf : Cond.static m_Mod_markOf.1 ∈ zT := zT_in 927 (by decide +kernel) (by decide +kernel)
theorem hm_Mod_tellingOf : zcM m_Mod_tellingOf 2 := ⟨zT_in 932 (by decide +kernel) (by decide +kernel), zi_Mod, by decide +kernel, by decide⟩
theorem im_Mod_tellingOf : Cond.instanceMethod m_Mod_tellingOf.1 ∈ zT := zT_in 930 (by decide +kernel) (by decide +kernel)
theorem hm_Mod_isTelling : zcM m_Mod_isTelling 1 := ⟨zT_in 936 (by decide +kernel) (by decide +kernel), zi_Mod, by decide +kernel, by decide⟩
theorem im_Mod_isTelling : Cond.instanceMethod m_Mod_isTelling.1 ∈ zT := zT_in 935 (by decide +kernel) (by decide +kernel)
theorem hm_Mod_isIn : zcM m_Mod_isIn 2 := ⟨zT_in 939 (by decide +kernel) (by decide +kernel), zi_Mod, by decide +kernel, by decide⟩
theorem st_Mod_isIn : Cond.static m_Mod_isIn.1 ∈ zT := zT_in 938 (by decide +kernel) (by decide +kernel)
theorem hm_Mod_get : zcM m_Mod_get 2 := ⟨zT_in 943 (by decide +kernel) (by decide +kernel), zi_Mod, by decide +kernel, by decide⟩
theorem im_Mod_get : Cond.instanceMethod m_Mod_get.1 ∈ zT := zT_in 942 (by decide +kernel) (by decide +kernel)
theorem hm_Mod_kind : zcM m_Mod_kind 1 := ⟨zT_in 947 (by decide +kernel) (by decide +kernel), zi_Mod, by decide +kernel, by decide⟩
theorem im_Mod_kind : Cond.instanceMethod m_Mod_kind.1 ∈ zT := zT_in 945 (by decide +kernel) (by decide +kernel)
theorem hm_Mod_kindOf : zcM m_Mod_kindOf 1 := ⟨zT_in 951 (by decide +kernel) (by decide +kernel), zi_Mod, by decide +kernel, by decide⟩
theorem im_Mod_kindOf : Cond.instanceMethod m_Mod_kindOf.1 ∈ zT := zT_in 950 (by decide +kernel) (by decide +kernel)
theorem hm_Mod_isMarked : zcM m_Mod_isMarked 2 := ⟨zT_in 955 (by decide +kernel) (by decide +kernel), zi_Mod, by decide +kernel, by decide⟩
theorem im_Mod_isMarked : Cond.instanceMethod m_Mod_isMarked.1 ∈ zT := zT_in 954 (by decide +kernel) (by decide +kernel)
theorem hm_Mod_weight : zcM m_Mod_weight 1 := ⟨zT_in 959 (by decide +kernel) (by decide +kernel), zi_Mod, by decide +kernel, by decide⟩
theorem im_Mod_weight : Cond.instanceMethod m_Mod_weight.1 ∈ zT := zT_in 957 (by decide +kernel) (by decide +kernel)
theorem hm_Mod_weightOf : zcM m_Mod_weightOf 1 := ⟨zT_in 963 (by decide +kernel) (by decide +kernel), zi_Mod, by decide +kernel, by decide⟩
theorem im_Mod_weightOf : Cond.instanceMethod m_Mod_weightOf.1 ∈ zT := zT_in 962 (by decide +kernel) (by decide +kernel)
theorem hm_Mod_law : zcM m_Mod_law 3 := ⟨zT_in 967 (by decide +kernel) (by decide +kernel), zi_Mod, by decide +kernel, by decide⟩
theorem im_Mod_law : Cond.instanceMethod m_Mod_law.1 ∈ zT := zT_in 965 (by decide +kernel) (by decide +kernel)
theorem hm_Mod_isLaw : zcM m_Mod_isLaw 1 := ⟨zT_in 970 (by decide +kernel) (by decide +kernel), zi_Mod, by decide +kernel, by decide⟩
theorem st_Mod_isLaw : Cond.static m_Mod_isLaw.1 ∈ zT := zT_in 969 (by decide +kernel) (by decide +kernel)
theorem hm_Mod_within : zcM m_Mod_within 3 := ⟨zT_in 973 (by decide +kernel) (by decide +kernel), zi_Mod, by decide +kernel, by decide⟩
theorem st_Mod_within : Cond.static m_Mod_within.1 ∈ zT := zT_in 972 (by decide +kernel) (by decide +kernel)
theorem hm_Mod_becomes : zcM m_Mod_becomes 2 := ⟨zT_in 977 (by decide +kernel) (by decide +kernel), zi_Mod, by decide +kernel, by decide⟩
theorem im_Mod_becomes : Cond.instanceMethod m_Mod_becomes.1 ∈ zT := zT_in 976 (by decide +kernel) (by decide +kernel)
theorem hm_Mod_right : zcM m_Mod_right 1 := ⟨zT_in 981 (by decide +kernel) (by decide +kernel), zi_Mod, by decide +kernel, by decide⟩
theorem im_Mod_right : Cond.instanceMethod m_Mod_right.1 ∈ zT := zT_in 979 (by decide +kernel) (by decide +kernel)
theorem hm_Mod_growth : zcM m_Mod_growth 2 := ⟨zT_in 985 (by decide +kernel) (by decide +kernel), zi_Mod, by decide +kernel, by decide⟩
theorem im_Mod_growth : Cond.instanceMethod m_Mod_growth.1 ∈ zT := zT_in 983 (by decide +kernel) (by decide +kernel)
theorem hm_Mod_put : zcM m_Mod_put 2 := ⟨zT_in 989 (by decide +kernel) (by decide +kernel), zi_Mod, by decide +kernel, by decide⟩
theorem im_Mod_put : Cond.instanceMethod m_Mod_put.1 ∈ zT := zT_in 987 (by decide +kernel) (by decide +kernel)
theorem hm_Mod_rightOf : zcM m_Mod_rightOf 2 := ⟨zT_in 993 (by decide +kernel) (by decide +kernel), zi_Mod, by decide +kernel, by decide⟩
theorem im_Mod_rightOf : Cond.instanceMethod m_Mod_rightOf.1 ∈ zT := zT_in 992 (by decide +kernel) (by decide +kernel)
theorem hm_Mod_fits : zcM m_Mod_fits 2 := ⟨zT_in 997 (by decide +kernel) (by decide +kernel), zi_Mod, by decide +kernel, by decide⟩
theorem im_Mod_fits : Cond.instanceMethod m_Mod_fits.1 ∈ zT := zT_in 995 (by decide +kernel) (by decide +kernel)
theorem hm_Mod_isFit : zcM m_Mod_isFit 3 := ⟨zT_in 1001 (by decide +kernel) (by decide +kernel), zi_Mod, by decide +kernel, by decide⟩
theorem im_Mod_isFit : Cond.instanceMethod m_Mod_isFit.1 ∈ zT := zT_in 1000 (by decide +kernel) (by decide +kernel)
theorem hm_Mod_meets : zcM m_Mod_meets 3 := ⟨zT_in 1005 (by decide +kernel) (by decide +kernel), zi_Mod, by decide +kernel, by decide⟩
theorem im_Mod_meets : Cond.instanceMethod m_Mod_meets.1 ∈ zT := zT_in 1004 (by decide +kernel) (by decide +kernel)
theorem hm_Mod_share : zcM m_Mod_share 2 := ⟨zT_in 1009 (by decide +kernel) (by decide +kernel), zi_Mod, by decide +kernel, by decide⟩
theorem im_Mod_share : Cond.instanceMethod m_Mod_share.1 ∈ zT := zT_in 1007 (by decide +kernel) (by decide +kernel)
theorem hm_Mod_partOf : zcM m_Mod_partOf 3 := ⟨zT_in 1013 (by decide +kernel) (by decide +kernel), zi_Mod, by decide +kernel, by decide⟩
theorem st_Mod_partOf : Cond.static m_Mod_partOf.1 ∈ zT := zT_in 1012 (by decide +kernel) (by decide +kernel)
theorem hm_Mod_common : zcM m_Mod_common 2 := ⟨zT_in 1016 (by decide +kernel) (by decide +kernel), zi_Mod, by decide +kernel, by decide⟩
theorem st_Mod_common : Cond.static m_Mod_common.1 ∈ zT := zT_in 1015 (by decide +kernel) (by decide +kernel)
theorem hm_Mod_only : zcM m_Mod_only 1 := ⟨zT_in 1020 (by decide +kernel) (by decide +kernel), zi_Mod, by decide +kernel, by decide⟩
theorem im_Mod_only : Cond.instanceMethod m_Mod_only.1 ∈ zT := zT_in 1018 (by decide +kernel) (by decide +kernel)
theorem hm_Mod_lawsOf : zcM m_Mod_lawsOf 1 := ⟨zT_in 1024 (by decide +kernel) (by decide +kernel), zi_Mod, by decide +kernel, by decide⟩
theorem im_Mod_lawsOf : Cond.instanceMethod m_Mod_lawsOf.1 ∈ zT := zT_in 1023 (by decide +kernel) (by decide +kernel)
theorem hm_Mod_cover : zcM m_Mod_cover 0 := ⟨zT_in 1028 (by decide +kernel) (by decide +kernel), zi_Mod, by decide +kernel, by decide⟩
theorem im_Mod_cover : Cond.instanceMethod m_Mod_cover.1 ∈ zT := zT_in 1026 (by decide +kernel) (by decide +kernel)
theorem hm_Mod_bits : zcM m_Mod_bits 1 := ⟨zT_in 1031 (by decide +kernel) (by decide +kernel), zi_Mod, by decide +kernel, by decide⟩
theorem st_Mod_bits : Cond.static m_Mod_bits.1 ∈ zT := zT_in 1030 (by decide +kernel) (by decide +kernel)
theorem hm_Mod_isCover : zcM m_Mod_isCover 1 := ⟨zT_in 1035 (by decide +kernel) (by decide +kernel), zi_Mod, by decide +kernel, by decide⟩
theorem im_Mod_isCover : Cond.instanceMethod m_Mod_isCover.1 ∈ zT := zT_in 1034 (by decide +kernel) (by decide +kernel)
theorem hm_Mod_half : zcM m_Mod_half 1 := ⟨zT_in 1039 (by decide +kernel) (by decide +kernel), zi_Mod, by decide +kernel, by decide⟩
theorem im_Mod_half : Cond.instanceMethod m_Mod_half.1 ∈ zT := zT_in 1037 (by decide +kernel) (by decide +kernel)
theorem hm_Mod_sorts : zcM m_Mod_sorts 1 := ⟨zT_in 1043 (by decide +kernel) (by decide +kernel), zi_Mod, by decide +kernel, by decide⟩
theorem im_Mod_sorts : Cond.instanceMethod m_Mod_sorts.1 ∈ zT := zT_in 1041 (by decide +kernel) (by decide +kernel)
theorem hm_Mod_alike : zcM m_Mod_alike 1 := ⟨zT_in 1047 (by decide +kernel) (by decide +kernel), zi_Mod, by decide +kernel, by decide⟩
theorem im_Mod_alike : Cond.instanceMethod m_Mod_alike.1 ∈ zT := zT_in 1045 (by decide +kernel) (by decide +kernel)
theorem hm_Mod_together : zcM m_Mod_together 2 := ⟨zT_in 1051 (by decide +kernel) (by decide +kernel), zi_Mod, by decide +kernel, by decide⟩
theorem im_Mod_together : Cond.instanceMethod m_Mod_together.1 ∈ zT := zT_in 1049 (by decide +kernel) (by decide +kernel)
theorem hm_Mod_twice : zcM m_Mod_twice 2 := ⟨zT_in 1055 (by decide +kernel) (by decide +kernel), zi_Mod, by decide +kernel, by decide⟩
theorem im_Mod_twice : Cond.instanceMethod m_Mod_twice.1 ∈ zT := zT_in 1053 (by decide +kernel) (by decide +kernel)
theorem hm_Mod_grows : zcM m_Mod_grows 2 := ⟨zT_in 1059 (by decide +kernel) (by decide +kernel), zi_Mod, by decide +kernel, by decide⟩
theorem im_Mod_grows : Cond.instanceMethod m_Mod_grows.1 ∈ zT := zT_in 1057 (by decide +kernel) (by decide +kernel)
theorem hm_Mod_people : zcM m_Mod_people 2 := ⟨zT_in 1063 (by decide +kernel) (by decide +kernel), zi_Mod, by decide +kernel, by decide⟩
theorem im_Mod_people : Cond.instanceMethod m_Mod_people.1 ∈ zT := zT_in 1061 (by decide +kernel) (by decide +kernel)
theorem hm_Mod_strokes : zcM m_Mod_strokes 1 := ⟨zT_in 1067 (by decide +kernel) (by decide +kernel), zi_Mod, by decide +kernel, by decide⟩
theorem im_Mod_strokes : Cond.instanceMethod m_Mod_strokes.1 ∈ zT := zT_in 1065 (by decide +kernel) (by decide +kernel)
theorem hm_Mod_reach : zcM m_Mod_reach 2 := ⟨zT_in 1071 (by decide +kernel) (by decide +kernel), zi_Mod, by decide +kernel, by decide⟩
theorem im_Mod_reach : Cond.instanceMethod m_Mod_reach.1 ∈ zT := zT_in 1069 (by decide +kernel) (by decide +kernel)
theorem hm_Mod_should : zcM m_Mod_should 1 := ⟨zT_in 1075 (by decide +kernel) (by decide +kernel), zi_Mod, by decide +kernel, by decide⟩
theorem im_Mod_should : Cond.instanceMethod m_Mod_should.1 ∈ zT := zT_in 1073 (by decide +kernel) (by decide +kernel)
theorem hm_Mod_shouldOf : zcM m_Mod_shouldOf 1 := ⟨zT_in 1079 (by decide +kernel) (by decide +kernel), zi_Mod, by decide +kernel, by decide⟩
theorem im_Mod_shouldOf : Cond.instanceMethod m_Mod_shouldOf.1 ∈ zT := zT_in 1078 (by decide +kernel) (by decide +kernel)
theorem hm_Mod_seen : zcM m_Mod_seen 1 := ⟨zT_in 1083 (by decide +kernel) (by decide +kernel), zi_Mod, by decide +kernel, by decide⟩
theorem im_Mod_seen : Cond.instanceMethod m_Mod_seen.1 ∈ zT := zT_in 1081 (by decide +kernel) (by decide +kernel)
theorem hm_Mod_seenOf : zcM m_Mod_seenOf 1 := ⟨zT_in 1087 (by decide +kernel) (by decide +kernel), zi_Mod, by decide +kernel, by decide⟩
theorem im_Mod_seenOf : Cond.instanceMethod m_Mod_seenOf.1 ∈ zT := zT_in 1086 (by decide +kernel) (by decide +kernel)
theorem hm_Mod_beyond : zcM m_Mod_beyond 2 := ⟨zT_in 1091 (by decide +kernel) (by decide +kernel), zi_Mod, by decide +kernel, by decide⟩
theorem im_Mod_beyond : Cond.instanceMethod m_Mod_beyond.1 ∈ zT := zT_in 1089 (by decide +kernel) (by decide +kernel)
theorem hm_Mod_leads : zcM m_Mod_leads 0 := ⟨zT_in 1095 (by decide +kernel) (by decide +kernel), zi_Mod, by decide +kernel, by decide⟩
theorem im_Mod_leads : Cond.instanceMethod m_Mod_leads.1 ∈ zT := zT_in 1093 (by decide +kernel) (by decide +kernel)
theorem hm_Mod_pictures : zcM m_Mod_pictures 1 := ⟨zT_in 1099 (by decide +kernel) (by decide +kernel), zi_Mod, by decide +kernel, by decide⟩
theorem im_Mod_pictures : Cond.instanceMethod m_Mod_pictures.1 ∈ zT := zT_in 1097 (by decide +kernel) (by decide +kernel)
theorem hm_Mod_bench : zcM m_Mod_bench 4 := ⟨zT_in 1103 (by decide +kernel) (by decide +kernel), zi_Mod, by decide +kernel, by decide⟩
theorem im_Mod_bench : Cond.instanceMethod m_Mod_bench.1 ∈ zT := zT_in 1101 (by decide +kernel) (by decide +kernel)
theorem hm_Mod_lines : zcM m_Mod_lines 1 := ⟨zT_in 1107 (by decide +kernel) (by decide +kernel), zi_Mod, by decide +kernel, by decide⟩
theorem im_Mod_lines : Cond.instanceMethod m_Mod_lines.1 ∈ zT := zT_in 1105 (by decide +kernel) (by decide +kernel)
theorem hm_Mod_hasLine : zcM m_Mod_hasLine 2 := ⟨zT_in 1111 (by decide +kernel) (by decide +kernel), zi_Mod, by decide +kernel, by decide⟩
theorem im_Mod_hasLine : Cond.instanceMethod m_Mod_hasLine.1 ∈ zT := zT_in 1110 (by decide +kernel) (by decide +kernel)
theorem hm_Mod_misses : zcM m_Mod_misses 1 := ⟨zT_in 1115 (by decide +kernel) (by decide +kernel), zi_Mod, by decide +kernel, by decide⟩
theorem im_Mod_misses : Cond.instanceMethod m_Mod_misses.1 ∈ zT := zT_in 1113 (by decide +kernel) (by decide +kernel)
theorem hm_Mod_barred : zcM m_Mod_barred 1 := ⟨zT_in 1119 (by decide +kernel) (by decide +kernel), zi_Mod, by decide +kernel, by decide⟩
theorem im_Mod_barred : Cond.instanceMethod m_Mod_barred.1 ∈ zT := zT_in 1117 (by decide +kernel) (by decide +kernel)
theorem hm_Mod_glasses : zcM m_Mod_glasses 2 := ⟨zT_in 1123 (by decide +kernel) (by decide +kernel), zi_Mod, by decide +kernel, by decide⟩
theorem im_Mod_glasses : Cond.instanceMethod m_Mod_glasses.1 ∈ zT := zT_in 1121 (by decide +kernel) (by decide +kernel)
theorem hm_Mod_image : zcM m_Mod_image 0 := ⟨zT_in 1127 (by decide +kernel) (by decide +kernel), zi_Mod, by decide +kernel, by decide⟩
theorem im_Mod_image : Cond.instanceMethod m_Mod_image.1 ∈ zT := zT_in 1125 (by decide +kernel) (by decide +kernel)
theorem hm_Mod_on : zcM m_Mod_on 0 := ⟨zT_in 1131 (by decide +kernel) (by decide +kernel), zi_Mod, by decide +kernel, by decide⟩
theorem im_Mod_on : Cond.instanceMethod m_Mod_on.1 ∈ zT := zT_in 1129 (by decide +kernel) (by decide +kernel)
theorem hm_Mod_count : zcM m_Mod_count 1 := ⟨zT_in 1135 (by decide +kernel) (by decide +kernel), zi_Mod, by decide +kernel, by decide⟩
theorem im_Mod_count : Cond.instanceMethod m_Mod_count.1 ∈ zT := zT_in 1133 (by decide +kernel) (by decide +kernel)
theorem cl_LLL_7 : Cond.classLink "LightInRoomLaw" 7 "LightInRoom" ∈ zT := zT_in 62 (by decide +kernel) (by decide +kernel)
theorem it_Lir : Cond.instantiable "LightInRoom" 6 ∈ zT := zT_in 63 (by decide +kernel) (by decide +kernel)
theorem lk_LLL_9 : Cond.methodLink "LightInRoomLaw" 9 m_Lir_init.1 ∈ zT := zT_in 64 (by decide +kernel) (by decide +kernel)
theorem lk_Lir_1 : Cond.methodLink "LightInRoom" 1 objectInit ∈ zT := zT_in 67 (by decide +kernel) (by decide +kernel)
theorem cl_Lir_7 : Cond.classLink "LightInRoom" 7 "LightInRoom$Tape" ∈ zT := zT_in 70 (by decide +kernel) (by decide +kernel)
theorem it_Tap : Cond.instantiable "LightInRoom$Tape" 9 ∈ zT := zT_in 71 (by decide +kernel) (by decide +kernel)
theorem lk_Lir_9 : Cond.methodLink "LightInRoom" 9 m_Tap_init.1 ∈ zT := zT_in 72 (by decide +kernel) (by decide +kernel)
theorem lk_Tap_3 : Cond.methodLink "LightInRoom$Tape" 3 objectInit ∈ zT := zT_in 75 (by decide +kernel) (by decide +kernel)
theorem zw_int : Cond.arrayClass .int ∈ zT := zT_in 112 (by decide +kernel) (by decide +kernel)
theorem cl_Lir_16 : Cond.classLink "LightInRoom" 16 "LightInRoom$Room" ∈ zT := zT_in 113 (by decide +kernel) (by decide +kernel)
theorem it_Roo : Cond.instantiable "LightInRoom$Room" 11 ∈ zT := zT_in 114 (by decide +kernel) (by decide +kernel)
theorem lk_Lir_18 : Cond.methodLink "LightInRoom" 18 m_Roo_init.1 ∈ zT := zT_in 115 (by decide +kernel) (by decide +kernel)
theorem lk_Roo_3 : Cond.methodLink "LightInRoom$Room" 3 objectInit ∈ zT := zT_in 118 (by decide +kernel) (by decide +kernel)
theorem cl_Roo_9 : Cond.classLink "LightInRoom$Room" 9 "LightInRoom$Telling" ∈ zT := zT_in 119 (by decide +kernel) (by decide +kernel)
theorem cl_Roo_17 : Cond.classLink "LightInRoom$Room" 17 "LightInRoom$Law" ∈ zT := zT_in 121 (by decide +kernel) (by decide +kernel)
theorem it_Law : Cond.instantiable "LightInRoom$Law" 2 ∈ zT := zT_in 123 (by decide +kernel) (by decide +kernel)
theorem lk_Roo_23 : Cond.methodLink "LightInRoom$Room" 23 m_Law_init.1 ∈ zT := zT_in 124 (by decide +kernel) (by decide +kernel)
theorem lk_Law_3 : Cond.methodLink "LightInRoom$Law" 3 objectInit ∈ zT := zT_in 127 (by decide +kernel) (by decide +kernel)
theorem cl_Roo_37 : Cond.classLink "LightInRoom$Room" 37 "LightInRoom$Bench" ∈ zT := zT_in 138 (by decide +kernel) (by decide +kernel)
theorem it_Ben : Cond.instantiable "LightInRoom$Bench" 4 ∈ zT := zT_in 139 (by decide +kernel) (by decide +kernel)
theorem lk_Ben_3 : Cond.methodLink "LightInRoom$Bench" 3 objectInit ∈ zT := zT_in 143 (by decide +kernel) (by decide +kernel)
theorem lk_LLL_15 : Cond.methodLink "LightInRoomLaw" 15 m_Lir_feed.1 ∈ zT := zT_in 222 (by decide +kernel) (by decide +kernel)
theorem lk_Lir_37 : Cond.methodLink "LightInRoom" 37 m_Lir_refuse.1 ∈ zT := zT_in 226 (by decide +kernel) (by decide +kernel)
theorem lk_Lir_41 : Cond.methodLink "LightInRoom" 41 m_Tap_roomLeft.1 ∈ zT := zT_in 230 (by decide +kernel) (by decide +kernel)
theorem lk_Lir_45 : Cond.methodLink "LightInRoom" 45 m_Tap_add.1 ∈ zT := zT_in 234 (by decide +kernel) (by decide +kernel)
theorem kn_Tap_19 : Cond.constantLong "LightInRoom$Tape" 19 255 ∈ zT := zT_in 238 (by decide +kernel) (by decide +kernel)
theorem lk_LLL_20 : Cond.methodLink "LightInRoomLaw" 20 m_Lir_telling.1 ∈ zT := zT_in 239 (by decide +kernel) (by decide +kernel)
theorem lk_Lir_56 : Cond.methodLink "LightInRoom" 56 m_Tap_read.1 ∈ zT := zT_in 243 (by decide +kernel) (by decide +kernel)
theorem lk_Tap_24 : Cond.methodLink "LightInRoom$Tape" 24 m_Tap_readSize.1 ∈ zT := zT_in 247 (by decide +kernel) (by decide +kernel)
theorem lk_Tap_87 : Cond.methodLink "LightInRoom$Tape" 87 m_Tap_passes.1 ∈ zT := zT_in 251 (by decide +kernel) (by decide +kernel)
theorem lk_Tap_77 : Cond.methodLink "LightInRoom$Tape" 77 m_Tap_byteHere.1 ∈ zT := zT_in 255 (by decide +kernel) (by decide +kernel)
theorem lk_Tap_91 : Cond.methodLink "LightInRoom$Tape" 91 m_Tap_readNumber.1 ∈ zT := zT_in 259 (by decide +kernel) (by decide +kernel)
theorem lk_Tap_81 : Cond.methodLink "LightInRoom$Tape" 81 m_Tap_digitHere.1 ∈ zT := zT_in 263 (by decide +kernel) (by decide +kernel)
theorem lk_Tap_28 : Cond.methodLink "LightInRoom$Tape" 28 m_Tap_readSeconds.1 ∈ zT := zT_in 267 (by decide +kernel) (by decide +kernel)
theorem lk_Tap_31 : Cond.methodLink "LightInRoom$Tape" 31 m_Tap_readColour.1 ∈ zT := zT_in 271 (by decide +kernel) (by decide +kernel)
theorem lk_Tap_34 : Cond.methodLink "LightInRoom$Tape" 34 m_Tap_readMarks.1 ∈ zT := zT_in 275 (by decide +kernel) (by decide +kernel)
theorem lk_Tap_103 : Cond.methodLink "LightInRoom$Tape" 103 m_Str_length.1 ∈ zT := zT_in 280 (by decide +kernel) (by decide +kernel)
theorem lk_Str_335 : Cond.methodLink "java/lang/String" 335 m_Str_coder.1 ∈ zT := zT_in 284 (by decide +kernel) (by decide +kernel)
theorem lk_Tap_107 : Cond.methodLink "LightInRoom$Tape" 107 m_Str_charAt.1 ∈ zT := zT_in 290 (by decide +kernel) (by decide +kernel)
theorem lk_Str_492 : Cond.methodLink "java/lang/String" 492 m_Str_isLatin1.1 ∈ zT := zT_in 294 (by decide +kernel) (by decide +kernel)
theorem lk_Str_495 : Cond.methodLink "java/lang/String" 495 m_SLa_charAt.1 ∈ zT := zT_in 298 (by decide +kernel) (by decide +kernel)
theorem lk_SLa_9 : Cond.methodLink "java/lang/StringLatin1" 9 m_Str_checkIndex.1 ∈ zT := zT_in 301 (by decide +kernel) (by decide +kernel)
theorem lk_Str_1059 : Cond.methodLink "java/lang/String" 1059 m_Pre_checkIndex.1 ∈ zT := zT_in 306 (by decide +kernel) (by decide +kernel)
theorem lk_Str_498 : Cond.methodLink "java/lang/String" 498 m_SUt_charAt.1 ∈ zT := zT_in 309 (by decide +kernel) (by decide +kernel)
theorem lk_SUt_67 : Cond.methodLink "java/lang/StringUTF16" 67 m_SUt_checkIndex.1 ∈ zT := zT_in 312 (by decide +kernel) (by decide +kernel)
theorem lk_SUt_48 : Cond.methodLink "java/lang/StringUTF16" 48 m_SUt_length.1 ∈ zT := zT_in 315 (by decide +kernel) (by decide +kernel)
theorem lk_SUt_414 : Cond.methodLink "java/lang/StringUTF16" 414 m_Str_checkIndex.1 ∈ zT := zT_in 318 (by decide +kernel) (by decide +kernel)
theorem lk_SUt_71 : Cond.methodLink "java/lang/StringUTF16" 71 m_SUt_getChar.1 ∈ zT := zT_in 319 (by decide +kernel) (by decide +kernel)
theorem lk_Tap_37 : Cond.methodLink "LightInRoom$Tape" 37 m_Tap_readYears.1 ∈ zT := zT_in 328 (by decide +kernel) (by decide +kernel)
theorem lk_Tap_40 : Cond.methodLink "LightInRoom$Tape" 40 m_Tap_readAsked.1 ∈ zT := zT_in 332 (by decide +kernel) (by decide +kernel)
theorem lk_Lir_60 : Cond.methodLink "LightInRoom" 60 m_Tap_clear.1 ∈ zT := zT_in 336 (by decide +kernel) (by decide +kernel)
theorem lk_Lir_63 : Cond.methodLink "LightInRoom" 63 m_Tap_newTelling.1 ∈ zT := zT_in 340 (by decide +kernel) (by decide +kernel)
theorem cl_Tap_47 : Cond.classLink "LightInRoom$Tape" 47 "LightInRoom$Called" ∈ zT := zT_in 344 (by decide +kernel) (by decide +kernel)
theorem it_Cal : Cond.instantiable "LightInRoom$Called" 6 ∈ zT := zT_in 345 (by decide +kernel) (by decide +kernel)
theorem lk_Tap_49 : Cond.methodLink "LightInRoom$Tape" 49 m_Cal_init.1 ∈ zT := zT_in 346 (by decide +kernel) (by decide +kernel)
theorem lk_Cal_1 : Cond.methodLink "LightInRoom$Called" 1 m_Tel_init.1 ∈ zT := zT_in 349 (by decide +kernel) (by decide +kernel)
theorem lk_Tel_3 : Cond.methodLink "LightInRoom$Telling" 3 objectInit ∈ zT := zT_in 352 (by decide +kernel) (by decide +kernel)
theorem su_Cal : Cond.superclass "LightInRoom$Called" "LightInRoom$Telling" ∈ zT := zT_in 390 (by decide +kernel) (by decide +kernel)
theorem cl_Tap_59 : Cond.classLink "LightInRoom$Tape" 59 "LightInRoom$Eye" ∈ zT := zT_in 395 (by decide +kernel) (by decide +kernel)
theorem it_Eye : Cond.instantiable "LightInRoom$Eye" 6 ∈ zT := zT_in 396 (by decide +kernel) (by decide +kernel)
theorem lk_Tap_61 : Cond.methodLink "LightInRoom$Tape" 61 m_Eye_init.1 ∈ zT := zT_in 397 (by decide +kernel) (by decide +kernel)
theorem lk_Eye_1 : Cond.methodLink "LightInRoom$Eye" 1 m_Tel_init.1 ∈ zT := zT_in 400 (by decide +kernel) (by decide +kernel)
theorem su_Eye : Cond.superclass "LightInRoom$Eye" "LightInRoom$Telling" ∈ zT := zT_in 407 (by decide +kernel) (by decide +kernel)
theorem cl_Tap_62 : Cond.classLink "LightInRoom$Tape" 62 "LightInRoom$Through" ∈ zT := zT_in 408 (by decide +kernel) (by decide +kernel)
theorem it_Thr : Cond.instantiable "LightInRoom$Through" 6 ∈ zT := zT_in 409 (by decide +kernel) (by decide +kernel)
theorem lk_Tap_64 : Cond.methodLink "LightInRoom$Tape" 64 m_Thr_init.1 ∈ zT := zT_in 410 (by decide +kernel) (by decide +kernel)
theorem lk_Thr_3 : Cond.methodLink "LightInRoom$Through" 3 m_Nea_init.1 ∈ zT := zT_in 413 (by decide +kernel) (by decide +kernel)
theorem lk_Nea_1 : Cond.methodLink "LightInRoom$Near" 1 m_Tel_init.1 ∈ zT := zT_in 416 (by decide +kernel) (by decide +kernel)
theorem su_Thr : Cond.superclass "LightInRoom$Through" "LightInRoom$Near" ∈ zT := zT_in 423 (by decide +kernel) (by decide +kernel)
theorem cl_Tap_65 : Cond.classLink "LightInRoom$Tape" 65 "LightInRoom$Near" ∈ zT := zT_in 424 (by decide +kernel) (by decide +kernel)
theorem it_Nea : Cond.instantiable "LightInRoom$Near" 6 ∈ zT := zT_in 425 (by decide +kernel) (by decide +kernel)
theorem lk_Tap_67 : Cond.methodLink "LightInRoom$Tape" 67 m_Nea_init.1 ∈ zT := zT_in 426 (by decide +kernel) (by decide +kernel)
theorem su_Nea : Cond.superclass "LightInRoom$Near" "LightInRoom$Telling" ∈ zT := zT_in 433 (by decide +kernel) (by decide +kernel)
theorem cl_Tap_71 : Cond.classLink "LightInRoom$Tape" 71 "LightInRoom$Grown" ∈ zT := zT_in 434 (by decide +kernel) (by decide +kernel)
theorem it_Gro : Cond.instantiable "LightInRoom$Grown" 6 ∈ zT := zT_in 435 (by decide +kernel) (by decide +kernel)
theorem lk_Tap_73 : Cond.methodLink "LightInRoom$Tape" 73 m_Gro_init.1 ∈ zT := zT_in 436 (by decide +kernel) (by decide +kernel)
theorem lk_Gro_3 : Cond.methodLink "LightInRoom$Grown" 3 m_Wit_init.1 ∈ zT := zT_in 439 (by decide +kernel) (by decide +kernel)
theorem lk_Wit_1 : Cond.methodLink "LightInRoom$Without" 1 m_Tel_init.1 ∈ zT := zT_in 442 (by decide +kernel) (by decide +kernel)
theorem su_Gro : Cond.superclass "LightInRoom$Grown" "LightInRoom$Without" ∈ zT := zT_in 449 (by decide +kernel) (by decide +kernel)
theorem cl_Tap_74 : Cond.classLink "LightInRoom$Tape" 74 "LightInRoom$Without" ∈ zT := zT_in 450 (by decide +kernel) (by decide +kernel)
theorem it_Wit : Cond.instantiable "LightInRoom$Without" 6 ∈ zT := zT_in 451 (by decide +kernel) (by decide +kernel)
theorem lk_Tap_76 : Cond.methodLink "LightInRoom$Tape" 76 m_Wit_init.1 ∈ zT := zT_in 452 (by decide +kernel) (by decide +kernel)
theorem su_Wit : Cond.superclass "LightInRoom$Without" "LightInRoom$Telling" ∈ zT := zT_in 459 (by decide +kernel) (by decide +kernel)
theorem lk_Lir_67 : Cond.methodLink "LightInRoom" 67 m_Roo_addTelling.1 ∈ zT := zT_in 460 (by decide +kernel) (by decide +kernel)
theorem lk_LLL_25 : Cond.methodLink "LightInRoomLaw" 25 m_Lir_tellingOf.1 ∈ zT := zT_in 464 (by decide +kernel) (by decide +kernel)
theorem lk_Lir_74 : Cond.methodLink "LightInRoom" 74 m_Roo_tellingAt.1 ∈ zT := zT_in 468 (by decide +kernel) (by decide +kernel)
theorem lk_Roo_90 : Cond.methodLink "LightInRoom$Room" 90 m_Roo_inRow.1 ∈ zT := zT_in 472 (by decide +kernel) (by decide +kernel)
theorem lk_LLL_30 : Cond.methodLink "LightInRoomLaw" 30 m_Lir_kind.1 ∈ zT := zT_in 475 (by decide +kernel) (by decide +kernel)
theorem lk_Lir_98 : Cond.methodLink "LightInRoom" 98 (⟨"LightInRoom$Telling", "kindNumber", "()I"⟩ : MethodName) ∈ zT := zT_in 479 (by decide +kernel) (by decide +kernel)
theorem sm_Tel_kindNumber : Cond.sameMethod "LightInRoom$Telling" "LightInRoom$Telling" "kindNumber" "()I" ∈ zT := zT_in 481 (by decide +kernel) (by decide +kernel)
theorem lk_LLL_35 : Cond.methodLink "LightInRoomLaw" 35 m_Lir_weight.1 ∈ zT := zT_in 500 (by decide +kernel) (by decide +kernel)
theorem lk_Lir_101 : Cond.methodLink "LightInRoom" 101 (⟨"LightInRoom$Telling", "ownWeight", "()I"⟩ : MethodName) ∈ zT := zT_in 504 (by decide +kernel) (by decide +kernel)
theorem sm_Tel_ownWeight : Cond.sameMethod "LightInRoom$Telling" "LightInRoom$Telling" "ownWeight" "()I" ∈ zT := zT_in 506 (by decide +kernel) (by decide +kernel)
theorem lk_Gro_9 : Cond.methodLink "LightInRoom$Grown" 9 m_Wit_ownWeight.1 ∈ zT := zT_in 516 (by decide +kernel) (by decide +kernel)
theorem lk_Thr_9 : Cond.methodLink "LightInRoom$Through" 9 m_Nea_ownWeight.1 ∈ zT := zT_in 525 (by decide +kernel) (by decide +kernel)
theorem lk_LLL_39 : Cond.methodLink "LightInRoomLaw" 39 m_Lir_law.1 ∈ zT := zT_in 527 (by decide +kernel) (by decide +kernel)
theorem lk_Lir_104 : Cond.methodLink "LightInRoom" 104 m_Roo_lawAt.1 ∈ zT := zT_in 531 (by decide +kernel) (by decide +kernel)
theorem lk_Lir_108 : Cond.methodLink "LightInRoom" 108 m_Lir_outside.1 ∈ zT := zT_in 535 (by decide +kernel) (by decide +kernel)
theorem lk_Lir_117 : Cond.methodLink "LightInRoom" 117 m_Lir_exchange.1 ∈ zT := zT_in 538 (by decide +kernel) (by decide +kernel)
theorem lk_LLL_44 : Cond.methodLink "LightInRoomLaw" 44 m_Lir_right.1 ∈ zT := zT_in 541 (by decide +kernel) (by decide +kernel)
theorem lk_LLL_49 : Cond.methodLink "LightInRoomLaw" 49 m_Lir_growth.1 ∈ zT := zT_in 545 (by decide +kernel) (by decide +kernel)
theorem lk_Lir_124 : Cond.methodLink "LightInRoom" 124 m_Lir_isSizeOrSeconds.1 ∈ zT := zT_in 549 (by decide +kernel) (by decide +kernel)
theorem lk_LLL_53 : Cond.methodLink "LightInRoomLaw" 53 m_Lir_put.1 ∈ zT := zT_in 552 (by decide +kernel) (by decide +kernel)
theorem lk_Lir_131 : Cond.methodLink "LightInRoom" 131 m_Roo_rightNumber.1 ∈ zT := zT_in 556 (by decide +kernel) (by decide +kernel)
theorem lk_Roo_94 : Cond.methodLink "LightInRoom$Room" 94 m_Tel_lacks.1 ∈ zT := zT_in 560 (by decide +kernel) (by decide +kernel)
theorem sm_Tel_lacks : Cond.sameMethod "LightInRoom$Telling" "LightInRoom$Telling" "lacks" "(I)Z" ∈ zT := zT_in 562 (by decide +kernel) (by decide +kernel)
theorem lk_Tel_43 : Cond.methodLink "LightInRoom$Telling" 43 m_Tel_numberTold.1 ∈ zT := zT_in 570 (by decide +kernel) (by decide +kernel)
theorem sm_Tel_numberTold : Cond.sameMethod "LightInRoom$Telling" "LightInRoom$Telling" "numberTold" "(I)I" ∈ zT := zT_in 572 (by decide +kernel) (by decide +kernel)
theorem lk_Roo_101 : Cond.methodLink "LightInRoom$Room" 101 m_Tel_numberTold.1 ∈ zT := zT_in 580 (by decide +kernel) (by decide +kernel)
theorem lk_LLL_57 : Cond.methodLink "LightInRoomLaw" 57 m_Lir_fits.1 ∈ zT := zT_in 581 (by decide +kernel) (by decide +kernel)
theorem lk_Lir_135 : Cond.methodLink "LightInRoom" 135 m_Roo_brokenBy.1 ∈ zT := zT_in 585 (by decide +kernel) (by decide +kernel)
theorem lk_Roo_109 : Cond.methodLink "LightInRoom$Room" 109 m_Roo_heldNumber.1 ∈ zT := zT_in 589 (by decide +kernel) (by decide +kernel)
theorem lk_Roo_105 : Cond.methodLink "LightInRoom$Room" 105 m_Roo_rightNumber.1 ∈ zT := zT_in 593 (by decide +kernel) (by decide +kernel)
theorem lk_Roo_112 : Cond.methodLink "LightInRoom$Room" 112 m_Law_brokenBy.1 ∈ zT := zT_in 594 (by decide +kernel) (by decide +kernel)
theorem lk_LLL_61 : Cond.methodLink "LightInRoomLaw" 61 m_Lir_share.1 ∈ zT := zT_in 599 (by decide +kernel) (by decide +kernel)
theorem lk_Lir_139 : Cond.methodLink "LightInRoom" 139 m_Lir_refuseAsTold.1 ∈ zT := zT_in 603 (by decide +kernel) (by decide +kernel)
theorem kn_Lir_268 : Cond.constant "LightInRoom" 268 1000000000 ∈ zT := zT_in 607 (by decide +kernel) (by decide +kernel)
theorem lk_Lir_142 : Cond.methodLink "LightInRoom" 142 m_Lir_isPart.1 ∈ zT := zT_in 608 (by decide +kernel) (by decide +kernel)
theorem lk_Lir_149 : Cond.methodLink "LightInRoom" 149 m_Lir_leastTerms.1 ∈ zT := zT_in 611 (by decide +kernel) (by decide +kernel)
theorem lk_Lir_269 : Cond.methodLink "LightInRoom" 269 m_Lir_greatestCommon.1 ∈ zT := zT_in 614 (by decide +kernel) (by decide +kernel)
theorem lk_LLL_65 : Cond.methodLink "LightInRoomLaw" 65 m_Lir_only.1 ∈ zT := zT_in 617 (by decide +kernel) (by decide +kernel)
theorem lk_Lir_152 : Cond.methodLink "LightInRoom" 152 m_Lir_howManyFitOnly.1 ∈ zT := zT_in 621 (by decide +kernel) (by decide +kernel)
theorem lk_Lir_281 : Cond.methodLink "LightInRoom" 281 m_Roo_lawsFitted.1 ∈ zT := zT_in 625 (by decide +kernel) (by decide +kernel)
theorem lk_Roo_48 : Cond.methodLink "LightInRoom$Room" 48 m_Roo_lawAt.1 ∈ zT := zT_in 629 (by decide +kernel) (by decide +kernel)
theorem lk_LLL_69 : Cond.methodLink "LightInRoomLaw" 69 m_Lir_cover.1 ∈ zT := zT_in 630 (by decide +kernel) (by decide +kernel)
theorem lk_Lir_156 : Cond.methodLink "LightInRoom" 156 m_Lir_noteLaws.1 ∈ zT := zT_in 634 (by decide +kernel) (by decide +kernel)
theorem lk_Lir_159 : Cond.methodLink "LightInRoom" 159 m_Int_bitCount.1 ∈ zT := zT_in 638 (by decide +kernel) (by decide +kernel)
theorem kn_Int_265 : Cond.constant "java/lang/Integer" 265 1431655765 ∈ zT := zT_in 641 (by decide +kernel) (by decide +kernel)
theorem kn_Int_266 : Cond.constant "java/lang/Integer" 266 858993459 ∈ zT := zT_in 642 (by decide +kernel) (by decide +kernel)
theorem kn_Int_267 : Cond.constant "java/lang/Integer" 267 252645135 ∈ zT := zT_in 643 (by decide +kernel) (by decide +kernel)
theorem lk_Lir_164 : Cond.methodLink "LightInRoom" 164 m_Lir_coversAll.1 ∈ zT := zT_in 644 (by decide +kernel) (by decide +kernel)
theorem lk_LLL_73 : Cond.methodLink "LightInRoomLaw" 73 m_Lir_half.1 ∈ zT := zT_in 648 (by decide +kernel) (by decide +kernel)
theorem lk_Lir_167 : Cond.methodLink "LightInRoom" 167 m_Lir_noteBroken.1 ∈ zT := zT_in 652 (by decide +kernel) (by decide +kernel)
theorem lk_Lir_171 : Cond.methodLink "LightInRoom" 171 m_Lir_halfFitsWithout.1 ∈ zT := zT_in 656 (by decide +kernel) (by decide +kernel)
theorem lk_LLL_77 : Cond.methodLink "LightInRoomLaw" 77 m_Lir_sorts.1 ∈ zT := zT_in 660 (by decide +kernel) (by decide +kernel)
theorem lk_Lir_174 : Cond.methodLink "LightInRoom" 174 m_Lir_firstNotedLike.1 ∈ zT := zT_in 664 (by decide +kernel) (by decide +kernel)
theorem lk_Lir_177 : Cond.methodLink "LightInRoom" 177 m_Lir_howManyNotedLike.1 ∈ zT := zT_in 668 (by decide +kernel) (by decide +kernel)
theorem lk_Lir_180 : Cond.methodLink "LightInRoom" 180 Lib.Math.max.name ∈ zT := zT_in 672 (by decide +kernel) (by decide +kernel)
theorem lk_LLL_81 : Cond.methodLink "LightInRoomLaw" 81 m_Lir_alike.1 ∈ zT := zT_in 675 (by decide +kernel) (by decide +kernel)
theorem lk_LLL_85 : Cond.methodLink "LightInRoomLaw" 85 m_Lir_together.1 ∈ zT := zT_in 679 (by decide +kernel) (by decide +kernel)
theorem lk_Lir_185 : Cond.methodLink "LightInRoom" 185 m_Lir_isMark.1 ∈ zT := zT_in 683 (by decide +kernel) (by decide +kernel)
theorem lk_Lir_188 : Cond.methodLink "LightInRoom" 188 m_Tel_has.1 ∈ zT := zT_in 686 (by decide +kernel) (by decide +kernel)
theorem sm_Tel_has : Cond.sameMethod "LightInRoom$Telling" "LightInRoom$Telling" "has" "(I)Z" ∈ zT := zT_in 688 (by decide +kernel) (by decide +kernel)
theorem lk_Lir_191 : Cond.methodLink "LightInRoom" 191 m_Lir_hundredths.1 ∈ zT := zT_in 697 (by decide +kernel) (by decide +kernel)
theorem lk_LLL_89 : Cond.methodLink "LightInRoomLaw" 89 m_Lir_twice.1 ∈ zT := zT_in 700 (by decide +kernel) (by decide +kernel)
theorem lk_Lir_197 : Cond.methodLink "LightInRoom" 197 m_Roo_addPair.1 ∈ zT := zT_in 704 (by decide +kernel) (by decide +kernel)
theorem lk_LLL_93 : Cond.methodLink "LightInRoomLaw" 93 m_Lir_grows.1 ∈ zT := zT_in 708 (by decide +kernel) (by decide +kernel)
theorem lk_Lir_201 : Cond.methodLink "LightInRoom" 201 m_Roo_firstOfPair.1 ∈ zT := zT_in 712 (by decide +kernel) (by decide +kernel)
theorem lk_Lir_204 : Cond.methodLink "LightInRoom" 204 m_Roo_secondOfPair.1 ∈ zT := zT_in 716 (by decide +kernel) (by decide +kernel)
theorem lk_Lir_207 : Cond.methodLink "LightInRoom" 207 m_Tel_lacks.1 ∈ zT := zT_in 720 (by decide +kernel) (by decide +kernel)
theorem lk_Lir_210 : Cond.methodLink "LightInRoom" 210 m_Tel_numberTold.1 ∈ zT := zT_in 721 (by decide +kernel) (by decide +kernel)
theorem lk_LLL_97 : Cond.methodLink "LightInRoomLaw" 97 m_Lir_people.1 ∈ zT := zT_in 722 (by decide +kernel) (by decide +kernel)
theorem lk_LLL_101 : Cond.methodLink "LightInRoomLaw" 101 m_Lir_strokes.1 ∈ zT := zT_in 726 (by decide +kernel) (by decide +kernel)
theorem lk_LLL_105 : Cond.methodLink "LightInRoomLaw" 105 m_Lir_reach.1 ∈ zT := zT_in 730 (by decide +kernel) (by decide +kernel)
theorem lk_LLL_109 : Cond.methodLink "LightInRoomLaw" 109 m_Lir_should.1 ∈ zT := zT_in 734 (by decide +kernel) (by decide +kernel)
theorem lk_Lir_222 : Cond.methodLink "LightInRoom" 222 m_Roo_shownTo.1 ∈ zT := zT_in 738 (by decide +kernel) (by decide +kernel)
theorem lk_LLL_113 : Cond.methodLink "LightInRoomLaw" 113 m_Lir_seen.1 ∈ zT := zT_in 742 (by decide +kernel) (by decide +kernel)
theorem lk_Lir_226 : Cond.methodLink "LightInRoom" 226 m_Roo_howManyFit.1 ∈ zT := zT_in 746 (by decide +kernel) (by decide +kernel)
theorem lk_Roo_116 : Cond.methodLink "LightInRoom$Room" 116 m_Roo_brokenBy.1 ∈ zT := zT_in 750 (by decide +kernel) (by decide +kernel)
theorem lk_LLL_117 : Cond.methodLink "LightInRoomLaw" 117 m_Lir_beyond.1 ∈ zT := zT_in 751 (by decide +kernel) (by decide +kernel)
theorem lk_LLL_121 : Cond.methodLink "LightInRoomLaw" 121 m_Lir_leads.1 ∈ zT := zT_in 755 (by decide +kernel) (by decide +kernel)
theorem lk_Lir_229 : Cond.methodLink "LightInRoom" 229 m_Roo_howManyAsked.1 ∈ zT := zT_in 759 (by decide +kernel) (by decide +kernel)
theorem lk_Lir_232 : Cond.methodLink "LightInRoom" 232 m_Roo_howManyAskedFit.1 ∈ zT := zT_in 763 (by decide +kernel) (by decide +kernel)
theorem lk_LLL_125 : Cond.methodLink "LightInRoomLaw" 125 m_Lir_pictures.1 ∈ zT := zT_in 767 (by decide +kernel) (by decide +kernel)
theorem lk_LLL_129 : Cond.methodLink "LightInRoomLaw" 129 m_Lir_bench.1 ∈ zT := zT_in 771 (by decide +kernel) (by decide +kernel)
theorem lk_Lir_239 : Cond.methodLink "LightInRoom" 239 m_Ben_tell.1 ∈ zT := zT_in 775 (by decide +kernel) (by decide +kernel)
theorem lk_LLL_134 : Cond.methodLink "LightInRoomLaw" 134 m_Lir_lines.1 ∈ zT := zT_in 779 (by decide +kernel) (by decide +kernel)
theorem lk_Lir_245 : Cond.methodLink "LightInRoom" 245 m_Ben_linesLacking.1 ∈ zT := zT_in 783 (by decide +kernel) (by decide +kernel)
theorem lk_LLL_138 : Cond.methodLink "LightInRoomLaw" 138 m_Lir_misses.1 ∈ zT := zT_in 787 (by decide +kernel) (by decide +kernel)
theorem lk_Lir_248 : Cond.methodLink "LightInRoom" 248 m_Lir_hasBit.1 ∈ zT := zT_in 791 (by decide +kernel) (by decide +kernel)
theorem lk_LLL_142 : Cond.methodLink "LightInRoomLaw" 142 m_Lir_barred.1 ∈ zT := zT_in 792 (by decide +kernel) (by decide +kernel)
theorem lk_LLL_146 : Cond.methodLink "LightInRoomLaw" 146 m_Lir_glasses.1 ∈ zT := zT_in 796 (by decide +kernel) (by decide +kernel)
theorem lk_Lir_252 : Cond.methodLink "LightInRoom" 252 m_Roo_fullestRing.1 ∈ zT := zT_in 800 (by decide +kernel) (by decide +kernel)
theorem lk_LLL_150 : Cond.methodLink "LightInRoomLaw" 150 m_Lir_image.1 ∈ zT := zT_in 805 (by decide +kernel) (by decide +kernel)
theorem lk_Lir_255 : Cond.methodLink "LightInRoom" 255 m_Roo_becomeLike.1 ∈ zT := zT_in 809 (by decide +kernel) (by decide +kernel)
theorem lk_Roo_44 : Cond.methodLink "LightInRoom$Room" 44 m_Roo_copyTellings.1 ∈ zT := zT_in 813 (by decide +kernel) (by decide +kernel)
theorem lk_Roo_52 : Cond.methodLink "LightInRoom$Room" 52 m_Law_becomeLike.1 ∈ zT := zT_in 816 (by decide +kernel) (by decide +kernel)
theorem lk_Lir_272 : Cond.methodLink "LightInRoom" 272 Lib.Math.min.name ∈ zT := zT_in 823 (by decide +kernel) (by decide +kernel)
theorem lk_Lir_275 : Cond.methodLink "LightInRoom" 275 arraycopyName ∈ zT := zT_in 826 (by decide +kernel) (by decide +kernel)
theorem lk_Roo_73 : Cond.methodLink "LightInRoom$Room" 73 m_Ben_tell.1 ∈ zT := zT_in 830 (by decide +kernel) (by decide +kernel)
theorem lk_LLL_154 : Cond.methodLink "LightInRoomLaw" 154 m_Lir_on.1 ∈ zT := zT_in 831 (by decide +kernel) (by decide +kernel)
theorem lk_LLL_158 : Cond.methodLink "LightInRoomLaw" 158 m_Lir_count.1 ∈ zT := zT_in 835 (by decide +kernel) (by decide +kernel)
theorem lk_Lir_259 : Cond.methodLink "LightInRoom" 259 m_Roo_howManyGaps.1 ∈ zT := zT_in 839 (by decide +kernel) (by decide +kernel)
theorem lk_Roo_122 : Cond.methodLink "LightInRoom$Room" 122 m_Tel_gaps.1 ∈ zT := zT_in 843 (by decide +kernel) (by decide +kernel)
theorem sm_Tel_gaps : Cond.sameMethod "LightInRoom$Telling" "LightInRoom$Telling" "gaps" "()I" ∈ zT := zT_in 845 (by decide +kernel) (by decide +kernel)
theorem lk_Lir_262 : Cond.methodLink "LightInRoom" 262 m_Roo_howManyMarks.1 ∈ zT := zT_in 853 (by decide +kernel) (by decide +kernel)
theorem lk_Roo_127 : Cond.methodLink "LightInRoom$Room" 127 m_Int_bitCount.1 ∈ zT := zT_in 857 (by decide +kernel) (by decide +kernel)
theorem lk_Lir_265 : Cond.methodLink "LightInRoom" 265 m_Lir_refusalsCounted.1 ∈ zT := zT_in 858 (by decide +kernel) (by decide +kernel)
theorem cl_LLL_10 : Cond.classLink "LightInRoomLaw" 10 "LightInRoomModel" ∈ zT := zT_in 862 (by decide +kernel) (by decide +kernel)
theorem it_Mod : Cond.instantiable "LightInRoomModel" 8 ∈ zT := zT_in 863 (by decide +kernel) (by decide +kernel)
theorem lk_LLL_12 : Cond.methodLink "LightInRoomLaw" 12 m_Mod_init.1 ∈ zT := zT_in 864 (by decide +kernel) (by decide +kernel)
theorem lk_Mod_1 : Cond.methodLink "LightInRoomModel" 1 objectInit ∈ zT := zT_in 867 (by decide +kernel) (by decide +kernel)
theorem lk_LLL_19 : Cond.methodLink "LightInRoomLaw" 19 m_Mod_feed.1 ∈ zT := zT_in 893 (by decide +kernel) (by decide +kernel)
theorem lk_Mod_29 : Cond.methodLink "LightInRoomModel" 29 m_Mod_refuse.1 ∈ zT := zT_in 897 (by decide +kernel) (by decide +kernel)
theorem kn_Mod_37 : Cond.constantLong "LightInRoomModel" 37 255 ∈ zT := zT_in 901 (by decide +kernel) (by decide +kernel)
theorem lk_LLL_24 : Cond.methodLink "LightInRoomLaw" 24 m_Mod_telling.1 ∈ zT := zT_in 902 (by decide +kernel) (by decide +kernel)
theorem lk_Mod_60 : Cond.methodLink "LightInRoomModel" 60 m_Mod_reads.1 ∈ zT := zT_in 906 (by decide +kernel) (by decide +kernel)
theorem lk_Mod_50 : Cond.methodLink "LightInRoomModel" 50 m_Mod_takes.1 ∈ zT := zT_in 910 (by decide +kernel) (by decide +kernel)
theorem lk_Mod_42 : Cond.methodLink "LightInRoomModel" 42 m_Mod_sign.1 ∈ zT := zT_in 914 (by decide +kernel) (by decide +kernel)
theorem lk_Mod_54 : Cond.methodLink "LightInRoomModel" 54 m_Mod_readsNumber.1 ∈ zT := zT_in 918 (by decide +kernel) (by decide +kernel)
theorem lk_Mod_46 : Cond.methodLink "LightInRoomModel" 46 m_Mod_isDigit.1 ∈ zT := zT_in 922 (by decide +kernel) (by decide +kernel)
theorem lk_Mod_57 : Cond.methodLink "LightInRoomModel" 57 m_Mod_markOf.1 ∈ zT := zT_in 926 (by decide +kernel) (by decide +kernel)
theorem lk_LLL_29 : Cond.methodLink "LightInRoomLaw" 29 m_Mod_tellingOf.1 ∈ zT := zT_in 929 (by decide +kernel) (by decide +kernel)
theorem lk_Mod_63 : Cond.methodLink "LightInRoomModel" 63 m_Mod_isTelling.1 ∈ zT := zT_in 933 (by decide +kernel) (by decide +kernel)
theorem lk_Mod_25 : Cond.methodLink "LightInRoomModel" 25 m_Mod_isIn.1 ∈ zT := zT_in 937 (by decide +kernel) (by decide +kernel)
theorem lk_Mod_66 : Cond.methodLink "LightInRoomModel" 66 m_Mod_get.1 ∈ zT := zT_in 940 (by decide +kernel) (by decide +kernel)
theorem lk_LLL_34 : Cond.methodLink "LightInRoomLaw" 34 m_Mod_kind.1 ∈ zT := zT_in 944 (by decide +kernel) (by decide +kernel)
theorem lk_Mod_73 : Cond.methodLink "LightInRoomModel" 73 m_Mod_kindOf.1 ∈ zT := zT_in 948 (by decide +kernel) (by decide +kernel)
theorem lk_Mod_70 : Cond.methodLink "LightInRoomModel" 70 m_Mod_isMarked.1 ∈ zT := zT_in 952 (by decide +kernel) (by decide +kernel)
theorem lk_LLL_38 : Cond.methodLink "LightInRoomLaw" 38 m_Mod_weight.1 ∈ zT := zT_in 956 (by decide +kernel) (by decide +kernel)
theorem lk_Mod_76 : Cond.methodLink "LightInRoomModel" 76 m_Mod_weightOf.1 ∈ zT := zT_in 960 (by decide +kernel) (by decide +kernel)
theorem lk_LLL_43 : Cond.methodLink "LightInRoomLaw" 43 m_Mod_law.1 ∈ zT := zT_in 964 (by decide +kernel) (by decide +kernel)
theorem lk_Mod_79 : Cond.methodLink "LightInRoomModel" 79 m_Mod_isLaw.1 ∈ zT := zT_in 968 (by decide +kernel) (by decide +kernel)
theorem lk_Mod_82 : Cond.methodLink "LightInRoomModel" 82 m_Mod_within.1 ∈ zT := zT_in 971 (by decide +kernel) (by decide +kernel)
theorem lk_Mod_86 : Cond.methodLink "LightInRoomModel" 86 m_Mod_becomes.1 ∈ zT := zT_in 974 (by decide +kernel) (by decide +kernel)
theorem lk_LLL_48 : Cond.methodLink "LightInRoomLaw" 48 m_Mod_right.1 ∈ zT := zT_in 978 (by decide +kernel) (by decide +kernel)
theorem lk_LLL_52 : Cond.methodLink "LightInRoomLaw" 52 m_Mod_growth.1 ∈ zT := zT_in 982 (by decide +kernel) (by decide +kernel)
theorem lk_LLL_56 : Cond.methodLink "LightInRoomLaw" 56 m_Mod_put.1 ∈ zT := zT_in 986 (by decide +kernel) (by decide +kernel)
theorem lk_Mod_89 : Cond.methodLink "LightInRoomModel" 89 m_Mod_rightOf.1 ∈ zT := zT_in 990 (by decide +kernel) (by decide +kernel)
theorem lk_LLL_60 : Cond.methodLink "LightInRoomLaw" 60 m_Mod_fits.1 ∈ zT := zT_in 994 (by decide +kernel) (by decide +kernel)
theorem lk_Mod_96 : Cond.methodLink "LightInRoomModel" 96 m_Mod_isFit.1 ∈ zT := zT_in 998 (by decide +kernel) (by decide +kernel)
theorem lk_Mod_92 : Cond.methodLink "LightInRoomModel" 92 m_Mod_meets.1 ∈ zT := zT_in 1002 (by decide +kernel) (by decide +kernel)
theorem lk_LLL_64 : Cond.methodLink "LightInRoomLaw" 64 m_Mod_share.1 ∈ zT := zT_in 1006 (by decide +kernel) (by decide +kernel)
theorem kn_Mod_102 : Cond.constant "LightInRoomModel" 102 1000000000 ∈ zT := zT_in 1010 (by decide +kernel) (by decide +kernel)
theorem lk_Mod_103 : Cond.methodLink "LightInRoomModel" 103 m_Mod_partOf.1 ∈ zT := zT_in 1011 (by decide +kernel) (by decide +kernel)
theorem lk_Mod_99 : Cond.methodLink "LightInRoomModel" 99 m_Mod_common.1 ∈ zT := zT_in 1014 (by decide +kernel) (by decide +kernel)
theorem lk_LLL_68 : Cond.methodLink "LightInRoomLaw" 68 m_Mod_only.1 ∈ zT := zT_in 1017 (by decide +kernel) (by decide +kernel)
theorem lk_Mod_106 : Cond.methodLink "LightInRoomModel" 106 m_Mod_lawsOf.1 ∈ zT := zT_in 1021 (by decide +kernel) (by decide +kernel)
theorem lk_LLL_72 : Cond.methodLink "LightInRoomLaw" 72 m_Mod_cover.1 ∈ zT := zT_in 1025 (by decide +kernel) (by decide +kernel)
theorem lk_Mod_109 : Cond.methodLink "LightInRoomModel" 109 m_Mod_bits.1 ∈ zT := zT_in 1029 (by decide +kernel) (by decide +kernel)
theorem lk_Mod_112 : Cond.methodLink "LightInRoomModel" 112 m_Mod_isCover.1 ∈ zT := zT_in 1032 (by decide +kernel) (by decide +kernel)
theorem lk_LLL_76 : Cond.methodLink "LightInRoomLaw" 76 m_Mod_half.1 ∈ zT := zT_in 1036 (by decide +kernel) (by decide +kernel)
theorem lk_LLL_80 : Cond.methodLink "LightInRoomLaw" 80 m_Mod_sorts.1 ∈ zT := zT_in 1040 (by decide +kernel) (by decide +kernel)
theorem lk_LLL_84 : Cond.methodLink "LightInRoomLaw" 84 m_Mod_alike.1 ∈ zT := zT_in 1044 (by decide +kernel) (by decide +kernel)
theorem lk_LLL_88 : Cond.methodLink "LightInRoomLaw" 88 m_Mod_together.1 ∈ zT := zT_in 1048 (by decide +kernel) (by decide +kernel)
theorem lk_LLL_92 : Cond.methodLink "LightInRoomLaw" 92 m_Mod_twice.1 ∈ zT := zT_in 1052 (by decide +kernel) (by decide +kernel)
theorem lk_LLL_96 : Cond.methodLink "LightInRoomLaw" 96 m_Mod_grows.1 ∈ zT := zT_in 1056 (by decide +kernel) (by decide +kernel)
theorem lk_LLL_100 : Cond.methodLink "LightInRoomLaw" 100 m_Mod_people.1 ∈ zT := zT_in 1060 (by decide +kernel) (by decide +kernel)
theorem lk_LLL_104 : Cond.methodLink "LightInRoomLaw" 104 m_Mod_strokes.1 ∈ zT := zT_in 1064 (by decide +kernel) (by decide +kernel)
theorem lk_LLL_108 : Cond.methodLink "LightInRoomLaw" 108 m_Mod_reach.1 ∈ zT := zT_in 1068 (by decide +kernel) (by decide +kernel)
theorem lk_LLL_112 : Cond.methodLink "LightInRoomLaw" 112 m_Mod_should.1 ∈ zT := zT_in 1072 (by decide +kernel) (by decide +kernel)
theorem lk_Mod_115 : Cond.methodLink "LightInRoomModel" 115 m_Mod_shouldOf.1 ∈ zT := zT_in 1076 (by decide +kernel) (by decide +kernel)
theorem lk_LLL_116 : Cond.methodLink "LightInRoomLaw" 116 m_Mod_seen.1 ∈ zT := zT_in 1080 (by decide +kernel) (by decide +kernel)
theorem lk_Mod_118 : Cond.methodLink "LightInRoomModel" 118 m_Mod_seenOf.1 ∈ zT := zT_in 1084 (by decide +kernel) (by decide +kernel)
theorem lk_LLL_120 : Cond.methodLink "LightInRoomLaw" 120 m_Mod_beyond.1 ∈ zT := zT_in 1088 (by decide +kernel) (by decide +kernel)
theorem lk_LLL_124 : Cond.methodLink "LightInRoomLaw" 124 m_Mod_leads.1 ∈ zT := zT_in 1092 (by decide +kernel) (by decide +kernel)
theorem lk_LLL_128 : Cond.methodLink "LightInRoomLaw" 128 m_Mod_pictures.1 ∈ zT := zT_in 1096 (by decide +kernel) (by decide +kernel)
theorem lk_LLL_133 : Cond.methodLink "LightInRoomLaw" 133 m_Mod_bench.1 ∈ zT := zT_in 1100 (by decide +kernel) (by decide +kernel)
theorem lk_LLL_137 : Cond.methodLink "LightInRoomLaw" 137 m_Mod_lines.1 ∈ zT := zT_in 1104 (by decide +kernel) (by decide +kernel)
theorem lk_Mod_121 : Cond.methodLink "LightInRoomModel" 121 m_Mod_hasLine.1 ∈ zT := zT_in 1108 (by decide +kernel) (by decide +kernel)
theorem lk_LLL_141 : Cond.methodLink "LightInRoomLaw" 141 m_Mod_misses.1 ∈ zT := zT_in 1112 (by decide +kernel) (by decide +kernel)
theorem lk_LLL_145 : Cond.methodLink "LightInRoomLaw" 145 m_Mod_barred.1 ∈ zT := zT_in 1116 (by decide +kernel) (by decide +kernel)
theorem lk_LLL_149 : Cond.methodLink "LightInRoomLaw" 149 m_Mod_glasses.1 ∈ zT := zT_in 1120 (by decide +kernel) (by decide +kernel)
theorem lk_LLL_153 : Cond.methodLink "LightInRoomLaw" 153 m_Mod_image.1 ∈ zT := zT_in 1124 (by decide +kernel) (by decide +kernel)
theorem lk_LLL_157 : Cond.methodLink "LightInRoomLaw" 157 m_Mod_on.1 ∈ zT := zT_in 1128 (by decide +kernel) (by decide +kernel)
theorem lk_LLL_161 : Cond.methodLink "LightInRoomLaw" 161 m_Mod_count.1 ∈ zT := zT_in 1132 (by decide +kernel) (by decide +kernel)
theorem kn_LLL_13 : Cond.constantLong "LightInRoomLaw" 13 4294967295 ∈ zT := zT_in 1136 (by decide +kernel) (by decide +kernel)
theorem sm_Wit_ownWeight : Cond.sameMethod "LightInRoom$Without" "LightInRoom$Without" "ownWeight" "()I" ∈ zT := zT_in 1137 (by decide +kernel) (by decide +kernel)
theorem sm_Nea_ownWeight : Cond.sameMethod "LightInRoom$Near" "LightInRoom$Near" "ownWeight" "()I" ∈ zT := zT_in 1138 (by decide +kernel) (by decide +kernel)
theorem sl_Lir_Lir_refuse : Cond.selects "LightInRoom" m_Lir_refuse.1 m_Lir_refuse.1 ∈ zT := zT_in 0 (by decide +kernel) (by decide +kernel)
theorem sl_Tap_Tap_readSize : Cond.selects "LightInRoom$Tape" m_Tap_readSize.1 m_Tap_readSize.1 ∈ zT := zT_in 1 (by decide +kernel) (by decide +kernel)
theorem sl_Tap_Tap_passes : Cond.selects "LightInRoom$Tape" m_Tap_passes.1 m_Tap_passes.1 ∈ zT := zT_in 2 (by decide +kernel) (by decide +kernel)
theorem sl_Tap_Tap_byteHere : Cond.selects "LightInRoom$Tape" m_Tap_byteHere.1 m_Tap_byteHere.1 ∈ zT := zT_in 3 (by decide +kernel) (by decide +kernel)
theorem sl_Tap_Tap_readNumber : Cond.selects "LightInRoom$Tape" m_Tap_readNumber.1 m_Tap_readNumber.1 ∈ zT := zT_in 4 (by decide +kernel) (by decide +kernel)
theorem sl_Tap_Tap_digitHere : Cond.selects "LightInRoom$Tape" m_Tap_digitHere.1 m_Tap_digitHere.1 ∈ zT := zT_in 5 (by decide +kernel) (by decide +kernel)
theorem sl_Tap_Tap_readSeconds : Cond.selects "LightInRoom$Tape" m_Tap_readSeconds.1 m_Tap_readSeconds.1 ∈ zT := zT_in 6 (by decide +kernel) (by decide +kernel)
theorem sl_Tap_Tap_readColour : Cond.selects "LightInRoom$Tape" m_Tap_readColour.1 m_Tap_readColour.1 ∈ zT := zT_in 7 (by decide +kernel) (by decide +kernel)
theorem sl_Tap_Tap_readMarks : Cond.selects "LightInRoom$Tape" m_Tap_readMarks.1 m_Tap_readMarks.1 ∈ zT := zT_in 8 (by decide +kernel) (by decide +kernel)
theorem sl_Tap_Tap_readYears : Cond.selects "LightInRoom$Tape" m_Tap_readYears.1 m_Tap_readYears.1 ∈ zT := zT_in 9 (by decide +kernel) (by decide +kernel)
theorem sl_Tap_Tap_readAsked : Cond.selects "LightInRoom$Tape" m_Tap_readAsked.1 m_Tap_readAsked.1 ∈ zT := zT_in 10 (by decide +kernel) (by decide +kernel)
theorem sl_Roo_Roo_heldNumber : Cond.selects "LightInRoom$Room" m_Roo_heldNumber.1 m_Roo_heldNumber.1 ∈ zT := zT_in 11 (by decide +kernel) (by decide +kernel)
theorem sl_Lir_Lir_refuseAsTold : Cond.selects "LightInRoom" m_Lir_refuseAsTold.1 m_Lir_refuseAsTold.1 ∈ zT := zT_in 12 (by decide +kernel) (by decide +kernel)
theorem sl_Lir_Lir_howManyFitOnly : Cond.selects "LightInRoom" m_Lir_howManyFitOnly.1 m_Lir_howManyFitOnly.1 ∈ zT := zT_in 13 (by decide +kernel) (by decide +kernel)
theorem sl_Lir_Lir_noteLaws : Cond.selects "LightInRoom" m_Lir_noteLaws.1 m_Lir_noteLaws.1 ∈ zT := zT_in 14 (by decide +kernel) (by decide +kernel)
theorem sl_Lir_Lir_coversAll : Cond.selects "LightInRoom" m_Lir_coversAll.1 m_Lir_coversAll.1 ∈ zT := zT_in 15 (by decide +kernel) (by decide +kernel)
theorem sl_Lir_Lir_noteBroken : Cond.selects "LightInRoom" m_Lir_noteBroken.1 m_Lir_noteBroken.1 ∈ zT := zT_in 16 (by decide +kernel) (by decide +kernel)
theorem sl_Lir_Lir_halfFitsWithout : Cond.selects "LightInRoom" m_Lir_halfFitsWithout.1 m_Lir_halfFitsWithout.1 ∈ zT := zT_in 17 (by decide +kernel) (by decide +kernel)
theorem sl_Lir_Lir_firstNotedLike : Cond.selects "LightInRoom" m_Lir_firstNotedLike.1 m_Lir_firstNotedLike.1 ∈ zT := zT_in 18 (by decide +kernel) (by decide +kernel)
theorem sl_Lir_Lir_howManyNotedLike : Cond.selects "LightInRoom" m_Lir_howManyNotedLike.1 m_Lir_howManyNotedLike.1 ∈ zT := zT_in 19 (by decide +kernel) (by decide +kernel)
theorem sl_Lir_Lir_refusalsCounted : Cond.selects "LightInRoom" m_Lir_refusalsCounted.1 m_Lir_refusalsCounted.1 ∈ zT := zT_in 20 (by decide +kernel) (by decide +kernel)
theorem sl_Mod_Mod_refuse : Cond.selects "LightInRoomModel" m_Mod_refuse.1 m_Mod_refuse.1 ∈ zT := zT_in 21 (by decide +kernel) (by decide +kernel)
theorem sl_Mod_Mod_reads : Cond.selects "LightInRoomModel" m_Mod_reads.1 m_Mod_reads.1 ∈ zT := zT_in 22 (by decide +kernel) (by decide +kernel)
theorem sl_Mod_Mod_takes : Cond.selects "LightInRoomModel" m_Mod_takes.1 m_Mod_takes.1 ∈ zT := zT_in 23 (by decide +kernel) (by decide +kernel)
theorem sl_Mod_Mod_sign : Cond.selects "LightInRoomModel" m_Mod_sign.1 m_Mod_sign.1 ∈ zT := zT_in 24 (by decide +kernel) (by decide +kernel)
theorem sl_Mod_Mod_readsNumber : Cond.selects "LightInRoomModel" m_Mod_readsNumber.1 m_Mod_readsNumber.1 ∈ zT := zT_in 25 (by decide +kernel) (by decide +kernel)
theorem sl_Mod_Mod_isDigit : Cond.selects "LightInRoomModel" m_Mod_isDigit.1 m_Mod_isDigit.1 ∈ zT := zT_in 26 (by decide +kernel) (by decide +kernel)
theorem sl_Mod_Mod_isTelling : Cond.selects "LightInRoomModel" m_Mod_isTelling.1 m_Mod_isTelling.1 ∈ zT := zT_in 27 (by decide +kernel) (by decide +kernel)
theorem sl_Mod_Mod_get : Cond.selects "LightInRoomModel" m_Mod_get.1 m_Mod_get.1 ∈ zT := zT_in 28 (by decide +kernel) (by decide +kernel)
theorem sl_Mod_Mod_kindOf : Cond.selects "LightInRoomModel" m_Mod_kindOf.1 m_Mod_kindOf.1 ∈ zT := zT_in 29 (by decide +kernel) (by decide +kernel)
theorem sl_Mod_Mod_isMarked : Cond.selects "LightInRoomModel" m_Mod_isMarked.1 m_Mod_isMarked.1 ∈ zT := zT_in 30 (by decide +kernel) (by decide +kernel)
theorem sl_Mod_Mod_weightOf : Cond.selects "LightInRoomModel" m_Mod_weightOf.1 m_Mod_weightOf.1 ∈ zT := zT_in 31 (by decide +kernel) (by decide +kernel)
theorem sl_Mod_Mod_becomes : Cond.selects "LightInRoomModel" m_Mod_becomes.1 m_Mod_becomes.1 ∈ zT := zT_in 32 (by decide +kernel) (by decide +kernel)
theorem sl_Mod_Mod_rightOf : Cond.selects "LightInRoomModel" m_Mod_rightOf.1 m_Mod_rightOf.1 ∈ zT := zT_in 33 (by decide +kernel) (by decide +kernel)
theorem sl_Mod_Mod_isFit : Cond.selects "LightInRoomModel" m_Mod_isFit.1 m_Mod_isFit.1 ∈ zT := zT_in 34 (by decide +kernel) (by decide +kernel)
theorem sl_Mod_Mod_meets : Cond.selects "LightInRoomModel" m_Mod_meets.1 m_Mod_meets.1 ∈ zT := zT_in 35 (by decide +kernel) (by decide +kernel)
theorem sl_Mod_Mod_lawsOf : Cond.selects "LightInRoomModel" m_Mod_lawsOf.1 m_Mod_lawsOf.1 ∈ zT := zT_in 36 (by decide +kernel) (by decide +kernel)
theorem sl_Mod_Mod_isCover : Cond.selects "LightInRoomModel" m_Mod_isCover.1 m_Mod_isCover.1 ∈ zT := zT_in 37 (by decide +kernel) (by decide +kernel)
theorem sl_Mod_Mod_shouldOf : Cond.selects "LightInRoomModel" m_Mod_shouldOf.1 m_Mod_shouldOf.1 ∈ zT := zT_in 38 (by decide +kernel) (by decide +kernel)
theorem sl_Mod_Mod_seenOf : Cond.selects "LightInRoomModel" m_Mod_seenOf.1 m_Mod_seenOf.1 ∈ zT := zT_in 39 (by decide +kernel) (by decide +kernel)
theorem sl_Mod_Mod_hasLine : Cond.selects "LightInRoomModel" m_Mod_hasLine.1 m_Mod_hasLine.1 ∈ zT := zT_in 40 (by decide +kernel) (by decide +kernel)
theorem sl_Lir_Lir_feed : Cond.selects "LightInRoom" m_Lir_feed.1 m_Lir_feed.1 ∈ zT := zT_in 224 (by decide +kernel) (by decide +kernel)
theorem sl_Tap_Tap_roomLeft : Cond.selects "LightInRoom$Tape" m_Tap_roomLeft.1 m_Tap_roomLeft.1 ∈ zT := zT_in 232 (by decide +kernel) (by decide +kernel)
theorem sl_Tap_Tap_add : Cond.selects "LightInRoom$Tape" m_Tap_add.1 m_Tap_add.1 ∈ zT := zT_in 236 (by decide +kernel) (by decide +kernel)
theorem sl_Lir_Lir_telling : Cond.selects "LightInRoom" m_Lir_telling.1 m_Lir_telling.1 ∈ zT := zT_in 241 (by decide +kernel) (by decide +kernel)
theorem sl_Tap_Tap_read : Cond.selects "LightInRoom$Tape" m_Tap_read.1 m_Tap_read.1 ∈ zT := zT_in 245 (by decide +kernel) (by decide +kernel)
theorem sl_Str_Str_length : Cond.selects "java/lang/String" m_Str_length.1 m_Str_length.1 ∈ zT := zT_in 282 (by decide +kernel) (by decide +kernel)
theorem sl_Str_Str_coder : Cond.selects "java/lang/String" m_Str_coder.1 m_Str_coder.1 ∈ zT := zT_in 286 (by decide +kernel) (by decide +kernel)
theorem sl_Str_Str_charAt : Cond.selects "java/lang/String" m_Str_charAt.1 m_Str_charAt.1 ∈ zT := zT_in 292 (by decide +kernel) (by decide +kernel)
theorem sl_Str_Str_isLatin1 : Cond.selects "java/lang/String" m_Str_isLatin1.1 m_Str_isLatin1.1 ∈ zT := zT_in 296 (by decide +kernel) (by decide +kernel)
theorem sl_Tap_Tap_clear : Cond.selects "LightInRoom$Tape" m_Tap_clear.1 m_Tap_clear.1 ∈ zT := zT_in 338 (by decide +kernel) (by decide +kernel)
theorem sl_Tap_Tap_newTelling : Cond.selects "LightInRoom$Tape" m_Tap_newTelling.1 m_Tap_newTelling.1 ∈ zT := zT_in 342 (by decide +kernel) (by decide +kernel)
theorem sl_Roo_Roo_addTelling : Cond.selects "LightInRoom$Room" m_Roo_addTelling.1 m_Roo_addTelling.1 ∈ zT := zT_in 462 (by decide +kernel) (by decide +kernel)
theorem sl_Lir_Lir_tellingOf : Cond.selects "LightInRoom" m_Lir_tellingOf.1 m_Lir_tellingOf.1 ∈ zT := zT_in 466 (by decide +kernel) (by decide +kernel)
theorem sl_Roo_Roo_tellingAt : Cond.selects "LightInRoom$Room" m_Roo_tellingAt.1 m_Roo_tellingAt.1 ∈ zT := zT_in 470 (by decide +kernel) (by decide +kernel)
theorem sl_Lir_Lir_kind : Cond.selects "LightInRoom" m_Lir_kind.1 m_Lir_kind.1 ∈ zT := zT_in 477 (by decide +kernel) (by decide +kernel)
theorem sl_Cal_Cal_kindNumber : Cond.selects "LightInRoom$Called" (⟨"LightInRoom$Telling", "kindNumber", "()I"⟩ : MethodName) m_Cal_kindNumber.1 ∈ zT := zT_in 482 (by decide +kernel) (by decide +kernel)
theorem sl_Eye_Eye_kindNumber : Cond.selects "LightInRoom$Eye" (⟨"LightInRoom$Telling", "kindNumber", "()I"⟩ : MethodName) m_Eye_kindNumber.1 ∈ zT := zT_in 485 (by decide +kernel) (by decide +kernel)
theorem sl_Gro_Gro_kindNumber : Cond.selects "LightInRoom$Grown" (⟨"LightInRoom$Telling", "kindNumber", "()I"⟩ : MethodName) m_Gro_kindNumber.1 ∈ zT := zT_in 488 (by decide +kernel) (by decide +kernel)
theorem sl_Nea_Nea_kindNumber : Cond.selects "LightInRoom$Near" (⟨"LightInRoom$Telling", "kindNumber", "()I"⟩ : MethodName) m_Nea_kindNumber.1 ∈ zT := zT_in 491 (by decide +kernel) (by decide +kernel)
theorem sl_Thr_Thr_kindNumber : Cond.selects "LightInRoom$Through" (⟨"LightInRoom$Telling", "kindNumber", "()I"⟩ : MethodName) m_Thr_kindNumber.1 ∈ zT := zT_in 494 (by decide +kernel) (by decide +kernel)
theorem sl_Wit_Wit_kindNumber : Cond.selects "LightInRoom$Without" (⟨"LightInRoom$Telling", "kindNumber", "()I"⟩ : MethodName) m_Wit_kindNumber.1 ∈ zT := zT_in 497 (by decide +kernel) (by decide +kernel)
theorem sl_Lir_Lir_weight : Cond.selects "LightInRoom" m_Lir_weight.1 m_Lir_weight.1 ∈ zT := zT_in 502 (by decide +kernel) (by decide +kernel)
theorem sl_Cal_Cal_ownWeight : Cond.selects "LightInRoom$Called" (⟨"LightInRoom$Telling", "ownWeight", "()I"⟩ : MethodName) m_Cal_ownWeight.1 ∈ zT := zT_in 507 (by decide +kernel) (by decide +kernel)
theorem sl_Eye_Eye_ownWeight : Cond.selects "LightInRoom$Eye" (⟨"LightInRoom$Telling", "ownWeight", "()I"⟩ : MethodName) m_Eye_ownWeight.1 ∈ zT := zT_in 510 (by decide +kernel) (by decide +kernel)
theorem sl_Gro_Gro_ownWeight : Cond.selects "LightInRoom$Grown" (⟨"LightInRoom$Telling", "ownWeight", "()I"⟩ : MethodName) m_Gro_ownWeight.1 ∈ zT := zT_in 513 (by decide +kernel) (by decide +kernel)
theorem sl_Nea_Nea_ownWeight : Cond.selects "LightInRoom$Near" (⟨"LightInRoom$Telling", "ownWeight", "()I"⟩ : MethodName) m_Nea_ownWeight.1 ∈ zT := zT_in 519 (by decide +kernel) (by decide +kernel)
theorem sl_Thr_Thr_ownWeight : Cond.selects "LightInRoom$Through" (⟨"LightInRoom$Telling", "ownWeight", "()I"⟩ : MethodName) m_Thr_ownWeight.1 ∈ zT := zT_in 522 (by decide +kernel) (by decide +kernel)
theorem sl_Wit_Wit_ownWeight : Cond.selects "LightInRoom$Without" (⟨"LightInRoom$Telling", "ownWeight", "()I"⟩ : MethodName) m_Wit_ownWeight.1 ∈ zT := zT_in 526 (by decide +kernel) (by decide +kernel)
theorem sl_Lir_Lir_law : Cond.selects "LightInRoom" m_Lir_law.1 m_Lir_law.1 ∈ zT := zT_in 529 (by decide +kernel) (by decide +kernel)
theorem sl_Roo_Roo_lawAt : Cond.selects "LightInRoom$Room" m_Roo_lawAt.1 m_Roo_lawAt.1 ∈ zT := zT_in 533 (by decide +kernel) (by decide +kernel)
theorem sl_Lir_Lir_right : Cond.selects "LightInRoom" m_Lir_right.1 m_Lir_right.1 ∈ zT := zT_in 543 (by decide +kernel) (by decide +kernel)
theorem sl_Lir_Lir_growth : Cond.selects "LightInRoom" m_Lir_growth.1 m_Lir_growth.1 ∈ zT := zT_in 547 (by decide +kernel) (by decide +kernel)
theorem sl_Lir_Lir_put : Cond.selects "LightInRoom" m_Lir_put.1 m_Lir_put.1 ∈ zT := zT_in 554 (by decide +kernel) (by decide +kernel)
theorem sl_Roo_Roo_rightNumber : Cond.selects "LightInRoom$Room" m_Roo_rightNumber.1 m_Roo_rightNumber.1 ∈ zT := zT_in 558 (by decide +kernel) (by decide +kernel)
theorem sl_Cal_Tel_lacks : Cond.selects "LightInRoom$Called" m_Tel_lacks.1 m_Tel_lacks.1 ∈ zT := zT_in 563 (by decide +kernel) (by decide +kernel)
theorem sl_Eye_Tel_lacks : Cond.selects "LightInRoom$Eye" m_Tel_lacks.1 m_Tel_lacks.1 ∈ zT := zT_in 564 (by decide +kernel) (by decide +kernel)
theorem sl_Gro_Tel_lacks : Cond.selects "LightInRoom$Grown" m_Tel_lacks.1 m_Tel_lacks.1 ∈ zT := zT_in 565 (by decide +kernel) (by decide +kernel)
theorem sl_Nea_Tel_lacks : Cond.selects "LightInRoom$Near" m_Tel_lacks.1 m_Tel_lacks.1 ∈ zT := zT_in 566 (by decide +kernel) (by decide +kernel)
theorem sl_Thr_Tel_lacks : Cond.selects "LightInRoom$Through" m_Tel_lacks.1 m_Tel_lacks.1 ∈ zT := zT_in 567 (by decide +kernel) (by decide +kernel)
theorem sl_Wit_Tel_lacks : Cond.selects "LightInRoom$Without" m_Tel_lacks.1 m_Tel_lacks.1 ∈ zT := zT_in 568 (by decide +kernel) (by decide +kernel)
theorem sl_Cal_Tel_numberTold : Cond.selects "LightInRoom$Called" m_Tel_numberTold.1 m_Tel_numberTold.1 ∈ zT := zT_in 573 (by decide +kernel) (by decide +kernel)
theorem sl_Eye_Tel_numberTold : Cond.selects "LightInRoom$Eye" m_Tel_numberTold.1 m_Tel_numberTold.1 ∈ zT := zT_in 574 (by decide +kernel) (by decide +kernel)
theorem sl_Gro_Tel_numberTold : Cond.selects "LightInRoom$Grown" m_Tel_numberTold.1 m_Tel_numberTold.1 ∈ zT := zT_in 575 (by decide +kernel) (by decide +kernel)
theorem sl_Nea_Tel_numberTold : Cond.selects "LightInRoom$Near" m_Tel_numberTold.1 m_Tel_numberTold.1 ∈ zT := zT_in 576 (by decide +kernel) (by decide +kernel)
theorem sl_Thr_Tel_numberTold : Cond.selects "LightInRoom$Through" m_Tel_numberTold.1 m_Tel_numberTold.1 ∈ zT := zT_in 577 (by decide +kernel) (by decide +kernel)
theorem sl_Wit_Tel_numberTold : Cond.selects "LightInRoom$Without" m_Tel_numberTold.1 m_Tel_numberTold.1 ∈ zT := zT_in 578 (by decide +kernel) (by decide +kernel)
theorem sl_Lir_Lir_fits : Cond.selects "LightInRoom" m_Lir_fits.1 m_Lir_fits.1 ∈ zT := zT_in 583 (by decide +kernel) (by decide +kernel)
theorem sl_Roo_Roo_brokenBy : Cond.selects "LightInRoom$Room" m_Roo_brokenBy.1 m_Roo_brokenBy.1 ∈ zT := zT_in 587 (by decide +kernel) (by decide +kernel)
theorem sl_Law_Law_brokenBy : Cond.selects "LightInRoom$Law" m_Law_brokenBy.1 m_Law_brokenBy.1 ∈ zT := zT_in 596 (by decide +kernel) (by decide +kernel)
theorem sl_Lir_Lir_share : Cond.selects "LightInRoom" m_Lir_share.1 m_Lir_share.1 ∈ zT := zT_in 601 (by decide +kernel) (by decide +kernel)
theorem sl_Lir_Lir_only : Cond.selects "LightInRoom" m_Lir_only.1 m_Lir_only.1 ∈ zT := zT_in 619 (by decide +kernel) (by decide +kernel)
theorem sl_Roo_Roo_lawsFitted : Cond.selects "LightInRoom$Room" m_Roo_lawsFitted.1 m_Roo_lawsFitted.1 ∈ zT := zT_in 627 (by decide +kernel) (by decide +kernel)
theorem sl_Lir_Lir_cover : Cond.selects "LightInRoom" m_Lir_cover.1 m_Lir_cover.1 ∈ zT := zT_in 632 (by decide +kernel) (by decide +kernel)
theorem sl_Lir_Lir_half : Cond.selects "LightInRoom" m_Lir_half.1 m_Lir_half.1 ∈ zT := zT_in 650 (by decide +kernel) (by decide +kernel)
theorem sl_Lir_Lir_sorts : Cond.selects "LightInRoom" m_Lir_sorts.1 m_Lir_sorts.1 ∈ zT := zT_in 662 (by decide +kernel) (by decide +kernel)
theorem sl_Lir_Lir_alike : Cond.selects "LightInRoom" m_Lir_alike.1 m_Lir_alike.1 ∈ zT := zT_in 677 (by decide +kernel) (by decide +kernel)
theorem sl_Lir_Lir_together : Cond.selects "LightInRoom" m_Lir_together.1 m_Lir_together.1 ∈ zT := zT_in 681 (by decide +kernel) (by decide +kernel)
theorem sl_Cal_Tel_has : Cond.selects "LightInRoom$Called" m_Tel_has.1 m_Tel_has.1 ∈ zT := zT_in 689 (by decide +kernel) (by decide +kernel)
theorem sl_Eye_Tel_has : Cond.selects "LightInRoom$Eye" m_Tel_has.1 m_Tel_has.1 ∈ zT := zT_in 690 (by decide +kernel) (by decide +kernel)
theorem sl_Gro_Tel_has : Cond.selects "LightInRoom$Grown" m_Tel_has.1 m_Tel_has.1 ∈ zT := zT_in 691 (by decide +kernel) (by decide +kernel)
theorem sl_Nea_Tel_has : Cond.selects "LightInRoom$Near" m_Tel_has.1 m_Tel_has.1 ∈ zT := zT_in 692 (by decide +kernel) (by decide +kernel)
theorem sl_Thr_Tel_has : Cond.selects "LightInRoom$Through" m_Tel_has.1 m_Tel_has.1 ∈ zT := zT_in 693 (by decide +kernel) (by decide +kernel)
theorem sl_Wit_Tel_has : Cond.selects "LightInRoom$Without" m_Tel_has.1 m_Tel_has.1 ∈ zT := zT_in 694 (by decide +kernel) (by decide +kernel)
theorem sl_Lir_Lir_twice : Cond.selects "LightInRoom" m_Lir_twice.1 m_Lir_twice.1 ∈ zT := zT_in 702 (by decide +kernel) (by decide +kernel)
theorem sl_Roo_Roo_addPair : Cond.selects "LightInRoom$Room" m_Roo_addPair.1 m_Roo_addPair.1 ∈ zT := zT_in 706 (by decide +kernel) (by decide +kernel)
theorem sl_Lir_Lir_grows : Cond.selects "LightInRoom" m_Lir_grows.1 m_Lir_grows.1 ∈ zT := zT_in 710 (by decide +kernel) (by decide +kernel)
theorem sl_Roo_Roo_firstOfPair : Cond.selects "LightInRoom$Room" m_Roo_firstOfPair.1 m_Roo_firstOfPair.1 ∈ zT := zT_in 714 (by decide +kernel) (by decide +kernel)
theorem sl_Roo_Roo_secondOfPair : Cond.selects "LightInRoom$Room" m_Roo_secondOfPair.1 m_Roo_secondOfPair.1 ∈ zT := zT_in 718 (by decide +kernel) (by decide +kernel)
theorem sl_Lir_Lir_people : Cond.selects "LightInRoom" m_Lir_people.1 m_Lir_people.1 ∈ zT := zT_in 724 (by decide +kernel) (by decide +kernel)
theorem sl_Lir_Lir_strokes : Cond.selects "LightInRoom" m_Lir_strokes.1 m_Lir_strokes.1 ∈ zT := zT_in 728 (by decide +kernel) (by decide +kernel)
theorem sl_Lir_Lir_reach : Cond.selects "LightInRoom" m_Lir_reach.1 m_Lir_reach.1 ∈ zT := zT_in 732 (by decide +kernel) (by decide +kernel)
theorem sl_Lir_Lir_should : Cond.selects "LightInRoom" m_Lir_should.1 m_Lir_should.1 ∈ zT := zT_in 736 (by decide +kernel) (by decide +kernel)
theorem sl_Roo_Roo_shownTo : Cond.selects "LightInRoom$Room" m_Roo_shownTo.1 m_Roo_shownTo.1 ∈ zT := zT_in 740 (by decide +kernel) (by decide +kernel)
theorem sl_Lir_Lir_seen : Cond.selects "LightInRoom" m_Lir_seen.1 m_Lir_seen.1 ∈ zT := zT_in 744 (by decide +kernel) (by decide +kernel)
theorem sl_Roo_Roo_howManyFit : Cond.selects "LightInRoom$Room" m_Roo_howManyFit.1 m_Roo_howManyFit.1 ∈ zT := zT_in 748 (by decide +kernel) (by decide +kernel)
theorem sl_Lir_Lir_beyond : Cond.selects "LightInRoom" m_Lir_beyond.1 m_Lir_beyond.1 ∈ zT := zT_in 753 (by decide +kernel) (by decide +kernel)
theorem sl_Lir_Lir_leads : Cond.selects "LightInRoom" m_Lir_leads.1 m_Lir_leads.1 ∈ zT := zT_in 757 (by decide +kernel) (by decide +kernel)
theorem sl_Roo_Roo_howManyAsked : Cond.selects "LightInRoom$Room" m_Roo_howManyAsked.1 m_Roo_howManyAsked.1 ∈ zT := zT_in 761 (by decide +kernel) (by decide +kernel)
theorem sl_Roo_Roo_howManyAskedFit : Cond.selects "LightInRoom$Room" m_Roo_howManyAskedFit.1 m_Roo_howManyAskedFit.1 ∈ zT := zT_in 765 (by decide +kernel) (by decide +kernel)
theorem sl_Lir_Lir_pictures : Cond.selects "LightInRoom" m_Lir_pictures.1 m_Lir_pictures.1 ∈ zT := zT_in 769 (by decide +kernel) (by decide +kernel)
theorem sl_Lir_Lir_bench : Cond.selects "LightInRoom" m_Lir_bench.1 m_Lir_bench.1 ∈ zT := zT_in 773 (by decide +kernel) (by decide +kernel)
theorem sl_Ben_Ben_tell : Cond.selects "LightInRoom$Bench" m_Ben_tell.1 m_Ben_tell.1 ∈ zT := zT_in 777 (by decide +kernel) (by decide +kernel)
theorem sl_Lir_Lir_lines : Cond.selects "LightInRoom" m_Lir_lines.1 m_Lir_lines.1 ∈ zT := zT_in 781 (by decide +kernel) (by decide +kernel)
theorem sl_Ben_Ben_linesLacking : Cond.selects "LightInRoom$Bench" m_Ben_linesLacking.1 m_Ben_linesLacking.1 ∈ zT := zT_in 785 (by decide +kernel) (by decide +kernel)
theorem sl_Lir_Lir_misses : Cond.selects "LightInRoom" m_Lir_misses.1 m_Lir_misses.1 ∈ zT := zT_in 789 (by decide +kernel) (by decide +kernel)
theorem sl_Lir_Lir_barred : Cond.selects "LightInRoom" m_Lir_barred.1 m_Lir_barred.1 ∈ zT := zT_in 794 (by decide +kernel) (by decide +kernel)
theorem sl_Lir_Lir_glasses : Cond.selects "LightInRoom" m_Lir_glasses.1 m_Lir_glasses.1 ∈ zT := zT_in 798 (by decide +kernel) (by decide +kernel)
theorem sl_Roo_Roo_fullestRing : Cond.selects "LightInRoom$Room" m_Roo_fullestRing.1 m_Roo_fullestRing.1 ∈ zT := zT_in 802 (by decide +kernel) (by decide +kernel)
theorem sl_Lir_Lir_image : Cond.selects "LightInRoom" m_Lir_image.1 m_Lir_image.1 ∈ zT := zT_in 807 (by decide +kernel) (by decide +kernel)
theorem sl_Roo_Roo_becomeLike : Cond.selects "LightInRoom$Room" m_Roo_becomeLike.1 m_Roo_becomeLike.1 ∈ zT := zT_in 811 (by decide +kernel) (by decide +kernel)
theorem sl_Law_Law_becomeLike : Cond.selects "LightInRoom$Law" m_Law_becomeLike.1 m_Law_becomeLike.1 ∈ zT := zT_in 818 (by decide +kernel) (by decide +kernel)
theorem sl_Lir_Lir_on : Cond.selects "LightInRoom" m_Lir_on.1 m_Lir_on.1 ∈ zT := zT_in 833 (by decide +kernel) (by decide +kernel)
theorem sl_Lir_Lir_count : Cond.selects "LightInRoom" m_Lir_count.1 m_Lir_count.1 ∈ zT := zT_in 837 (by decide +kernel) (by decide +kernel)
theorem sl_Roo_Roo_howManyGaps : Cond.selects "LightInRoom$Room" m_Roo_howManyGaps.1 m_Roo_howManyGaps.1 ∈ zT := zT_in 841 (by decide +kernel) (by decide +kernel)
theorem sl_Cal_Tel_gaps : Cond.selects "LightInRoom$Called" m_Tel_gaps.1 m_Tel_gaps.1 ∈ zT := zT_in 846 (by decide +kernel) (by decide +kernel)
theorem sl_Eye_Tel_gaps : Cond.selects "LightInRoom$Eye" m_Tel_gaps.1 m_Tel_gaps.1 ∈ zT := zT_in 847 (by decide +kernel) (by decide +kernel)
theorem sl_Gro_Tel_gaps : Cond.selects "LightInRoom$Grown" m_Tel_gaps.1 m_Tel_gaps.1 ∈ zT := zT_in 848 (by decide +kernel) (by decide +kernel)
theorem sl_Nea_Tel_gaps : Cond.selects "LightInRoom$Near" m_Tel_gaps.1 m_Tel_gaps.1 ∈ zT := zT_in 849 (by decide +kernel) (by decide +kernel)
theorem sl_Thr_Tel_gaps : Cond.selects "LightInRoom$Through" m_Tel_gaps.1 m_Tel_gaps.1 ∈ zT := zT_in 850 (by decide +kernel) (by decide +kernel)
theorem sl_Wit_Tel_gaps : Cond.selects "LightInRoom$Without" m_Tel_gaps.1 m_Tel_gaps.1 ∈ zT := zT_in 851 (by decide +kernel) (by decide +kernel)
theorem sl_Roo_Roo_howManyMarks : Cond.selects "LightInRoom$Room" m_Roo_howManyMarks.1 m_Roo_howManyMarks.1 ∈ zT := zT_in 855 (by decide +kernel) (by decide +kernel)
theorem sl_Mod_Mod_feed : Cond.selects "LightInRoomModel" m_Mod_feed.1 m_Mod_feed.1 ∈ zT := zT_in 895 (by decide +kernel) (by decide +kernel)
theorem sl_Mod_Mod_telling : Cond.selects "LightInRoomModel" m_Mod_telling.1 m_Mod_telling.1 ∈ zT := zT_in 904 (by decide +kernel) (by decide +kernel)
theorem sl_Mod_Mod_tellingOf : Cond.selects "LightInRoomModel" m_Mod_tellingOf.1 m_Mod_tellingOf.1 ∈ zT := zT_in 931 (by decide +kernel) (by decide +kernel)
theorem sl_Mod_Mod_kind : Cond.selects "LightInRoomModel" m_Mod_kind.1 m_Mod_kind.1 ∈ zT := zT_in 946 (by decide +kernel) (by decide +kernel)
theorem sl_Mod_Mod_weight : Cond.selects "LightInRoomModel" m_Mod_weight.1 m_Mod_weight.1 ∈ zT := zT_in 958 (by decide +kernel) (by decide +kernel)
theorem sl_Mod_Mod_law : Cond.selects "LightInRoomModel" m_Mod_law.1 m_Mod_law.1 ∈ zT := zT_in 966 (by decide +kernel) (by decide +kernel)
theorem sl_Mod_Mod_right : Cond.selects "LightInRoomModel" m_Mod_right.1 m_Mod_right.1 ∈ zT := zT_in 980 (by decide +kernel) (by decide +kernel)
theorem sl_Mod_Mod_growth : Cond.selects "LightInRoomModel" m_Mod_growth.1 m_Mod_growth.1 ∈ zT := zT_in 984 (by decide +kernel) (by decide +kernel)
theorem sl_Mod_Mod_put : Cond.selects "LightInRoomModel" m_Mod_put.1 m_Mod_put.1 ∈ zT := zT_in 988 (by decide +kernel) (by decide +kernel)
theorem sl_Mod_Mod_fits : Cond.selects "LightInRoomModel" m_Mod_fits.1 m_Mod_fits.1 ∈ zT := zT_in 996 (by decide +kernel) (by decide +kernel)
theorem sl_Mod_Mod_share : Cond.selects "LightInRoomModel" m_Mod_share.1 m_Mod_share.1 ∈ zT := zT_in 1008 (by decide +kernel) (by decide +kernel)
theorem sl_Mod_Mod_only : Cond.selects "LightInRoomModel" m_Mod_only.1 m_Mod_only.1 ∈ zT := zT_in 1019 (by decide +kernel) (by decide +kernel)
theorem sl_Mod_Mod_cover : Cond.selects "LightInRoomModel" m_Mod_cover.1 m_Mod_cover.1 ∈ zT := zT_in 1027 (by decide +kernel) (by decide +kernel)
theorem sl_Mod_Mod_half : Cond.selects "LightInRoomModel" m_Mod_half.1 m_Mod_half.1 ∈ zT := zT_in 1038 (by decide +kernel) (by decide +kernel)
theorem sl_Mod_Mod_sorts : Cond.selects "LightInRoomModel" m_Mod_sorts.1 m_Mod_sorts.1 ∈ zT := zT_in 1042 (by decide +kernel) (by decide +kernel)
theorem sl_Mod_Mod_alike : Cond.selects "LightInRoomModel" m_Mod_alike.1 m_Mod_alike.1 ∈ zT := zT_in 1046 (by decide +kernel) (by decide +kernel)
theorem sl_Mod_Mod_together : Cond.selects "LightInRoomModel" m_Mod_together.1 m_Mod_together.1 ∈ zT := zT_in 1050 (by decide +kernel) (by decide +kernel)
theorem sl_Mod_Mod_twice : Cond.selects "LightInRoomModel" m_Mod_twice.1 m_Mod_twice.1 ∈ zT := zT_in 1054 (by decide +kernel) (by decide +kernel)
theorem sl_Mod_Mod_grows : Cond.selects "LightInRoomModel" m_Mod_grows.1 m_Mod_grows.1 ∈ zT := zT_in 1058 (by decide +kernel) (by decide +kernel)
theorem sl_Mod_Mod_people : Cond.selects "LightInRoomModel" m_Mod_people.1 m_Mod_people.1 ∈ zT := zT_in 1062 (by decide +kernel) (by decide +kernel)
theorem sl_Mod_Mod_strokes : Cond.selects "LightInRoomModel" m_Mod_strokes.1 m_Mod_strokes.1 ∈ zT := zT_in 1066 (by decide +kernel) (by decide +kernel)
theorem sl_Mod_Mod_reach : Cond.selects "LightInRoomModel" m_Mod_reach.1 m_Mod_reach.1 ∈ zT := zT_in 1070 (by decide +kernel) (by decide +kernel)
theorem sl_Mod_Mod_should : Cond.selects "LightInRoomModel" m_Mod_should.1 m_Mod_should.1 ∈ zT := zT_in 1074 (by decide +kernel) (by decide +kernel)
theorem sl_Mod_Mod_seen : Cond.selects "LightInRoomModel" m_Mod_seen.1 m_Mod_seen.1 ∈ zT := zT_in 1082 (by decide +kernel) (by decide +kernel)
theorem sl_Mod_Mod_beyond : Cond.selects "LightInRoomModel" m_Mod_beyond.1 m_Mod_beyond.1 ∈ zT := zT_in 1090 (by decide +kernel) (by decide +kernel)
theorem sl_Mod_Mod_leads : Cond.selects "LightInRoomModel" m_Mod_leads.1 m_Mod_leads.1 ∈ zT := zT_in 1094 (by decide +kernel) (by decide +kernel)
theorem sl_Mod_Mod_pictures : Cond.selects "LightInRoomModel" m_Mod_pictures.1 m_Mod_pictures.1 ∈ zT := zT_in 1098 (by decide +kernel) (by decide +kernel)
theorem sl_Mod_Mod_bench : Cond.selects "LightInRoomModel" m_Mod_bench.1 m_Mod_bench.1 ∈ zT := zT_in 1102 (by decide +kernel) (by decide +kernel)
theorem sl_Mod_Mod_lines : Cond.selects "LightInRoomModel" m_Mod_lines.1 m_Mod_lines.1 ∈ zT := zT_in 1106 (by decide +kernel) (by decide +kernel)
theorem sl_Mod_Mod_misses : Cond.selects "LightInRoomModel" m_Mod_misses.1 m_Mod_misses.1 ∈ zT := zT_in 1114 (by decide +kernel) (by decide +kernel)
theorem sl_Mod_Mod_barred : Cond.selects "LightInRoomModel" m_Mod_barred.1 m_Mod_barred.1 ∈ zT := zT_in 1118 (by decide +kernel) (by decide +kernel)
theorem sl_Mod_Mod_glasses : Cond.selects "LightInRoomModel" m_Mod_glasses.1 m_Mod_glasses.1 ∈ zT := zT_in 1122 (by decide +kernel) (by decide +kernel)
theorem sl_Mod_Mod_image : Cond.selects "LightInRoomModel" m_Mod_image.1 m_Mod_image.1 ∈ zT := zT_in 1126 (by decide +kernel) (by decide +kernel)
theorem sl_Mod_Mod_on : Cond.selects "LightInRoomModel" m_Mod_on.1 m_Mod_on.1 ∈ zT := zT_in 1130 (by decide +kernel) (by decide +kernel)
theorem sl_Mod_Mod_count : Cond.selects "LightInRoomModel" m_Mod_count.1 m_Mod_count.1 ∈ zT := zT_in 1134 (by decide +kernel) (by decide +kernel)
theorem zo_2 : Cond.instanceMethod objectInit ∈ zT := zT_in 68 (by decide +kernel) (by decide +kernel)
theorem zo_3 : Cond.code objectInit ⟨#[0xb1]⟩ 1 none ∈ zT := zT_in 69 (by decide +kernel) (by decide +kernel)
theorem fl_Tap_9_7 : zfl "LightInRoom$Tape" 9 7 0 := ⟨"LightInRoom$Tape", "LightInRoom$Tape", zF_Tap, 9, rfl, by decide, zc_Tap, zT_in 76 (by decide +kernel) (by decide +kernel), Or.inl rfl⟩
theorem fp_Tap_9_7 : zfp "LightInRoom$Tape" 9 7 0 true (.array .int) := ⟨"LightInRoom$Tape", zF_Tap, 9, zt_Tap, rfl, by decide, zc_Tap, zy_Tap, zn_Tap, zT_in 76 (by decide +kernel) (by decide +kernel), rfl, (fun _ => rfl), by decide +kernel⟩
theorem fl_Tap_15_7 : zfl "LightInRoom$Tape" 15 7 1 := ⟨"LightInRoom$Tape", "LightInRoom$Tape", zF_Tap, 9, rfl, by decide, zc_Tap, zT_in 77 (by decide +kernel) (by decide +kernel), Or.inl rfl⟩
theorem fp_Tap_15_7 : zfp "LightInRoom$Tape" 15 7 1 false .int := ⟨"LightInRoom$Tape", zF_Tap, 9, zt_Tap, rfl, by decide, zc_Tap, zy_Tap, zn_Tap, zT_in 77 (by decide +kernel) (by decide +kernel), rfl, (fun h => by cases h), by decide +kernel⟩
theorem fl_Lir_49_7 : zfl "LightInRoom" 49 7 1 := ⟨"LightInRoom$Tape", "LightInRoom$Tape", zF_Tap, 9, rfl, by decide, zc_Tap, zT_in 78 (by decide +kernel) (by decide +kernel), Or.inl rfl⟩
theorem fl_Lir_71_7 : zfl "LightInRoom" 71 7 2 := ⟨"LightInRoom$Tape", "LightInRoom$Tape", zF_Tap, 9, rfl, by decide, zc_Tap, zT_in 79 (by decide +kernel) (by decide +kernel), Or.inl rfl⟩
theorem fl_Tap_21_7 : zfl "LightInRoom$Tape" 21 7 2 := ⟨"LightInRoom$Tape", "LightInRoom$Tape", zF_Tap, 9, rfl, by decide, zc_Tap, zT_in 80 (by decide +kernel) (by decide +kernel), Or.inl rfl⟩
theorem fp_Tap_21_7 : zfp "LightInRoom$Tape" 21 7 2 false .int := ⟨"LightInRoom$Tape", zF_Tap, 9, zt_Tap, rfl, by decide, zc_Tap, zy_Tap, zn_Tap, zT_in 80 (by decide +kernel) (by decide +kernel), rfl, (fun h => by cases h), by decide +kernel⟩
theorem fl_Tel_9_7 : zfl "LightInRoom$Telling" 9 7 3 := ⟨"LightInRoom$Tape", "LightInRoom$Tape", zF_Tap, 9, rfl, by decide, zc_Tap, zT_in 81 (by decide +kernel) (by decide +kernel), Or.inl rfl⟩
theorem fl_Tap_84_7 : zfl "LightInRoom$Tape" 84 7 3 := ⟨"LightInRoom$Tape", "LightInRoom$Tape", zF_Tap, 9, rfl, by decide, zc_Tap, zT_in 82 (by decide +kernel) (by decide +kernel), Or.inl rfl⟩
theorem fp_Tap_84_7 : zfp "LightInRoom$Tape" 84 7 3 false .int := ⟨"LightInRoom$Tape", zF_Tap, 9, zt_Tap, rfl, by decide, zc_Tap, zy_Tap, zn_Tap, zT_in 82 (by decide +kernel) (by decide +kernel), rfl, (fun h => by cases h), by decide +kernel⟩
theorem fl_Tel_18_7 : zfl "LightInRoom$Telling" 18 7 4 := ⟨"LightInRoom$Tape", "LightInRoom$Tape", zF_Tap, 9, rfl, by decide, zc_Tap, zT_in 83 (by decide +kernel) (by decide +kernel), Or.inl rfl⟩
theorem fl_Tap_95_7 : zfl "LightInRoom$Tape" 95 7 4 := ⟨"LightInRoom$Tape", "LightInRoom$Tape", zF_Tap, 9, rfl, by decide, zc_Tap, zT_in 84 (by decide +kernel) (by decide +kernel), Or.inl rfl⟩
theorem fp_Tap_95_7 : zfp "LightInRoom$Tape" 95 7 4 false .int := ⟨"LightInRoom$Tape", zF_Tap, 9, zt_Tap, rfl, by decide, zc_Tap, zy_Tap, zn_Tap, zT_in 84 (by decide +kernel) (by decide +kernel), rfl, (fun h => by cases h), by decide +kernel⟩
theorem fl_Tel_22_7 : zfl "LightInRoom$Telling" 22 7 5 := ⟨"LightInRoom$Tape", "LightInRoom$Tape", zF_Tap, 9, rfl, by decide, zc_Tap, zT_in 85 (by decide +kernel) (by decide +kernel), Or.inl rfl⟩
theorem fl_Tap_98_7 : zfl "LightInRoom$Tape" 98 7 5 := ⟨"LightInRoom$Tape", "LightInRoom$Tape", zF_Tap, 9, rfl, by decide, zc_Tap, zT_in 86 (by decide +kernel) (by decide +kernel), Or.inl rfl⟩
theorem fp_Tap_98_7 : zfp "LightInRoom$Tape" 98 7 5 false .int := ⟨"LightInRoom$Tape", zF_Tap, 9, zt_Tap, rfl, by decide, zc_Tap, zy_Tap, zn_Tap, zT_in 86 (by decide +kernel) (by decide +kernel), rfl, (fun h => by cases h), by decide +kernel⟩
theorem fl_Tel_26_7 : zfl "LightInRoom$Telling" 26 7 6 := ⟨"LightInRoom$Tape", "LightInRoom$Tape", zF_Tap, 9, rfl, by decide, zc_Tap, zT_in 87 (by decide +kernel) (by decide +kernel), Or.inl rfl⟩
theorem fl_Tap_52_7 : zfl "LightInRoom$Tape" 52 7 6 := ⟨"LightInRoom$Tape", "LightInRoom$Tape", zF_Tap, 9, rfl, by decide, zc_Tap, zT_in 88 (by decide +kernel) (by decide +kernel), Or.inl rfl⟩
theorem fp_Tap_52_7 : zfp "LightInRoom$Tape" 52 7 6 false .int := ⟨"LightInRoom$Tape", zF_Tap, 9, zt_Tap, rfl, by decide, zc_Tap, zy_Tap, zn_Tap, zT_in 88 (by decide +kernel) (by decide +kernel), rfl, (fun h => by cases h), by decide +kernel⟩
theorem fl_Tel_30_7 : zfl "LightInRoom$Telling" 30 7 7 := ⟨"LightInRoom$Tape", "LightInRoom$Tape", zF_Tap, 9, rfl, by decide, zc_Tap, zT_in 89 (by decide +kernel) (by decide +kernel), Or.inl rfl⟩
theorem fl_Tap_68_7 : zfl "LightInRoom$Tape" 68 7 7 := ⟨"LightInRoom$Tape", "LightInRoom$Tape", zF_Tap, 9, rfl, by decide, zc_Tap, zT_in 90 (by decide +kernel) (by decide +kernel), Or.inl rfl⟩
theorem fp_Tap_68_7 : zfp "LightInRoom$Tape" 68 7 7 false .int := ⟨"LightInRoom$Tape", zF_Tap, 9, zt_Tap, rfl, by decide, zc_Tap, zy_Tap, zn_Tap, zT_in 90 (by decide +kernel) (by decide +kernel), rfl, (fun h => by cases h), by decide +kernel⟩
theorem fl_Tel_34_7 : zfl "LightInRoom$Telling" 34 7 8 := ⟨"LightInRoom$Tape", "LightInRoom$Tape", zF_Tap, 9, rfl, by decide, zc_Tap, zT_in 91 (by decide +kernel) (by decide +kernel), Or.inl rfl⟩
theorem fl_Tap_43_7 : zfl "LightInRoom$Tape" 43 7 8 := ⟨"LightInRoom$Tape", "LightInRoom$Tape", zF_Tap, 9, rfl, by decide, zc_Tap, zT_in 92 (by decide +kernel) (by decide +kernel), Or.inl rfl⟩
theorem fp_Tap_43_7 : zfp "LightInRoom$Tape" 43 7 8 false .boolean := ⟨"LightInRoom$Tape", zF_Tap, 9, zt_Tap, rfl, by decide, zc_Tap, zy_Tap, zn_Tap, zT_in 92 (by decide +kernel) (by decide +kernel), rfl, (fun h => by cases h), by decide +kernel⟩
theorem fl_Law_9_4 : zfl "LightInRoom$Law" 9 4 0 := ⟨"LightInRoom$Law", "LightInRoom$Law", zF_Law, 2, rfl, by decide, zc_Law, zT_in 128 (by decide +kernel) (by decide +kernel), Or.inl rfl⟩
theorem fp_Law_9_4 : zfp "LightInRoom$Law" 9 4 0 true (.array .int) := ⟨"LightInRoom$Law", zF_Law, 2, zt_Law, rfl, by decide, zc_Law, zy_Law, zn_Law, zT_in 128 (by decide +kernel) (by decide +kernel), rfl, (fun _ => rfl), by decide +kernel⟩
theorem fl_Lir_112_4 : zfl "LightInRoom" 112 4 0 := ⟨"LightInRoom$Law", "LightInRoom$Law", zF_Law, 2, rfl, by decide, zc_Law, zT_in 129 (by decide +kernel) (by decide +kernel), Or.inl rfl⟩
theorem fl_Law_15_4 : zfl "LightInRoom$Law" 15 4 1 := ⟨"LightInRoom$Law", "LightInRoom$Law", zF_Law, 2, rfl, by decide, zc_Law, zT_in 130 (by decide +kernel) (by decide +kernel), Or.inl rfl⟩
theorem fp_Law_15_4 : zfp "LightInRoom$Law" 15 4 1 false .int := ⟨"LightInRoom$Law", zF_Law, 2, zt_Law, rfl, by decide, zc_Law, zy_Law, zn_Law, zT_in 130 (by decide +kernel) (by decide +kernel), rfl, (fun h => by cases h), by decide +kernel⟩
theorem fl_Roo_132_4 : zfl "LightInRoom$Room" 132 4 1 := ⟨"LightInRoom$Law", "LightInRoom$Law", zF_Law, 2, rfl, by decide, zc_Law, zT_in 131 (by decide +kernel) (by decide +kernel), Or.inl rfl⟩
theorem fl_Lir_219_4 : zfl "LightInRoom" 219 4 1 := ⟨"LightInRoom$Law", "LightInRoom$Law", zF_Law, 2, rfl, by decide, zc_Law, zT_in 132 (by decide +kernel) (by decide +kernel), Or.inl rfl⟩
theorem fp_Lir_219_4 : zfp "LightInRoom" 219 4 1 false .int := ⟨"LightInRoom$Law", zF_Law, 2, zt_Law, rfl, by decide, zc_Law, zy_Law, zn_Law, zT_in 132 (by decide +kernel) (by decide +kernel), rfl, (fun h => by cases h), by decide +kernel⟩
theorem fl_Ben_9_0 : zfl "LightInRoom$Bench" 9 0 0 := ⟨"LightInRoom$Bench", "LightInRoom$Bench", zF_Ben, 4, rfl, by decide, zc_Ben, zT_in 144 (by decide +kernel) (by decide +kernel), Or.inl rfl⟩
theorem fp_Ben_9_0 : zfp "LightInRoom$Bench" 9 0 0 false .int := ⟨"LightInRoom$Bench", zF_Ben, 4, zt_Ben, rfl, by decide, zc_Ben, zy_Ben, zn_Ben, zT_in 144 (by decide +kernel) (by decide +kernel), rfl, (fun h => by cases h), by decide +kernel⟩
theorem fl_Roo_60_0 : zfl "LightInRoom$Room" 60 0 0 := ⟨"LightInRoom$Bench", "LightInRoom$Bench", zF_Ben, 4, rfl, by decide, zc_Ben, zT_in 145 (by decide +kernel) (by decide +kernel), Or.inl rfl⟩
theorem fl_Ben_15_0 : zfl "LightInRoom$Bench" 15 0 1 := ⟨"LightInRoom$Bench", "LightInRoom$Bench", zF_Ben, 4, rfl, by decide, zc_Ben, zT_in 146 (by decide +kernel) (by decide +kernel), Or.inl rfl⟩
theorem fp_Ben_15_0 : zfp "LightInRoom$Bench" 15 0 1 false .int := ⟨"LightInRoom$Bench", zF_Ben, 4, zt_Ben, rfl, by decide, zc_Ben, zy_Ben, zn_Ben, zT_in 146 (by decide +kernel) (by decide +kernel), rfl, (fun h => by cases h), by decide +kernel⟩
theorem fl_Roo_64_0 : zfl "LightInRoom$Room" 64 0 1 := ⟨"LightInRoom$Bench", "LightInRoom$Bench", zF_Ben, 4, rfl, by decide, zc_Ben, zT_in 147 (by decide +kernel) (by decide +kernel), Or.inl rfl⟩
theorem fl_Ben_18_0 : zfl "LightInRoom$Bench" 18 0 2 := ⟨"LightInRoom$Bench", "LightInRoom$Bench", zF_Ben, 4, rfl, by decide, zc_Ben, zT_in 148 (by decide +kernel) (by decide +kernel), Or.inl rfl⟩
theorem fp_Ben_18_0 : zfp "LightInRoom$Bench" 18 0 2 false .int := ⟨"LightInRoom$Bench", zF_Ben, 4, zt_Ben, rfl, by decide, zc_Ben, zy_Ben, zn_Ben, zT_in 148 (by decide +kernel) (by decide +kernel), rfl, (fun h => by cases h), by decide +kernel⟩
theorem fl_Roo_67_0 : zfl "LightInRoom$Room" 67 0 2 := ⟨"LightInRoom$Bench", "LightInRoom$Bench", zF_Ben, 4, rfl, by decide, zc_Ben, zT_in 149 (by decide +kernel) (by decide +kernel), Or.inl rfl⟩
theorem fl_Ben_21_0 : zfl "LightInRoom$Bench" 21 0 3 := ⟨"LightInRoom$Bench", "LightInRoom$Bench", zF_Ben, 4, rfl, by decide, zc_Ben, zT_in 150 (by decide +kernel) (by decide +kernel), Or.inl rfl⟩
theorem fp_Ben_21_0 : zfp "LightInRoom$Bench" 21 0 3 false .int := ⟨"LightInRoom$Bench", zF_Ben, 4, zt_Ben, rfl, by decide, zc_Ben, zy_Ben, zn_Ben, zT_in 150 (by decide +kernel) (by decide +kernel), rfl, (fun h => by cases h), by decide +kernel⟩
theorem fl_Roo_70_0 : zfl "LightInRoom$Room" 70 0 3 := ⟨"LightInRoom$Bench", "LightInRoom$Bench", zF_Ben, 4, rfl, by decide, zc_Ben, zT_in 151 (by decide +kernel) (by decide +kernel), Or.inl rfl⟩
theorem fl_Roo_11_6 : zfl "LightInRoom$Room" 11 6 0 := ⟨"LightInRoom$Room", "LightInRoom$Room", zF_Roo, 11, rfl, by decide, zc_Roo, zT_in 161 (by decide +kernel) (by decide +kernel), Or.inl rfl⟩
theorem fp_Roo_11_6 : zfp "LightInRoom$Room" 11 6 0 true (.array (.object "LightInRoom$Telling")) := ⟨"LightInRoom$Room", zF_Roo, 11, zt_Roo, rfl, by decide, zc_Roo, zy_Roo, zn_Roo, zT_in 161 (by decide +kernel) (by decide +kernel), rfl, (fun _ => rfl), by decide +kernel⟩
theorem fl_Lir_145_6 : zfl "LightInRoom" 145 6 0 := ⟨"LightInRoom$Room", "LightInRoom$Room", zF_Roo, 11, rfl, by decide, zc_Roo, zT_in 162 (by decide +kernel) (by decide +kernel), Or.inl rfl⟩
theorem fl_Roo_19_6 : zfl "LightInRoom$Room" 19 6 1 := ⟨"LightInRoom$Room", "LightInRoom$Room", zF_Roo, 11, rfl, by decide, zc_Roo, zT_in 163 (by decide +kernel) (by decide +kernel), Or.inl rfl⟩
theorem fp_Roo_19_6 : zfp "LightInRoom$Room" 19 6 1 true (.array (.object "LightInRoom$Law")) := ⟨"LightInRoom$Room", zF_Roo, 11, zt_Roo, rfl, by decide, zc_Roo, zy_Roo, zn_Roo, zT_in 163 (by decide +kernel) (by decide +kernel), rfl, (fun _ => rfl), by decide +kernel⟩
theorem fl_Roo_24_6 : zfl "LightInRoom$Room" 24 6 2 := ⟨"LightInRoom$Room", "LightInRoom$Room", zF_Roo, 11, rfl, by decide, zc_Roo, zT_in 164 (by decide +kernel) (by decide +kernel), Or.inl rfl⟩
theorem fp_Roo_24_6 : zfp "LightInRoom$Room" 24 6 2 true (.array (.object "LightInRoom$Telling")) := ⟨"LightInRoom$Room", zF_Roo, 11, zt_Roo, rfl, by decide, zc_Roo, zy_Roo, zn_Roo, zT_in 164 (by decide +kernel) (by decide +kernel), rfl, (fun _ => rfl), by decide +kernel⟩
theorem fl_Roo_27_6 : zfl "LightInRoom$Room" 27 6 3 := ⟨"LightInRoom$Room", "LightInRoom$Room", zF_Roo, 11, rfl, by decide, zc_Roo, zT_in 165 (by decide +kernel) (by decide +kernel), Or.inl rfl⟩
theorem fp_Roo_27_6 : zfp "LightInRoom$Room" 27 6 3 true (.array (.object "LightInRoom$Telling")) := ⟨"LightInRoom$Room", zF_Roo, 11, zt_Roo, rfl, by decide, zc_Roo, zy_Roo, zn_Roo, zT_in 165 (by decide +kernel) (by decide +kernel), rfl, (fun _ => rfl), by decide +kernel⟩
theorem fl_Roo_30_6 : zfl "LightInRoom$Room" 30 6 4 := ⟨"LightInRoom$Room", "LightInRoom$Room", zF_Roo, 11, rfl, by decide, zc_Roo, zT_in 166 (by decide +kernel) (by decide +kernel), Or.inl rfl⟩
theorem fp_Roo_30_6 : zfp "LightInRoom$Room" 30 6 4 true (.array .int) := ⟨"LightInRoom$Room", zF_Roo, 11, zt_Roo, rfl, by decide, zc_Roo, zy_Roo, zn_Roo, zT_in 166 (by decide +kernel) (by decide +kernel), rfl, (fun _ => rfl), by decide +kernel⟩
theorem fl_Lir_128_6 : zfl "LightInRoom" 128 6 4 := ⟨"LightInRoom$Room", "LightInRoom$Room", zF_Roo, 11, rfl, by decide, zc_Roo, zT_in 167 (by decide +kernel) (by decide +kernel), Or.inl rfl⟩
theorem fl_Roo_34_6 : zfl "LightInRoom$Room" 34 6 5 := ⟨"LightInRoom$Room", "LightInRoom$Room", zF_Roo, 11, rfl, by decide, zc_Roo, zT_in 168 (by decide +kernel) (by decide +kernel), Or.inl rfl⟩
theorem fp_Roo_34_6 : zfp "LightInRoom$Room" 34 6 5 true (.array .int) := ⟨"LightInRoom$Room", zF_Roo, 11, zt_Roo, rfl, by decide, zc_Roo, zy_Roo, zn_Roo, zT_in 168 (by decide +kernel) (by decide +kernel), rfl, (fun _ => rfl), by decide +kernel⟩
theorem fl_Lir_213_6 : zfl "LightInRoom" 213 6 5 := ⟨"LightInRoom$Room", "LightInRoom$Room", zF_Roo, 11, rfl, by decide, zc_Roo, zT_in 169 (by decide +kernel) (by decide +kernel), Or.inl rfl⟩
theorem fl_Roo_40_6 : zfl "LightInRoom$Room" 40 6 6 := ⟨"LightInRoom$Room", "LightInRoom$Room", zF_Roo, 11, rfl, by decide, zc_Roo, zT_in 170 (by decide +kernel) (by decide +kernel), Or.inl rfl⟩
theorem fp_Roo_40_6 : zfp "LightInRoom$Room" 40 6 6 true (.object "LightInRoom$Bench") := ⟨"LightInRoom$Room", zF_Roo, 11, zt_Roo, rfl, by decide, zc_Roo, zy_Roo, zn_Roo, zT_in 170 (by decide +kernel) (by decide +kernel), rfl, (fun _ => rfl), by decide +kernel⟩
theorem fl_Lir_235_6 : zfl "LightInRoom" 235 6 6 := ⟨"LightInRoom$Room", "LightInRoom$Room", zF_Roo, 11, rfl, by decide, zc_Roo, zT_in 171 (by decide +kernel) (by decide +kernel), Or.inl rfl⟩
theorem fl_Roo_77_6 : zfl "LightInRoom$Room" 77 6 7 := ⟨"LightInRoom$Room", "LightInRoom$Room", zF_Roo, 11, rfl, by decide, zc_Roo, zT_in 172 (by decide +kernel) (by decide +kernel), Or.inl rfl⟩
theorem fp_Roo_77_6 : zfp "LightInRoom$Room" 77 6 7 false .int := ⟨"LightInRoom$Room", zF_Roo, 11, zt_Roo, rfl, by decide, zc_Roo, zy_Roo, zn_Roo, zT_in 172 (by decide +kernel) (by decide +kernel), rfl, (fun h => by cases h), by decide +kernel⟩
theorem fl_Lir_53_6 : zfl "LightInRoom" 53 6 7 := ⟨"LightInRoom$Room", "LightInRoom$Room", zF_Roo, 11, rfl, by decide, zc_Roo, zT_in 173 (by decide +kernel) (by decide +kernel), Or.inl rfl⟩
theorem fl_Roo_80_6 : zfl "LightInRoom$Room" 80 6 8 := ⟨"LightInRoom$Room", "LightInRoom$Room", zF_Roo, 11, rfl, by decide, zc_Roo, zT_in 174 (by decide +kernel) (by decide +kernel), Or.inl rfl⟩
theorem fp_Roo_80_6 : zfp "LightInRoom$Room" 80 6 8 false .int := ⟨"LightInRoom$Room", zF_Roo, 11, zt_Roo, rfl, by decide, zc_Roo, zy_Roo, zn_Roo, zT_in 174 (by decide +kernel) (by decide +kernel), rfl, (fun h => by cases h), by decide +kernel⟩
theorem fl_Lir_194_6 : zfl "LightInRoom" 194 6 8 := ⟨"LightInRoom$Room", "LightInRoom$Room", zF_Roo, 11, rfl, by decide, zc_Roo, zT_in 175 (by decide +kernel) (by decide +kernel), Or.inl rfl⟩
theorem fl_Roo_83_6 : zfl "LightInRoom$Room" 83 6 9 := ⟨"LightInRoom$Room", "LightInRoom$Room", zF_Roo, 11, rfl, by decide, zc_Roo, zT_in 176 (by decide +kernel) (by decide +kernel), Or.inl rfl⟩
theorem fp_Roo_83_6 : zfp "LightInRoom$Room" 83 6 9 false .int := ⟨"LightInRoom$Room", zF_Roo, 11, zt_Roo, rfl, by decide, zc_Roo, zy_Roo, zn_Roo, zT_in 176 (by decide +kernel) (by decide +kernel), rfl, (fun h => by cases h), by decide +kernel⟩
theorem fl_Lir_216_6 : zfl "LightInRoom" 216 6 9 := ⟨"LightInRoom$Room", "LightInRoom$Room", zF_Roo, 11, rfl, by decide, zc_Roo, zT_in 177 (by decide +kernel) (by decide +kernel), Or.inl rfl⟩
theorem fp_Lir_216_6 : zfp "LightInRoom" 216 6 9 false .int := ⟨"LightInRoom$Room", zF_Roo, 11, zt_Roo, rfl, by decide, zc_Roo, zy_Roo, zn_Roo, zT_in 177 (by decide +kernel) (by decide +kernel), rfl, (fun h => by cases h), by decide +kernel⟩
theorem fl_Roo_86_6 : zfl "LightInRoom$Room" 86 6 10 := ⟨"LightInRoom$Room", "LightInRoom$Room", zF_Roo, 11, rfl, by decide, zc_Roo, zT_in 178 (by decide +kernel) (by decide +kernel), Or.inl rfl⟩
theorem fp_Roo_86_6 : zfp "LightInRoom$Room" 86 6 10 false .boolean := ⟨"LightInRoom$Room", zF_Roo, 11, zt_Roo, rfl, by decide, zc_Roo, zy_Roo, zn_Roo, zT_in 178 (by decide +kernel) (by decide +kernel), rfl, (fun h => by cases h), by decide +kernel⟩
theorem fl_Lir_121_6 : zfl "LightInRoom" 121 6 10 := ⟨"LightInRoom$Room", "LightInRoom$Room", zF_Roo, 11, rfl, by decide, zc_Roo, zT_in 179 (by decide +kernel) (by decide +kernel), Or.inl rfl⟩
theorem fp_Lir_121_6 : zfp "LightInRoom" 121 6 10 false .boolean := ⟨"LightInRoom$Room", zF_Roo, 11, zt_Roo, rfl, by decide, zc_Roo, zy_Roo, zn_Roo, zT_in 179 (by decide +kernel) (by decide +kernel), rfl, (fun h => by cases h), by decide +kernel⟩
theorem fl_Lir_10_10 : zfl "LightInRoom" 10 10 0 := ⟨"LightInRoom", "LightInRoom", zF_Lir, 6, rfl, by decide, zc_Lir, zT_in 203 (by decide +kernel) (by decide +kernel), Or.inl rfl⟩
theorem fp_Lir_10_10 : zfp "LightInRoom" 10 10 0 true (.object "LightInRoom$Tape") := ⟨"LightInRoom", zF_Lir, 6, zt_Lir, rfl, by decide, zc_Lir, zy_Lir, zn_Lir, zT_in 203 (by decide +kernel) (by decide +kernel), rfl, (fun _ => rfl), by decide +kernel⟩
theorem fl_Lir_19_10 : zfl "LightInRoom" 19 10 1 := ⟨"LightInRoom", "LightInRoom", zF_Lir, 6, rfl, by decide, zc_Lir, zT_in 204 (by decide +kernel) (by decide +kernel), Or.inl rfl⟩
theorem fp_Lir_19_10 : zfp "LightInRoom" 19 10 1 true (.object "LightInRoom$Room") := ⟨"LightInRoom", zF_Lir, 6, zt_Lir, rfl, by decide, zc_Lir, zy_Lir, zn_Lir, zT_in 204 (by decide +kernel) (by decide +kernel), rfl, (fun _ => rfl), by decide +kernel⟩
theorem fl_Lir_23_10 : zfl "LightInRoom" 23 10 2 := ⟨"LightInRoom", "LightInRoom", zF_Lir, 6, rfl, by decide, zc_Lir, zT_in 205 (by decide +kernel) (by decide +kernel), Or.inl rfl⟩
theorem fp_Lir_23_10 : zfp "LightInRoom" 23 10 2 true (.object "LightInRoom$Room") := ⟨"LightInRoom", zF_Lir, 6, zt_Lir, rfl, by decide, zc_Lir, zy_Lir, zn_Lir, zT_in 205 (by decide +kernel) (by decide +kernel), rfl, (fun _ => rfl), by decide +kernel⟩
theorem fl_Lir_26_10 : zfl "LightInRoom" 26 10 3 := ⟨"LightInRoom", "LightInRoom", zF_Lir, 6, rfl, by decide, zc_Lir, zT_in 206 (by decide +kernel) (by decide +kernel), Or.inl rfl⟩
theorem fp_Lir_26_10 : zfp "LightInRoom" 26 10 3 true (.array .int) := ⟨"LightInRoom", zF_Lir, 6, zt_Lir, rfl, by decide, zc_Lir, zy_Lir, zn_Lir, zT_in 206 (by decide +kernel) (by decide +kernel), rfl, (fun _ => rfl), by decide +kernel⟩
theorem fl_Lir_30_10 : zfl "LightInRoom" 30 10 4 := ⟨"LightInRoom", "LightInRoom", zF_Lir, 6, rfl, by decide, zc_Lir, zT_in 207 (by decide +kernel) (by decide +kernel), Or.inl rfl⟩
theorem fp_Lir_30_10 : zfp "LightInRoom" 30 10 4 true (.array .int) := ⟨"LightInRoom", zF_Lir, 6, zt_Lir, rfl, by decide, zc_Lir, zy_Lir, zn_Lir, zT_in 207 (by decide +kernel) (by decide +kernel), rfl, (fun _ => rfl), by decide +kernel⟩
theorem fl_Lir_33_10 : zfl "LightInRoom" 33 10 5 := ⟨"LightInRoom", "LightInRoom", zF_Lir, 6, rfl, by decide, zc_Lir, zT_in 208 (by decide +kernel) (by decide +kernel), Or.inl rfl⟩
theorem fp_Lir_33_10 : zfp "LightInRoom" 33 10 5 false .boolean := ⟨"LightInRoom", zF_Lir, 6, zt_Lir, rfl, by decide, zc_Lir, zy_Lir, zn_Lir, zT_in 208 (by decide +kernel) (by decide +kernel), rfl, (fun h => by cases h), by decide +kernel⟩
theorem fl_Tel_15_1 : zfl "LightInRoom$Telling" 15 1 0 := ⟨"LightInRoom$Telling", "LightInRoom$Called", zF_Cal, 6, rfl, by decide, zc_Cal, zT_in 353 (by decide +kernel) (by decide +kernel), Or.inl rfl⟩
theorem fp_Tel_15_1 : zfp "LightInRoom$Telling" 15 1 0 true .int := ⟨"LightInRoom$Called", zF_Cal, 6, zt_Cal, rfl, by decide, zc_Cal, zy_Cal, zn_Cal, zT_in 353 (by decide +kernel) (by decide +kernel), rfl, (fun _ => rfl), by decide +kernel⟩
theorem fl_Tel_15_2 : zfl "LightInRoom$Telling" 15 2 0 := ⟨"LightInRoom$Telling", "LightInRoom$Eye", zF_Eye, 6, rfl, by decide, zc_Eye, zT_in 353 (by decide +kernel) (by decide +kernel), Or.inl rfl⟩
theorem fp_Tel_15_2 : zfp "LightInRoom$Telling" 15 2 0 true .int := ⟨"LightInRoom$Eye", zF_Eye, 6, zt_Eye, rfl, by decide, zc_Eye, zy_Eye, zn_Eye, zT_in 353 (by decide +kernel) (by decide +kernel), rfl, (fun _ => rfl), by decide +kernel⟩
theorem fl_Tel_15_3 : zfl "LightInRoom$Telling" 15 3 0 := ⟨"LightInRoom$Telling", "LightInRoom$Grown", zF_Gro, 6, rfl, by decide, zc_Gro, zT_in 353 (by decide +kernel) (by decide +kernel), Or.inl rfl⟩
theorem fp_Tel_15_3 : zfp "LightInRoom$Telling" 15 3 0 true .int := ⟨"LightInRoom$Grown", zF_Gro, 6, zt_Gro, rfl, by decide, zc_Gro, zy_Gro, zn_Gro, zT_in 353 (by decide +kernel) (by decide +kernel), rfl, (fun _ => rfl), by decide +kernel⟩
theorem fl_Tel_15_5 : zfl "LightInRoom$Telling" 15 5 0 := ⟨"LightInRoom$Telling", "LightInRoom$Near", zF_Nea, 6, rfl, by decide, zc_Nea, zT_in 353 (by decide +kernel) (by decide +kernel), Or.inl rfl⟩
theorem fp_Tel_15_5 : zfp "LightInRoom$Telling" 15 5 0 true .int := ⟨"LightInRoom$Near", zF_Nea, 6, zt_Nea, rfl, by decide, zc_Nea, zy_Nea, zn_Nea, zT_in 353 (by decide +kernel) (by decide +kernel), rfl, (fun _ => rfl), by decide +kernel⟩
theorem fl_Tel_15_8 : zfl "LightInRoom$Telling" 15 8 0 := ⟨"LightInRoom$Telling", "LightInRoom$Through", zF_Thr, 6, rfl, by decide, zc_Thr, zT_in 353 (by decide +kernel) (by decide +kernel), Or.inl rfl⟩
theorem fp_Tel_15_8 : zfp "LightInRoom$Telling" 15 8 0 true .int := ⟨"LightInRoom$Through", zF_Thr, 6, zt_Thr, rfl, by decide, zc_Thr, zy_Thr, zn_Thr, zT_in 353 (by decide +kernel) (by decide +kernel), rfl, (fun _ => rfl), by decide +kernel⟩
theorem fl_Tel_15_9 : zfl "LightInRoom$Telling" 15 9 0 := ⟨"LightInRoom$Telling", "LightInRoom$Without", zF_Wit, 6, rfl, by decide, zc_Wit, zT_in 353 (by decide +kernel) (by decide +kernel), Or.inl rfl⟩
theorem fp_Tel_15_9 : zfp "LightInRoom$Telling" 15 9 0 true .int := ⟨"LightInRoom$Without", zF_Wit, 6, zt_Wit, rfl, by decide, zc_Wit, zy_Wit, zn_Wit, zT_in 353 (by decide +kernel) (by decide +kernel), rfl, (fun _ => rfl), by decide +kernel⟩
theorem fl_Ben_27_1 : zfl "LightInRoom$Bench" 27 1 0 := ⟨"LightInRoom$Telling", "LightInRoom$Called", zF_Cal, 6, rfl, by decide, zc_Cal, zT_in 354 (by decide +kernel) (by decide +kernel), Or.inl rfl⟩
theorem fl_Ben_27_2 : zfl "LightInRoom$Bench" 27 2 0 := ⟨"LightInRoom$Telling", "LightInRoom$Eye", zF_Eye, 6, rfl, by decide, zc_Eye, zT_in 354 (by decide +kernel) (by decide +kernel), Or.inl rfl⟩
theorem fl_Ben_27_3 : zfl "LightInRoom$Bench" 27 3 0 := ⟨"LightInRoom$Telling", "LightInRoom$Grown", zF_Gro, 6, rfl, by decide, zc_Gro, zT_in 354 (by decide +kernel) (by decide +kernel), Or.inl rfl⟩
theorem fl_Ben_27_5 : zfl "LightInRoom$Bench" 27 5 0 := ⟨"LightInRoom$Telling", "LightInRoom$Near", zF_Nea, 6, rfl, by decide, zc_Nea, zT_in 354 (by decide +kernel) (by decide +kernel), Or.inl rfl⟩
theorem fl_Ben_27_8 : zfl "LightInRoom$Bench" 27 8 0 := ⟨"LightInRoom$Telling", "LightInRoom$Through", zF_Thr, 6, rfl, by decide, zc_Thr, zT_in 354 (by decide +kernel) (by decide +kernel), Or.inl rfl⟩
theorem fl_Ben_27_9 : zfl "LightInRoom$Bench" 27 9 0 := ⟨"LightInRoom$Telling", "LightInRoom$Without", zF_Wit, 6, rfl, by decide, zc_Wit, zT_in 354 (by decide +kernel) (by decide +kernel), Or.inl rfl⟩
theorem fl_Lir_78_1 : zfl "LightInRoom" 78 1 0 := ⟨"LightInRoom$Telling", "LightInRoom$Called", zF_Cal, 6, rfl, by decide, zc_Cal, zT_in 355 (by decide +kernel) (by decide +kernel), Or.inl rfl⟩
theorem fl_Lir_78_2 : zfl "LightInRoom" 78 2 0 := ⟨"LightInRoom$Telling", "LightInRoom$Eye", zF_Eye, 6, rfl, by decide, zc_Eye, zT_in 355 (by decide +kernel) (by decide +kernel), Or.inl rfl⟩
theorem fl_Lir_78_3 : zfl "LightInRoom" 78 3 0 := ⟨"LightInRoom$Telling", "LightInRoom$Grown", zF_Gro, 6, rfl, by decide, zc_Gro, zT_in 355 (by decide +kernel) (by decide +kernel), Or.inl rfl⟩
theorem fl_Lir_78_5 : zfl "LightInRoom" 78 5 0 := ⟨"LightInRoom$Telling", "LightInRoom$Near", zF_Nea, 6, rfl, by decide, zc_Nea, zT_in 355 (by decide +kernel) (by decide +kernel), Or.inl rfl⟩
theorem fl_Lir_78_8 : zfl "LightInRoom" 78 8 0 := ⟨"LightInRoom$Telling", "LightInRoom$Through", zF_Thr, 6, rfl, by decide, zc_Thr, zT_in 355 (by decide +kernel) (by decide +kernel), Or.inl rfl⟩
theorem fl_Lir_78_9 : zfl "LightInRoom" 78 9 0 := ⟨"LightInRoom$Telling", "LightInRoom$Without", zF_Wit, 6, rfl, by decide, zc_Wit, zT_in 355 (by decide +kernel) (by decide +kernel), Or.inl rfl⟩
theorem fl_Tel_21_1 : zfl "LightInRoom$Telling" 21 1 1 := ⟨"LightInRoom$Telling", "LightInRoom$Called", zF_Cal, 6, rfl, by decide, zc_Cal, zT_in 356 (by decide +kernel) (by decide +kernel), Or.inl rfl⟩
theorem fp_Tel_21_1 : zfp "LightInRoom$Telling" 21 1 1 true .int := ⟨"LightInRoom$Called", zF_Cal, 6, zt_Cal, rfl, by decide, zc_Cal, zy_Cal, zn_Cal, zT_in 356 (by decide +kernel) (by decide +kernel), rfl, (fun _ => rfl), by decide +kernel⟩
theorem fl_Tel_21_2 : zfl "LightInRoom$Telling" 21 2 1 := ⟨"LightInRoom$Telling", "LightInRoom$Eye", zF_Eye, 6, rfl, by decide, zc_Eye, zT_in 356 (by decide +kernel) (by decide +kernel), Or.inl rfl⟩
theorem fp_Tel_21_2 : zfp "LightInRoom$Telling" 21 2 1 true .int := ⟨"LightInRoom$Eye", zF_Eye, 6, zt_Eye, rfl, by decide, zc_Eye, zy_Eye, zn_Eye, zT_in 356 (by decide +kernel) (by decide +kernel), rfl, (fun _ => rfl), by decide +kernel⟩
theorem fl_Tel_21_3 : zfl "LightInRoom$Telling" 21 3 1 := ⟨"LightInRoom$Telling", "LightInRoom$Grown", zF_Gro, 6, rfl, by decide, zc_Gro, zT_in 356 (by decide +kernel) (by decide +kernel), Or.inl rfl⟩
theorem fp_Tel_21_3 : zfp "LightInRoom$Telling" 21 3 1 true .int := ⟨"LightInRoom$Grown", zF_Gro, 6, zt_Gro, rfl, by decide, zc_Gro, zy_Gro, zn_Gro, zT_in 356 (by decide +kernel) (by decide +kernel), rfl, (fun _ => rfl), by decide +kernel⟩
theorem fl_Tel_21_5 : zfl "LightInRoom$Telling" 21 5 1 := ⟨"LightInRoom$Telling", "LightInRoom$Near", zF_Nea, 6, rfl, by decide, zc_Nea, zT_in 356 (by decide +kernel) (by decide +kernel), Or.inl rfl⟩
theorem fp_Tel_21_5 : zfp "LightInRoom$Telling" 21 5 1 true .int := ⟨"LightInRoom$Near", zF_Nea, 6, zt_Nea, rfl, by decide, zc_Nea, zy_Nea, zn_Nea, zT_in 356 (by decide +kernel) (by decide +kernel), rfl, (fun _ => rfl), by decide +kernel⟩
theorem fl_Tel_21_8 : zfl "LightInRoom$Telling" 21 8 1 := ⟨"LightInRoom$Telling", "LightInRoom$Through", zF_Thr, 6, rfl, by decide, zc_Thr, zT_in 356 (by decide +kernel) (by decide +kernel), Or.inl rfl⟩
theorem fp_Tel_21_8 : zfp "LightInRoom$Telling" 21 8 1 true .int := ⟨"LightInRoom$Through", zF_Thr, 6, zt_Thr, rfl, by decide, zc_Thr, zy_Thr, zn_Thr, zT_in 356 (by decide +kernel) (by decide +kernel), rfl, (fun _ => rfl), by decide +kernel⟩
theorem fl_Tel_21_9 : zfl "LightInRoom$Telling" 21 9 1 := ⟨"LightInRoom$Telling", "LightInRoom$Without", zF_Wit, 6, rfl, by decide, zc_Wit, zT_in 356 (by decide +kernel) (by decide +kernel), Or.inl rfl⟩
theorem fp_Tel_21_9 : zfp "LightInRoom$Telling" 21 9 1 true .int := ⟨"LightInRoom$Without", zF_Wit, 6, zt_Wit, rfl, by decide, zc_Wit, zy_Wit, zn_Wit, zT_in 356 (by decide +kernel) (by decide +kernel), rfl, (fun _ => rfl), by decide +kernel⟩
theorem fl_Thr_13_8 : zfl "LightInRoom$Through" 13 8 1 := ⟨"LightInRoom$Through", "LightInRoom$Through", zF_Thr, 6, rfl, by decide, zc_Thr, zT_in 357 (by decide +kernel) (by decide +kernel), Or.inr (zT_in 358 (by decide +kernel) (by decide +kernel))⟩
theorem fl_Ben_28_1 : zfl "LightInRoom$Bench" 28 1 1 := ⟨"LightInRoom$Telling", "LightInRoom$Called", zF_Cal, 6, rfl, by decide, zc_Cal, zT_in 359 (by decide +kernel) (by decide +kernel), Or.inl rfl⟩
theorem fl_Ben_28_2 : zfl "LightInRoom$Bench" 28 2 1 := ⟨"LightInRoom$Telling", "LightInRoom$Eye", zF_Eye, 6, rfl, by decide, zc_Eye, zT_in 359 (by decide +kernel) (by decide +kernel), Or.inl rfl⟩
theorem fl_Ben_28_3 : zfl "LightInRoom$Bench" 28 3 1 := ⟨"LightInRoom$Telling", "LightInRoom$Grown", zF_Gro, 6, rfl, by decide, zc_Gro, zT_in 359 (by decide +kernel) (by decide +kernel), Or.inl rfl⟩
theorem fl_Ben_28_5 : zfl "LightInRoom$Bench" 28 5 1 := ⟨"LightInRoom$Telling", "LightInRoom$Near", zF_Nea, 6, rfl, by decide, zc_Nea, zT_in 359 (by decide +kernel) (by decide +kernel), Or.inl rfl⟩
theorem fl_Ben_28_8 : zfl "LightInRoom$Bench" 28 8 1 := ⟨"LightInRoom$Telling", "LightInRoom$Through", zF_Thr, 6, rfl, by decide, zc_Thr, zT_in 359 (by decide +kernel) (by decide +kernel), Or.inl rfl⟩
theorem fl_Ben_28_9 : zfl "LightInRoom$Bench" 28 9 1 := ⟨"LightInRoom$Telling", "LightInRoom$Without", zF_Wit, 6, rfl, by decide, zc_Wit, zT_in 359 (by decide +kernel) (by decide +kernel), Or.inl rfl⟩
theorem fl_Lir_83_1 : zfl "LightInRoom" 83 1 1 := ⟨"LightInRoom$Telling", "LightInRoom$Called", zF_Cal, 6, rfl, by decide, zc_Cal, zT_in 360 (by decide +kernel) (by decide +kernel), Or.inl rfl⟩
theorem fl_Lir_83_2 : zfl "LightInRoom" 83 2 1 := ⟨"LightInRoom$Telling", "LightInRoom$Eye", zF_Eye, 6, rfl, by decide, zc_Eye, zT_in 360 (by decide +kernel) (by decide +kernel), Or.inl rfl⟩
theorem fl_Lir_83_3 : zfl "LightInRoom" 83 3 1 := ⟨"LightInRoom$Telling", "LightInRoom$Grown", zF_Gro, 6, rfl, by decide, zc_Gro, zT_in 360 (by decide +kernel) (by decide +kernel), Or.inl rfl⟩
theorem fl_Lir_83_5 : zfl "LightInRoom" 83 5 1 := ⟨"LightInRoom$Telling", "LightInRoom$Near", zF_Nea, 6, rfl, by decide, zc_Nea, zT_in 360 (by decide +kernel) (by decide +kernel), Or.inl rfl⟩
theorem fl_Lir_83_8 : zfl "LightInRoom" 83 8 1 := ⟨"LightInRoom$Telling", "LightInRoom$Through", zF_Thr, 6, rfl, by decide, zc_Thr, zT_in 360 (by decide +kernel) (by decide +kernel), Or.inl rfl⟩
theorem fl_Lir_83_9 : zfl "LightInRoom" 83 9 1 := ⟨"LightInRoom$Telling", "LightInRoom$Without", zF_Wit, 6, rfl, by decide, zc_Wit, zT_in 360 (by decide +kernel) (by decide +kernel), Or.inl rfl⟩
theorem fl_Tel_25_1 : zfl "LightInRoom$Telling" 25 1 2 := ⟨"LightInRoom$Telling", "LightInRoom$Called", zF_Cal, 6, rfl, by decide, zc_Cal, zT_in 361 (by decide +kernel) (by decide +kernel), Or.inl rfl⟩
theorem fp_Tel_25_1 : zfp "LightInRoom$Telling" 25 1 2 true .int := ⟨"LightInRoom$Called", zF_Cal, 6, zt_Cal, rfl, by decide, zc_Cal, zy_Cal, zn_Cal, zT_in 361 (by decide +kernel) (by decide +kernel), rfl, (fun _ => rfl), by decide +kernel⟩
theorem fl_Tel_25_2 : zfl "LightInRoom$Telling" 25 2 2 := ⟨"LightInRoom$Telling", "LightInRoom$Eye", zF_Eye, 6, rfl, by decide, zc_Eye, zT_in 361 (by decide +kernel) (by decide +kernel), Or.inl rfl⟩
theorem fp_Tel_25_2 : zfp "LightInRoom$Telling" 25 2 2 true .int := ⟨"LightInRoom$Eye", zF_Eye, 6, zt_Eye, rfl, by decide, zc_Eye, zy_Eye, zn_Eye, zT_in 361 (by decide +kernel) (by decide +kernel), rfl, (fun _ => rfl), by decide +kernel⟩
theorem fl_Tel_25_3 : zfl "LightInRoom$Telling" 25 3 2 := ⟨"LightInRoom$Telling", "LightInRoom$Grown", zF_Gro, 6, rfl, by decide, zc_Gro, zT_in 361 (by decide +kernel) (by decide +kernel), Or.inl rfl⟩
theorem fp_Tel_25_3 : zfp "LightInRoom$Telling" 25 3 2 true .int := ⟨"LightInRoom$Grown", zF_Gro, 6, zt_Gro, rfl, by decide, zc_Gro, zy_Gro, zn_Gro, zT_in 361 (by decide +kernel) (by decide +kernel), rfl, (fun _ => rfl), by decide +kernel⟩
theorem fl_Tel_25_5 : zfl "LightInRoom$Telling" 25 5 2 := ⟨"LightInRoom$Telling", "LightInRoom$Near", zF_Nea, 6, rfl, by decide, zc_Nea, zT_in 361 (by decide +kernel) (by decide +kernel), Or.inl rfl⟩
theorem fp_Tel_25_5 : zfp "LightInRoom$Telling" 25 5 2 true .int := ⟨"LightInRoom$Near", zF_Nea, 6, zt_Nea, rfl, by decide, zc_Nea, zy_Nea, zn_Nea, zT_in 361 (by decide +kernel) (by decide +kernel), rfl, (fun _ => rfl), by decide +kernel⟩
theorem fl_Tel_25_8 : zfl "LightInRoom$Telling" 25 8 2 := ⟨"LightInRoom$Telling", "LightInRoom$Through", zF_Thr, 6, rfl, by decide, zc_Thr, zT_in 361 (by decide +kernel) (by decide +kernel), Or.inl rfl⟩
theorem fp_Tel_25_8 : zfp "LightInRoom$Telling" 25 8 2 true .int := ⟨"LightInRoom$Through", zF_Thr, 6, zt_Thr, rfl, by decide, zc_Thr, zy_Thr, zn_Thr, zT_in 361 (by decide +kernel) (by decide +kernel), rfl, (fun _ => rfl), by decide +kernel⟩
theorem fl_Tel_25_9 : zfl "LightInRoom$Telling" 25 9 2 := ⟨"LightInRoom$Telling", "LightInRoom$Without", zF_Wit, 6, rfl, by decide, zc_Wit, zT_in 361 (by decide +kernel) (by decide +kernel), Or.inl rfl⟩
theorem fp_Tel_25_9 : zfp "LightInRoom$Telling" 25 9 2 true .int := ⟨"LightInRoom$Without", zF_Wit, 6, zt_Wit, rfl, by decide, zc_Wit, zy_Wit, zn_Wit, zT_in 361 (by decide +kernel) (by decide +kernel), rfl, (fun _ => rfl), by decide +kernel⟩
theorem fl_Ben_29_1 : zfl "LightInRoom$Bench" 29 1 2 := ⟨"LightInRoom$Telling", "LightInRoom$Called", zF_Cal, 6, rfl, by decide, zc_Cal, zT_in 362 (by decide +kernel) (by decide +kernel), Or.inl rfl⟩
theorem fl_Ben_29_2 : zfl "LightInRoom$Bench" 29 2 2 := ⟨"LightInRoom$Telling", "LightInRoom$Eye", zF_Eye, 6, rfl, by decide, zc_Eye, zT_in 362 (by decide +kernel) (by decide +kernel), Or.inl rfl⟩
theorem fl_Ben_29_3 : zfl "LightInRoom$Bench" 29 3 2 := ⟨"LightInRoom$Telling", "LightInRoom$Grown", zF_Gro, 6, rfl, by decide, zc_Gro, zT_in 362 (by decide +kernel) (by decide +kernel), Or.inl rfl⟩
theorem fl_Ben_29_5 : zfl "LightInRoom$Bench" 29 5 2 := ⟨"LightInRoom$Telling", "LightInRoom$Near", zF_Nea, 6, rfl, by decide, zc_Nea, zT_in 362 (by decide +kernel) (by decide +kernel), Or.inl rfl⟩
theorem fl_Ben_29_8 : zfl "LightInRoom$Bench" 29 8 2 := ⟨"LightInRoom$Telling", "LightInRoom$Through", zF_Thr, 6, rfl, by decide, zc_Thr, zT_in 362 (by decide +kernel) (by decide +kernel), Or.inl rfl⟩
theorem fl_Ben_29_9 : zfl "LightInRoom$Bench" 29 9 2 := ⟨"LightInRoom$Telling", "LightInRoom$Without", zF_Wit, 6, rfl, by decide, zc_Wit, zT_in 362 (by decide +kernel) (by decide +kernel), Or.inl rfl⟩
theorem fl_Law_23_1 : zfl "LightInRoom$Law" 23 1 2 := ⟨"LightInRoom$Telling", "LightInRoom$Called", zF_Cal, 6, rfl, by decide, zc_Cal, zT_in 363 (by decide +kernel) (by decide +kernel), Or.inl rfl⟩
theorem fl_Law_23_2 : zfl "LightInRoom$Law" 23 2 2 := ⟨"LightInRoom$Telling", "LightInRoom$Eye", zF_Eye, 6, rfl, by decide, zc_Eye, zT_in 363 (by decide +kernel) (by decide +kernel), Or.inl rfl⟩
theorem fl_Law_23_3 : zfl "LightInRoom$Law" 23 3 2 := ⟨"LightInRoom$Telling", "LightInRoom$Grown", zF_Gro, 6, rfl, by decide, zc_Gro, zT_in 363 (by decide +kernel) (by decide +kernel), Or.inl rfl⟩
theorem fl_Law_23_5 : zfl "LightInRoom$Law" 23 5 2 := ⟨"LightInRoom$Telling", "LightInRoom$Near", zF_Nea, 6, rfl, by decide, zc_Nea, zT_in 363 (by decide +kernel) (by decide +kernel), Or.inl rfl⟩
theorem fl_Law_23_8 : zfl "LightInRoom$Law" 23 8 2 := ⟨"LightInRoom$Telling", "LightInRoom$Through", zF_Thr, 6, rfl, by decide, zc_Thr, zT_in 363 (by decide +kernel) (by decide +kernel), Or.inl rfl⟩
theorem fl_Law_23_9 : zfl "LightInRoom$Law" 23 9 2 := ⟨"LightInRoom$Telling", "LightInRoom$Without", zF_Wit, 6, rfl, by decide, zc_Wit, zT_in 363 (by decide +kernel) (by decide +kernel), Or.inl rfl⟩
theorem fl_Lir_86_1 : zfl "LightInRoom" 86 1 2 := ⟨"LightInRoom$Telling", "LightInRoom$Called", zF_Cal, 6, rfl, by decide, zc_Cal, zT_in 364 (by decide +kernel) (by decide +kernel), Or.inl rfl⟩
theorem fl_Lir_86_2 : zfl "LightInRoom" 86 2 2 := ⟨"LightInRoom$Telling", "LightInRoom$Eye", zF_Eye, 6, rfl, by decide, zc_Eye, zT_in 364 (by decide +kernel) (by decide +kernel), Or.inl rfl⟩
theorem fl_Lir_86_3 : zfl "LightInRoom" 86 3 2 := ⟨"LightInRoom$Telling", "LightInRoom$Grown", zF_Gro, 6, rfl, by decide, zc_Gro, zT_in 364 (by decide +kernel) (by decide +kernel), Or.inl rfl⟩
theorem fl_Lir_86_5 : zfl "LightInRoom" 86 5 2 := ⟨"LightInRoom$Telling", "LightInRoom$Near", zF_Nea, 6, rfl, by decide, zc_Nea, zT_in 364 (by decide +kernel) (by decide +kernel), Or.inl rfl⟩
theorem fl_Lir_86_8 : zfl "LightInRoom" 86 8 2 := ⟨"LightInRoom$Telling", "LightInRoom$Through", zF_Thr, 6, rfl, by decide, zc_Thr, zT_in 364 (by decide +kernel) (by decide +kernel), Or.inl rfl⟩
theorem fl_Lir_86_9 : zfl "LightInRoom" 86 9 2 := ⟨"LightInRoom$Telling", "LightInRoom$Without", zF_Wit, 6, rfl, by decide, zc_Wit, zT_in 364 (by decide +kernel) (by decide +kernel), Or.inl rfl⟩
theorem fl_Tel_29_1 : zfl "LightInRoom$Telling" 29 1 3 := ⟨"LightInRoom$Telling", "LightInRoom$Called", zF_Cal, 6, rfl, by decide, zc_Cal, zT_in 365 (by decide +kernel) (by decide +kernel), Or.inl rfl⟩
theorem fp_Tel_29_1 : zfp "LightInRoom$Telling" 29 1 3 true .int := ⟨"LightInRoom$Called", zF_Cal, 6, zt_Cal, rfl, by decide, zc_Cal, zy_Cal, zn_Cal, zT_in 365 (by decide +kernel) (by decide +kernel), rfl, (fun _ => rfl), by decide +kernel⟩
theorem fl_Tel_29_2 : zfl "LightInRoom$Telling" 29 2 3 := ⟨"LightInRoom$Telling", "LightInRoom$Eye", zF_Eye, 6, rfl, by decide, zc_Eye, zT_in 365 (by decide +kernel) (by decide +kernel), Or.inl rfl⟩
theorem fp_Tel_29_2 : zfp "LightInRoom$Telling" 29 2 3 true .int := ⟨"LightInRoom$Eye", zF_Eye, 6, zt_Eye, rfl, by decide, zc_Eye, zy_Eye, zn_Eye, zT_in 365 (by decide +kernel) (by decide +kernel), rfl, (fun _ => rfl), by decide +kernel⟩
theorem fl_Tel_29_3 : zfl "LightInRoom$Telling" 29 3 3 := ⟨"LightInRoom$Telling", "LightInRoom$Grown", zF_Gro, 6, rfl, by decide, zc_Gro, zT_in 365 (by decide +kernel) (by decide +kernel), Or.inl rfl⟩
theorem fp_Tel_29_3 : zfp "LightInRoom$Telling" 29 3 3 true .int := ⟨"LightInRoom$Grown", zF_Gro, 6, zt_Gro, rfl, by decide, zc_Gro, zy_Gro, zn_Gro, zT_in 365 (by decide +kernel) (by decide +kernel), rfl, (fun _ => rfl), by decide +kernel⟩
theorem fl_Tel_29_5 : zfl "LightInRoom$Telling" 29 5 3 := ⟨"LightInRoom$Telling", "LightInRoom$Near", zF_Nea, 6, rfl, by decide, zc_Nea, zT_in 365 (by decide +kernel) (by decide +kernel), Or.inl rfl⟩
theorem fp_Tel_29_5 : zfp "LightInRoom$Telling" 29 5 3 true .int := ⟨"LightInRoom$Near", zF_Nea, 6, zt_Nea, rfl, by decide, zc_Nea, zy_Nea, zn_Nea, zT_in 365 (by decide +kernel) (by decide +kernel), rfl, (fun _ => rfl), by decide +kernel⟩
theorem fl_Tel_29_8 : zfl "LightInRoom$Telling" 29 8 3 := ⟨"LightInRoom$Telling", "LightInRoom$Through", zF_Thr, 6, rfl, by decide, zc_Thr, zT_in 365 (by decide +kernel) (by decide +kernel), Or.inl rfl⟩
theorem fp_Tel_29_8 : zfp "LightInRoom$Telling" 29 8 3 true .int := ⟨"LightInRoom$Through", zF_Thr, 6, zt_Thr, rfl, by decide, zc_Thr, zy_Thr, zn_Thr, zT_in 365 (by decide +kernel) (by decide +kernel), rfl, (fun _ => rfl), by decide +kernel⟩
theorem fl_Tel_29_9 : zfl "LightInRoom$Telling" 29 9 3 := ⟨"LightInRoom$Telling", "LightInRoom$Without", zF_Wit, 6, rfl, by decide, zc_Wit, zT_in 365 (by decide +kernel) (by decide +kernel), Or.inl rfl⟩
theorem fp_Tel_29_9 : zfp "LightInRoom$Telling" 29 9 3 true .int := ⟨"LightInRoom$Without", zF_Wit, 6, zt_Wit, rfl, by decide, zc_Wit, zy_Wit, zn_Wit, zT_in 365 (by decide +kernel) (by decide +kernel), rfl, (fun _ => rfl), by decide +kernel⟩
theorem fl_Ben_24_1 : zfl "LightInRoom$Bench" 24 1 3 := ⟨"LightInRoom$Telling", "LightInRoom$Called", zF_Cal, 6, rfl, by decide, zc_Cal, zT_in 366 (by decide +kernel) (by decide +kernel), Or.inl rfl⟩
theorem fl_Ben_24_2 : zfl "LightInRoom$Bench" 24 2 3 := ⟨"LightInRoom$Telling", "LightInRoom$Eye", zF_Eye, 6, rfl, by decide, zc_Eye, zT_in 366 (by decide +kernel) (by decide +kernel), Or.inl rfl⟩
theorem fl_Ben_24_3 : zfl "LightInRoom$Bench" 24 3 3 := ⟨"LightInRoom$Telling", "LightInRoom$Grown", zF_Gro, 6, rfl, by decide, zc_Gro, zT_in 366 (by decide +kernel) (by decide +kernel), Or.inl rfl⟩
theorem fl_Ben_24_5 : zfl "LightInRoom$Bench" 24 5 3 := ⟨"LightInRoom$Telling", "LightInRoom$Near", zF_Nea, 6, rfl, by decide, zc_Nea, zT_in 366 (by decide +kernel) (by decide +kernel), Or.inl rfl⟩
theorem fl_Ben_24_8 : zfl "LightInRoom$Bench" 24 8 3 := ⟨"LightInRoom$Telling", "LightInRoom$Through", zF_Thr, 6, rfl, by decide, zc_Thr, zT_in 366 (by decide +kernel) (by decide +kernel), Or.inl rfl⟩
theorem fl_Ben_24_9 : zfl "LightInRoom$Bench" 24 9 3 := ⟨"LightInRoom$Telling", "LightInRoom$Without", zF_Wit, 6, rfl, by decide, zc_Wit, zT_in 366 (by decide +kernel) (by decide +kernel), Or.inl rfl⟩
theorem fl_Law_32_1 : zfl "LightInRoom$Law" 32 1 3 := ⟨"LightInRoom$Telling", "LightInRoom$Called", zF_Cal, 6, rfl, by decide, zc_Cal, zT_in 367 (by decide +kernel) (by decide +kernel), Or.inl rfl⟩
theorem fl_Law_32_2 : zfl "LightInRoom$Law" 32 2 3 := ⟨"LightInRoom$Telling", "LightInRoom$Eye", zF_Eye, 6, rfl, by decide, zc_Eye, zT_in 367 (by decide +kernel) (by decide +kernel), Or.inl rfl⟩
theorem fl_Law_32_3 : zfl "LightInRoom$Law" 32 3 3 := ⟨"LightInRoom$Telling", "LightInRoom$Grown", zF_Gro, 6, rfl, by decide, zc_Gro, zT_in 367 (by decide +kernel) (by decide +kernel), Or.inl rfl⟩
theorem fl_Law_32_5 : zfl "LightInRoom$Law" 32 5 3 := ⟨"LightInRoom$Telling", "LightInRoom$Near", zF_Nea, 6, rfl, by decide, zc_Nea, zT_in 367 (by decide +kernel) (by decide +kernel), Or.inl rfl⟩
theorem fl_Law_32_8 : zfl "LightInRoom$Law" 32 8 3 := ⟨"LightInRoom$Telling", "LightInRoom$Through", zF_Thr, 6, rfl, by decide, zc_Thr, zT_in 367 (by decide +kernel) (by decide +kernel), Or.inl rfl⟩
theorem fl_Law_32_9 : zfl "LightInRoom$Law" 32 9 3 := ⟨"LightInRoom$Telling", "LightInRoom$Without", zF_Wit, 6, rfl, by decide, zc_Wit, zT_in 367 (by decide +kernel) (by decide +kernel), Or.inl rfl⟩
theorem fl_Lir_89_1 : zfl "LightInRoom" 89 1 3 := ⟨"LightInRoom$Telling", "LightInRoom$Called", zF_Cal, 6, rfl, by decide, zc_Cal, zT_in 368 (by decide +kernel) (by decide +kernel), Or.inl rfl⟩
theorem fl_Lir_89_2 : zfl "LightInRoom" 89 2 3 := ⟨"LightInRoom$Telling", "LightInRoom$Eye", zF_Eye, 6, rfl, by decide, zc_Eye, zT_in 368 (by decide +kernel) (by decide +kernel), Or.inl rfl⟩
theorem fl_Lir_89_3 : zfl "LightInRoom" 89 3 3 := ⟨"LightInRoom$Telling", "LightInRoom$Grown", zF_Gro, 6, rfl, by decide, zc_Gro, zT_in 368 (by decide +kernel) (by decide +kernel), Or.inl rfl⟩
theorem fl_Lir_89_5 : zfl "LightInRoom" 89 5 3 := ⟨"LightInRoom$Telling", "LightInRoom$Near", zF_Nea, 6, rfl, by decide, zc_Nea, zT_in 368 (by decide +kernel) (by decide +kernel), Or.inl rfl⟩
theorem fl_Lir_89_8 : zfl "LightInRoom" 89 8 3 := ⟨"LightInRoom$Telling", "LightInRoom$Through", zF_Thr, 6, rfl, by decide, zc_Thr, zT_in 368 (by decide +kernel) (by decide +kernel), Or.inl rfl⟩
theorem fl_Lir_89_9 : zfl "LightInRoom" 89 9 3 := ⟨"LightInRoom$Telling", "LightInRoom$Without", zF_Wit, 6, rfl, by decide, zc_Wit, zT_in 368 (by decide +kernel) (by decide +kernel), Or.inl rfl⟩
theorem fl_Roo_126_1 : zfl "LightInRoom$Room" 126 1 3 := ⟨"LightInRoom$Telling", "LightInRoom$Called", zF_Cal, 6, rfl, by decide, zc_Cal, zT_in 369 (by decide +kernel) (by decide +kernel), Or.inl rfl⟩
theorem fl_Roo_126_2 : zfl "LightInRoom$Room" 126 2 3 := ⟨"LightInRoom$Telling", "LightInRoom$Eye", zF_Eye, 6, rfl, by decide, zc_Eye, zT_in 369 (by decide +kernel) (by decide +kernel), Or.inl rfl⟩
theorem fl_Roo_126_3 : zfl "LightInRoom$Room" 126 3 3 := ⟨"LightInRoom$Telling", "LightInRoom$Grown", zF_Gro, 6, rfl, by decide, zc_Gro, zT_in 369 (by decide +kernel) (by decide +kernel), Or.inl rfl⟩
theorem fl_Roo_126_5 : zfl "LightInRoom$Room" 126 5 3 := ⟨"LightInRoom$Telling", "LightInRoom$Near", zF_Nea, 6, rfl, by decide, zc_Nea, zT_in 369 (by decide +kernel) (by decide +kernel), Or.inl rfl⟩
theorem fl_Roo_126_8 : zfl "LightInRoom$Room" 126 8 3 := ⟨"LightInRoom$Telling", "LightInRoom$Through", zF_Thr, 6, rfl, by decide, zc_Thr, zT_in 369 (by decide +kernel) (by decide +kernel), Or.inl rfl⟩
theorem fl_Roo_126_9 : zfl "LightInRoom$Room" 126 9 3 := ⟨"LightInRoom$Telling", "LightInRoom$Without", zF_Wit, 6, rfl, by decide, zc_Wit, zT_in 369 (by decide +kernel) (by decide +kernel), Or.inl rfl⟩
theorem fl_Tel_33_1 : zfl "LightInRoom$Telling" 33 1 4 := ⟨"LightInRoom$Telling", "LightInRoom$Called", zF_Cal, 6, rfl, by decide, zc_Cal, zT_in 370 (by decide +kernel) (by decide +kernel), Or.inl rfl⟩
theorem fp_Tel_33_1 : zfp "LightInRoom$Telling" 33 1 4 true .int := ⟨"LightInRoom$Called", zF_Cal, 6, zt_Cal, rfl, by decide, zc_Cal, zy_Cal, zn_Cal, zT_in 370 (by decide +kernel) (by decide +kernel), rfl, (fun _ => rfl), by decide +kernel⟩
theorem fl_Tel_33_2 : zfl "LightInRoom$Telling" 33 2 4 := ⟨"LightInRoom$Telling", "LightInRoom$Eye", zF_Eye, 6, rfl, by decide, zc_Eye, zT_in 370 (by decide +kernel) (by decide +kernel), Or.inl rfl⟩
theorem fp_Tel_33_2 : zfp "LightInRoom$Telling" 33 2 4 true .int := ⟨"LightInRoom$Eye", zF_Eye, 6, zt_Eye, rfl, by decide, zc_Eye, zy_Eye, zn_Eye, zT_in 370 (by decide +kernel) (by decide +kernel), rfl, (fun _ => rfl), by decide +kernel⟩
theorem fl_Tel_33_3 : zfl "LightInRoom$Telling" 33 3 4 := ⟨"LightInRoom$Telling", "LightInRoom$Grown", zF_Gro, 6, rfl, by decide, zc_Gro, zT_in 370 (by decide +kernel) (by decide +kernel), Or.inl rfl⟩
theorem fp_Tel_33_3 : zfp "LightInRoom$Telling" 33 3 4 true .int := ⟨"LightInRoom$Grown", zF_Gro, 6, zt_Gro, rfl, by decide, zc_Gro, zy_Gro, zn_Gro, zT_in 370 (by decide +kernel) (by decide +kernel), rfl, (fun _ => rfl), by decide +kernel⟩
theorem fl_Tel_33_5 : zfl "LightInRoom$Telling" 33 5 4 := ⟨"LightInRoom$Telling", "LightInRoom$Near", zF_Nea, 6, rfl, by decide, zc_Nea, zT_in 370 (by decide +kernel) (by decide +kernel), Or.inl rfl⟩
theorem fp_Tel_33_5 : zfp "LightInRoom$Telling" 33 5 4 true .int := ⟨"LightInRoom$Near", zF_Nea, 6, zt_Nea, rfl, by decide, zc_Nea, zy_Nea, zn_Nea, zT_in 370 (by decide +kernel) (by decide +kernel), rfl, (fun _ => rfl), by decide +kernel⟩
theorem fl_Tel_33_8 : zfl "LightInRoom$Telling" 33 8 4 := ⟨"LightInRoom$Telling", "LightInRoom$Through", zF_Thr, 6, rfl, by decide, zc_Thr, zT_in 370 (by decide +kernel) (by decide +kernel), Or.inl rfl⟩
theorem fp_Tel_33_8 : zfp "LightInRoom$Telling" 33 8 4 true .int := ⟨"LightInRoom$Through", zF_Thr, 6, zt_Thr, rfl, by decide, zc_Thr, zy_Thr, zn_Thr, zT_in 370 (by decide +kernel) (by decide +kernel), rfl, (fun _ => rfl), by decide +kernel⟩
theorem fl_Tel_33_9 : zfl "LightInRoom$Telling" 33 9 4 := ⟨"LightInRoom$Telling", "LightInRoom$Without", zF_Wit, 6, rfl, by decide, zc_Wit, zT_in 370 (by decide +kernel) (by decide +kernel), Or.inl rfl⟩
theorem fp_Tel_33_9 : zfp "LightInRoom$Telling" 33 9 4 true .int := ⟨"LightInRoom$Without", zF_Wit, 6, zt_Wit, rfl, by decide, zc_Wit, zy_Wit, zn_Wit, zT_in 370 (by decide +kernel) (by decide +kernel), rfl, (fun _ => rfl), by decide +kernel⟩
theorem fl_Gro_13_3 : zfl "LightInRoom$Grown" 13 3 4 := ⟨"LightInRoom$Grown", "LightInRoom$Grown", zF_Gro, 6, rfl, by decide, zc_Gro, zT_in 371 (by decide +kernel) (by decide +kernel), Or.inr (zT_in 372 (by decide +kernel) (by decide +kernel))⟩
theorem fl_Lir_92_1 : zfl "LightInRoom" 92 1 4 := ⟨"LightInRoom$Telling", "LightInRoom$Called", zF_Cal, 6, rfl, by decide, zc_Cal, zT_in 373 (by decide +kernel) (by decide +kernel), Or.inl rfl⟩
theorem fl_Lir_92_2 : zfl "LightInRoom" 92 2 4 := ⟨"LightInRoom$Telling", "LightInRoom$Eye", zF_Eye, 6, rfl, by decide, zc_Eye, zT_in 373 (by decide +kernel) (by decide +kernel), Or.inl rfl⟩
theorem fl_Lir_92_3 : zfl "LightInRoom" 92 3 4 := ⟨"LightInRoom$Telling", "LightInRoom$Grown", zF_Gro, 6, rfl, by decide, zc_Gro, zT_in 373 (by decide +kernel) (by decide +kernel), Or.inl rfl⟩
theorem fl_Lir_92_5 : zfl "LightInRoom" 92 5 4 := ⟨"LightInRoom$Telling", "LightInRoom$Near", zF_Nea, 6, rfl, by decide, zc_Nea, zT_in 373 (by decide +kernel) (by decide +kernel), Or.inl rfl⟩
theorem fl_Lir_92_8 : zfl "LightInRoom" 92 8 4 := ⟨"LightInRoom$Telling", "LightInRoom$Through", zF_Thr, 6, rfl, by decide, zc_Thr, zT_in 373 (by decide +kernel) (by decide +kernel), Or.inl rfl⟩
theorem fl_Lir_92_9 : zfl "LightInRoom" 92 9 4 := ⟨"LightInRoom$Telling", "LightInRoom$Without", zF_Wit, 6, rfl, by decide, zc_Wit, zT_in 373 (by decide +kernel) (by decide +kernel), Or.inl rfl⟩
theorem fl_Roo_98_1 : zfl "LightInRoom$Room" 98 1 4 := ⟨"LightInRoom$Telling", "LightInRoom$Called", zF_Cal, 6, rfl, by decide, zc_Cal, zT_in 374 (by decide +kernel) (by decide +kernel), Or.inl rfl⟩
theorem fl_Roo_98_2 : zfl "LightInRoom$Room" 98 2 4 := ⟨"LightInRoom$Telling", "LightInRoom$Eye", zF_Eye, 6, rfl, by decide, zc_Eye, zT_in 374 (by decide +kernel) (by decide +kernel), Or.inl rfl⟩
theorem fl_Roo_98_3 : zfl "LightInRoom$Room" 98 3 4 := ⟨"LightInRoom$Telling", "LightInRoom$Grown", zF_Gro, 6, rfl, by decide, zc_Gro, zT_in 374 (by decide +kernel) (by decide +kernel), Or.inl rfl⟩
theorem fl_Roo_98_5 : zfl "LightInRoom$Room" 98 5 4 := ⟨"LightInRoom$Telling", "LightInRoom$Near", zF_Nea, 6, rfl, by decide, zc_Nea, zT_in 374 (by decide +kernel) (by decide +kernel), Or.inl rfl⟩
theorem fl_Roo_98_8 : zfl "LightInRoom$Room" 98 8 4 := ⟨"LightInRoom$Telling", "LightInRoom$Through", zF_Thr, 6, rfl, by decide, zc_Thr, zT_in 374 (by decide +kernel) (by decide +kernel), Or.inl rfl⟩
theorem fl_Roo_98_9 : zfl "LightInRoom$Room" 98 9 4 := ⟨"LightInRoom$Telling", "LightInRoom$Without", zF_Wit, 6, rfl, by decide, zc_Wit, zT_in 374 (by decide +kernel) (by decide +kernel), Or.inl rfl⟩
theorem fl_Tel_38_1 : zfl "LightInRoom$Telling" 38 1 5 := ⟨"LightInRoom$Telling", "LightInRoom$Called", zF_Cal, 6, rfl, by decide, zc_Cal, zT_in 375 (by decide +kernel) (by decide +kernel), Or.inl rfl⟩
theorem fp_Tel_38_1 : zfp "LightInRoom$Telling" 38 1 5 true .boolean := ⟨"LightInRoom$Called", zF_Cal, 6, zt_Cal, rfl, by decide, zc_Cal, zy_Cal, zn_Cal, zT_in 375 (by decide +kernel) (by decide +kernel), rfl, (fun _ => rfl), by decide +kernel⟩
theorem fl_Tel_38_2 : zfl "LightInRoom$Telling" 38 2 5 := ⟨"LightInRoom$Telling", "LightInRoom$Eye", zF_Eye, 6, rfl, by decide, zc_Eye, zT_in 375 (by decide +kernel) (by decide +kernel), Or.inl rfl⟩
theorem fp_Tel_38_2 : zfp "LightInRoom$Telling" 38 2 5 true .boolean := ⟨"LightInRoom$Eye", zF_Eye, 6, zt_Eye, rfl, by decide, zc_Eye, zy_Eye, zn_Eye, zT_in 375 (by decide +kernel) (by decide +kernel), rfl, (fun _ => rfl), by decide +kernel⟩
theorem fl_Tel_38_3 : zfl "LightInRoom$Telling" 38 3 5 := ⟨"LightInRoom$Telling", "LightInRoom$Grown", zF_Gro, 6, rfl, by decide, zc_Gro, zT_in 375 (by decide +kernel) (by decide +kernel), Or.inl rfl⟩
theorem fp_Tel_38_3 : zfp "LightInRoom$Telling" 38 3 5 true .boolean := ⟨"LightInRoom$Grown", zF_Gro, 6, zt_Gro, rfl, by decide, zc_Gro, zy_Gro, zn_Gro, zT_in 375 (by decide +kernel) (by decide +kernel), rfl, (fun _ => rfl), by decide +kernel⟩
theorem fl_Tel_38_5 : zfl "LightInRoom$Telling" 38 5 5 := ⟨"LightInRoom$Telling", "LightInRoom$Near", zF_Nea, 6, rfl, by decide, zc_Nea, zT_in 375 (by decide +kernel) (by decide +kernel), Or.inl rfl⟩
theorem fp_Tel_38_5 : zfp "LightInRoom$Telling" 38 5 5 true .boolean := ⟨"LightInRoom$Near", zF_Nea, 6, zt_Nea, rfl, by decide, zc_Nea, zy_Nea, zn_Nea, zT_in 375 (by decide +kernel) (by decide +kernel), rfl, (fun _ => rfl), by decide +kernel⟩
theorem fl_Tel_38_8 : zfl "LightInRoom$Telling" 38 8 5 := ⟨"LightInRoom$Telling", "LightInRoom$Through", zF_Thr, 6, rfl, by decide, zc_Thr, zT_in 375 (by decide +kernel) (by decide +kernel), Or.inl rfl⟩
theorem fp_Tel_38_8 : zfp "LightInRoom$Telling" 38 8 5 true .boolean := ⟨"LightInRoom$Through", zF_Thr, 6, zt_Thr, rfl, by decide, zc_Thr, zy_Thr, zn_Thr, zT_in 375 (by decide +kernel) (by decide +kernel), rfl, (fun _ => rfl), by decide +kernel⟩
theorem fl_Tel_38_9 : zfl "LightInRoom$Telling" 38 9 5 := ⟨"LightInRoom$Telling", "LightInRoom$Without", zF_Wit, 6, rfl, by decide, zc_Wit, zT_in 375 (by decide +kernel) (by decide +kernel), Or.inl rfl⟩
theorem fp_Tel_38_9 : zfp "LightInRoom$Telling" 38 9 5 true .boolean := ⟨"LightInRoom$Without", zF_Wit, 6, zt_Wit, rfl, by decide, zc_Wit, zy_Wit, zn_Wit, zT_in 375 (by decide +kernel) (by decide +kernel), rfl, (fun _ => rfl), by decide +kernel⟩
theorem fl_Lir_95_1 : zfl "LightInRoom" 95 1 5 := ⟨"LightInRoom$Telling", "LightInRoom$Called", zF_Cal, 6, rfl, by decide, zc_Cal, zT_in 376 (by decide +kernel) (by decide +kernel), Or.inl rfl⟩
theorem fl_Lir_95_2 : zfl "LightInRoom" 95 2 5 := ⟨"LightInRoom$Telling", "LightInRoom$Eye", zF_Eye, 6, rfl, by decide, zc_Eye, zT_in 376 (by decide +kernel) (by decide +kernel), Or.inl rfl⟩
theorem fl_Lir_95_3 : zfl "LightInRoom" 95 3 5 := ⟨"LightInRoom$Telling", "LightInRoom$Grown", zF_Gro, 6, rfl, by decide, zc_Gro, zT_in 376 (by decide +kernel) (by decide +kernel), Or.inl rfl⟩
theorem fl_Lir_95_5 : zfl "LightInRoom" 95 5 5 := ⟨"LightInRoom$Telling", "LightInRoom$Near", zF_Nea, 6, rfl, by decide, zc_Nea, zT_in 376 (by decide +kernel) (by decide +kernel), Or.inl rfl⟩
theorem fl_Lir_95_8 : zfl "LightInRoom" 95 8 5 := ⟨"LightInRoom$Telling", "LightInRoom$Through", zF_Thr, 6, rfl, by decide, zc_Thr, zT_in 376 (by decide +kernel) (by decide +kernel), Or.inl rfl⟩
theorem fl_Lir_95_9 : zfl "LightInRoom" 95 9 5 := ⟨"LightInRoom$Telling", "LightInRoom$Without", zF_Wit, 6, rfl, by decide, zc_Wit, zT_in 376 (by decide +kernel) (by decide +kernel), Or.inl rfl⟩
theorem fl_Roo_119_1 : zfl "LightInRoom$Room" 119 1 5 := ⟨"LightInRoom$Telling", "LightInRoom$Called", zF_Cal, 6, rfl, by decide, zc_Cal, zT_in 377 (by decide +kernel) (by decide +kernel), Or.inl rfl⟩
theorem fl_Roo_119_2 : zfl "LightInRoom$Room" 119 2 5 := ⟨"LightInRoom$Telling", "LightInRoom$Eye", zF_Eye, 6, rfl, by decide, zc_Eye, zT_in 377 (by decide +kernel) (by decide +kernel), Or.inl rfl⟩
theorem fl_Roo_119_3 : zfl "LightInRoom$Room" 119 3 5 := ⟨"LightInRoom$Telling", "LightInRoom$Grown", zF_Gro, 6, rfl, by decide, zc_Gro, zT_in 377 (by decide +kernel) (by decide +kernel), Or.inl rfl⟩
theorem fl_Roo_119_5 : zfl "LightInRoom$Room" 119 5 5 := ⟨"LightInRoom$Telling", "LightInRoom$Near", zF_Nea, 6, rfl, by decide, zc_Nea, zT_in 377 (by decide +kernel) (by decide +kernel), Or.inl rfl⟩
theorem fl_Roo_119_8 : zfl "LightInRoom$Room" 119 8 5 := ⟨"LightInRoom$Telling", "LightInRoom$Through", zF_Thr, 6, rfl, by decide, zc_Thr, zT_in 377 (by decide +kernel) (by decide +kernel), Or.inl rfl⟩
theorem fl_Roo_119_9 : zfl "LightInRoom$Room" 119 9 5 := ⟨"LightInRoom$Telling", "LightInRoom$Without", zF_Wit, 6, rfl, by decide, zc_Wit, zT_in 377 (by decide +kernel) (by decide +kernel), Or.inl rfl⟩
theorem fl_Mod_7_11 : zfl "LightInRoomModel" 7 11 0 := ⟨"LightInRoomModel", "LightInRoomModel", zF_Mod, 8, rfl, by decide, zc_Mod, zT_in 868 (by decide +kernel) (by decide +kernel), Or.inl rfl⟩
theorem fp_Mod_7_11 : zfp "LightInRoomModel" 7 11 0 true (.array .int) := ⟨"LightInRoomModel", zF_Mod, 8, zt_Mod, rfl, by decide, zc_Mod, zy_Mod, zn_Mod, zT_in 868 (by decide +kernel) (by decide +kernel), rfl, (fun _ => rfl), by decide +kernel⟩
theorem fl_Mod_13_11 : zfl "LightInRoomModel" 13 11 1 := ⟨"LightInRoomModel", "LightInRoomModel", zF_Mod, 8, rfl, by decide, zc_Mod, zT_in 869 (by decide +kernel) (by decide +kernel), Or.inl rfl⟩
theorem fp_Mod_13_11 : zfp "LightInRoomModel" 13 11 1 true (.array .int) := ⟨"LightInRoomModel", zF_Mod, 8, zt_Mod, rfl, by decide, zc_Mod, zy_Mod, zn_Mod, zT_in 869 (by decide +kernel) (by decide +kernel), rfl, (fun _ => rfl), by decide +kernel⟩
theorem fl_Mod_16_11 : zfl "LightInRoomModel" 16 11 2 := ⟨"LightInRoomModel", "LightInRoomModel", zF_Mod, 8, rfl, by decide, zc_Mod, zT_in 870 (by decide +kernel) (by decide +kernel), Or.inl rfl⟩
theorem fp_Mod_16_11 : zfp "LightInRoomModel" 16 11 2 true (.array .int) := ⟨"LightInRoomModel", zF_Mod, 8, zt_Mod, rfl, by decide, zc_Mod, zy_Mod, zn_Mod, zT_in 870 (by decide +kernel) (by decide +kernel), rfl, (fun _ => rfl), by decide +kernel⟩
theorem fl_Mod_124_11 : zfl "LightInRoomModel" 124 11 3 := ⟨"LightInRoomModel", "LightInRoomModel", zF_Mod, 8, rfl, by decide, zc_Mod, zT_in 871 (by decide +kernel) (by decide +kernel), Or.inl rfl⟩
theorem fp_Mod_124_11 : zfp "LightInRoomModel" 124 11 3 false .boolean := ⟨"LightInRoomModel", zF_Mod, 8, zt_Mod, rfl, by decide, zc_Mod, zy_Mod, zn_Mod, zT_in 871 (by decide +kernel) (by decide +kernel), rfl, (fun h => by cases h), by decide +kernel⟩
theorem fl_Mod_19_11 : zfl "LightInRoomModel" 19 11 4 := ⟨"LightInRoomModel", "LightInRoomModel", zF_Mod, 8, rfl, by decide, zc_Mod, zT_in 872 (by decide +kernel) (by decide +kernel), Or.inl rfl⟩
theorem fp_Mod_19_11 : zfp "LightInRoomModel" 19 11 4 true (.array .int) := ⟨"LightInRoomModel", zF_Mod, 8, zt_Mod, rfl, by decide, zc_Mod, zy_Mod, zn_Mod, zT_in 872 (by decide +kernel) (by decide +kernel), rfl, (fun _ => rfl), by decide +kernel⟩
theorem fl_Mod_22_11 : zfl "LightInRoomModel" 22 11 5 := ⟨"LightInRoomModel", "LightInRoomModel", zF_Mod, 8, rfl, by decide, zc_Mod, zT_in 873 (by decide +kernel) (by decide +kernel), Or.inl rfl⟩
theorem fp_Mod_22_11 : zfp "LightInRoomModel" 22 11 5 true (.array .int) := ⟨"LightInRoomModel", zF_Mod, 8, zt_Mod, rfl, by decide, zc_Mod, zy_Mod, zn_Mod, zT_in 873 (by decide +kernel) (by decide +kernel), rfl, (fun _ => rfl), by decide +kernel⟩
theorem fl_Mod_33_11 : zfl "LightInRoomModel" 33 11 6 := ⟨"LightInRoomModel", "LightInRoomModel", zF_Mod, 8, rfl, by decide, zc_Mod, zT_in 874 (by decide +kernel) (by decide +kernel), Or.inl rfl⟩
theorem fp_Mod_33_11 : zfp "LightInRoomModel" 33 11 6 false .int := ⟨"LightInRoomModel", zF_Mod, 8, zt_Mod, rfl, by decide, zc_Mod, zy_Mod, zn_Mod, zT_in 874 (by decide +kernel) (by decide +kernel), rfl, (fun h => by cases h), by decide +kernel⟩
theorem fl_Mod_39_11 : zfl "LightInRoomModel" 39 11 7 := ⟨"LightInRoomModel", "LightInRoomModel", zF_Mod, 8, rfl, by decide, zc_Mod, zT_in 875 (by decide +kernel) (by decide +kernel), Or.inl rfl⟩
theorem fp_Mod_39_11 : zfp "LightInRoomModel" 39 11 7 false .int := ⟨"LightInRoomModel", zF_Mod, 8, zt_Mod, rfl, by decide, zc_Mod, zy_Mod, zn_Mod, zT_in 875 (by decide +kernel) (by decide +kernel), rfl, (fun h => by cases h), by decide +kernel⟩
theorem nw_LLL_7 : zcNew "LightInRoomLaw" 7 10 [.null, .null, .null, .null, .null, .int 0] := ⟨"LightInRoom", zF_Lir, 6, zt_Lir, rfl, zc_Lir, zy_Lir, cl_LLL_7, it_Lir, zi_Lir, by decide +kernel, rfl⟩
theorem nw_Lir_7 : zcNew "LightInRoom" 7 7 [.null, .int 0, .int 0, .int 0, .int 0, .int 0, .int 0, .int 0, .int 0] := ⟨"LightInRoom$Tape", zF_Tap, 9, zt_Tap, rfl, zc_Tap, zy_Tap, cl_Lir_7, it_Tap, zi_Tap, by decide +kernel, rfl⟩
theorem nw_Lir_16 : zcNew "LightInRoom" 16 6 [.null, .null, .null, .null, .null, .null, .null, .int 0, .int 0, .int 0, .int 0] := ⟨"LightInRoom$Room", zF_Roo, 11, zt_Roo, rfl, zc_Roo, zy_Roo, cl_Lir_16, it_Roo, zi_Roo, by decide +kernel, rfl⟩
theorem nw_Roo_17 : zcNew "LightInRoom$Room" 17 4 [.null, .int 0] := ⟨"LightInRoom$Law", zF_Law, 2, zt_Law, rfl, zc_Law, zy_Law, cl_Roo_17, it_Law, zi_Law, by decide +kernel, rfl⟩
theorem nw_Roo_37 : zcNew "LightInRoom$Room" 37 0 [.int 0, .int 0, .int 0, .int 0] := ⟨"LightInRoom$Bench", zF_Ben, 4, zt_Ben, rfl, zc_Ben, zy_Ben, cl_Roo_37, it_Ben, zi_Ben, by decide +kernel, rfl⟩
theorem nw_Tap_47 : zcNew "LightInRoom$Tape" 47 1 [.int 0, .int 0, .int 0, .int 0, .int 0, .int 0] := ⟨"LightInRoom$Called", zF_Cal, 6, zt_Cal, rfl, zc_Cal, zy_Cal, cl_Tap_47, it_Cal, zi_Cal, by decide +kernel, rfl⟩
theorem nw_Tap_59 : zcNew "LightInRoom$Tape" 59 2 [.int 0, .int 0, .int 0, .int 0, .int 0, .int 0] := ⟨"LightInRoom$Eye", zF_Eye, 6, zt_Eye, rfl, zc_Eye, zy_Eye, cl_Tap_59, it_Eye, zi_Eye, by decide +kernel, rfl⟩
theorem nw_Tap_62 : zcNew "LightInRoom$Tape" 62 8 [.int 0, .int 0, .int 0, .int 0, .int 0, .int 0] := ⟨"LightInRoom$Through", zF_Thr, 6, zt_Thr, rfl, zc_Thr, zy_Thr, cl_Tap_62, it_Thr, zi_Thr, by decide +kernel, rfl⟩
theorem nw_Tap_65 : zcNew "LightInRoom$Tape" 65 5 [.int 0, .int 0, .int 0, .int 0, .int 0, .int 0] := ⟨"LightInRoom$Near", zF_Nea, 6, zt_Nea, rfl, zc_Nea, zy_Nea, cl_Tap_65, it_Nea, zi_Nea, by decide +kernel, rfl⟩
theorem nw_Tap_71 : zcNew "LightInRoom$Tape" 71 3 [.int 0, .int 0, .int 0, .int 0, .int 0, .int 0] := ⟨"LightInRoom$Grown", zF_Gro, 6, zt_Gro, rfl, zc_Gro, zy_Gro, cl_Tap_71, it_Gro, zi_Gro, by decide +kernel, rfl⟩
theorem nw_Tap_74 : zcNew "LightInRoom$Tape" 74 9 [.int 0, .int 0, .int 0, .int 0, .int 0, .int 0] := ⟨"LightInRoom$Without", zF_Wit, 6, zt_Wit, rfl, zc_Wit, zy_Wit, cl_Tap_74, it_Wit, zi_Wit, by decide +kernel, rfl⟩
theorem nw_LLL_10 : zcNew "LightInRoomLaw" 10 11 [.null, .null, .null, .int 0, .null, .null, .int 0, .int 0] := ⟨"LightInRoomModel", zF_Mod, 8, zt_Mod, rfl, zc_Mod, zy_Mod, cl_LLL_10, it_Mod, zi_Mod, by decide +kernel, rfl⟩
end
section
theorem d_Mod_init_0 : decode prog_14_method_1_code 0 = .ok (.aload_n 0, 1) := by decide +kernel
theorem d_Mod_init_1 : decode prog_14_method_1_code 1 = .ok (.invokespecial 1, 3) := by decide +kernel
theorem d_Mod_init_4 : decode prog_14_method_1_code 4 = .ok (.aload_n 0, 1) := by decide +kernel
theorem d_Mod_init_5 : decode prog_14_method_1_code 5 = .ok (.bipush 7, 2) := by decide +kernel
theorem d_Mod_init_7 : decode prog_14_method_1_code 7 = .ok (.newarray .int, 2) := by decide +kernel
theorem d_Mod_init_9 : decode prog_14_method_1_code 9 = .ok (.putfield 7, 3) := by decide +kernel
theorem d_Mod_init_12 : decode prog_14_method_1_code 12 = .ok (.aload_n 0, 1) := by decide +kernel
theorem d_Mod_init_13 : decode prog_14_method_1_code 13 = .ok (.sipush 268, 3) := by decide +kernel
theorem d_Mod_init_16 : decode prog_14_method_1_code 16 = .ok (.newarray .int, 2) := by decide +kernel
theorem d_Mod_init_18 : decode prog_14_method_1_code 18 = .ok (.putfield 13, 3) := by decide +kernel
theorem d_Mod_init_21 : decode prog_14_method_1_code 21 = .ok (.aload_n 0, 1) := by decide +kernel
theorem d_Mod_init_22 : decode prog_14_method_1_code 22 = .ok (.sipush 268, 3) := by decide +kernel
theorem d_Mod_init_25 : decode prog_14_method_1_code 25 = .ok (.newarray .int, 2) := by decide +kernel
theorem d_Mod_init_27 : decode prog_14_method_1_code 27 = .ok (.putfield 16, 3) := by decide +kernel
theorem d_Mod_init_30 : decode prog_14_method_1_code 30 = .ok (.aload_n 0, 1) := by decide +kernel
theorem d_Mod_init_31 : decode prog_14_method_1_code 31 = .ok (.bipush 24, 2) := by decide +kernel
theorem d_Mod_init_33 : decode prog_14_method_1_code 33 = .ok (.newarray .int, 2) := by decide +kernel
theorem d_Mod_init_35 : decode prog_14_method_1_code 35 = .ok (.putfield 19, 3) := by decide +kernel
theorem d_Mod_init_38 : decode prog_14_method_1_code 38 = .ok (.aload_n 0, 1) := by decide +kernel
theorem d_Mod_init_39 : decode prog_14_method_1_code 39 = .ok (.bipush 6, 2) := by decide +kernel
theorem d_Mod_init_41 : decode prog_14_method_1_code 41 = .ok (.newarray .int, 2) := by decide +kernel
theorem d_Mod_init_43 : decode prog_14_method_1_code 43 = .ok (.putfield 22, 3) := by decide +kernel
theorem d_Mod_init_46 : decode prog_14_method_1_code 46 = .ok (.iconst 0, 1) := by decide +kernel
theorem d_Mod_init_47 : decode prog_14_method_1_code 47 = .ok (.istore_n 1, 1) := by decide +kernel
theorem d_Mod_init_48 : decode prog_14_method_1_code 48 = .ok (.iload_n 1, 1) := by decide +kernel
theorem d_Mod_init_49 : decode prog_14_method_1_code 49 = .ok (.bipush 6, 2) := by decide +kernel
theorem d_Mod_init_51 : decode prog_14_method_1_code 51 = .ok (.if_icmp .ge 81, 3) := by decide +kernel
theorem d_Mod_init_54 : decode prog_14_method_1_code 54 = .ok (.aload_n 0, 1) := by decide +kernel
theorem d_Mod_init_55 : decode prog_14_method_1_code 55 = .ok (.getfield 13, 3) := by decide +kernel
theorem d_Mod_init_58 : decode prog_14_method_1_code 58 = .ok (.sipush 186, 3) := by decide +kernel
theorem d_Mod_init_61 : decode prog_14_method_1_code 61 = .ok (.bipush 8, 2) := by decide +kernel
theorem d_Mod_init_63 : decode prog_14_method_1_code 63 = .ok (.iload_n 1, 1) := by decide +kernel
theorem d_Mod_init_64 : decode prog_14_method_1_code 64 = .ok (.imul, 1) := by decide +kernel
theorem d_Mod_init_65 : decode prog_14_method_1_code 65 = .ok (.iadd, 1) := by decide +kernel
theorem d_Mod_init_66 : decode prog_14_method_1_code 66 = .ok (.iconst 1, 1) := by decide +kernel
theorem d_Mod_init_67 : decode prog_14_method_1_code 67 = .ok (.iadd, 1) := by decide +kernel
theorem d_Mod_init_68 : decode prog_14_method_1_code 68 = .ok (.sipush 999, 3) := by decide +kernel
theorem d_Mod_init_71 : decode prog_14_method_1_code 71 = .ok (.iastore, 1) := by decide +kernel
theorem d_Mod_init_72 : decode prog_14_method_1_code 72 = .ok (.aload_n 0, 1) := by decide +kernel
theorem d_Mod_init_73 : decode prog_14_method_1_code 73 = .ok (.getfield 13, 3) := by decide +kernel
theorem d_Mod_init_76 : decode prog_14_method_1_code 76 = .ok (.sipush 186, 3) := by decide +kernel
theorem d_Mod_init_79 : decode prog_14_method_1_code 79 = .ok (.bipush 8, 2) := by decide +kernel
theorem d_Mod_init_81 : decode prog_14_method_1_code 81 = .ok (.iload_n 1, 1) := by decide +kernel
theorem d_Mod_init_82 : decode prog_14_method_1_code 82 = .ok (.imul, 1) := by decide +kernel
theorem d_Mod_init_83 : decode prog_14_method_1_code 83 = .ok (.iadd, 1) := by decide +kernel
theorem d_Mod_init_84 : decode prog_14_method_1_code 84 = .ok (.iconst 3, 1) := by decide +kernel
theorem d_Mod_init_85 : decode prog_14_method_1_code 85 = .ok (.iadd, 1) := by decide +kernel
theorem d_Mod_init_86 : decode prog_14_method_1_code 86 = .ok (.sipush 999, 3) := by decide +kernel
theorem d_Mod_init_89 : decode prog_14_method_1_code 89 = .ok (.iastore, 1) := by decide +kernel
theorem d_Mod_init_90 : decode prog_14_method_1_code 90 = .ok (.aload_n 0, 1) := by decide +kernel
theorem d_Mod_init_91 : decode prog_14_method_1_code 91 = .ok (.getfield 13, 3) := by decide +kernel
theorem d_Mod_init_94 : decode prog_14_method_1_code 94 = .ok (.sipush 186, 3) := by decide +kernel
theorem d_Mod_init_97 : decode prog_14_method_1_code 97 = .ok (.bipush 8, 2) := by decide +kernel
theorem d_Mod_init_99 : decode prog_14_method_1_code 99 = .ok (.iload_n 1, 1) := by decide +kernel
theorem d_Mod_init_100 : decode prog_14_method_1_code 100 = .ok (.imul, 1) := by decide +kernel
theorem d_Mod_init_101 : decode prog_14_method_1_code 101 = .ok (.iadd, 1) := by decide +kernel
theorem d_Mod_init_102 : decode prog_14_method_1_code 102 = .ok (.iconst 4, 1) := by decide +kernel
theorem d_Mod_init_103 : decode prog_14_method_1_code 103 = .ok (.iadd, 1) := by decide +kernel
theorem d_Mod_init_104 : decode prog_14_method_1_code 104 = .ok (.sipush 255, 3) := by decide +kernel
theorem d_Mod_init_107 : decode prog_14_method_1_code 107 = .ok (.iastore, 1) := by decide +kernel
theorem d_Mod_init_108 : decode prog_14_method_1_code 108 = .ok (.aload_n 0, 1) := by decide +kernel
theorem d_Mod_init_109 : decode prog_14_method_1_code 109 = .ok (.getfield 13, 3) := by decide +kernel
theorem d_Mod_init_112 : decode prog_14_method_1_code 112 = .ok (.sipush 186, 3) := by decide +kernel
theorem d_Mod_init_115 : decode prog_14_method_1_code 115 = .ok (.bipush 8, 2) := by decide +kernel
theorem d_Mod_init_117 : decode prog_14_method_1_code 117 = .ok (.iload_n 1, 1) := by decide +kernel
theorem d_Mod_init_118 : decode prog_14_method_1_code 118 = .ok (.imul, 1) := by decide +kernel
theorem d_Mod_init_119 : decode prog_14_method_1_code 119 = .ok (.iadd, 1) := by decide +kernel
theorem d_Mod_init_120 : decode prog_14_method_1_code 120 = .ok (.bipush 7, 2) := by decide +kernel
theorem d_Mod_init_122 : decode prog_14_method_1_code 122 = .ok (.iadd, 1) := by decide +kernel
theorem d_Mod_init_123 : decode prog_14_method_1_code 123 = .ok (.bipush 10, 2) := by decide +kernel
theorem d_Mod_init_125 : decode prog_14_method_1_code 125 = .ok (.iastore, 1) := by decide +kernel
theorem d_Mod_init_126 : decode prog_14_method_1_code 126 = .ok (.iinc 1 1, 3) := by decide +kernel
theorem d_Mod_init_129 : decode prog_14_method_1_code 129 = .ok (.goto (-81), 3) := by decide +kernel
theorem d_Mod_init_132 : decode prog_14_method_1_code 132 = .ok (.return_, 1) := by decide +kernel
theorem d_Mod_refuse_0 : decode prog_14_method_2_code 0 = .ok (.aload_n 0, 1) := by decide +kernel
theorem d_Mod_refuse_1 : decode prog_14_method_2_code 1 = .ok (.getfield 7, 3) := by decide +kernel
theorem d_Mod_refuse_4 : decode prog_14_method_2_code 4 = .ok (.iload_n 1, 1) := by decide +kernel
theorem d_Mod_refuse_5 : decode prog_14_method_2_code 5 = .ok (.ineg, 1) := by decide +kernel
theorem d_Mod_refuse_6 : decode prog_14_method_2_code 6 = .ok (.dup2, 1) := by decide +kernel
theorem d_Mod_refuse_7 : decode prog_14_method_2_code 7 = .ok (.iaload, 1) := by decide +kernel
theorem d_Mod_refuse_8 : decode prog_14_method_2_code 8 = .ok (.iconst 1, 1) := by decide +kernel
theorem d_Mod_refuse_9 : decode prog_14_method_2_code 9 = .ok (.iadd, 1) := by decide +kernel
theorem d_Mod_refuse_10 : decode prog_14_method_2_code 10 = .ok (.iastore, 1) := by decide +kernel
theorem d_Mod_refuse_11 : decode prog_14_method_2_code 11 = .ok (.iload_n 1, 1) := by decide +kernel
theorem d_Mod_refuse_12 : decode prog_14_method_2_code 12 = .ok (.ireturn, 1) := by decide +kernel
theorem d_Mod_isIn_0 : decode prog_14_method_3_code 0 = .ok (.iload_n 0, 1) := by decide +kernel
theorem d_Mod_isIn_1 : decode prog_14_method_3_code 1 = .ok (.ifCond .lt 12, 3) := by decide +kernel
theorem d_Mod_isIn_4 : decode prog_14_method_3_code 4 = .ok (.iload_n 0, 1) := by decide +kernel
theorem d_Mod_isIn_5 : decode prog_14_method_3_code 5 = .ok (.iload_n 1, 1) := by decide +kernel
theorem d_Mod_isIn_6 : decode prog_14_method_3_code 6 = .ok (.if_icmp .ge 7, 3) := by decide +kernel
theorem d_Mod_isIn_9 : decode prog_14_method_3_code 9 = .ok (.iconst 1, 1) := by decide +kernel
theorem d_Mod_isIn_10 : decode prog_14_method_3_code 10 = .ok (.goto 4, 3) := by decide +kernel
theorem d_Mod_isIn_13 : decode prog_14_method_3_code 13 = .ok (.iconst 0, 1) := by decide +kernel
theorem d_Mod_isIn_14 : decode prog_14_method_3_code 14 = .ok (.ireturn, 1) := by decide +kernel
theorem d_Mod_within_0 : decode prog_14_method_4_code 0 = .ok (.iload_n 0, 1) := by decide +kernel
theorem d_Mod_within_1 : decode prog_14_method_4_code 1 = .ok (.iload_n 1, 1) := by decide +kernel
theorem d_Mod_within_2 : decode prog_14_method_4_code 2 = .ok (.if_icmp .ge 8, 3) := by decide +kernel
theorem d_Mod_within_5 : decode prog_14_method_4_code 5 = .ok (.bipush (-4), 2) := by decide +kernel
theorem d_Mod_within_7 : decode prog_14_method_4_code 7 = .ok (.goto 14, 3) := by decide +kernel
theorem d_Mod_within_10 : decode prog_14_method_4_code 10 = .ok (.iload_n 0, 1) := by decide +kernel
theorem d_Mod_within_11 : decode prog_14_method_4_code 11 = .ok (.iload_n 2, 1) := by decide +kernel
theorem d_Mod_within_12 : decode prog_14_method_4_code 12 = .ok (.if_icmp .le 8, 3) := by decide +kernel
theorem d_Mod_within_15 : decode prog_14_method_4_code 15 = .ok (.bipush (-6), 2) := by decide +kernel
theorem d_Mod_within_17 : decode prog_14_method_4_code 17 = .ok (.goto 4, 3) := by decide +kernel
theorem d_Mod_within_20 : decode prog_14_method_4_code 20 = .ok (.iconst 0, 1) := by decide +kernel
theorem d_Mod_within_21 : decode prog_14_method_4_code 21 = .ok (.ireturn, 1) := by decide +kernel
theorem d_Mod_isTelling_0 : decode prog_14_method_5_code 0 = .ok (.iload_n 1, 1) := by decide +kernel
theorem d_Mod_isTelling_1 : decode prog_14_method_5_code 1 = .ok (.aload_n 0, 1) := by decide +kernel
theorem d_Mod_isTelling_2 : decode prog_14_method_5_code 2 = .ok (.getfield 13, 3) := by decide +kernel
theorem d_Mod_isTelling_5 : decode prog_14_method_5_code 5 = .ok (.iconst 0, 1) := by decide +kernel
theorem d_Mod_isTelling_6 : decode prog_14_method_5_code 6 = .ok (.iaload, 1) := by decide +kernel
theorem d_Mod_isTelling_7 : decode prog_14_method_5_code 7 = .ok (.invokestatic 25, 3) := by decide +kernel
theorem d_Mod_isTelling_10 : decode prog_14_method_5_code 10 = .ok (.ireturn, 1) := by decide +kernel
theorem d_Mod_isLaw_0 : decode prog_14_method_6_code 0 = .ok (.iload_n 0, 1) := by decide +kernel
theorem d_Mod_isLaw_1 : decode prog_14_method_6_code 1 = .ok (.bipush 6, 2) := by decide +kernel
theorem d_Mod_isLaw_3 : decode prog_14_method_6_code 3 = .ok (.invokestatic 25, 3) := by decide +kernel
theorem d_Mod_isLaw_6 : decode prog_14_method_6_code 6 = .ok (.ireturn, 1) := by decide +kernel
theorem d_Mod_get_0 : decode prog_14_method_7_code 0 = .ok (.aload_n 0, 1) := by decide +kernel
theorem d_Mod_get_1 : decode prog_14_method_7_code 1 = .ok (.getfield 13, 3) := by decide +kernel
theorem d_Mod_get_4 : decode prog_14_method_7_code 4 = .ok (.bipush 6, 2) := by decide +kernel
theorem d_Mod_get_6 : decode prog_14_method_7_code 6 = .ok (.bipush 6, 2) := by decide +kernel
theorem d_Mod_get_8 : decode prog_14_method_7_code 8 = .ok (.iload_n 1, 1) := by decide +kernel
theorem d_Mod_get_9 : decode prog_14_method_7_code 9 = .ok (.imul, 1) := by decide +kernel
theorem d_Mod_get_10 : decode prog_14_method_7_code 10 = .ok (.iadd, 1) := by decide +kernel
theorem d_Mod_get_11 : decode prog_14_method_7_code 11 = .ok (.iload_n 2, 1) := by decide +kernel
theorem d_Mod_get_12 : decode prog_14_method_7_code 12 = .ok (.iadd, 1) := by decide +kernel
theorem d_Mod_get_13 : decode prog_14_method_7_code 13 = .ok (.iaload, 1) := by decide +kernel
theorem d_Mod_get_14 : decode prog_14_method_7_code 14 = .ok (.ireturn, 1) := by decide +kernel
theorem d_Mod_becomes_0 : decode prog_14_method_8_code 0 = .ok (.aload_n 0, 1) := by decide +kernel
theorem d_Mod_becomes_1 : decode prog_14_method_8_code 1 = .ok (.getfield 13, 3) := by decide +kernel
theorem d_Mod_becomes_4 : decode prog_14_method_8_code 4 = .ok (.iload_n 1, 1) := by decide +kernel
theorem d_Mod_becomes_5 : decode prog_14_method_8_code 5 = .ok (.iaload, 1) := by decide +kernel
theorem d_Mod_becomes_6 : decode prog_14_method_8_code 6 = .ok (.istore_n 3, 1) := by decide +kernel
theorem d_Mod_becomes_7 : decode prog_14_method_8_code 7 = .ok (.aload_n 0, 1) := by decide +kernel
theorem d_Mod_becomes_8 : decode prog_14_method_8_code 8 = .ok (.getfield 13, 3) := by decide +kernel
theorem d_Mod_becomes_11 : decode prog_14_method_8_code 11 = .ok (.iload_n 1, 1) := by decide +kernel
theorem d_Mod_becomes_12 : decode prog_14_method_8_code 12 = .ok (.iload_n 2, 1) := by decide +kernel
theorem d_Mod_becomes_13 : decode prog_14_method_8_code 13 = .ok (.iastore, 1) := by decide +kernel
theorem d_Mod_becomes_14 : decode prog_14_method_8_code 14 = .ok (.iload_n 3, 1) := by decide +kernel
theorem d_Mod_becomes_15 : decode prog_14_method_8_code 15 = .ok (.ireturn, 1) := by decide +kernel
theorem d_Mod_feed_0 : decode prog_14_method_9_code 0 = .ok (.iload_n 1, 1) := by decide +kernel
theorem d_Mod_feed_1 : decode prog_14_method_9_code 1 = .ok (.iconst 1, 1) := by decide +kernel
theorem d_Mod_feed_2 : decode prog_14_method_9_code 2 = .ok (.if_icmp .ge 10, 3) := by decide +kernel
theorem d_Mod_feed_5 : decode prog_14_method_9_code 5 = .ok (.aload_n 0, 1) := by decide +kernel
theorem d_Mod_feed_6 : decode prog_14_method_9_code 6 = .ok (.bipush (-4), 2) := by decide +kernel
theorem d_Mod_feed_8 : decode prog_14_method_9_code 8 = .ok (.invokevirtual 29, 3) := by decide +kernel
theorem d_Mod_feed_11 : decode prog_14_method_9_code 11 = .ok (.ireturn, 1) := by decide +kernel
theorem d_Mod_feed_12 : decode prog_14_method_9_code 12 = .ok (.iload_n 1, 1) := by decide +kernel
theorem d_Mod_feed_13 : decode prog_14_method_9_code 13 = .ok (.bipush 8, 2) := by decide +kernel
theorem d_Mod_feed_15 : decode prog_14_method_9_code 15 = .ok (.if_icmp .gt 14, 3) := by decide +kernel
theorem d_Mod_feed_18 : decode prog_14_method_9_code 18 = .ok (.aload_n 0, 1) := by decide +kernel
theorem d_Mod_feed_19 : decode prog_14_method_9_code 19 = .ok (.getfield 33, 3) := by decide +kernel
theorem d_Mod_feed_22 : decode prog_14_method_9_code 22 = .ok (.iload_n 1, 1) := by decide +kernel
theorem d_Mod_feed_23 : decode prog_14_method_9_code 23 = .ok (.iadd, 1) := by decide +kernel
theorem d_Mod_feed_24 : decode prog_14_method_9_code 24 = .ok (.bipush 24, 2) := by decide +kernel
theorem d_Mod_feed_26 : decode prog_14_method_9_code 26 = .ok (.if_icmp .le 10, 3) := by decide +kernel
theorem d_Mod_feed_29 : decode prog_14_method_9_code 29 = .ok (.aload_n 0, 1) := by decide +kernel
theorem d_Mod_feed_30 : decode prog_14_method_9_code 30 = .ok (.bipush (-6), 2) := by decide +kernel
theorem d_Mod_feed_32 : decode prog_14_method_9_code 32 = .ok (.invokevirtual 29, 3) := by decide +kernel
theorem d_Mod_feed_35 : decode prog_14_method_9_code 35 = .ok (.ireturn, 1) := by decide +kernel
theorem d_Mod_feed_36 : decode prog_14_method_9_code 36 = .ok (.iconst 0, 1) := by decide +kernel
theorem d_Mod_feed_37 : decode prog_14_method_9_code 37 = .ok (.istore 4, 2) := by decide +kernel
theorem d_Mod_feed_39 : decode prog_14_method_9_code 39 = .ok (.iload 4, 2) := by decide +kernel
theorem d_Mod_feed_41 : decode prog_14_method_9_code 41 = .ok (.iload_n 1, 1) := by decide +kernel
theorem d_Mod_feed_42 : decode prog_14_method_9_code 42 = .ok (.if_icmp .ge 40, 3) := by decide +kernel
theorem d_Mod_feed_45 : decode prog_14_method_9_code 45 = .ok (.aload_n 0, 1) := by decide +kernel
theorem d_Mod_feed_46 : decode prog_14_method_9_code 46 = .ok (.getfield 19, 3) := by decide +kernel
theorem d_Mod_feed_49 : decode prog_14_method_9_code 49 = .ok (.aload_n 0, 1) := by decide +kernel
theorem d_Mod_feed_50 : decode prog_14_method_9_code 50 = .ok (.getfield 33, 3) := by decide +kernel
theorem d_Mod_feed_53 : decode prog_14_method_9_code 53 = .ok (.lload_n 2, 1) := by decide +kernel
theorem d_Mod_feed_54 : decode prog_14_method_9_code 54 = .ok (.bipush 8, 2) := by decide +kernel
theorem d_Mod_feed_56 : decode prog_14_method_9_code 56 = .ok (.iload 4, 2) := by decide +kernel
theorem d_Mod_feed_58 : decode prog_14_method_9_code 58 = .ok (.imul, 1) := by decide +kernel
theorem d_Mod_feed_59 : decode prog_14_method_9_code 59 = .ok (.lshr, 1) := by decide +kernel
theorem d_Mod_feed_60 : decode prog_14_method_9_code 60 = .ok (.ldc2_w 37, 3) := by decide +kernel
theorem d_Mod_feed_63 : decode prog_14_method_9_code 63 = .ok (.land, 1) := by decide +kernel
theorem d_Mod_feed_64 : decode prog_14_method_9_code 64 = .ok (.l2i, 1) := by decide +kernel
theorem d_Mod_feed_65 : decode prog_14_method_9_code 65 = .ok (.iastore, 1) := by decide +kernel
theorem d_Mod_feed_66 : decode prog_14_method_9_code 66 = .ok (.aload_n 0, 1) := by decide +kernel
theorem d_Mod_feed_67 : decode prog_14_method_9_code 67 = .ok (.dup, 1) := by decide +kernel
theorem d_Mod_feed_68 : decode prog_14_method_9_code 68 = .ok (.getfield 33, 3) := by decide +kernel
theorem d_Mod_feed_71 : decode prog_14_method_9_code 71 = .ok (.iconst 1, 1) := by decide +kernel
theorem d_Mod_feed_72 : decode prog_14_method_9_code 72 = .ok (.iadd, 1) := by decide +kernel
theorem d_Mod_feed_73 : decode prog_14_method_9_code 73 = .ok (.putfield 33, 3) := by decide +kernel
theorem d_Mod_feed_76 : decode prog_14_method_9_code 76 = .ok (.iinc 4 1, 3) := by decide +kernel
theorem d_Mod_feed_79 : decode prog_14_method_9_code 79 = .ok (.goto (-40), 3) := by decide +kernel
theorem d_Mod_feed_82 : decode prog_14_method_9_code 82 = .ok (.aload_n 0, 1) := by decide +kernel
theorem d_Mod_feed_83 : decode prog_14_method_9_code 83 = .ok (.getfield 33, 3) := by decide +kernel
theorem d_Mod_feed_86 : decode prog_14_method_9_code 86 = .ok (.ireturn, 1) := by decide +kernel
theorem d_Mod_sign_0 : decode prog_14_method_10_code 0 = .ok (.aload_n 0, 1) := by decide +kernel
theorem d_Mod_sign_1 : decode prog_14_method_10_code 1 = .ok (.getfield 39, 3) := by decide +kernel
theorem d_Mod_sign_4 : decode prog_14_method_10_code 4 = .ok (.aload_n 0, 1) := by decide +kernel
theorem d_Mod_sign_5 : decode prog_14_method_10_code 5 = .ok (.getfield 33, 3) := by decide +kernel
theorem d_Mod_sign_8 : decode prog_14_method_10_code 8 = .ok (.if_icmp .lt 7, 3) := by decide +kernel
theorem d_Mod_sign_11 : decode prog_14_method_10_code 11 = .ok (.iconst (-1), 1) := by decide +kernel
theorem d_Mod_sign_12 : decode prog_14_method_10_code 12 = .ok (.goto 12, 3) := by decide +kernel
theorem d_Mod_sign_15 : decode prog_14_method_10_code 15 = .ok (.aload_n 0, 1) := by decide +kernel
theorem d_Mod_sign_16 : decode prog_14_method_10_code 16 = .ok (.getfield 19, 3) := by decide +kernel
theorem d_Mod_sign_19 : decode prog_14_method_10_code 19 = .ok (.aload_n 0, 1) := by decide +kernel
theorem d_Mod_sign_20 : decode prog_14_method_10_code 20 = .ok (.getfield 39, 3) := by decide +kernel
theorem d_Mod_sign_23 : decode prog_14_method_10_code 23 = .ok (.iaload, 1) := by decide +kernel
theorem d_Mod_sign_24 : decode prog_14_method_10_code 24 = .ok (.ireturn, 1) := by decide +kernel
theorem d_Mod_isDigit_0 : decode prog_14_method_11_code 0 = .ok (.aload_n 0, 1) := by decide +kernel
theorem d_Mod_isDigit_1 : decode prog_14_method_11_code 1 = .ok (.invokevirtual 42, 3) := by decide +kernel
theorem d_Mod_isDigit_4 : decode prog_14_method_11_code 4 = .ok (.bipush 48, 2) := by decide +kernel
theorem d_Mod_isDigit_6 : decode prog_14_method_11_code 6 = .ok (.if_icmp .lt 16, 3) := by decide +kernel
theorem d_Mod_isDigit_9 : decode prog_14_method_11_code 9 = .ok (.aload_n 0, 1) := by decide +kernel
theorem d_Mod_isDigit_10 : decode prog_14_method_11_code 10 = .ok (.invokevirtual 42, 3) := by decide +kernel
theorem d_Mod_isDigit_13 : decode prog_14_method_11_code 13 = .ok (.bipush 57, 2) := by decide +kernel
theorem d_Mod_isDigit_15 : decode prog_14_method_11_code 15 = .ok (.if_icmp .gt 7, 3) := by decide +kernel
theorem d_Mod_isDigit_18 : decode prog_14_method_11_code 18 = .ok (.iconst 1, 1) := by decide +kernel
theorem d_Mod_isDigit_19 : decode prog_14_method_11_code 19 = .ok (.goto 4, 3) := by decide +kernel
theorem d_Mod_isDigit_22 : decode prog_14_method_11_code 22 = .ok (.iconst 0, 1) := by decide +kernel
theorem d_Mod_isDigit_23 : decode prog_14_method_11_code 23 = .ok (.ireturn, 1) := by decide +kernel
theorem d_Mod_readsNumber_0 : decode prog_14_method_12_code 0 = .ok (.aload_n 0, 1) := by decide +kernel
theorem d_Mod_readsNumber_1 : decode prog_14_method_12_code 1 = .ok (.invokevirtual 46, 3) := by decide +kernel
theorem d_Mod_readsNumber_4 : decode prog_14_method_12_code 4 = .ok (.ifCond .ne 5, 3) := by decide +kernel
theorem d_Mod_readsNumber_7 : decode prog_14_method_12_code 7 = .ok (.iconst 0, 1) := by decide +kernel
theorem d_Mod_readsNumber_8 : decode prog_14_method_12_code 8 = .ok (.ireturn, 1) := by decide +kernel
theorem d_Mod_readsNumber_9 : decode prog_14_method_12_code 9 = .ok (.aload_n 0, 1) := by decide +kernel
theorem d_Mod_readsNumber_10 : decode prog_14_method_12_code 10 = .ok (.getfield 22, 3) := by decide +kernel
theorem d_Mod_readsNumber_13 : decode prog_14_method_12_code 13 = .ok (.iload_n 1, 1) := by decide +kernel
theorem d_Mod_readsNumber_14 : decode prog_14_method_12_code 14 = .ok (.iconst 0, 1) := by decide +kernel
theorem d_Mod_readsNumber_15 : decode prog_14_method_12_code 15 = .ok (.iastore, 1) := by decide +kernel
theorem d_Mod_readsNumber_16 : decode prog_14_method_12_code 16 = .ok (.iconst 0, 1) := by decide +kernel
theorem d_Mod_readsNumber_17 : decode prog_14_method_12_code 17 = .ok (.istore_n 3, 1) := by decide +kernel
theorem d_Mod_readsNumber_18 : decode prog_14_method_12_code 18 = .ok (.iload_n 3, 1) := by decide +kernel
theorem d_Mod_readsNumber_19 : decode prog_14_method_12_code 19 = .ok (.iload_n 2, 1) := by decide +kernel
theorem d_Mod_readsNumber_20 : decode prog_14_method_12_code 20 = .ok (.if_icmp .ge 49, 3) := by decide +kernel
theorem d_Mod_readsNumber_23 : decode prog_14_method_12_code 23 = .ok (.aload_n 0, 1) := by decide +kernel
theorem d_Mod_readsNumber_24 : decode prog_14_method_12_code 24 = .ok (.invokevirtual 46, 3) := by decide +kernel
theorem d_Mod_readsNumber_27 : decode prog_14_method_12_code 27 = .ok (.ifCond .eq 42, 3) := by decide +kernel
theorem d_Mod_readsNumber_30 : decode prog_14_method_12_code 30 = .ok (.aload_n 0, 1) := by decide +kernel
theorem d_Mod_readsNumber_31 : decode prog_14_method_12_code 31 = .ok (.getfield 22, 3) := by decide +kernel
theorem d_Mod_readsNumber_34 : decode prog_14_method_12_code 34 = .ok (.iload_n 1, 1) := by decide +kernel
theorem d_Mod_readsNumber_35 : decode prog_14_method_12_code 35 = .ok (.bipush 10, 2) := by decide +kernel
theorem d_Mod_readsNumber_37 : decode prog_14_method_12_code 37 = .ok (.aload_n 0, 1) := by decide +kernel
theorem d_Mod_readsNumber_38 : decode prog_14_method_12_code 38 = .ok (.getfield 22, 3) := by decide +kernel
theorem d_Mod_readsNumber_41 : decode prog_14_method_12_code 41 = .ok (.iload_n 1, 1) := by decide +kernel
theorem d_Mod_readsNumber_42 : decode prog_14_method_12_code 42 = .ok (.iaload, 1) := by decide +kernel
theorem d_Mod_readsNumber_43 : decode prog_14_method_12_code 43 = .ok (.imul, 1) := by decide +kernel
theorem d_Mod_readsNumber_44 : decode prog_14_method_12_code 44 = .ok (.aload_n 0, 1) := by decide +kernel
theorem d_Mod_readsNumber_45 : decode prog_14_method_12_code 45 = .ok (.invokevirtual 42, 3) := by decide +kernel
theorem d_Mod_readsNumber_48 : decode prog_14_method_12_code 48 = .ok (.iadd, 1) := by decide +kernel
theorem d_Mod_readsNumber_49 : decode prog_14_method_12_code 49 = .ok (.bipush 48, 2) := by decide +kernel
theorem d_Mod_readsNumber_51 : decode prog_14_method_12_code 51 = .ok (.isub, 1) := by decide +kernel
theorem d_Mod_readsNumber_52 : decode prog_14_method_12_code 52 = .ok (.iastore, 1) := by decide +kernel
theorem d_Mod_readsNumber_53 : decode prog_14_method_12_code 53 = .ok (.aload_n 0, 1) := by decide +kernel
theorem d_Mod_readsNumber_54 : decode prog_14_method_12_code 54 = .ok (.dup, 1) := by decide +kernel
theorem d_Mod_readsNumber_55 : decode prog_14_method_12_code 55 = .ok (.getfield 39, 3) := by decide +kernel
theorem d_Mod_readsNumber_58 : decode prog_14_method_12_code 58 = .ok (.iconst 1, 1) := by decide +kernel
theorem d_Mod_readsNumber_59 : decode prog_14_method_12_code 59 = .ok (.iadd, 1) := by decide +kernel
theorem d_Mod_readsNumber_60 : decode prog_14_method_12_code 60 = .ok (.putfield 39, 3) := by decide +kernel
theorem d_Mod_readsNumber_63 : decode prog_14_method_12_code 63 = .ok (.iinc 3 1, 3) := by decide +kernel
theorem d_Mod_readsNumber_66 : decode prog_14_method_12_code 66 = .ok (.goto (-48), 3) := by decide +kernel
theorem d_Mod_readsNumber_69 : decode prog_14_method_12_code 69 = .ok (.iconst 1, 1) := by decide +kernel
theorem d_Mod_readsNumber_70 : decode prog_14_method_12_code 70 = .ok (.ireturn, 1) := by decide +kernel
theorem d_Mod_markOf_0 : decode prog_14_method_13_code 0 = .ok (.iload_n 0, 1) := by decide +kernel
theorem d_Mod_markOf_1 : decode prog_14_method_13_code 1 = .ok (.tableswitch 121 98 119 #[103, 121, 121, 121, 121, 121, 105, 121, 121, 121, 121, 113, 111, 115, 118, 121, 121, 121, 121, 107, 121, 109], 103) := by decide +kernel
theorem d_Mod_markOf_104 : decode prog_14_method_13_code 104 = .ok (.iconst 0, 1) := by decide +kernel
theorem d_Mod_markOf_105 : decode prog_14_method_13_code 105 = .ok (.ireturn, 1) := by decide +kernel
theorem d_Mod_markOf_106 : decode prog_14_method_13_code 106 = .ok (.iconst 1, 1) := by decide +kernel
theorem d_Mod_markOf_107 : decode prog_14_method_13_code 107 = .ok (.ireturn, 1) := by decide +kernel
theorem d_Mod_markOf_108 : decode prog_14_method_13_code 108 = .ok (.iconst 2, 1) := by decide +kernel
theorem d_Mod_markOf_109 : decode prog_14_method_13_code 109 = .ok (.ireturn, 1) := by decide +kernel
theorem d_Mod_markOf_110 : decode prog_14_method_13_code 110 = .ok (.iconst 3, 1) := by decide +kernel
theorem d_Mod_markOf_111 : decode prog_14_method_13_code 111 = .ok (.ireturn, 1) := by decide +kernel
theorem d_Mod_markOf_112 : decode prog_14_method_13_code 112 = .ok (.iconst 4, 1) := by decide +kernel
theorem d_Mod_markOf_113 : decode prog_14_method_13_code 113 = .ok (.ireturn, 1) := by decide +kernel
theorem d_Mod_markOf_114 : decode prog_14_method_13_code 114 = .ok (.iconst 5, 1) := by decide +kernel
theorem d_Mod_markOf_115 : decode prog_14_method_13_code 115 = .ok (.ireturn, 1) := by decide +kernel
theorem d_Mod_markOf_116 : decode prog_14_method_13_code 116 = .ok (.bipush 6, 2) := by decide +kernel
theorem d_Mod_markOf_118 : decode prog_14_method_13_code 118 = .ok (.ireturn, 1) := by decide +kernel
theorem d_Mod_markOf_119 : decode prog_14_method_13_code 119 = .ok (.bipush 7, 2) := by decide +kernel
theorem d_Mod_markOf_121 : decode prog_14_method_13_code 121 = .ok (.ireturn, 1) := by decide +kernel
theorem d_Mod_markOf_122 : decode prog_14_method_13_code 122 = .ok (.bipush (-9), 2) := by decide +kernel
theorem d_Mod_markOf_124 : decode prog_14_method_13_code 124 = .ok (.ireturn, 1) := by decide +kernel
theorem d_Mod_takes_0 : decode prog_14_method_14_code 0 = .ok (.aload_n 0, 1) := by decide +kernel
theorem d_Mod_takes_1 : decode prog_14_method_14_code 1 = .ok (.invokevirtual 42, 3) := by decide +kernel
theorem d_Mod_takes_4 : decode prog_14_method_14_code 4 = .ok (.iload_n 1, 1) := by decide +kernel
theorem d_Mod_takes_5 : decode prog_14_method_14_code 5 = .ok (.if_icmp .eq 5, 3) := by decide +kernel
theorem d_Mod_takes_8 : decode prog_14_method_14_code 8 = .ok (.iconst 0, 1) := by decide +kernel
theorem d_Mod_takes_9 : decode prog_14_method_14_code 9 = .ok (.ireturn, 1) := by decide +kernel
theorem d_Mod_takes_10 : decode prog_14_method_14_code 10 = .ok (.aload_n 0, 1) := by decide +kernel
theorem d_Mod_takes_11 : decode prog_14_method_14_code 11 = .ok (.dup, 1) := by decide +kernel
theorem d_Mod_takes_12 : decode prog_14_method_14_code 12 = .ok (.getfield 39, 3) := by decide +kernel
theorem d_Mod_takes_15 : decode prog_14_method_14_code 15 = .ok (.iconst 1, 1) := by decide +kernel
theorem d_Mod_takes_16 : decode prog_14_method_14_code 16 = .ok (.iadd, 1) := by decide +kernel
theorem d_Mod_takes_17 : decode prog_14_method_14_code 17 = .ok (.putfield 39, 3) := by decide +kernel
theorem d_Mod_takes_20 : decode prog_14_method_14_code 20 = .ok (.iconst 1, 1) := by decide +kernel
theorem d_Mod_takes_21 : decode prog_14_method_14_code 21 = .ok (.ireturn, 1) := by decide +kernel
theorem d_Mod_reads_0 : decode prog_14_method_15_code 0 = .ok (.aload_n 0, 1) := by decide +kernel
theorem d_Mod_reads_1 : decode prog_14_method_15_code 1 = .ok (.iconst 0, 1) := by decide +kernel
theorem d_Mod_reads_2 : decode prog_14_method_15_code 2 = .ok (.putfield 39, 3) := by decide +kernel
theorem d_Mod_reads_5 : decode prog_14_method_15_code 5 = .ok (.iconst 0, 1) := by decide +kernel
theorem d_Mod_reads_6 : decode prog_14_method_15_code 6 = .ok (.istore_n 1, 1) := by decide +kernel
theorem d_Mod_reads_7 : decode prog_14_method_15_code 7 = .ok (.iload_n 1, 1) := by decide +kernel
theorem d_Mod_reads_8 : decode prog_14_method_15_code 8 = .ok (.iconst 3, 1) := by decide +kernel
theorem d_Mod_reads_9 : decode prog_14_method_15_code 9 = .ok (.if_icmp .ge 17, 3) := by decide +kernel
theorem d_Mod_reads_12 : decode prog_14_method_15_code 12 = .ok (.aload_n 0, 1) := by decide +kernel
theorem d_Mod_reads_13 : decode prog_14_method_15_code 13 = .ok (.getfield 22, 3) := by decide +kernel
theorem d_Mod_reads_16 : decode prog_14_method_15_code 16 = .ok (.iload_n 1, 1) := by decide +kernel
theorem d_Mod_reads_17 : decode prog_14_method_15_code 17 = .ok (.bipush (-9), 2) := by decide +kernel
theorem d_Mod_reads_19 : decode prog_14_method_15_code 19 = .ok (.iastore, 1) := by decide +kernel
theorem d_Mod_reads_20 : decode prog_14_method_15_code 20 = .ok (.iinc 1 1, 3) := by decide +kernel
theorem d_Mod_reads_23 : decode prog_14_method_15_code 23 = .ok (.goto (-16), 3) := by decide +kernel
theorem d_Mod_reads_26 : decode prog_14_method_15_code 26 = .ok (.iconst 3, 1) := by decide +kernel
theorem d_Mod_reads_27 : decode prog_14_method_15_code 27 = .ok (.istore_n 1, 1) := by decide +kernel
theorem d_Mod_reads_28 : decode prog_14_method_15_code 28 = .ok (.iload_n 1, 1) := by decide +kernel
theorem d_Mod_reads_29 : decode prog_14_method_15_code 29 = .ok (.bipush 6, 2) := by decide +kernel
theorem d_Mod_reads_31 : decode prog_14_method_15_code 31 = .ok (.if_icmp .ge 16, 3) := by decide +kernel
theorem d_Mod_reads_34 : decode prog_14_method_15_code 34 = .ok (.aload_n 0, 1) := by decide +kernel
theorem d_Mod_reads_35 : decode prog_14_method_15_code 35 = .ok (.getfield 22, 3) := by decide +kernel
theorem d_Mod_reads_38 : decode prog_14_method_15_code 38 = .ok (.iload_n 1, 1) := by decide +kernel
theorem d_Mod_reads_39 : decode prog_14_method_15_code 39 = .ok (.iconst 0, 1) := by decide +kernel
theorem d_Mod_reads_40 : decode prog_14_method_15_code 40 = .ok (.iastore, 1) := by decide +kernel
theorem d_Mod_reads_41 : decode prog_14_method_15_code 41 = .ok (.iinc 1 1, 3) := by decide +kernel
theorem d_Mod_reads_44 : decode prog_14_method_15_code 44 = .ok (.goto (-16), 3) := by decide +kernel
theorem d_Mod_reads_47 : decode prog_14_method_15_code 47 = .ok (.aload_n 0, 1) := by decide +kernel
theorem d_Mod_reads_48 : decode prog_14_method_15_code 48 = .ok (.bipush 115, 2) := by decide +kernel
theorem d_Mod_reads_50 : decode prog_14_method_15_code 50 = .ok (.invokevirtual 50, 3) := by decide +kernel
theorem d_Mod_reads_53 : decode prog_14_method_15_code 53 = .ok (.ifCond .eq 14, 3) := by decide +kernel
theorem d_Mod_reads_56 : decode prog_14_method_15_code 56 = .ok (.aload_n 0, 1) := by decide +kernel
theorem d_Mod_reads_57 : decode prog_14_method_15_code 57 = .ok (.iconst 0, 1) := by decide +kernel
theorem d_Mod_reads_58 : decode prog_14_method_15_code 58 = .ok (.iconst 3, 1) := by decide +kernel
theorem d_Mod_reads_59 : decode prog_14_method_15_code 59 = .ok (.invokevirtual 54, 3) := by decide +kernel
theorem d_Mod_reads_62 : decode prog_14_method_15_code 62 = .ok (.ifCond .ne 5, 3) := by decide +kernel
theorem d_Mod_reads_65 : decode prog_14_method_15_code 65 = .ok (.iconst 0, 1) := by decide +kernel
theorem d_Mod_reads_66 : decode prog_14_method_15_code 66 = .ok (.ireturn, 1) := by decide +kernel
theorem d_Mod_reads_67 : decode prog_14_method_15_code 67 = .ok (.aload_n 0, 1) := by decide +kernel
theorem d_Mod_reads_68 : decode prog_14_method_15_code 68 = .ok (.bipush 116, 2) := by decide +kernel
theorem d_Mod_reads_70 : decode prog_14_method_15_code 70 = .ok (.invokevirtual 50, 3) := by decide +kernel
theorem d_Mod_reads_73 : decode prog_14_method_15_code 73 = .ok (.ifCond .eq 14, 3) := by decide +kernel
theorem d_Mod_reads_76 : decode prog_14_method_15_code 76 = .ok (.aload_n 0, 1) := by decide +kernel
theorem d_Mod_reads_77 : decode prog_14_method_15_code 77 = .ok (.iconst 1, 1) := by decide +kernel
theorem d_Mod_reads_78 : decode prog_14_method_15_code 78 = .ok (.iconst 3, 1) := by decide +kernel
theorem d_Mod_reads_79 : decode prog_14_method_15_code 79 = .ok (.invokevirtual 54, 3) := by decide +kernel
theorem d_Mod_reads_82 : decode prog_14_method_15_code 82 = .ok (.ifCond .ne 5, 3) := by decide +kernel
theorem d_Mod_reads_85 : decode prog_14_method_15_code 85 = .ok (.iconst 0, 1) := by decide +kernel
theorem d_Mod_reads_86 : decode prog_14_method_15_code 86 = .ok (.ireturn, 1) := by decide +kernel
theorem d_Mod_reads_87 : decode prog_14_method_15_code 87 = .ok (.aload_n 0, 1) := by decide +kernel
theorem d_Mod_reads_88 : decode prog_14_method_15_code 88 = .ok (.bipush 99, 2) := by decide +kernel
theorem d_Mod_reads_90 : decode prog_14_method_15_code 90 = .ok (.invokevirtual 50, 3) := by decide +kernel
theorem d_Mod_reads_93 : decode prog_14_method_15_code 93 = .ok (.ifCond .eq 46, 3) := by decide +kernel
theorem d_Mod_reads_96 : decode prog_14_method_15_code 96 = .ok (.aload_n 0, 1) := by decide +kernel
theorem d_Mod_reads_97 : decode prog_14_method_15_code 97 = .ok (.invokevirtual 42, 3) := by decide +kernel
theorem d_Mod_reads_100 : decode prog_14_method_15_code 100 = .ok (.bipush 48, 2) := by decide +kernel
theorem d_Mod_reads_102 : decode prog_14_method_15_code 102 = .ok (.if_icmp .lt 12, 3) := by decide +kernel
theorem d_Mod_reads_105 : decode prog_14_method_15_code 105 = .ok (.aload_n 0, 1) := by decide +kernel
theorem d_Mod_reads_106 : decode prog_14_method_15_code 106 = .ok (.invokevirtual 42, 3) := by decide +kernel
theorem d_Mod_reads_109 : decode prog_14_method_15_code 109 = .ok (.bipush 55, 2) := by decide +kernel
theorem d_Mod_reads_111 : decode prog_14_method_15_code 111 = .ok (.if_icmp .le 5, 3) := by decide +kernel
theorem d_Mod_reads_114 : decode prog_14_method_15_code 114 = .ok (.iconst 0, 1) := by decide +kernel
theorem d_Mod_reads_115 : decode prog_14_method_15_code 115 = .ok (.ireturn, 1) := by decide +kernel
theorem d_Mod_reads_116 : decode prog_14_method_15_code 116 = .ok (.aload_n 0, 1) := by decide +kernel
theorem d_Mod_reads_117 : decode prog_14_method_15_code 117 = .ok (.getfield 22, 3) := by decide +kernel
theorem d_Mod_reads_120 : decode prog_14_method_15_code 120 = .ok (.iconst 2, 1) := by decide +kernel
theorem d_Mod_reads_121 : decode prog_14_method_15_code 121 = .ok (.aload_n 0, 1) := by decide +kernel
theorem d_Mod_reads_122 : decode prog_14_method_15_code 122 = .ok (.invokevirtual 42, 3) := by decide +kernel
theorem d_Mod_reads_125 : decode prog_14_method_15_code 125 = .ok (.bipush 48, 2) := by decide +kernel
theorem d_Mod_reads_127 : decode prog_14_method_15_code 127 = .ok (.isub, 1) := by decide +kernel
theorem d_Mod_reads_128 : decode prog_14_method_15_code 128 = .ok (.iastore, 1) := by decide +kernel
theorem d_Mod_reads_129 : decode prog_14_method_15_code 129 = .ok (.aload_n 0, 1) := by decide +kernel
theorem d_Mod_reads_130 : decode prog_14_method_15_code 130 = .ok (.dup, 1) := by decide +kernel
theorem d_Mod_reads_131 : decode prog_14_method_15_code 131 = .ok (.getfield 39, 3) := by decide +kernel
theorem d_Mod_reads_134 : decode prog_14_method_15_code 134 = .ok (.iconst 1, 1) := by decide +kernel
theorem d_Mod_reads_135 : decode prog_14_method_15_code 135 = .ok (.iadd, 1) := by decide +kernel
theorem d_Mod_reads_136 : decode prog_14_method_15_code 136 = .ok (.putfield 39, 3) := by decide +kernel
theorem d_Mod_reads_139 : decode prog_14_method_15_code 139 = .ok (.iconst (-1), 1) := by decide +kernel
theorem d_Mod_reads_140 : decode prog_14_method_15_code 140 = .ok (.istore_n 1, 1) := by decide +kernel
theorem d_Mod_reads_141 : decode prog_14_method_15_code 141 = .ok (.aload_n 0, 1) := by decide +kernel
theorem d_Mod_reads_142 : decode prog_14_method_15_code 142 = .ok (.invokevirtual 42, 3) := by decide +kernel
theorem d_Mod_reads_145 : decode prog_14_method_15_code 145 = .ok (.invokestatic 57, 3) := by decide +kernel
theorem d_Mod_reads_148 : decode prog_14_method_15_code 148 = .ok (.iload_n 1, 1) := by decide +kernel
theorem d_Mod_reads_149 : decode prog_14_method_15_code 149 = .ok (.if_icmp .le 36, 3) := by decide +kernel
theorem d_Mod_reads_152 : decode prog_14_method_15_code 152 = .ok (.aload_n 0, 1) := by decide +kernel
theorem d_Mod_reads_153 : decode prog_14_method_15_code 153 = .ok (.invokevirtual 42, 3) := by decide +kernel
theorem d_Mod_reads_156 : decode prog_14_method_15_code 156 = .ok (.invokestatic 57, 3) := by decide +kernel
theorem d_Mod_reads_159 : decode prog_14_method_15_code 159 = .ok (.istore_n 1, 1) := by decide +kernel
theorem d_Mod_reads_160 : decode prog_14_method_15_code 160 = .ok (.aload_n 0, 1) := by decide +kernel
theorem d_Mod_reads_161 : decode prog_14_method_15_code 161 = .ok (.getfield 22, 3) := by decide +kernel
theorem d_Mod_reads_164 : decode prog_14_method_15_code 164 = .ok (.iconst 3, 1) := by decide +kernel
theorem d_Mod_reads_165 : decode prog_14_method_15_code 165 = .ok (.dup2, 1) := by decide +kernel
theorem d_Mod_reads_166 : decode prog_14_method_15_code 166 = .ok (.iaload, 1) := by decide +kernel
theorem d_Mod_reads_167 : decode prog_14_method_15_code 167 = .ok (.iconst 1, 1) := by decide +kernel
theorem d_Mod_reads_168 : decode prog_14_method_15_code 168 = .ok (.iload_n 1, 1) := by decide +kernel
theorem d_Mod_reads_169 : decode prog_14_method_15_code 169 = .ok (.ishl, 1) := by decide +kernel
theorem d_Mod_reads_170 : decode prog_14_method_15_code 170 = .ok (.ior, 1) := by decide +kernel
theorem d_Mod_reads_171 : decode prog_14_method_15_code 171 = .ok (.iastore, 1) := by decide +kernel
theorem d_Mod_reads_172 : decode prog_14_method_15_code 172 = .ok (.aload_n 0, 1) := by decide +kernel
theorem d_Mod_reads_173 : decode prog_14_method_15_code 173 = .ok (.dup, 1) := by decide +kernel
theorem d_Mod_reads_174 : decode prog_14_method_15_code 174 = .ok (.getfield 39, 3) := by decide +kernel
theorem d_Mod_reads_177 : decode prog_14_method_15_code 177 = .ok (.iconst 1, 1) := by decide +kernel
theorem d_Mod_reads_178 : decode prog_14_method_15_code 178 = .ok (.iadd, 1) := by decide +kernel
theorem d_Mod_reads_179 : decode prog_14_method_15_code 179 = .ok (.putfield 39, 3) := by decide +kernel
theorem d_Mod_reads_182 : decode prog_14_method_15_code 182 = .ok (.goto (-41), 3) := by decide +kernel
theorem d_Mod_reads_185 : decode prog_14_method_15_code 185 = .ok (.aload_n 0, 1) := by decide +kernel
theorem d_Mod_reads_186 : decode prog_14_method_15_code 186 = .ok (.bipush 64, 2) := by decide +kernel
theorem d_Mod_reads_188 : decode prog_14_method_15_code 188 = .ok (.invokevirtual 50, 3) := by decide +kernel
theorem d_Mod_reads_191 : decode prog_14_method_15_code 191 = .ok (.ifCond .eq 12, 3) := by decide +kernel
theorem d_Mod_reads_194 : decode prog_14_method_15_code 194 = .ok (.aload_n 0, 1) := by decide +kernel
theorem d_Mod_reads_195 : decode prog_14_method_15_code 195 = .ok (.iconst 4, 1) := by decide +kernel
theorem d_Mod_reads_196 : decode prog_14_method_15_code 196 = .ok (.iconst 2, 1) := by decide +kernel
theorem d_Mod_reads_197 : decode prog_14_method_15_code 197 = .ok (.invokevirtual 54, 3) := by decide +kernel
theorem d_Mod_reads_200 : decode prog_14_method_15_code 200 = .ok (.ifCond .ne 5, 3) := by decide +kernel
theorem d_Mod_reads_203 : decode prog_14_method_15_code 203 = .ok (.iconst 0, 1) := by decide +kernel
theorem d_Mod_reads_204 : decode prog_14_method_15_code 204 = .ok (.ireturn, 1) := by decide +kernel
theorem d_Mod_reads_205 : decode prog_14_method_15_code 205 = .ok (.aload_n 0, 1) := by decide +kernel
theorem d_Mod_reads_206 : decode prog_14_method_15_code 206 = .ok (.getfield 22, 3) := by decide +kernel
theorem d_Mod_reads_209 : decode prog_14_method_15_code 209 = .ok (.iconst 5, 1) := by decide +kernel
theorem d_Mod_reads_210 : decode prog_14_method_15_code 210 = .ok (.aload_n 0, 1) := by decide +kernel
theorem d_Mod_reads_211 : decode prog_14_method_15_code 211 = .ok (.bipush 63, 2) := by decide +kernel
theorem d_Mod_reads_213 : decode prog_14_method_15_code 213 = .ok (.invokevirtual 50, 3) := by decide +kernel
theorem d_Mod_reads_216 : decode prog_14_method_15_code 216 = .ok (.ifCond .eq 7, 3) := by decide +kernel
theorem d_Mod_reads_219 : decode prog_14_method_15_code 219 = .ok (.iconst 1, 1) := by decide +kernel
theorem d_Mod_reads_220 : decode prog_14_method_15_code 220 = .ok (.goto 4, 3) := by decide +kernel
theorem d_Mod_reads_223 : decode prog_14_method_15_code 223 = .ok (.iconst 0, 1) := by decide +kernel
theorem d_Mod_reads_224 : decode prog_14_method_15_code 224 = .ok (.iastore, 1) := by decide +kernel
theorem d_Mod_reads_225 : decode prog_14_method_15_code 225 = .ok (.aload_n 0, 1) := by decide +kernel
theorem d_Mod_reads_226 : decode prog_14_method_15_code 226 = .ok (.getfield 39, 3) := by decide +kernel
theorem d_Mod_reads_229 : decode prog_14_method_15_code 229 = .ok (.aload_n 0, 1) := by decide +kernel
theorem d_Mod_reads_230 : decode prog_14_method_15_code 230 = .ok (.getfield 33, 3) := by decide +kernel
theorem d_Mod_reads_233 : decode prog_14_method_15_code 233 = .ok (.if_icmp .ne 7, 3) := by decide +kernel
theorem d_Mod_reads_236 : decode prog_14_method_15_code 236 = .ok (.iconst 1, 1) := by decide +kernel
theorem d_Mod_reads_237 : decode prog_14_method_15_code 237 = .ok (.goto 4, 3) := by decide +kernel
theorem d_Mod_reads_240 : decode prog_14_method_15_code 240 = .ok (.iconst 0, 1) := by decide +kernel
theorem d_Mod_reads_241 : decode prog_14_method_15_code 241 = .ok (.ireturn, 1) := by decide +kernel
theorem d_Mod_telling_0 : decode prog_14_method_16_code 0 = .ok (.aload_n 0, 1) := by decide +kernel
theorem d_Mod_telling_1 : decode prog_14_method_16_code 1 = .ok (.getfield 13, 3) := by decide +kernel
theorem d_Mod_telling_4 : decode prog_14_method_16_code 4 = .ok (.iconst 0, 1) := by decide +kernel
theorem d_Mod_telling_5 : decode prog_14_method_16_code 5 = .ok (.iaload, 1) := by decide +kernel
theorem d_Mod_telling_6 : decode prog_14_method_16_code 6 = .ok (.bipush 30, 2) := by decide +kernel
theorem d_Mod_telling_8 : decode prog_14_method_16_code 8 = .ok (.if_icmp .ne 10, 3) := by decide +kernel
theorem d_Mod_telling_11 : decode prog_14_method_16_code 11 = .ok (.aload_n 0, 1) := by decide +kernel
theorem d_Mod_telling_12 : decode prog_14_method_16_code 12 = .ok (.bipush (-6), 2) := by decide +kernel
theorem d_Mod_telling_14 : decode prog_14_method_16_code 14 = .ok (.invokevirtual 29, 3) := by decide +kernel
theorem d_Mod_telling_17 : decode prog_14_method_16_code 17 = .ok (.ireturn, 1) := by decide +kernel
theorem d_Mod_telling_18 : decode prog_14_method_16_code 18 = .ok (.aload_n 0, 1) := by decide +kernel
theorem d_Mod_telling_19 : decode prog_14_method_16_code 19 = .ok (.invokevirtual 60, 3) := by decide +kernel
theorem d_Mod_telling_22 : decode prog_14_method_16_code 22 = .ok (.istore_n 1, 1) := by decide +kernel
theorem d_Mod_telling_23 : decode prog_14_method_16_code 23 = .ok (.aload_n 0, 1) := by decide +kernel
theorem d_Mod_telling_24 : decode prog_14_method_16_code 24 = .ok (.iconst 0, 1) := by decide +kernel
theorem d_Mod_telling_25 : decode prog_14_method_16_code 25 = .ok (.putfield 33, 3) := by decide +kernel
theorem d_Mod_telling_28 : decode prog_14_method_16_code 28 = .ok (.iload_n 1, 1) := by decide +kernel
theorem d_Mod_telling_29 : decode prog_14_method_16_code 29 = .ok (.ifCond .ne 11, 3) := by decide +kernel
theorem d_Mod_telling_32 : decode prog_14_method_16_code 32 = .ok (.bipush (-20), 2) := by decide +kernel
theorem d_Mod_telling_34 : decode prog_14_method_16_code 34 = .ok (.aload_n 0, 1) := by decide +kernel
theorem d_Mod_telling_35 : decode prog_14_method_16_code 35 = .ok (.getfield 39, 3) := by decide +kernel
theorem d_Mod_telling_38 : decode prog_14_method_16_code 38 = .ok (.isub, 1) := by decide +kernel
theorem d_Mod_telling_39 : decode prog_14_method_16_code 39 = .ok (.ireturn, 1) := by decide +kernel
theorem d_Mod_telling_40 : decode prog_14_method_16_code 40 = .ok (.iconst 0, 1) := by decide +kernel
theorem d_Mod_telling_41 : decode prog_14_method_16_code 41 = .ok (.istore_n 2, 1) := by decide +kernel
theorem d_Mod_telling_42 : decode prog_14_method_16_code 42 = .ok (.iload_n 2, 1) := by decide +kernel
theorem d_Mod_telling_43 : decode prog_14_method_16_code 43 = .ok (.bipush 6, 2) := by decide +kernel
theorem d_Mod_telling_45 : decode prog_14_method_16_code 45 = .ok (.if_icmp .ge 34, 3) := by decide +kernel
theorem d_Mod_telling_48 : decode prog_14_method_16_code 48 = .ok (.aload_n 0, 1) := by decide +kernel
theorem d_Mod_telling_49 : decode prog_14_method_16_code 49 = .ok (.getfield 13, 3) := by decide +kernel
theorem d_Mod_telling_52 : decode prog_14_method_16_code 52 = .ok (.bipush 6, 2) := by decide +kernel
theorem d_Mod_telling_54 : decode prog_14_method_16_code 54 = .ok (.bipush 6, 2) := by decide +kernel
theorem d_Mod_telling_56 : decode prog_14_method_16_code 56 = .ok (.aload_n 0, 1) := by decide +kernel
theorem d_Mod_telling_57 : decode prog_14_method_16_code 57 = .ok (.getfield 13, 3) := by decide +kernel
theorem d_Mod_telling_60 : decode prog_14_method_16_code 60 = .ok (.iconst 0, 1) := by decide +kernel
theorem d_Mod_telling_61 : decode prog_14_method_16_code 61 = .ok (.iaload, 1) := by decide +kernel
theorem d_Mod_telling_62 : decode prog_14_method_16_code 62 = .ok (.imul, 1) := by decide +kernel
theorem d_Mod_telling_63 : decode prog_14_method_16_code 63 = .ok (.iadd, 1) := by decide +kernel
theorem d_Mod_telling_64 : decode prog_14_method_16_code 64 = .ok (.iload_n 2, 1) := by decide +kernel
theorem d_Mod_telling_65 : decode prog_14_method_16_code 65 = .ok (.iadd, 1) := by decide +kernel
theorem d_Mod_telling_66 : decode prog_14_method_16_code 66 = .ok (.aload_n 0, 1) := by decide +kernel
theorem d_Mod_telling_67 : decode prog_14_method_16_code 67 = .ok (.getfield 22, 3) := by decide +kernel
theorem d_Mod_telling_70 : decode prog_14_method_16_code 70 = .ok (.iload_n 2, 1) := by decide +kernel
theorem d_Mod_telling_71 : decode prog_14_method_16_code 71 = .ok (.iaload, 1) := by decide +kernel
theorem d_Mod_telling_72 : decode prog_14_method_16_code 72 = .ok (.iastore, 1) := by decide +kernel
theorem d_Mod_telling_73 : decode prog_14_method_16_code 73 = .ok (.iinc 2 1, 3) := by decide +kernel
theorem d_Mod_telling_76 : decode prog_14_method_16_code 76 = .ok (.goto (-34), 3) := by decide +kernel
theorem d_Mod_telling_79 : decode prog_14_method_16_code 79 = .ok (.aload_n 0, 1) := by decide +kernel
theorem d_Mod_telling_80 : decode prog_14_method_16_code 80 = .ok (.getfield 13, 3) := by decide +kernel
theorem d_Mod_telling_83 : decode prog_14_method_16_code 83 = .ok (.iconst 0, 1) := by decide +kernel
theorem d_Mod_telling_84 : decode prog_14_method_16_code 84 = .ok (.dup2, 1) := by decide +kernel
theorem d_Mod_telling_85 : decode prog_14_method_16_code 85 = .ok (.iaload, 1) := by decide +kernel
theorem d_Mod_telling_86 : decode prog_14_method_16_code 86 = .ok (.iconst 1, 1) := by decide +kernel
theorem d_Mod_telling_87 : decode prog_14_method_16_code 87 = .ok (.iadd, 1) := by decide +kernel
theorem d_Mod_telling_88 : decode prog_14_method_16_code 88 = .ok (.iastore, 1) := by decide +kernel
theorem d_Mod_telling_89 : decode prog_14_method_16_code 89 = .ok (.aload_n 0, 1) := by decide +kernel
theorem d_Mod_telling_90 : decode prog_14_method_16_code 90 = .ok (.getfield 13, 3) := by decide +kernel
theorem d_Mod_telling_93 : decode prog_14_method_16_code 93 = .ok (.iconst 0, 1) := by decide +kernel
theorem d_Mod_telling_94 : decode prog_14_method_16_code 94 = .ok (.iaload, 1) := by decide +kernel
theorem d_Mod_telling_95 : decode prog_14_method_16_code 95 = .ok (.iconst 1, 1) := by decide +kernel
theorem d_Mod_telling_96 : decode prog_14_method_16_code 96 = .ok (.isub, 1) := by decide +kernel
theorem d_Mod_telling_97 : decode prog_14_method_16_code 97 = .ok (.ireturn, 1) := by decide +kernel
theorem d_Mod_tellingOf_0 : decode prog_14_method_17_code 0 = .ok (.aload_n 0, 1) := by decide +kernel
theorem d_Mod_tellingOf_1 : decode prog_14_method_17_code 1 = .ok (.iload_n 1, 1) := by decide +kernel
theorem d_Mod_tellingOf_2 : decode prog_14_method_17_code 2 = .ok (.invokevirtual 63, 3) := by decide +kernel
theorem d_Mod_tellingOf_5 : decode prog_14_method_17_code 5 = .ok (.ifCond .ne 11, 3) := by decide +kernel
theorem d_Mod_tellingOf_8 : decode prog_14_method_17_code 8 = .ok (.aload_n 0, 1) := by decide +kernel
theorem d_Mod_tellingOf_9 : decode prog_14_method_17_code 9 = .ok (.iconst (-1), 1) := by decide +kernel
theorem d_Mod_tellingOf_10 : decode prog_14_method_17_code 10 = .ok (.invokevirtual 29, 3) := by decide +kernel
theorem d_Mod_tellingOf_13 : decode prog_14_method_17_code 13 = .ok (.goto 27, 3) := by decide +kernel
theorem d_Mod_tellingOf_16 : decode prog_14_method_17_code 16 = .ok (.iload_n 2, 1) := by decide +kernel
theorem d_Mod_tellingOf_17 : decode prog_14_method_17_code 17 = .ok (.bipush 6, 2) := by decide +kernel
theorem d_Mod_tellingOf_19 : decode prog_14_method_17_code 19 = .ok (.invokestatic 25, 3) := by decide +kernel
theorem d_Mod_tellingOf_22 : decode prog_14_method_17_code 22 = .ok (.ifCond .eq 12, 3) := by decide +kernel
theorem d_Mod_tellingOf_25 : decode prog_14_method_17_code 25 = .ok (.aload_n 0, 1) := by decide +kernel
theorem d_Mod_tellingOf_26 : decode prog_14_method_17_code 26 = .ok (.iload_n 1, 1) := by decide +kernel
theorem d_Mod_tellingOf_27 : decode prog_14_method_17_code 27 = .ok (.iload_n 2, 1) := by decide +kernel
theorem d_Mod_tellingOf_28 : decode prog_14_method_17_code 28 = .ok (.invokevirtual 66, 3) := by decide +kernel
theorem d_Mod_tellingOf_31 : decode prog_14_method_17_code 31 = .ok (.goto 9, 3) := by decide +kernel
theorem d_Mod_tellingOf_34 : decode prog_14_method_17_code 34 = .ok (.aload_n 0, 1) := by decide +kernel
theorem d_Mod_tellingOf_35 : decode prog_14_method_17_code 35 = .ok (.bipush (-2), 2) := by decide +kernel
theorem d_Mod_tellingOf_37 : decode prog_14_method_17_code 37 = .ok (.invokevirtual 29, 3) := by decide +kernel
theorem d_Mod_tellingOf_40 : decode prog_14_method_17_code 40 = .ok (.ireturn, 1) := by decide +kernel
theorem d_Mod_isMarked_0 : decode prog_14_method_18_code 0 = .ok (.aload_n 0, 1) := by decide +kernel
theorem d_Mod_isMarked_1 : decode prog_14_method_18_code 1 = .ok (.iload_n 1, 1) := by decide +kernel
theorem d_Mod_isMarked_2 : decode prog_14_method_18_code 2 = .ok (.iconst 3, 1) := by decide +kernel
theorem d_Mod_isMarked_3 : decode prog_14_method_18_code 3 = .ok (.invokevirtual 66, 3) := by decide +kernel
theorem d_Mod_isMarked_6 : decode prog_14_method_18_code 6 = .ok (.iload_n 2, 1) := by decide +kernel
theorem d_Mod_isMarked_7 : decode prog_14_method_18_code 7 = .ok (.ishr, 1) := by decide +kernel
theorem d_Mod_isMarked_8 : decode prog_14_method_18_code 8 = .ok (.iconst 1, 1) := by decide +kernel
theorem d_Mod_isMarked_9 : decode prog_14_method_18_code 9 = .ok (.iand, 1) := by decide +kernel
theorem d_Mod_isMarked_10 : decode prog_14_method_18_code 10 = .ok (.iconst 1, 1) := by decide +kernel
theorem d_Mod_isMarked_11 : decode prog_14_method_18_code 11 = .ok (.if_icmp .ne 7, 3) := by decide +kernel
theorem d_Mod_isMarked_14 : decode prog_14_method_18_code 14 = .ok (.iconst 1, 1) := by decide +kernel
theorem d_Mod_isMarked_15 : decode prog_14_method_18_code 15 = .ok (.goto 4, 3) := by decide +kernel
theorem d_Mod_isMarked_18 : decode prog_14_method_18_code 18 = .ok (.iconst 0, 1) := by decide +kernel
theorem d_Mod_isMarked_19 : decode prog_14_method_18_code 19 = .ok (.ireturn, 1) := by decide +kernel
theorem d_Mod_kindOf_0 : decode prog_14_method_19_code 0 = .ok (.aload_n 0, 1) := by decide +kernel
theorem d_Mod_kindOf_1 : decode prog_14_method_19_code 1 = .ok (.iload_n 1, 1) := by decide +kernel
theorem d_Mod_kindOf_2 : decode prog_14_method_19_code 2 = .ok (.iconst 5, 1) := by decide +kernel
theorem d_Mod_kindOf_3 : decode prog_14_method_19_code 3 = .ok (.invokevirtual 66, 3) := by decide +kernel
theorem d_Mod_kindOf_6 : decode prog_14_method_19_code 6 = .ok (.iconst 1, 1) := by decide +kernel
theorem d_Mod_kindOf_7 : decode prog_14_method_19_code 7 = .ok (.if_icmp .ne 5, 3) := by decide +kernel
theorem d_Mod_kindOf_10 : decode prog_14_method_19_code 10 = .ok (.iconst 5, 1) := by decide +kernel
theorem d_Mod_kindOf_11 : decode prog_14_method_19_code 11 = .ok (.ireturn, 1) := by decide +kernel
theorem d_Mod_kindOf_12 : decode prog_14_method_19_code 12 = .ok (.aload_n 0, 1) := by decide +kernel
theorem d_Mod_kindOf_13 : decode prog_14_method_19_code 13 = .ok (.iload_n 1, 1) := by decide +kernel
theorem d_Mod_kindOf_14 : decode prog_14_method_19_code 14 = .ok (.iconst 5, 1) := by decide +kernel
theorem d_Mod_kindOf_15 : decode prog_14_method_19_code 15 = .ok (.invokevirtual 70, 3) := by decide +kernel
theorem d_Mod_kindOf_18 : decode prog_14_method_19_code 18 = .ok (.ifCond .eq 15, 3) := by decide +kernel
theorem d_Mod_kindOf_21 : decode prog_14_method_19_code 21 = .ok (.aload_n 0, 1) := by decide +kernel
theorem d_Mod_kindOf_22 : decode prog_14_method_19_code 22 = .ok (.iload_n 1, 1) := by decide +kernel
theorem d_Mod_kindOf_23 : decode prog_14_method_19_code 23 = .ok (.bipush 6, 2) := by decide +kernel
theorem d_Mod_kindOf_25 : decode prog_14_method_19_code 25 = .ok (.invokevirtual 70, 3) := by decide +kernel
theorem d_Mod_kindOf_28 : decode prog_14_method_19_code 28 = .ok (.ifCond .ne 5, 3) := by decide +kernel
theorem d_Mod_kindOf_31 : decode prog_14_method_19_code 31 = .ok (.iconst 3, 1) := by decide +kernel
theorem d_Mod_kindOf_32 : decode prog_14_method_19_code 32 = .ok (.ireturn, 1) := by decide +kernel
theorem d_Mod_kindOf_33 : decode prog_14_method_19_code 33 = .ok (.aload_n 0, 1) := by decide +kernel
theorem d_Mod_kindOf_34 : decode prog_14_method_19_code 34 = .ok (.iload_n 1, 1) := by decide +kernel
theorem d_Mod_kindOf_35 : decode prog_14_method_19_code 35 = .ok (.iconst 4, 1) := by decide +kernel
theorem d_Mod_kindOf_36 : decode prog_14_method_19_code 36 = .ok (.invokevirtual 70, 3) := by decide +kernel
theorem d_Mod_kindOf_39 : decode prog_14_method_19_code 39 = .ok (.ifCond .eq 18, 3) := by decide +kernel
theorem d_Mod_kindOf_42 : decode prog_14_method_19_code 42 = .ok (.aload_n 0, 1) := by decide +kernel
theorem d_Mod_kindOf_43 : decode prog_14_method_19_code 43 = .ok (.iload_n 1, 1) := by decide +kernel
theorem d_Mod_kindOf_44 : decode prog_14_method_19_code 44 = .ok (.iconst 3, 1) := by decide +kernel
theorem d_Mod_kindOf_45 : decode prog_14_method_19_code 45 = .ok (.invokevirtual 70, 3) := by decide +kernel
theorem d_Mod_kindOf_48 : decode prog_14_method_19_code 48 = .ok (.ifCond .eq 7, 3) := by decide +kernel
theorem d_Mod_kindOf_51 : decode prog_14_method_19_code 51 = .ok (.iconst 2, 1) := by decide +kernel
theorem d_Mod_kindOf_52 : decode prog_14_method_19_code 52 = .ok (.goto 4, 3) := by decide +kernel
theorem d_Mod_kindOf_55 : decode prog_14_method_19_code 55 = .ok (.iconst 1, 1) := by decide +kernel
theorem d_Mod_kindOf_56 : decode prog_14_method_19_code 56 = .ok (.ireturn, 1) := by decide +kernel
theorem d_Mod_kindOf_57 : decode prog_14_method_19_code 57 = .ok (.aload_n 0, 1) := by decide +kernel
theorem d_Mod_kindOf_58 : decode prog_14_method_19_code 58 = .ok (.iload_n 1, 1) := by decide +kernel
theorem d_Mod_kindOf_59 : decode prog_14_method_19_code 59 = .ok (.iconst 4, 1) := by decide +kernel
theorem d_Mod_kindOf_60 : decode prog_14_method_19_code 60 = .ok (.invokevirtual 66, 3) := by decide +kernel
theorem d_Mod_kindOf_63 : decode prog_14_method_19_code 63 = .ok (.bipush 20, 2) := by decide +kernel
theorem d_Mod_kindOf_65 : decode prog_14_method_19_code 65 = .ok (.if_icmp .lt 7, 3) := by decide +kernel
theorem d_Mod_kindOf_68 : decode prog_14_method_19_code 68 = .ok (.iconst 4, 1) := by decide +kernel
theorem d_Mod_kindOf_69 : decode prog_14_method_19_code 69 = .ok (.goto 4, 3) := by decide +kernel
theorem d_Mod_kindOf_72 : decode prog_14_method_19_code 72 = .ok (.iconst 0, 1) := by decide +kernel
theorem d_Mod_kindOf_73 : decode prog_14_method_19_code 73 = .ok (.ireturn, 1) := by decide +kernel
theorem d_Mod_kind_0 : decode prog_14_method_20_code 0 = .ok (.aload_n 0, 1) := by decide +kernel
theorem d_Mod_kind_1 : decode prog_14_method_20_code 1 = .ok (.iload_n 1, 1) := by decide +kernel
theorem d_Mod_kind_2 : decode prog_14_method_20_code 2 = .ok (.invokevirtual 63, 3) := by decide +kernel
theorem d_Mod_kind_5 : decode prog_14_method_20_code 5 = .ok (.ifCond .eq 11, 3) := by decide +kernel
theorem d_Mod_kind_8 : decode prog_14_method_20_code 8 = .ok (.aload_n 0, 1) := by decide +kernel
theorem d_Mod_kind_9 : decode prog_14_method_20_code 9 = .ok (.iload_n 1, 1) := by decide +kernel
theorem d_Mod_kind_10 : decode prog_14_method_20_code 10 = .ok (.invokevirtual 73, 3) := by decide +kernel
theorem d_Mod_kind_13 : decode prog_14_method_20_code 13 = .ok (.goto 8, 3) := by decide +kernel
theorem d_Mod_kind_16 : decode prog_14_method_20_code 16 = .ok (.aload_n 0, 1) := by decide +kernel
theorem d_Mod_kind_17 : decode prog_14_method_20_code 17 = .ok (.iconst (-1), 1) := by decide +kernel
theorem d_Mod_kind_18 : decode prog_14_method_20_code 18 = .ok (.invokevirtual 29, 3) := by decide +kernel
theorem d_Mod_kind_21 : decode prog_14_method_20_code 21 = .ok (.ireturn, 1) := by decide +kernel
theorem d_Mod_weightOf_0 : decode prog_14_method_21_code 0 = .ok (.aload_n 0, 1) := by decide +kernel
theorem d_Mod_weightOf_1 : decode prog_14_method_21_code 1 = .ok (.iload_n 1, 1) := by decide +kernel
theorem d_Mod_weightOf_2 : decode prog_14_method_21_code 2 = .ok (.invokevirtual 73, 3) := by decide +kernel
theorem d_Mod_weightOf_5 : decode prog_14_method_21_code 5 = .ok (.tableswitch 78 1 5 #[35, 38, 61, 63, 76], 35) := by decide +kernel
theorem d_Mod_weightOf_40 : decode prog_14_method_21_code 40 = .ok (.bipush 15, 2) := by decide +kernel
theorem d_Mod_weightOf_42 : decode prog_14_method_21_code 42 = .ok (.ireturn, 1) := by decide +kernel
theorem d_Mod_weightOf_43 : decode prog_14_method_21_code 43 = .ok (.bipush 15, 2) := by decide +kernel
theorem d_Mod_weightOf_45 : decode prog_14_method_21_code 45 = .ok (.aload_n 0, 1) := by decide +kernel
theorem d_Mod_weightOf_46 : decode prog_14_method_21_code 46 = .ok (.iload_n 1, 1) := by decide +kernel
theorem d_Mod_weightOf_47 : decode prog_14_method_21_code 47 = .ok (.iconst 1, 1) := by decide +kernel
theorem d_Mod_weightOf_48 : decode prog_14_method_21_code 48 = .ok (.invokevirtual 66, 3) := by decide +kernel
theorem d_Mod_weightOf_51 : decode prog_14_method_21_code 51 = .ok (.ifCond .ge 7, 3) := by decide +kernel
theorem d_Mod_weightOf_54 : decode prog_14_method_21_code 54 = .ok (.iconst 0, 1) := by decide +kernel
theorem d_Mod_weightOf_55 : decode prog_14_method_21_code 55 = .ok (.goto 9, 3) := by decide +kernel
theorem d_Mod_weightOf_58 : decode prog_14_method_21_code 58 = .ok (.aload_n 0, 1) := by decide +kernel
theorem d_Mod_weightOf_59 : decode prog_14_method_21_code 59 = .ok (.iload_n 1, 1) := by decide +kernel
theorem d_Mod_weightOf_60 : decode prog_14_method_21_code 60 = .ok (.iconst 1, 1) := by decide +kernel
theorem d_Mod_weightOf_61 : decode prog_14_method_21_code 61 = .ok (.invokevirtual 66, 3) := by decide +kernel
theorem d_Mod_weightOf_64 : decode prog_14_method_21_code 64 = .ok (.iadd, 1) := by decide +kernel
theorem d_Mod_weightOf_65 : decode prog_14_method_21_code 65 = .ok (.ireturn, 1) := by decide +kernel
theorem d_Mod_weightOf_66 : decode prog_14_method_21_code 66 = .ok (.iconst 5, 1) := by decide +kernel
theorem d_Mod_weightOf_67 : decode prog_14_method_21_code 67 = .ok (.ireturn, 1) := by decide +kernel
theorem d_Mod_weightOf_68 : decode prog_14_method_21_code 68 = .ok (.bipush 8, 2) := by decide +kernel
theorem d_Mod_weightOf_70 : decode prog_14_method_21_code 70 = .ok (.aload_n 0, 1) := by decide +kernel
theorem d_Mod_weightOf_71 : decode prog_14_method_21_code 71 = .ok (.iload_n 1, 1) := by decide +kernel
theorem d_Mod_weightOf_72 : decode prog_14_method_21_code 72 = .ok (.iconst 4, 1) := by decide +kernel
theorem d_Mod_weightOf_73 : decode prog_14_method_21_code 73 = .ok (.invokevirtual 66, 3) := by decide +kernel
theorem d_Mod_weightOf_76 : decode prog_14_method_21_code 76 = .ok (.bipush 20, 2) := by decide +kernel
theorem d_Mod_weightOf_78 : decode prog_14_method_21_code 78 = .ok (.idiv, 1) := by decide +kernel
theorem d_Mod_weightOf_79 : decode prog_14_method_21_code 79 = .ok (.isub, 1) := by decide +kernel
theorem d_Mod_weightOf_80 : decode prog_14_method_21_code 80 = .ok (.ireturn, 1) := by decide +kernel
theorem d_Mod_weightOf_81 : decode prog_14_method_21_code 81 = .ok (.iconst 1, 1) := by decide +kernel
theorem d_Mod_weightOf_82 : decode prog_14_method_21_code 82 = .ok (.ireturn, 1) := by decide +kernel
theorem d_Mod_weightOf_83 : decode prog_14_method_21_code 83 = .ok (.bipush 8, 2) := by decide +kernel
theorem d_Mod_weightOf_85 : decode prog_14_method_21_code 85 = .ok (.ireturn, 1) := by decide +kernel
theorem d_Mod_weight_0 : decode prog_14_method_22_code 0 = .ok (.aload_n 0, 1) := by decide +kernel
theorem d_Mod_weight_1 : decode prog_14_method_22_code 1 = .ok (.iload_n 1, 1) := by decide +kernel
theorem d_Mod_weight_2 : decode prog_14_method_22_code 2 = .ok (.invokevirtual 63, 3) := by decide +kernel
theorem d_Mod_weight_5 : decode prog_14_method_22_code 5 = .ok (.ifCond .eq 11, 3) := by decide +kernel
theorem d_Mod_weight_8 : decode prog_14_method_22_code 8 = .ok (.aload_n 0, 1) := by decide +kernel
theorem d_Mod_weight_9 : decode prog_14_method_22_code 9 = .ok (.iload_n 1, 1) := by decide +kernel
theorem d_Mod_weight_10 : decode prog_14_method_22_code 10 = .ok (.invokevirtual 76, 3) := by decide +kernel
theorem d_Mod_weight_13 : decode prog_14_method_22_code 13 = .ok (.goto 8, 3) := by decide +kernel
theorem d_Mod_weight_16 : decode prog_14_method_22_code 16 = .ok (.aload_n 0, 1) := by decide +kernel
theorem d_Mod_weight_17 : decode prog_14_method_22_code 17 = .ok (.iconst (-1), 1) := by decide +kernel
theorem d_Mod_weight_18 : decode prog_14_method_22_code 18 = .ok (.invokevirtual 29, 3) := by decide +kernel
theorem d_Mod_weight_21 : decode prog_14_method_22_code 21 = .ok (.ireturn, 1) := by decide +kernel
theorem d_Mod_law_0 : decode prog_14_method_23_code 0 = .ok (.iload_n 1, 1) := by decide +kernel
theorem d_Mod_law_1 : decode prog_14_method_23_code 1 = .ok (.invokestatic 79, 3) := by decide +kernel
theorem d_Mod_law_4 : decode prog_14_method_23_code 4 = .ok (.ifCond .ne 9, 3) := by decide +kernel
theorem d_Mod_law_7 : decode prog_14_method_23_code 7 = .ok (.aload_n 0, 1) := by decide +kernel
theorem d_Mod_law_8 : decode prog_14_method_23_code 8 = .ok (.iconst (-1), 1) := by decide +kernel
theorem d_Mod_law_9 : decode prog_14_method_23_code 9 = .ok (.invokevirtual 29, 3) := by decide +kernel
theorem d_Mod_law_12 : decode prog_14_method_23_code 12 = .ok (.ireturn, 1) := by decide +kernel
theorem d_Mod_law_13 : decode prog_14_method_23_code 13 = .ok (.iload_n 2, 1) := by decide +kernel
theorem d_Mod_law_14 : decode prog_14_method_23_code 14 = .ok (.bipush 7, 2) := by decide +kernel
theorem d_Mod_law_16 : decode prog_14_method_23_code 16 = .ok (.invokestatic 25, 3) := by decide +kernel
theorem d_Mod_law_19 : decode prog_14_method_23_code 19 = .ok (.ifCond .ne 10, 3) := by decide +kernel
theorem d_Mod_law_22 : decode prog_14_method_23_code 22 = .ok (.aload_n 0, 1) := by decide +kernel
theorem d_Mod_law_23 : decode prog_14_method_23_code 23 = .ok (.bipush (-2), 2) := by decide +kernel
theorem d_Mod_law_25 : decode prog_14_method_23_code 25 = .ok (.invokevirtual 29, 3) := by decide +kernel
theorem d_Mod_law_28 : decode prog_14_method_23_code 28 = .ok (.ireturn, 1) := by decide +kernel
theorem d_Mod_law_29 : decode prog_14_method_23_code 29 = .ok (.iload_n 3, 1) := by decide +kernel
theorem d_Mod_law_30 : decode prog_14_method_23_code 30 = .ok (.iconst 0, 1) := by decide +kernel
theorem d_Mod_law_31 : decode prog_14_method_23_code 31 = .ok (.iload_n 2, 1) := by decide +kernel
theorem d_Mod_law_32 : decode prog_14_method_23_code 32 = .ok (.iconst 4, 1) := by decide +kernel
theorem d_Mod_law_33 : decode prog_14_method_23_code 33 = .ok (.if_icmp .ge 9, 3) := by decide +kernel
theorem d_Mod_law_36 : decode prog_14_method_23_code 36 = .ok (.sipush 999, 3) := by decide +kernel
theorem d_Mod_law_39 : decode prog_14_method_23_code 39 = .ok (.goto 6, 3) := by decide +kernel
theorem d_Mod_law_42 : decode prog_14_method_23_code 42 = .ok (.sipush 255, 3) := by decide +kernel
theorem d_Mod_law_45 : decode prog_14_method_23_code 45 = .ok (.invokestatic 82, 3) := by decide +kernel
theorem d_Mod_law_48 : decode prog_14_method_23_code 48 = .ok (.istore 4, 2) := by decide +kernel
theorem d_Mod_law_50 : decode prog_14_method_23_code 50 = .ok (.iload 4, 2) := by decide +kernel
theorem d_Mod_law_52 : decode prog_14_method_23_code 52 = .ok (.ifCond .eq 12, 3) := by decide +kernel
theorem d_Mod_law_55 : decode prog_14_method_23_code 55 = .ok (.aload_n 0, 1) := by decide +kernel
theorem d_Mod_law_56 : decode prog_14_method_23_code 56 = .ok (.iload 4, 2) := by decide +kernel
theorem d_Mod_law_58 : decode prog_14_method_23_code 58 = .ok (.invokevirtual 29, 3) := by decide +kernel
theorem d_Mod_law_61 : decode prog_14_method_23_code 61 = .ok (.goto 18, 3) := by decide +kernel
theorem d_Mod_law_64 : decode prog_14_method_23_code 64 = .ok (.aload_n 0, 1) := by decide +kernel
theorem d_Mod_law_65 : decode prog_14_method_23_code 65 = .ok (.sipush 186, 3) := by decide +kernel
theorem d_Mod_law_68 : decode prog_14_method_23_code 68 = .ok (.bipush 8, 2) := by decide +kernel
theorem d_Mod_law_70 : decode prog_14_method_23_code 70 = .ok (.iload_n 1, 1) := by decide +kernel
theorem d_Mod_law_71 : decode prog_14_method_23_code 71 = .ok (.imul, 1) := by decide +kernel
theorem d_Mod_law_72 : decode prog_14_method_23_code 72 = .ok (.iadd, 1) := by decide +kernel
theorem d_Mod_law_73 : decode prog_14_method_23_code 73 = .ok (.iload_n 2, 1) := by decide +kernel
theorem d_Mod_law_74 : decode prog_14_method_23_code 74 = .ok (.iadd, 1) := by decide +kernel
theorem d_Mod_law_75 : decode prog_14_method_23_code 75 = .ok (.iload_n 3, 1) := by decide +kernel
theorem d_Mod_law_76 : decode prog_14_method_23_code 76 = .ok (.invokevirtual 86, 3) := by decide +kernel
theorem d_Mod_law_79 : decode prog_14_method_23_code 79 = .ok (.ireturn, 1) := by decide +kernel
theorem d_Mod_right_0 : decode prog_14_method_24_code 0 = .ok (.aload_n 0, 1) := by decide +kernel
theorem d_Mod_right_1 : decode prog_14_method_24_code 1 = .ok (.iconst 2, 1) := by decide +kernel
theorem d_Mod_right_2 : decode prog_14_method_24_code 2 = .ok (.iload_n 1, 1) := by decide +kernel
theorem d_Mod_right_3 : decode prog_14_method_24_code 3 = .ok (.ifCond .eq 7, 3) := by decide +kernel
theorem d_Mod_right_6 : decode prog_14_method_24_code 6 = .ok (.iconst 1, 1) := by decide +kernel
theorem d_Mod_right_7 : decode prog_14_method_24_code 7 = .ok (.goto 4, 3) := by decide +kernel
theorem d_Mod_right_10 : decode prog_14_method_24_code 10 = .ok (.iconst 0, 1) := by decide +kernel
theorem d_Mod_right_11 : decode prog_14_method_24_code 11 = .ok (.invokevirtual 86, 3) := by decide +kernel
theorem d_Mod_right_14 : decode prog_14_method_24_code 14 = .ok (.istore_n 2, 1) := by decide +kernel
theorem d_Mod_right_15 : decode prog_14_method_24_code 15 = .ok (.iload_n 2, 1) := by decide +kernel
theorem d_Mod_right_16 : decode prog_14_method_24_code 16 = .ok (.iload_n 1, 1) := by decide +kernel
theorem d_Mod_right_17 : decode prog_14_method_24_code 17 = .ok (.ifCond .eq 7, 3) := by decide +kernel
theorem d_Mod_right_20 : decode prog_14_method_24_code 20 = .ok (.iconst 1, 1) := by decide +kernel
theorem d_Mod_right_21 : decode prog_14_method_24_code 21 = .ok (.goto 4, 3) := by decide +kernel
theorem d_Mod_right_24 : decode prog_14_method_24_code 24 = .ok (.iconst 0, 1) := by decide +kernel
theorem d_Mod_right_25 : decode prog_14_method_24_code 25 = .ok (.if_icmp .ne 7, 3) := by decide +kernel
theorem d_Mod_right_28 : decode prog_14_method_24_code 28 = .ok (.iconst 0, 1) := by decide +kernel
theorem d_Mod_right_29 : decode prog_14_method_24_code 29 = .ok (.goto 4, 3) := by decide +kernel
theorem d_Mod_right_32 : decode prog_14_method_24_code 32 = .ok (.iconst 1, 1) := by decide +kernel
theorem d_Mod_right_33 : decode prog_14_method_24_code 33 = .ok (.ireturn, 1) := by decide +kernel
theorem d_Mod_growth_0 : decode prog_14_method_25_code 0 = .ok (.iload_n 1, 1) := by decide +kernel
theorem d_Mod_growth_1 : decode prog_14_method_25_code 1 = .ok (.iconst 2, 1) := by decide +kernel
theorem d_Mod_growth_2 : decode prog_14_method_25_code 2 = .ok (.invokestatic 25, 3) := by decide +kernel
theorem d_Mod_growth_5 : decode prog_14_method_25_code 5 = .ok (.ifCond .ne 10, 3) := by decide +kernel
theorem d_Mod_growth_8 : decode prog_14_method_25_code 8 = .ok (.aload_n 0, 1) := by decide +kernel
theorem d_Mod_growth_9 : decode prog_14_method_25_code 9 = .ok (.bipush (-2), 2) := by decide +kernel
theorem d_Mod_growth_11 : decode prog_14_method_25_code 11 = .ok (.invokevirtual 29, 3) := by decide +kernel
theorem d_Mod_growth_14 : decode prog_14_method_25_code 14 = .ok (.ireturn, 1) := by decide +kernel
theorem d_Mod_growth_15 : decode prog_14_method_25_code 15 = .ok (.iload_n 2, 1) := by decide +kernel
theorem d_Mod_growth_16 : decode prog_14_method_25_code 16 = .ok (.iconst 0, 1) := by decide +kernel
theorem d_Mod_growth_17 : decode prog_14_method_25_code 17 = .ok (.bipush 50, 2) := by decide +kernel
theorem d_Mod_growth_19 : decode prog_14_method_25_code 19 = .ok (.invokestatic 82, 3) := by decide +kernel
theorem d_Mod_growth_22 : decode prog_14_method_25_code 22 = .ok (.istore_n 3, 1) := by decide +kernel
theorem d_Mod_growth_23 : decode prog_14_method_25_code 23 = .ok (.iload_n 3, 1) := by decide +kernel
theorem d_Mod_growth_24 : decode prog_14_method_25_code 24 = .ok (.ifCond .eq 11, 3) := by decide +kernel
theorem d_Mod_growth_27 : decode prog_14_method_25_code 27 = .ok (.aload_n 0, 1) := by decide +kernel
theorem d_Mod_growth_28 : decode prog_14_method_25_code 28 = .ok (.iload_n 3, 1) := by decide +kernel
theorem d_Mod_growth_29 : decode prog_14_method_25_code 29 = .ok (.invokevirtual 29, 3) := by decide +kernel
theorem d_Mod_growth_32 : decode prog_14_method_25_code 32 = .ok (.goto 11, 3) := by decide +kernel
theorem d_Mod_growth_35 : decode prog_14_method_25_code 35 = .ok (.aload_n 0, 1) := by decide +kernel
theorem d_Mod_growth_36 : decode prog_14_method_25_code 36 = .ok (.iconst 4, 1) := by decide +kernel
theorem d_Mod_growth_37 : decode prog_14_method_25_code 37 = .ok (.iload_n 1, 1) := by decide +kernel
theorem d_Mod_growth_38 : decode prog_14_method_25_code 38 = .ok (.iadd, 1) := by decide +kernel
theorem d_Mod_growth_39 : decode prog_14_method_25_code 39 = .ok (.iload_n 2, 1) := by decide +kernel
theorem d_Mod_growth_40 : decode prog_14_method_25_code 40 = .ok (.invokevirtual 86, 3) := by decide +kernel
theorem d_Mod_growth_43 : decode prog_14_method_25_code 43 = .ok (.ireturn, 1) := by decide +kernel
theorem d_Mod_rightOf_0 : decode prog_14_method_26_code 0 = .ok (.aload_n 0, 1) := by decide +kernel
theorem d_Mod_rightOf_1 : decode prog_14_method_26_code 1 = .ok (.iload_n 1, 1) := by decide +kernel
theorem d_Mod_rightOf_2 : decode prog_14_method_26_code 2 = .ok (.iload_n 2, 1) := by decide +kernel
theorem d_Mod_rightOf_3 : decode prog_14_method_26_code 3 = .ok (.invokevirtual 66, 3) := by decide +kernel
theorem d_Mod_rightOf_6 : decode prog_14_method_26_code 6 = .ok (.ifCond .ge 8, 3) := by decide +kernel
theorem d_Mod_rightOf_9 : decode prog_14_method_26_code 9 = .ok (.bipush (-9), 2) := by decide +kernel
theorem d_Mod_rightOf_11 : decode prog_14_method_26_code 11 = .ok (.goto 31, 3) := by decide +kernel
theorem d_Mod_rightOf_14 : decode prog_14_method_26_code 14 = .ok (.bipush 100, 2) := by decide +kernel
theorem d_Mod_rightOf_16 : decode prog_14_method_26_code 16 = .ok (.aload_n 0, 1) := by decide +kernel
theorem d_Mod_rightOf_17 : decode prog_14_method_26_code 17 = .ok (.iload_n 1, 1) := by decide +kernel
theorem d_Mod_rightOf_18 : decode prog_14_method_26_code 18 = .ok (.iload_n 2, 1) := by decide +kernel
theorem d_Mod_rightOf_19 : decode prog_14_method_26_code 19 = .ok (.invokevirtual 66, 3) := by decide +kernel
theorem d_Mod_rightOf_22 : decode prog_14_method_26_code 22 = .ok (.imul, 1) := by decide +kernel
theorem d_Mod_rightOf_23 : decode prog_14_method_26_code 23 = .ok (.bipush 100, 2) := by decide +kernel
theorem d_Mod_rightOf_25 : decode prog_14_method_26_code 25 = .ok (.aload_n 0, 1) := by decide +kernel
theorem d_Mod_rightOf_26 : decode prog_14_method_26_code 26 = .ok (.getfield 13, 3) := by decide +kernel
theorem d_Mod_rightOf_29 : decode prog_14_method_26_code 29 = .ok (.iconst 4, 1) := by decide +kernel
theorem d_Mod_rightOf_30 : decode prog_14_method_26_code 30 = .ok (.iload_n 2, 1) := by decide +kernel
theorem d_Mod_rightOf_31 : decode prog_14_method_26_code 31 = .ok (.iadd, 1) := by decide +kernel
theorem d_Mod_rightOf_32 : decode prog_14_method_26_code 32 = .ok (.iaload, 1) := by decide +kernel
theorem d_Mod_rightOf_33 : decode prog_14_method_26_code 33 = .ok (.aload_n 0, 1) := by decide +kernel
theorem d_Mod_rightOf_34 : decode prog_14_method_26_code 34 = .ok (.iload_n 1, 1) := by decide +kernel
theorem d_Mod_rightOf_35 : decode prog_14_method_26_code 35 = .ok (.iconst 4, 1) := by decide +kernel
theorem d_Mod_rightOf_36 : decode prog_14_method_26_code 36 = .ok (.invokevirtual 66, 3) := by decide +kernel
theorem d_Mod_rightOf_39 : decode prog_14_method_26_code 39 = .ok (.imul, 1) := by decide +kernel
theorem d_Mod_rightOf_40 : decode prog_14_method_26_code 40 = .ok (.iadd, 1) := by decide +kernel
theorem d_Mod_rightOf_41 : decode prog_14_method_26_code 41 = .ok (.idiv, 1) := by decide +kernel
theorem d_Mod_rightOf_42 : decode prog_14_method_26_code 42 = .ok (.ireturn, 1) := by decide +kernel
theorem d_Mod_put_0 : decode prog_14_method_27_code 0 = .ok (.aload_n 0, 1) := by decide +kernel
theorem d_Mod_put_1 : decode prog_14_method_27_code 1 = .ok (.iload_n 1, 1) := by decide +kernel
theorem d_Mod_put_2 : decode prog_14_method_27_code 2 = .ok (.invokevirtual 63, 3) := by decide +kernel
theorem d_Mod_put_5 : decode prog_14_method_27_code 5 = .ok (.ifCond .ne 11, 3) := by decide +kernel
theorem d_Mod_put_8 : decode prog_14_method_27_code 8 = .ok (.aload_n 0, 1) := by decide +kernel
theorem d_Mod_put_9 : decode prog_14_method_27_code 9 = .ok (.iconst (-1), 1) := by decide +kernel
theorem d_Mod_put_10 : decode prog_14_method_27_code 10 = .ok (.invokevirtual 29, 3) := by decide +kernel
theorem d_Mod_put_13 : decode prog_14_method_27_code 13 = .ok (.goto 26, 3) := by decide +kernel
theorem d_Mod_put_16 : decode prog_14_method_27_code 16 = .ok (.iload_n 2, 1) := by decide +kernel
theorem d_Mod_put_17 : decode prog_14_method_27_code 17 = .ok (.iconst 2, 1) := by decide +kernel
theorem d_Mod_put_18 : decode prog_14_method_27_code 18 = .ok (.invokestatic 25, 3) := by decide +kernel
theorem d_Mod_put_21 : decode prog_14_method_27_code 21 = .ok (.ifCond .eq 12, 3) := by decide +kernel
theorem d_Mod_put_24 : decode prog_14_method_27_code 24 = .ok (.aload_n 0, 1) := by decide +kernel
theorem d_Mod_put_25 : decode prog_14_method_27_code 25 = .ok (.iload_n 1, 1) := by decide +kernel
theorem d_Mod_put_26 : decode prog_14_method_27_code 26 = .ok (.iload_n 2, 1) := by decide +kernel
theorem d_Mod_put_27 : decode prog_14_method_27_code 27 = .ok (.invokevirtual 89, 3) := by decide +kernel
theorem d_Mod_put_30 : decode prog_14_method_27_code 30 = .ok (.goto 9, 3) := by decide +kernel
theorem d_Mod_put_33 : decode prog_14_method_27_code 33 = .ok (.aload_n 0, 1) := by decide +kernel
theorem d_Mod_put_34 : decode prog_14_method_27_code 34 = .ok (.bipush (-2), 2) := by decide +kernel
theorem d_Mod_put_36 : decode prog_14_method_27_code 36 = .ok (.invokevirtual 29, 3) := by decide +kernel
theorem d_Mod_put_39 : decode prog_14_method_27_code 39 = .ok (.ireturn, 1) := by decide +kernel
theorem d_Mod_meets_0 : decode prog_14_method_28_code 0 = .ok (.aload_n 0, 1) := by decide +kernel
theorem d_Mod_meets_1 : decode prog_14_method_28_code 1 = .ok (.getfield 13, 3) := by decide +kernel
theorem d_Mod_meets_4 : decode prog_14_method_28_code 4 = .ok (.sipush 186, 3) := by decide +kernel
theorem d_Mod_meets_7 : decode prog_14_method_28_code 7 = .ok (.bipush 8, 2) := by decide +kernel
theorem d_Mod_meets_9 : decode prog_14_method_28_code 9 = .ok (.iload_n 2, 1) := by decide +kernel
theorem d_Mod_meets_10 : decode prog_14_method_28_code 10 = .ok (.imul, 1) := by decide +kernel
theorem d_Mod_meets_11 : decode prog_14_method_28_code 11 = .ok (.iadd, 1) := by decide +kernel
theorem d_Mod_meets_12 : decode prog_14_method_28_code 12 = .ok (.iload_n 3, 1) := by decide +kernel
theorem d_Mod_meets_13 : decode prog_14_method_28_code 13 = .ok (.iadd, 1) := by decide +kernel
theorem d_Mod_meets_14 : decode prog_14_method_28_code 14 = .ok (.iaload, 1) := by decide +kernel
theorem d_Mod_meets_15 : decode prog_14_method_28_code 15 = .ok (.istore 4, 2) := by decide +kernel
theorem d_Mod_meets_17 : decode prog_14_method_28_code 17 = .ok (.iload_n 3, 1) := by decide +kernel
theorem d_Mod_meets_18 : decode prog_14_method_28_code 18 = .ok (.iconst 4, 1) := by decide +kernel
theorem d_Mod_meets_19 : decode prog_14_method_28_code 19 = .ok (.if_icmp .ge 90, 3) := by decide +kernel
theorem d_Mod_meets_22 : decode prog_14_method_28_code 22 = .ok (.iload_n 3, 1) := by decide +kernel
theorem d_Mod_meets_23 : decode prog_14_method_28_code 23 = .ok (.iconst 2, 1) := by decide +kernel
theorem d_Mod_meets_24 : decode prog_14_method_28_code 24 = .ok (.if_icmp .ge 7, 3) := by decide +kernel
theorem d_Mod_meets_27 : decode prog_14_method_28_code 27 = .ok (.iconst 0, 1) := by decide +kernel
theorem d_Mod_meets_28 : decode prog_14_method_28_code 28 = .ok (.goto 4, 3) := by decide +kernel
theorem d_Mod_meets_31 : decode prog_14_method_28_code 31 = .ok (.iconst 1, 1) := by decide +kernel
theorem d_Mod_meets_32 : decode prog_14_method_28_code 32 = .ok (.istore 5, 2) := by decide +kernel
theorem d_Mod_meets_34 : decode prog_14_method_28_code 34 = .ok (.aload_n 0, 1) := by decide +kernel
theorem d_Mod_meets_35 : decode prog_14_method_28_code 35 = .ok (.iload_n 1, 1) := by decide +kernel
theorem d_Mod_meets_36 : decode prog_14_method_28_code 36 = .ok (.iload 5, 2) := by decide +kernel
theorem d_Mod_meets_38 : decode prog_14_method_28_code 38 = .ok (.invokevirtual 66, 3) := by decide +kernel
theorem d_Mod_meets_41 : decode prog_14_method_28_code 41 = .ok (.ifCond .ge 5, 3) := by decide +kernel
theorem d_Mod_meets_44 : decode prog_14_method_28_code 44 = .ok (.iconst 1, 1) := by decide +kernel
theorem d_Mod_meets_45 : decode prog_14_method_28_code 45 = .ok (.ireturn, 1) := by decide +kernel
theorem d_Mod_meets_46 : decode prog_14_method_28_code 46 = .ok (.aload_n 0, 1) := by decide +kernel
theorem d_Mod_meets_47 : decode prog_14_method_28_code 47 = .ok (.getfield 13, 3) := by decide +kernel
theorem d_Mod_meets_50 : decode prog_14_method_28_code 50 = .ok (.iconst 2, 1) := by decide +kernel
theorem d_Mod_meets_51 : decode prog_14_method_28_code 51 = .ok (.iaload, 1) := by decide +kernel
theorem d_Mod_meets_52 : decode prog_14_method_28_code 52 = .ok (.iconst 1, 1) := by decide +kernel
theorem d_Mod_meets_53 : decode prog_14_method_28_code 53 = .ok (.if_icmp .ne 13, 3) := by decide +kernel
theorem d_Mod_meets_56 : decode prog_14_method_28_code 56 = .ok (.aload_n 0, 1) := by decide +kernel
theorem d_Mod_meets_57 : decode prog_14_method_28_code 57 = .ok (.iload_n 1, 1) := by decide +kernel
theorem d_Mod_meets_58 : decode prog_14_method_28_code 58 = .ok (.iload 5, 2) := by decide +kernel
theorem d_Mod_meets_60 : decode prog_14_method_28_code 60 = .ok (.invokevirtual 89, 3) := by decide +kernel
theorem d_Mod_meets_63 : decode prog_14_method_28_code 63 = .ok (.goto 10, 3) := by decide +kernel
theorem d_Mod_meets_66 : decode prog_14_method_28_code 66 = .ok (.aload_n 0, 1) := by decide +kernel
theorem d_Mod_meets_67 : decode prog_14_method_28_code 67 = .ok (.iload_n 1, 1) := by decide +kernel
theorem d_Mod_meets_68 : decode prog_14_method_28_code 68 = .ok (.iload 5, 2) := by decide +kernel
theorem d_Mod_meets_70 : decode prog_14_method_28_code 70 = .ok (.invokevirtual 66, 3) := by decide +kernel
theorem d_Mod_meets_73 : decode prog_14_method_28_code 73 = .ok (.istore 6, 2) := by decide +kernel
theorem d_Mod_meets_75 : decode prog_14_method_28_code 75 = .ok (.iload_n 3, 1) := by decide +kernel
theorem d_Mod_meets_76 : decode prog_14_method_28_code 76 = .ok (.iconst 2, 1) := by decide +kernel
theorem d_Mod_meets_77 : decode prog_14_method_28_code 77 = .ok (.irem, 1) := by decide +kernel
theorem d_Mod_meets_78 : decode prog_14_method_28_code 78 = .ok (.ifCond .ne 18, 3) := by decide +kernel
theorem d_Mod_meets_81 : decode prog_14_method_28_code 81 = .ok (.iload 6, 2) := by decide +kernel
theorem d_Mod_meets_83 : decode prog_14_method_28_code 83 = .ok (.iload 4, 2) := by decide +kernel
theorem d_Mod_meets_85 : decode prog_14_method_28_code 85 = .ok (.if_icmp .lt 7, 3) := by decide +kernel
theorem d_Mod_meets_88 : decode prog_14_method_28_code 88 = .ok (.iconst 1, 1) := by decide +kernel
theorem d_Mod_meets_89 : decode prog_14_method_28_code 89 = .ok (.goto 19, 3) := by decide +kernel
theorem d_Mod_meets_92 : decode prog_14_method_28_code 92 = .ok (.iconst 0, 1) := by decide +kernel
theorem d_Mod_meets_93 : decode prog_14_method_28_code 93 = .ok (.goto 15, 3) := by decide +kernel
theorem d_Mod_meets_96 : decode prog_14_method_28_code 96 = .ok (.iload 6, 2) := by decide +kernel
theorem d_Mod_meets_98 : decode prog_14_method_28_code 98 = .ok (.iload 4, 2) := by decide +kernel
theorem d_Mod_meets_100 : decode prog_14_method_28_code 100 = .ok (.if_icmp .gt 7, 3) := by decide +kernel
theorem d_Mod_meets_103 : decode prog_14_method_28_code 103 = .ok (.iconst 1, 1) := by decide +kernel
theorem d_Mod_meets_104 : decode prog_14_method_28_code 104 = .ok (.goto 4, 3) := by decide +kernel
theorem d_Mod_meets_107 : decode prog_14_method_28_code 107 = .ok (.iconst 0, 1) := by decide +kernel
theorem d_Mod_meets_108 : decode prog_14_method_28_code 108 = .ok (.ireturn, 1) := by decide +kernel
theorem d_Mod_meets_109 : decode prog_14_method_28_code 109 = .ok (.iload_n 3, 1) := by decide +kernel
theorem d_Mod_meets_110 : decode prog_14_method_28_code 110 = .ok (.iconst 4, 1) := by decide +kernel
theorem d_Mod_meets_111 : decode prog_14_method_28_code 111 = .ok (.if_icmp .ne 33, 3) := by decide +kernel
theorem d_Mod_meets_114 : decode prog_14_method_28_code 114 = .ok (.aload_n 0, 1) := by decide +kernel
theorem d_Mod_meets_115 : decode prog_14_method_28_code 115 = .ok (.iload_n 1, 1) := by decide +kernel
theorem d_Mod_meets_116 : decode prog_14_method_28_code 116 = .ok (.iconst 2, 1) := by decide +kernel
theorem d_Mod_meets_117 : decode prog_14_method_28_code 117 = .ok (.invokevirtual 66, 3) := by decide +kernel
theorem d_Mod_meets_120 : decode prog_14_method_28_code 120 = .ok (.ifCond .lt 18, 3) := by decide +kernel
theorem d_Mod_meets_123 : decode prog_14_method_28_code 123 = .ok (.iload 4, 2) := by decide +kernel
theorem d_Mod_meets_125 : decode prog_14_method_28_code 125 = .ok (.aload_n 0, 1) := by decide +kernel
theorem d_Mod_meets_126 : decode prog_14_method_28_code 126 = .ok (.iload_n 1, 1) := by decide +kernel
theorem d_Mod_meets_127 : decode prog_14_method_28_code 127 = .ok (.iconst 2, 1) := by decide +kernel
theorem d_Mod_meets_128 : decode prog_14_method_28_code 128 = .ok (.invokevirtual 66, 3) := by decide +kernel
theorem d_Mod_meets_131 : decode prog_14_method_28_code 131 = .ok (.ishr, 1) := by decide +kernel
theorem d_Mod_meets_132 : decode prog_14_method_28_code 132 = .ok (.iconst 1, 1) := by decide +kernel
theorem d_Mod_meets_133 : decode prog_14_method_28_code 133 = .ok (.iand, 1) := by decide +kernel
theorem d_Mod_meets_134 : decode prog_14_method_28_code 134 = .ok (.iconst 1, 1) := by decide +kernel
theorem d_Mod_meets_135 : decode prog_14_method_28_code 135 = .ok (.if_icmp .ne 7, 3) := by decide +kernel
theorem d_Mod_meets_138 : decode prog_14_method_28_code 138 = .ok (.iconst 1, 1) := by decide +kernel
theorem d_Mod_meets_139 : decode prog_14_method_28_code 139 = .ok (.goto 4, 3) := by decide +kernel
theorem d_Mod_meets_142 : decode prog_14_method_28_code 142 = .ok (.iconst 0, 1) := by decide +kernel
theorem d_Mod_meets_143 : decode prog_14_method_28_code 143 = .ok (.ireturn, 1) := by decide +kernel
theorem d_Mod_meets_144 : decode prog_14_method_28_code 144 = .ok (.iload_n 3, 1) := by decide +kernel
theorem d_Mod_meets_145 : decode prog_14_method_28_code 145 = .ok (.iconst 5, 1) := by decide +kernel
theorem d_Mod_meets_146 : decode prog_14_method_28_code 146 = .ok (.if_icmp .ne 25, 3) := by decide +kernel
theorem d_Mod_meets_149 : decode prog_14_method_28_code 149 = .ok (.iload 4, 2) := by decide +kernel
theorem d_Mod_meets_151 : decode prog_14_method_28_code 151 = .ok (.aload_n 0, 1) := by decide +kernel
theorem d_Mod_meets_152 : decode prog_14_method_28_code 152 = .ok (.iload_n 1, 1) := by decide +kernel
theorem d_Mod_meets_153 : decode prog_14_method_28_code 153 = .ok (.iconst 3, 1) := by decide +kernel
theorem d_Mod_meets_154 : decode prog_14_method_28_code 154 = .ok (.invokevirtual 66, 3) := by decide +kernel
theorem d_Mod_meets_157 : decode prog_14_method_28_code 157 = .ok (.iconst (-1), 1) := by decide +kernel
theorem d_Mod_meets_158 : decode prog_14_method_28_code 158 = .ok (.ixor, 1) := by decide +kernel
theorem d_Mod_meets_159 : decode prog_14_method_28_code 159 = .ok (.iand, 1) := by decide +kernel
theorem d_Mod_meets_160 : decode prog_14_method_28_code 160 = .ok (.ifCond .ne 7, 3) := by decide +kernel
theorem d_Mod_meets_163 : decode prog_14_method_28_code 163 = .ok (.iconst 1, 1) := by decide +kernel
theorem d_Mod_meets_164 : decode prog_14_method_28_code 164 = .ok (.goto 24, 3) := by decide +kernel
theorem d_Mod_meets_167 : decode prog_14_method_28_code 167 = .ok (.iconst 0, 1) := by decide +kernel
theorem d_Mod_meets_168 : decode prog_14_method_28_code 168 = .ok (.goto 20, 3) := by decide +kernel
theorem d_Mod_meets_171 : decode prog_14_method_28_code 171 = .ok (.iload 4, 2) := by decide +kernel
theorem d_Mod_meets_173 : decode prog_14_method_28_code 173 = .ok (.aload_n 0, 1) := by decide +kernel
theorem d_Mod_meets_174 : decode prog_14_method_28_code 174 = .ok (.iload_n 1, 1) := by decide +kernel
theorem d_Mod_meets_175 : decode prog_14_method_28_code 175 = .ok (.iconst 3, 1) := by decide +kernel
theorem d_Mod_meets_176 : decode prog_14_method_28_code 176 = .ok (.invokevirtual 66, 3) := by decide +kernel
theorem d_Mod_meets_179 : decode prog_14_method_28_code 179 = .ok (.iand, 1) := by decide +kernel
theorem d_Mod_meets_180 : decode prog_14_method_28_code 180 = .ok (.ifCond .ne 7, 3) := by decide +kernel
theorem d_Mod_meets_183 : decode prog_14_method_28_code 183 = .ok (.iconst 1, 1) := by decide +kernel
theorem d_Mod_meets_184 : decode prog_14_method_28_code 184 = .ok (.goto 4, 3) := by decide +kernel
theorem d_Mod_meets_187 : decode prog_14_method_28_code 187 = .ok (.iconst 0, 1) := by decide +kernel
theorem d_Mod_meets_188 : decode prog_14_method_28_code 188 = .ok (.ireturn, 1) := by decide +kernel
theorem d_Mod_isFit_0 : decode prog_14_method_29_code 0 = .ok (.iconst 0, 1) := by decide +kernel
theorem d_Mod_isFit_1 : decode prog_14_method_29_code 1 = .ok (.istore 4, 2) := by decide +kernel
theorem d_Mod_isFit_3 : decode prog_14_method_29_code 3 = .ok (.iload 4, 2) := by decide +kernel
theorem d_Mod_isFit_5 : decode prog_14_method_29_code 5 = .ok (.bipush 7, 2) := by decide +kernel
theorem d_Mod_isFit_7 : decode prog_14_method_29_code 7 = .ok (.if_icmp .ge 31, 3) := by decide +kernel
theorem d_Mod_isFit_10 : decode prog_14_method_29_code 10 = .ok (.iload_n 3, 1) := by decide +kernel
theorem d_Mod_isFit_11 : decode prog_14_method_29_code 11 = .ok (.iload 4, 2) := by decide +kernel
theorem d_Mod_isFit_13 : decode prog_14_method_29_code 13 = .ok (.ishr, 1) := by decide +kernel
theorem d_Mod_isFit_14 : decode prog_14_method_29_code 14 = .ok (.iconst 1, 1) := by decide +kernel
theorem d_Mod_isFit_15 : decode prog_14_method_29_code 15 = .ok (.iand, 1) := by decide +kernel
theorem d_Mod_isFit_16 : decode prog_14_method_29_code 16 = .ok (.ifCond .ne 16, 3) := by decide +kernel
theorem d_Mod_isFit_19 : decode prog_14_method_29_code 19 = .ok (.aload_n 0, 1) := by decide +kernel
theorem d_Mod_isFit_20 : decode prog_14_method_29_code 20 = .ok (.iload_n 1, 1) := by decide +kernel
theorem d_Mod_isFit_21 : decode prog_14_method_29_code 21 = .ok (.iload_n 2, 1) := by decide +kernel
theorem d_Mod_isFit_22 : decode prog_14_method_29_code 22 = .ok (.iload 4, 2) := by decide +kernel
theorem d_Mod_isFit_24 : decode prog_14_method_29_code 24 = .ok (.invokevirtual 92, 3) := by decide +kernel
theorem d_Mod_isFit_27 : decode prog_14_method_29_code 27 = .ok (.ifCond .ne 5, 3) := by decide +kernel
theorem d_Mod_isFit_30 : decode prog_14_method_29_code 30 = .ok (.iconst 0, 1) := by decide +kernel
theorem d_Mod_isFit_31 : decode prog_14_method_29_code 31 = .ok (.ireturn, 1) := by decide +kernel
theorem d_Mod_isFit_32 : decode prog_14_method_29_code 32 = .ok (.iinc 4 1, 3) := by decide +kernel
theorem d_Mod_isFit_35 : decode prog_14_method_29_code 35 = .ok (.goto (-32), 3) := by decide +kernel
theorem d_Mod_isFit_38 : decode prog_14_method_29_code 38 = .ok (.iconst 1, 1) := by decide +kernel
theorem d_Mod_isFit_39 : decode prog_14_method_29_code 39 = .ok (.ireturn, 1) := by decide +kernel
theorem d_Mod_lawsOf_0 : decode prog_14_method_30_code 0 = .ok (.iconst 0, 1) := by decide +kernel
theorem d_Mod_lawsOf_1 : decode prog_14_method_30_code 1 = .ok (.istore_n 2, 1) := by decide +kernel
theorem d_Mod_lawsOf_2 : decode prog_14_method_30_code 2 = .ok (.iconst 0, 1) := by decide +kernel
theorem d_Mod_lawsOf_3 : decode prog_14_method_30_code 3 = .ok (.istore_n 3, 1) := by decide +kernel
theorem d_Mod_lawsOf_4 : decode prog_14_method_30_code 4 = .ok (.iload_n 3, 1) := by decide +kernel
theorem d_Mod_lawsOf_5 : decode prog_14_method_30_code 5 = .ok (.bipush 6, 2) := by decide +kernel
theorem d_Mod_lawsOf_7 : decode prog_14_method_30_code 7 = .ok (.if_icmp .ge 29, 3) := by decide +kernel
theorem d_Mod_lawsOf_10 : decode prog_14_method_30_code 10 = .ok (.iload_n 2, 1) := by decide +kernel
theorem d_Mod_lawsOf_11 : decode prog_14_method_30_code 11 = .ok (.aload_n 0, 1) := by decide +kernel
theorem d_Mod_lawsOf_12 : decode prog_14_method_30_code 12 = .ok (.iload_n 1, 1) := by decide +kernel
theorem d_Mod_lawsOf_13 : decode prog_14_method_30_code 13 = .ok (.iload_n 3, 1) := by decide +kernel
theorem d_Mod_lawsOf_14 : decode prog_14_method_30_code 14 = .ok (.iconst 0, 1) := by decide +kernel
theorem d_Mod_lawsOf_15 : decode prog_14_method_30_code 15 = .ok (.invokevirtual 96, 3) := by decide +kernel
theorem d_Mod_lawsOf_18 : decode prog_14_method_30_code 18 = .ok (.ifCond .eq 9, 3) := by decide +kernel
theorem d_Mod_lawsOf_21 : decode prog_14_method_30_code 21 = .ok (.iconst 1, 1) := by decide +kernel
theorem d_Mod_lawsOf_22 : decode prog_14_method_30_code 22 = .ok (.iload_n 3, 1) := by decide +kernel
theorem d_Mod_lawsOf_23 : decode prog_14_method_30_code 23 = .ok (.ishl, 1) := by decide +kernel
theorem d_Mod_lawsOf_24 : decode prog_14_method_30_code 24 = .ok (.goto 4, 3) := by decide +kernel
theorem d_Mod_lawsOf_27 : decode prog_14_method_30_code 27 = .ok (.iconst 0, 1) := by decide +kernel
theorem d_Mod_lawsOf_28 : decode prog_14_method_30_code 28 = .ok (.ior, 1) := by decide +kernel
theorem d_Mod_lawsOf_29 : decode prog_14_method_30_code 29 = .ok (.istore_n 2, 1) := by decide +kernel
theorem d_Mod_lawsOf_30 : decode prog_14_method_30_code 30 = .ok (.iinc 3 1, 3) := by decide +kernel
theorem d_Mod_lawsOf_33 : decode prog_14_method_30_code 33 = .ok (.goto (-29), 3) := by decide +kernel
theorem d_Mod_lawsOf_36 : decode prog_14_method_30_code 36 = .ok (.iload_n 2, 1) := by decide +kernel
theorem d_Mod_lawsOf_37 : decode prog_14_method_30_code 37 = .ok (.ireturn, 1) := by decide +kernel
theorem d_Mod_fits_0 : decode prog_14_method_31_code 0 = .ok (.aload_n 0, 1) := by decide +kernel
theorem d_Mod_fits_1 : decode prog_14_method_31_code 1 = .ok (.iload_n 1, 1) := by decide +kernel
theorem d_Mod_fits_2 : decode prog_14_method_31_code 2 = .ok (.invokevirtual 63, 3) := by decide +kernel
theorem d_Mod_fits_5 : decode prog_14_method_31_code 5 = .ok (.ifCond .eq 10, 3) := by decide +kernel
theorem d_Mod_fits_8 : decode prog_14_method_31_code 8 = .ok (.iload_n 2, 1) := by decide +kernel
theorem d_Mod_fits_9 : decode prog_14_method_31_code 9 = .ok (.invokestatic 79, 3) := by decide +kernel
theorem d_Mod_fits_12 : decode prog_14_method_31_code 12 = .ok (.ifCond .ne 11, 3) := by decide +kernel
theorem d_Mod_fits_15 : decode prog_14_method_31_code 15 = .ok (.aload_n 0, 1) := by decide +kernel
theorem d_Mod_fits_16 : decode prog_14_method_31_code 16 = .ok (.iconst (-1), 1) := by decide +kernel
theorem d_Mod_fits_17 : decode prog_14_method_31_code 17 = .ok (.invokevirtual 29, 3) := by decide +kernel
theorem d_Mod_fits_20 : decode prog_14_method_31_code 20 = .ok (.goto 18, 3) := by decide +kernel
theorem d_Mod_fits_23 : decode prog_14_method_31_code 23 = .ok (.aload_n 0, 1) := by decide +kernel
theorem d_Mod_fits_24 : decode prog_14_method_31_code 24 = .ok (.iload_n 1, 1) := by decide +kernel
theorem d_Mod_fits_25 : decode prog_14_method_31_code 25 = .ok (.iload_n 2, 1) := by decide +kernel
theorem d_Mod_fits_26 : decode prog_14_method_31_code 26 = .ok (.iconst 0, 1) := by decide +kernel
theorem d_Mod_fits_27 : decode prog_14_method_31_code 27 = .ok (.invokevirtual 96, 3) := by decide +kernel
theorem d_Mod_fits_30 : decode prog_14_method_31_code 30 = .ok (.ifCond .eq 7, 3) := by decide +kernel
theorem d_Mod_fits_33 : decode prog_14_method_31_code 33 = .ok (.iconst 1, 1) := by decide +kernel
theorem d_Mod_fits_34 : decode prog_14_method_31_code 34 = .ok (.goto 4, 3) := by decide +kernel
theorem d_Mod_fits_37 : decode prog_14_method_31_code 37 = .ok (.iconst 0, 1) := by decide +kernel
theorem d_Mod_fits_38 : decode prog_14_method_31_code 38 = .ok (.ireturn, 1) := by decide +kernel
theorem d_Mod_common_0 : decode prog_14_method_32_code 0 = .ok (.iload_n 1, 1) := by decide +kernel
theorem d_Mod_common_1 : decode prog_14_method_32_code 1 = .ok (.ifCond .ne 7, 3) := by decide +kernel
theorem d_Mod_common_4 : decode prog_14_method_32_code 4 = .ok (.iload_n 0, 1) := by decide +kernel
theorem d_Mod_common_5 : decode prog_14_method_32_code 5 = .ok (.goto 10, 3) := by decide +kernel
theorem d_Mod_common_8 : decode prog_14_method_32_code 8 = .ok (.iload_n 1, 1) := by decide +kernel
theorem d_Mod_common_9 : decode prog_14_method_32_code 9 = .ok (.iload_n 0, 1) := by decide +kernel
theorem d_Mod_common_10 : decode prog_14_method_32_code 10 = .ok (.iload_n 1, 1) := by decide +kernel
theorem d_Mod_common_11 : decode prog_14_method_32_code 11 = .ok (.irem, 1) := by decide +kernel
theorem d_Mod_common_12 : decode prog_14_method_32_code 12 = .ok (.invokestatic 99, 3) := by decide +kernel
theorem d_Mod_common_15 : decode prog_14_method_32_code 15 = .ok (.ireturn, 1) := by decide +kernel
theorem d_Mod_partOf_0 : decode prog_14_method_33_code 0 = .ok (.iload_n 0, 1) := by decide +kernel
theorem d_Mod_partOf_1 : decode prog_14_method_33_code 1 = .ok (.iload_n 1, 1) := by decide +kernel
theorem d_Mod_partOf_2 : decode prog_14_method_33_code 2 = .ok (.invokestatic 99, 3) := by decide +kernel
theorem d_Mod_partOf_5 : decode prog_14_method_33_code 5 = .ok (.istore_n 3, 1) := by decide +kernel
theorem d_Mod_partOf_6 : decode prog_14_method_33_code 6 = .ok (.iload_n 2, 1) := by decide +kernel
theorem d_Mod_partOf_7 : decode prog_14_method_33_code 7 = .ok (.ifCond .ne 9, 3) := by decide +kernel
theorem d_Mod_partOf_10 : decode prog_14_method_33_code 10 = .ok (.iload_n 0, 1) := by decide +kernel
theorem d_Mod_partOf_11 : decode prog_14_method_33_code 11 = .ok (.iload_n 3, 1) := by decide +kernel
theorem d_Mod_partOf_12 : decode prog_14_method_33_code 12 = .ok (.idiv, 1) := by decide +kernel
theorem d_Mod_partOf_13 : decode prog_14_method_33_code 13 = .ok (.goto 6, 3) := by decide +kernel
theorem d_Mod_partOf_16 : decode prog_14_method_33_code 16 = .ok (.iload_n 1, 1) := by decide +kernel
theorem d_Mod_partOf_17 : decode prog_14_method_33_code 17 = .ok (.iload_n 3, 1) := by decide +kernel
theorem d_Mod_partOf_18 : decode prog_14_method_33_code 18 = .ok (.idiv, 1) := by decide +kernel
theorem d_Mod_partOf_19 : decode prog_14_method_33_code 19 = .ok (.ireturn, 1) := by decide +kernel
theorem d_Mod_share_0 : decode prog_14_method_34_code 0 = .ok (.iload_n 1, 1) := by decide +kernel
theorem d_Mod_share_1 : decode prog_14_method_34_code 1 = .ok (.invokestatic 79, 3) := by decide +kernel
theorem d_Mod_share_4 : decode prog_14_method_34_code 4 = .ok (.ifCond .ne 12, 3) := by decide +kernel
theorem d_Mod_share_7 : decode prog_14_method_34_code 7 = .ok (.ldc 102, 2) := by decide +kernel
theorem d_Mod_share_9 : decode prog_14_method_34_code 9 = .ok (.aload_n 0, 1) := by decide +kernel
theorem d_Mod_share_10 : decode prog_14_method_34_code 10 = .ok (.iconst (-1), 1) := by decide +kernel
theorem d_Mod_share_11 : decode prog_14_method_34_code 11 = .ok (.invokevirtual 29, 3) := by decide +kernel
theorem d_Mod_share_14 : decode prog_14_method_34_code 14 = .ok (.isub, 1) := by decide +kernel
theorem d_Mod_share_15 : decode prog_14_method_34_code 15 = .ok (.ireturn, 1) := by decide +kernel
theorem d_Mod_share_16 : decode prog_14_method_34_code 16 = .ok (.iload_n 2, 1) := by decide +kernel
theorem d_Mod_share_17 : decode prog_14_method_34_code 17 = .ok (.iconst 2, 1) := by decide +kernel
theorem d_Mod_share_18 : decode prog_14_method_34_code 18 = .ok (.invokestatic 25, 3) := by decide +kernel
theorem d_Mod_share_21 : decode prog_14_method_34_code 21 = .ok (.ifCond .ne 13, 3) := by decide +kernel
theorem d_Mod_share_24 : decode prog_14_method_34_code 24 = .ok (.ldc 102, 2) := by decide +kernel
theorem d_Mod_share_26 : decode prog_14_method_34_code 26 = .ok (.aload_n 0, 1) := by decide +kernel
theorem d_Mod_share_27 : decode prog_14_method_34_code 27 = .ok (.bipush (-2), 2) := by decide +kernel
theorem d_Mod_share_29 : decode prog_14_method_34_code 29 = .ok (.invokevirtual 29, 3) := by decide +kernel
theorem d_Mod_share_32 : decode prog_14_method_34_code 32 = .ok (.isub, 1) := by decide +kernel
theorem d_Mod_share_33 : decode prog_14_method_34_code 33 = .ok (.ireturn, 1) := by decide +kernel
theorem d_Mod_share_34 : decode prog_14_method_34_code 34 = .ok (.iconst 0, 1) := by decide +kernel
theorem d_Mod_share_35 : decode prog_14_method_34_code 35 = .ok (.istore_n 3, 1) := by decide +kernel
theorem d_Mod_share_36 : decode prog_14_method_34_code 36 = .ok (.iconst 0, 1) := by decide +kernel
theorem d_Mod_share_37 : decode prog_14_method_34_code 37 = .ok (.istore 4, 2) := by decide +kernel
theorem d_Mod_share_39 : decode prog_14_method_34_code 39 = .ok (.iconst 0, 1) := by decide +kernel
theorem d_Mod_share_40 : decode prog_14_method_34_code 40 = .ok (.istore 5, 2) := by decide +kernel
theorem d_Mod_share_42 : decode prog_14_method_34_code 42 = .ok (.iload 5, 2) := by decide +kernel
theorem d_Mod_share_44 : decode prog_14_method_34_code 44 = .ok (.aload_n 0, 1) := by decide +kernel
theorem d_Mod_share_45 : decode prog_14_method_34_code 45 = .ok (.getfield 13, 3) := by decide +kernel
theorem d_Mod_share_48 : decode prog_14_method_34_code 48 = .ok (.iconst 0, 1) := by decide +kernel
theorem d_Mod_share_49 : decode prog_14_method_34_code 49 = .ok (.iaload, 1) := by decide +kernel
theorem d_Mod_share_50 : decode prog_14_method_34_code 50 = .ok (.if_icmp .ge 44, 3) := by decide +kernel
theorem d_Mod_share_53 : decode prog_14_method_34_code 53 = .ok (.iload_n 3, 1) := by decide +kernel
theorem d_Mod_share_54 : decode prog_14_method_34_code 54 = .ok (.aload_n 0, 1) := by decide +kernel
theorem d_Mod_share_55 : decode prog_14_method_34_code 55 = .ok (.iload 5, 2) := by decide +kernel
theorem d_Mod_share_57 : decode prog_14_method_34_code 57 = .ok (.invokevirtual 76, 3) := by decide +kernel
theorem d_Mod_share_60 : decode prog_14_method_34_code 60 = .ok (.iadd, 1) := by decide +kernel
theorem d_Mod_share_61 : decode prog_14_method_34_code 61 = .ok (.istore_n 3, 1) := by decide +kernel
theorem d_Mod_share_62 : decode prog_14_method_34_code 62 = .ok (.iload 4, 2) := by decide +kernel
theorem d_Mod_share_64 : decode prog_14_method_34_code 64 = .ok (.aload_n 0, 1) := by decide +kernel
theorem d_Mod_share_65 : decode prog_14_method_34_code 65 = .ok (.iload 5, 2) := by decide +kernel
theorem d_Mod_share_67 : decode prog_14_method_34_code 67 = .ok (.iload_n 1, 1) := by decide +kernel
theorem d_Mod_share_68 : decode prog_14_method_34_code 68 = .ok (.iconst 0, 1) := by decide +kernel
theorem d_Mod_share_69 : decode prog_14_method_34_code 69 = .ok (.invokevirtual 96, 3) := by decide +kernel
theorem d_Mod_share_72 : decode prog_14_method_34_code 72 = .ok (.ifCond .eq 12, 3) := by decide +kernel
theorem d_Mod_share_75 : decode prog_14_method_34_code 75 = .ok (.aload_n 0, 1) := by decide +kernel
theorem d_Mod_share_76 : decode prog_14_method_34_code 76 = .ok (.iload 5, 2) := by decide +kernel
theorem d_Mod_share_78 : decode prog_14_method_34_code 78 = .ok (.invokevirtual 76, 3) := by decide +kernel
theorem d_Mod_share_81 : decode prog_14_method_34_code 81 = .ok (.goto 4, 3) := by decide +kernel
theorem d_Mod_share_84 : decode prog_14_method_34_code 84 = .ok (.iconst 0, 1) := by decide +kernel
theorem d_Mod_share_85 : decode prog_14_method_34_code 85 = .ok (.iadd, 1) := by decide +kernel
theorem d_Mod_share_86 : decode prog_14_method_34_code 86 = .ok (.istore 4, 2) := by decide +kernel
theorem d_Mod_share_88 : decode prog_14_method_34_code 88 = .ok (.iinc 5 1, 3) := by decide +kernel
theorem d_Mod_share_91 : decode prog_14_method_34_code 91 = .ok (.goto (-49), 3) := by decide +kernel
theorem d_Mod_share_94 : decode prog_14_method_34_code 94 = .ok (.iload_n 3, 1) := by decide +kernel
theorem d_Mod_share_95 : decode prog_14_method_34_code 95 = .ok (.ifCond .ne 15, 3) := by decide +kernel
theorem d_Mod_share_98 : decode prog_14_method_34_code 98 = .ok (.ldc 102, 2) := by decide +kernel
theorem d_Mod_share_100 : decode prog_14_method_34_code 100 = .ok (.aload_n 0, 1) := by decide +kernel
theorem d_Mod_share_101 : decode prog_14_method_34_code 101 = .ok (.bipush (-3), 2) := by decide +kernel
theorem d_Mod_share_103 : decode prog_14_method_34_code 103 = .ok (.invokevirtual 29, 3) := by decide +kernel
theorem d_Mod_share_106 : decode prog_14_method_34_code 106 = .ok (.isub, 1) := by decide +kernel
theorem d_Mod_share_107 : decode prog_14_method_34_code 107 = .ok (.goto 10, 3) := by decide +kernel
theorem d_Mod_share_110 : decode prog_14_method_34_code 110 = .ok (.iload 4, 2) := by decide +kernel
theorem d_Mod_share_112 : decode prog_14_method_34_code 112 = .ok (.iload_n 3, 1) := by decide +kernel
theorem d_Mod_share_113 : decode prog_14_method_34_code 113 = .ok (.iload_n 2, 1) := by decide +kernel
theorem d_Mod_share_114 : decode prog_14_method_34_code 114 = .ok (.invokestatic 103, 3) := by decide +kernel
theorem d_Mod_share_117 : decode prog_14_method_34_code 117 = .ok (.ireturn, 1) := by decide +kernel
theorem d_Mod_only_0 : decode prog_14_method_35_code 0 = .ok (.iload_n 1, 1) := by decide +kernel
theorem d_Mod_only_1 : decode prog_14_method_35_code 1 = .ok (.invokestatic 79, 3) := by decide +kernel
theorem d_Mod_only_4 : decode prog_14_method_35_code 4 = .ok (.ifCond .ne 9, 3) := by decide +kernel
theorem d_Mod_only_7 : decode prog_14_method_35_code 7 = .ok (.aload_n 0, 1) := by decide +kernel
theorem d_Mod_only_8 : decode prog_14_method_35_code 8 = .ok (.iconst (-1), 1) := by decide +kernel
theorem d_Mod_only_9 : decode prog_14_method_35_code 9 = .ok (.invokevirtual 29, 3) := by decide +kernel
theorem d_Mod_only_12 : decode prog_14_method_35_code 12 = .ok (.ireturn, 1) := by decide +kernel
theorem d_Mod_only_13 : decode prog_14_method_35_code 13 = .ok (.iconst 0, 1) := by decide +kernel
theorem d_Mod_only_14 : decode prog_14_method_35_code 14 = .ok (.istore_n 2, 1) := by decide +kernel
theorem d_Mod_only_15 : decode prog_14_method_35_code 15 = .ok (.iconst 0, 1) := by decide +kernel
theorem d_Mod_only_16 : decode prog_14_method_35_code 16 = .ok (.istore_n 3, 1) := by decide +kernel
theorem d_Mod_only_17 : decode prog_14_method_35_code 17 = .ok (.iload_n 3, 1) := by decide +kernel
theorem d_Mod_only_18 : decode prog_14_method_35_code 18 = .ok (.aload_n 0, 1) := by decide +kernel
theorem d_Mod_only_19 : decode prog_14_method_35_code 19 = .ok (.getfield 13, 3) := by decide +kernel
theorem d_Mod_only_22 : decode prog_14_method_35_code 22 = .ok (.iconst 0, 1) := by decide +kernel
theorem d_Mod_only_23 : decode prog_14_method_35_code 23 = .ok (.iaload, 1) := by decide +kernel
theorem d_Mod_only_24 : decode prog_14_method_35_code 24 = .ok (.if_icmp .ge 28, 3) := by decide +kernel
theorem d_Mod_only_27 : decode prog_14_method_35_code 27 = .ok (.iload_n 2, 1) := by decide +kernel
theorem d_Mod_only_28 : decode prog_14_method_35_code 28 = .ok (.aload_n 0, 1) := by decide +kernel
theorem d_Mod_only_29 : decode prog_14_method_35_code 29 = .ok (.iload_n 3, 1) := by decide +kernel
theorem d_Mod_only_30 : decode prog_14_method_35_code 30 = .ok (.invokevirtual 106, 3) := by decide +kernel
theorem d_Mod_only_33 : decode prog_14_method_35_code 33 = .ok (.iconst 1, 1) := by decide +kernel
theorem d_Mod_only_34 : decode prog_14_method_35_code 34 = .ok (.iload_n 1, 1) := by decide +kernel
theorem d_Mod_only_35 : decode prog_14_method_35_code 35 = .ok (.ishl, 1) := by decide +kernel
theorem d_Mod_only_36 : decode prog_14_method_35_code 36 = .ok (.if_icmp .ne 7, 3) := by decide +kernel
theorem d_Mod_only_39 : decode prog_14_method_35_code 39 = .ok (.iconst 1, 1) := by decide +kernel
theorem d_Mod_only_40 : decode prog_14_method_35_code 40 = .ok (.goto 4, 3) := by decide +kernel
theorem d_Mod_only_43 : decode prog_14_method_35_code 43 = .ok (.iconst 0, 1) := by decide +kernel
theorem d_Mod_only_44 : decode prog_14_method_35_code 44 = .ok (.iadd, 1) := by decide +kernel
theorem d_Mod_only_45 : decode prog_14_method_35_code 45 = .ok (.istore_n 2, 1) := by decide +kernel
theorem d_Mod_only_46 : decode prog_14_method_35_code 46 = .ok (.iinc 3 1, 3) := by decide +kernel
theorem d_Mod_only_49 : decode prog_14_method_35_code 49 = .ok (.goto (-32), 3) := by decide +kernel
theorem d_Mod_only_52 : decode prog_14_method_35_code 52 = .ok (.iload_n 2, 1) := by decide +kernel
theorem d_Mod_only_53 : decode prog_14_method_35_code 53 = .ok (.ireturn, 1) := by decide +kernel
theorem d_Mod_bits_0 : decode prog_14_method_36_code 0 = .ok (.iconst 0, 1) := by decide +kernel
theorem d_Mod_bits_1 : decode prog_14_method_36_code 1 = .ok (.istore_n 1, 1) := by decide +kernel
theorem d_Mod_bits_2 : decode prog_14_method_36_code 2 = .ok (.iload_n 0, 1) := by decide +kernel
theorem d_Mod_bits_3 : decode prog_14_method_36_code 3 = .ok (.istore_n 2, 1) := by decide +kernel
theorem d_Mod_bits_4 : decode prog_14_method_36_code 4 = .ok (.iload_n 2, 1) := by decide +kernel
theorem d_Mod_bits_5 : decode prog_14_method_36_code 5 = .ok (.ifCond .le 16, 3) := by decide +kernel
theorem d_Mod_bits_8 : decode prog_14_method_36_code 8 = .ok (.iload_n 1, 1) := by decide +kernel
theorem d_Mod_bits_9 : decode prog_14_method_36_code 9 = .ok (.iload_n 2, 1) := by decide +kernel
theorem d_Mod_bits_10 : decode prog_14_method_36_code 10 = .ok (.iconst 1, 1) := by decide +kernel
theorem d_Mod_bits_11 : decode prog_14_method_36_code 11 = .ok (.iand, 1) := by decide +kernel
theorem d_Mod_bits_12 : decode prog_14_method_36_code 12 = .ok (.iadd, 1) := by decide +kernel
theorem d_Mod_bits_13 : decode prog_14_method_36_code 13 = .ok (.istore_n 1, 1) := by decide +kernel
theorem d_Mod_bits_14 : decode prog_14_method_36_code 14 = .ok (.iload_n 2, 1) := by decide +kernel
theorem d_Mod_bits_15 : decode prog_14_method_36_code 15 = .ok (.iconst 1, 1) := by decide +kernel
theorem d_Mod_bits_16 : decode prog_14_method_36_code 16 = .ok (.ishr, 1) := by decide +kernel
theorem d_Mod_bits_17 : decode prog_14_method_36_code 17 = .ok (.istore_n 2, 1) := by decide +kernel
theorem d_Mod_bits_18 : decode prog_14_method_36_code 18 = .ok (.goto (-14), 3) := by decide +kernel
theorem d_Mod_bits_21 : decode prog_14_method_36_code 21 = .ok (.iload_n 1, 1) := by decide +kernel
theorem d_Mod_bits_22 : decode prog_14_method_36_code 22 = .ok (.ireturn, 1) := by decide +kernel
theorem d_Mod_isCover_0 : decode prog_14_method_37_code 0 = .ok (.iconst 0, 1) := by decide +kernel
theorem d_Mod_isCover_1 : decode prog_14_method_37_code 1 = .ok (.istore_n 2, 1) := by decide +kernel
theorem d_Mod_isCover_2 : decode prog_14_method_37_code 2 = .ok (.iload_n 2, 1) := by decide +kernel
theorem d_Mod_isCover_3 : decode prog_14_method_37_code 3 = .ok (.aload_n 0, 1) := by decide +kernel
theorem d_Mod_isCover_4 : decode prog_14_method_37_code 4 = .ok (.getfield 13, 3) := by decide +kernel
theorem d_Mod_isCover_7 : decode prog_14_method_37_code 7 = .ok (.iconst 0, 1) := by decide +kernel
theorem d_Mod_isCover_8 : decode prog_14_method_37_code 8 = .ok (.iaload, 1) := by decide +kernel
theorem d_Mod_isCover_9 : decode prog_14_method_37_code 9 = .ok (.if_icmp .ge 29, 3) := by decide +kernel
theorem d_Mod_isCover_12 : decode prog_14_method_37_code 12 = .ok (.aload_n 0, 1) := by decide +kernel
theorem d_Mod_isCover_13 : decode prog_14_method_37_code 13 = .ok (.iload_n 2, 1) := by decide +kernel
theorem d_Mod_isCover_14 : decode prog_14_method_37_code 14 = .ok (.invokevirtual 106, 3) := by decide +kernel
theorem d_Mod_isCover_17 : decode prog_14_method_37_code 17 = .ok (.ifCond .eq 15, 3) := by decide +kernel
theorem d_Mod_isCover_20 : decode prog_14_method_37_code 20 = .ok (.aload_n 0, 1) := by decide +kernel
theorem d_Mod_isCover_21 : decode prog_14_method_37_code 21 = .ok (.iload_n 2, 1) := by decide +kernel
theorem d_Mod_isCover_22 : decode prog_14_method_37_code 22 = .ok (.invokevirtual 106, 3) := by decide +kernel
theorem d_Mod_isCover_25 : decode prog_14_method_37_code 25 = .ok (.iload_n 1, 1) := by decide +kernel
theorem d_Mod_isCover_26 : decode prog_14_method_37_code 26 = .ok (.iand, 1) := by decide +kernel
theorem d_Mod_isCover_27 : decode prog_14_method_37_code 27 = .ok (.ifCond .ne 5, 3) := by decide +kernel
theorem d_Mod_isCover_30 : decode prog_14_method_37_code 30 = .ok (.iconst 0, 1) := by decide +kernel
theorem d_Mod_isCover_31 : decode prog_14_method_37_code 31 = .ok (.ireturn, 1) := by decide +kernel
theorem d_Mod_isCover_32 : decode prog_14_method_37_code 32 = .ok (.iinc 2 1, 3) := by decide +kernel
theorem d_Mod_isCover_35 : decode prog_14_method_37_code 35 = .ok (.goto (-33), 3) := by decide +kernel
theorem d_Mod_isCover_38 : decode prog_14_method_37_code 38 = .ok (.iconst 1, 1) := by decide +kernel
theorem d_Mod_isCover_39 : decode prog_14_method_37_code 39 = .ok (.ireturn, 1) := by decide +kernel
theorem d_Mod_cover_0 : decode prog_14_method_38_code 0 = .ok (.iconst 0, 1) := by decide +kernel
theorem d_Mod_cover_1 : decode prog_14_method_38_code 1 = .ok (.istore_n 1, 1) := by decide +kernel
theorem d_Mod_cover_2 : decode prog_14_method_38_code 2 = .ok (.iload_n 1, 1) := by decide +kernel
theorem d_Mod_cover_3 : decode prog_14_method_38_code 3 = .ok (.bipush 6, 2) := by decide +kernel
theorem d_Mod_cover_5 : decode prog_14_method_38_code 5 = .ok (.if_icmp .ge 41, 3) := by decide +kernel
theorem d_Mod_cover_8 : decode prog_14_method_38_code 8 = .ok (.iconst 0, 1) := by decide +kernel
theorem d_Mod_cover_9 : decode prog_14_method_38_code 9 = .ok (.istore_n 2, 1) := by decide +kernel
theorem d_Mod_cover_10 : decode prog_14_method_38_code 10 = .ok (.iload_n 2, 1) := by decide +kernel
theorem d_Mod_cover_11 : decode prog_14_method_38_code 11 = .ok (.bipush 64, 2) := by decide +kernel
theorem d_Mod_cover_13 : decode prog_14_method_38_code 13 = .ok (.if_icmp .ge 27, 3) := by decide +kernel
theorem d_Mod_cover_16 : decode prog_14_method_38_code 16 = .ok (.iload_n 2, 1) := by decide +kernel
theorem d_Mod_cover_17 : decode prog_14_method_38_code 17 = .ok (.invokestatic 109, 3) := by decide +kernel
theorem d_Mod_cover_20 : decode prog_14_method_38_code 20 = .ok (.iload_n 1, 1) := by decide +kernel
theorem d_Mod_cover_21 : decode prog_14_method_38_code 21 = .ok (.if_icmp .ne 13, 3) := by decide +kernel
theorem d_Mod_cover_24 : decode prog_14_method_38_code 24 = .ok (.aload_n 0, 1) := by decide +kernel
theorem d_Mod_cover_25 : decode prog_14_method_38_code 25 = .ok (.iload_n 2, 1) := by decide +kernel
theorem d_Mod_cover_26 : decode prog_14_method_38_code 26 = .ok (.invokevirtual 112, 3) := by decide +kernel
theorem d_Mod_cover_29 : decode prog_14_method_38_code 29 = .ok (.ifCond .eq 5, 3) := by decide +kernel
theorem d_Mod_cover_32 : decode prog_14_method_38_code 32 = .ok (.iload_n 2, 1) := by decide +kernel
theorem d_Mod_cover_33 : decode prog_14_method_38_code 33 = .ok (.ireturn, 1) := by decide +kernel
theorem d_Mod_cover_34 : decode prog_14_method_38_code 34 = .ok (.iinc 2 1, 3) := by decide +kernel
theorem d_Mod_cover_37 : decode prog_14_method_38_code 37 = .ok (.goto (-27), 3) := by decide +kernel
theorem d_Mod_cover_40 : decode prog_14_method_38_code 40 = .ok (.iinc 1 1, 3) := by decide +kernel
theorem d_Mod_cover_43 : decode prog_14_method_38_code 43 = .ok (.goto (-41), 3) := by decide +kernel
theorem d_Mod_cover_46 : decode prog_14_method_38_code 46 = .ok (.bipush 63, 2) := by decide +kernel
theorem d_Mod_cover_48 : decode prog_14_method_38_code 48 = .ok (.ireturn, 1) := by decide +kernel
theorem d_Mod_half_0 : decode prog_14_method_39_code 0 = .ok (.iload_n 1, 1) := by decide +kernel
theorem d_Mod_half_1 : decode prog_14_method_39_code 1 = .ok (.invokestatic 79, 3) := by decide +kernel
theorem d_Mod_half_4 : decode prog_14_method_39_code 4 = .ok (.ifCond .ne 9, 3) := by decide +kernel
theorem d_Mod_half_7 : decode prog_14_method_39_code 7 = .ok (.aload_n 0, 1) := by decide +kernel
theorem d_Mod_half_8 : decode prog_14_method_39_code 8 = .ok (.iconst (-1), 1) := by decide +kernel
theorem d_Mod_half_9 : decode prog_14_method_39_code 9 = .ok (.invokevirtual 29, 3) := by decide +kernel
theorem d_Mod_half_12 : decode prog_14_method_39_code 12 = .ok (.ireturn, 1) := by decide +kernel
theorem d_Mod_half_13 : decode prog_14_method_39_code 13 = .ok (.bipush 127, 2) := by decide +kernel
theorem d_Mod_half_15 : decode prog_14_method_39_code 15 = .ok (.istore_n 2, 1) := by decide +kernel
theorem d_Mod_half_16 : decode prog_14_method_39_code 16 = .ok (.iconst 0, 1) := by decide +kernel
theorem d_Mod_half_17 : decode prog_14_method_39_code 17 = .ok (.istore_n 3, 1) := by decide +kernel
theorem d_Mod_half_18 : decode prog_14_method_39_code 18 = .ok (.iload_n 3, 1) := by decide +kernel
theorem d_Mod_half_19 : decode prog_14_method_39_code 19 = .ok (.sipush 128, 3) := by decide +kernel
theorem d_Mod_half_22 : decode prog_14_method_39_code 22 = .ok (.if_icmp .ge 83, 3) := by decide +kernel
theorem d_Mod_half_25 : decode prog_14_method_39_code 25 = .ok (.iconst 0, 1) := by decide +kernel
theorem d_Mod_half_26 : decode prog_14_method_39_code 26 = .ok (.istore 4, 2) := by decide +kernel
theorem d_Mod_half_28 : decode prog_14_method_39_code 28 = .ok (.iconst 0, 1) := by decide +kernel
theorem d_Mod_half_29 : decode prog_14_method_39_code 29 = .ok (.istore 5, 2) := by decide +kernel
theorem d_Mod_half_31 : decode prog_14_method_39_code 31 = .ok (.iload 5, 2) := by decide +kernel
theorem d_Mod_half_33 : decode prog_14_method_39_code 33 = .ok (.aload_n 0, 1) := by decide +kernel
theorem d_Mod_half_34 : decode prog_14_method_39_code 34 = .ok (.getfield 13, 3) := by decide +kernel
theorem d_Mod_half_37 : decode prog_14_method_39_code 37 = .ok (.iconst 0, 1) := by decide +kernel
theorem d_Mod_half_38 : decode prog_14_method_39_code 38 = .ok (.iaload, 1) := by decide +kernel
theorem d_Mod_half_39 : decode prog_14_method_39_code 39 = .ok (.if_icmp .ge 30, 3) := by decide +kernel
theorem d_Mod_half_42 : decode prog_14_method_39_code 42 = .ok (.iload 4, 2) := by decide +kernel
theorem d_Mod_half_44 : decode prog_14_method_39_code 44 = .ok (.aload_n 0, 1) := by decide +kernel
theorem d_Mod_half_45 : decode prog_14_method_39_code 45 = .ok (.iload 5, 2) := by decide +kernel
theorem d_Mod_half_47 : decode prog_14_method_39_code 47 = .ok (.iload_n 1, 1) := by decide +kernel
theorem d_Mod_half_48 : decode prog_14_method_39_code 48 = .ok (.iload_n 3, 1) := by decide +kernel
theorem d_Mod_half_49 : decode prog_14_method_39_code 49 = .ok (.invokevirtual 96, 3) := by decide +kernel
theorem d_Mod_half_52 : decode prog_14_method_39_code 52 = .ok (.ifCond .eq 7, 3) := by decide +kernel
theorem d_Mod_half_55 : decode prog_14_method_39_code 55 = .ok (.iconst 1, 1) := by decide +kernel
theorem d_Mod_half_56 : decode prog_14_method_39_code 56 = .ok (.goto 4, 3) := by decide +kernel
theorem d_Mod_half_59 : decode prog_14_method_39_code 59 = .ok (.iconst 0, 1) := by decide +kernel
theorem d_Mod_half_60 : decode prog_14_method_39_code 60 = .ok (.iadd, 1) := by decide +kernel
theorem d_Mod_half_61 : decode prog_14_method_39_code 61 = .ok (.istore 4, 2) := by decide +kernel
theorem d_Mod_half_63 : decode prog_14_method_39_code 63 = .ok (.iinc 5 1, 3) := by decide +kernel
theorem d_Mod_half_66 : decode prog_14_method_39_code 66 = .ok (.goto (-35), 3) := by decide +kernel
theorem d_Mod_half_69 : decode prog_14_method_39_code 69 = .ok (.iconst 2, 1) := by decide +kernel
theorem d_Mod_half_70 : decode prog_14_method_39_code 70 = .ok (.iload 4, 2) := by decide +kernel
theorem d_Mod_half_72 : decode prog_14_method_39_code 72 = .ok (.imul, 1) := by decide +kernel
theorem d_Mod_half_73 : decode prog_14_method_39_code 73 = .ok (.aload_n 0, 1) := by decide +kernel
theorem d_Mod_half_74 : decode prog_14_method_39_code 74 = .ok (.getfield 13, 3) := by decide +kernel
theorem d_Mod_half_77 : decode prog_14_method_39_code 77 = .ok (.iconst 0, 1) := by decide +kernel
theorem d_Mod_half_78 : decode prog_14_method_39_code 78 = .ok (.iaload, 1) := by decide +kernel
theorem d_Mod_half_79 : decode prog_14_method_39_code 79 = .ok (.if_icmp .lt 18, 3) := by decide +kernel
theorem d_Mod_half_82 : decode prog_14_method_39_code 82 = .ok (.iload_n 3, 1) := by decide +kernel
theorem d_Mod_half_83 : decode prog_14_method_39_code 83 = .ok (.invokestatic 109, 3) := by decide +kernel
theorem d_Mod_half_86 : decode prog_14_method_39_code 86 = .ok (.iload_n 2, 1) := by decide +kernel
theorem d_Mod_half_87 : decode prog_14_method_39_code 87 = .ok (.invokestatic 109, 3) := by decide +kernel
theorem d_Mod_half_90 : decode prog_14_method_39_code 90 = .ok (.if_icmp .ge 7, 3) := by decide +kernel
theorem d_Mod_half_93 : decode prog_14_method_39_code 93 = .ok (.iload_n 3, 1) := by decide +kernel
theorem d_Mod_half_94 : decode prog_14_method_39_code 94 = .ok (.goto 4, 3) := by decide +kernel
theorem d_Mod_half_97 : decode prog_14_method_39_code 97 = .ok (.iload_n 2, 1) := by decide +kernel
theorem d_Mod_half_98 : decode prog_14_method_39_code 98 = .ok (.istore_n 2, 1) := by decide +kernel
theorem d_Mod_half_99 : decode prog_14_method_39_code 99 = .ok (.iinc 3 1, 3) := by decide +kernel
theorem d_Mod_half_102 : decode prog_14_method_39_code 102 = .ok (.goto (-84), 3) := by decide +kernel
theorem d_Mod_half_105 : decode prog_14_method_39_code 105 = .ok (.iload_n 2, 1) := by decide +kernel
theorem d_Mod_half_106 : decode prog_14_method_39_code 106 = .ok (.ireturn, 1) := by decide +kernel
theorem d_Mod_sorts_0 : decode prog_14_method_40_code 0 = .ok (.iload_n 1, 1) := by decide +kernel
theorem d_Mod_sorts_1 : decode prog_14_method_40_code 1 = .ok (.iconst 2, 1) := by decide +kernel
theorem d_Mod_sorts_2 : decode prog_14_method_40_code 2 = .ok (.invokestatic 25, 3) := by decide +kernel
theorem d_Mod_sorts_5 : decode prog_14_method_40_code 5 = .ok (.ifCond .ne 10, 3) := by decide +kernel
theorem d_Mod_sorts_8 : decode prog_14_method_40_code 8 = .ok (.aload_n 0, 1) := by decide +kernel
theorem d_Mod_sorts_9 : decode prog_14_method_40_code 9 = .ok (.bipush (-2), 2) := by decide +kernel
theorem d_Mod_sorts_11 : decode prog_14_method_40_code 11 = .ok (.invokevirtual 29, 3) := by decide +kernel
theorem d_Mod_sorts_14 : decode prog_14_method_40_code 14 = .ok (.ireturn, 1) := by decide +kernel
theorem d_Mod_sorts_15 : decode prog_14_method_40_code 15 = .ok (.iconst 0, 1) := by decide +kernel
theorem d_Mod_sorts_16 : decode prog_14_method_40_code 16 = .ok (.istore_n 2, 1) := by decide +kernel
theorem d_Mod_sorts_17 : decode prog_14_method_40_code 17 = .ok (.iconst 0, 1) := by decide +kernel
theorem d_Mod_sorts_18 : decode prog_14_method_40_code 18 = .ok (.istore_n 3, 1) := by decide +kernel
theorem d_Mod_sorts_19 : decode prog_14_method_40_code 19 = .ok (.iconst 0, 1) := by decide +kernel
theorem d_Mod_sorts_20 : decode prog_14_method_40_code 20 = .ok (.istore 4, 2) := by decide +kernel
theorem d_Mod_sorts_22 : decode prog_14_method_40_code 22 = .ok (.iload 4, 2) := by decide +kernel
theorem d_Mod_sorts_24 : decode prog_14_method_40_code 24 = .ok (.bipush 64, 2) := by decide +kernel
theorem d_Mod_sorts_26 : decode prog_14_method_40_code 26 = .ok (.if_icmp .ge 79, 3) := by decide +kernel
theorem d_Mod_sorts_29 : decode prog_14_method_40_code 29 = .ok (.iconst 0, 1) := by decide +kernel
theorem d_Mod_sorts_30 : decode prog_14_method_40_code 30 = .ok (.istore 5, 2) := by decide +kernel
theorem d_Mod_sorts_32 : decode prog_14_method_40_code 32 = .ok (.iconst 0, 1) := by decide +kernel
theorem d_Mod_sorts_33 : decode prog_14_method_40_code 33 = .ok (.istore 6, 2) := by decide +kernel
theorem d_Mod_sorts_35 : decode prog_14_method_40_code 35 = .ok (.iload 6, 2) := by decide +kernel
theorem d_Mod_sorts_37 : decode prog_14_method_40_code 37 = .ok (.aload_n 0, 1) := by decide +kernel
theorem d_Mod_sorts_38 : decode prog_14_method_40_code 38 = .ok (.getfield 13, 3) := by decide +kernel
theorem d_Mod_sorts_41 : decode prog_14_method_40_code 41 = .ok (.iconst 0, 1) := by decide +kernel
theorem d_Mod_sorts_42 : decode prog_14_method_40_code 42 = .ok (.iaload, 1) := by decide +kernel
theorem d_Mod_sorts_43 : decode prog_14_method_40_code 43 = .ok (.if_icmp .ge 30, 3) := by decide +kernel
theorem d_Mod_sorts_46 : decode prog_14_method_40_code 46 = .ok (.iload 5, 2) := by decide +kernel
theorem d_Mod_sorts_48 : decode prog_14_method_40_code 48 = .ok (.aload_n 0, 1) := by decide +kernel
theorem d_Mod_sorts_49 : decode prog_14_method_40_code 49 = .ok (.iload 6, 2) := by decide +kernel
theorem d_Mod_sorts_51 : decode prog_14_method_40_code 51 = .ok (.invokevirtual 106, 3) := by decide +kernel
theorem d_Mod_sorts_54 : decode prog_14_method_40_code 54 = .ok (.iload 4, 2) := by decide +kernel
theorem d_Mod_sorts_56 : decode prog_14_method_40_code 56 = .ok (.if_icmp .ne 7, 3) := by decide +kernel
theorem d_Mod_sorts_59 : decode prog_14_method_40_code 59 = .ok (.iconst 1, 1) := by decide +kernel
theorem d_Mod_sorts_60 : decode prog_14_method_40_code 60 = .ok (.goto 4, 3) := by decide +kernel
theorem d_Mod_sorts_63 : decode prog_14_method_40_code 63 = .ok (.iconst 0, 1) := by decide +kernel
theorem d_Mod_sorts_64 : decode prog_14_method_40_code 64 = .ok (.iadd, 1) := by decide +kernel
theorem d_Mod_sorts_65 : decode prog_14_method_40_code 65 = .ok (.istore 5, 2) := by decide +kernel
theorem d_Mod_sorts_67 : decode prog_14_method_40_code 67 = .ok (.iinc 6 1, 3) := by decide +kernel
theorem d_Mod_sorts_70 : decode prog_14_method_40_code 70 = .ok (.goto (-35), 3) := by decide +kernel
theorem d_Mod_sorts_73 : decode prog_14_method_40_code 73 = .ok (.iload_n 2, 1) := by decide +kernel
theorem d_Mod_sorts_74 : decode prog_14_method_40_code 74 = .ok (.iload 5, 2) := by decide +kernel
theorem d_Mod_sorts_76 : decode prog_14_method_40_code 76 = .ok (.ifCond .le 7, 3) := by decide +kernel
theorem d_Mod_sorts_79 : decode prog_14_method_40_code 79 = .ok (.iconst 1, 1) := by decide +kernel
theorem d_Mod_sorts_80 : decode prog_14_method_40_code 80 = .ok (.goto 4, 3) := by decide +kernel
theorem d_Mod_sorts_83 : decode prog_14_method_40_code 83 = .ok (.iconst 0, 1) := by decide +kernel
theorem d_Mod_sorts_84 : decode prog_14_method_40_code 84 = .ok (.iadd, 1) := by decide +kernel
theorem d_Mod_sorts_85 : decode prog_14_method_40_code 85 = .ok (.istore_n 2, 1) := by decide +kernel
theorem d_Mod_sorts_86 : decode prog_14_method_40_code 86 = .ok (.iload 5, 2) := by decide +kernel
theorem d_Mod_sorts_88 : decode prog_14_method_40_code 88 = .ok (.iload_n 3, 1) := by decide +kernel
theorem d_Mod_sorts_89 : decode prog_14_method_40_code 89 = .ok (.if_icmp .le 8, 3) := by decide +kernel
theorem d_Mod_sorts_92 : decode prog_14_method_40_code 92 = .ok (.iload 5, 2) := by decide +kernel
theorem d_Mod_sorts_94 : decode prog_14_method_40_code 94 = .ok (.goto 4, 3) := by decide +kernel
theorem d_Mod_sorts_97 : decode prog_14_method_40_code 97 = .ok (.iload_n 3, 1) := by decide +kernel
theorem d_Mod_sorts_98 : decode prog_14_method_40_code 98 = .ok (.istore_n 3, 1) := by decide +kernel
theorem d_Mod_sorts_99 : decode prog_14_method_40_code 99 = .ok (.iinc 4 1, 3) := by decide +kernel
theorem d_Mod_sorts_102 : decode prog_14_method_40_code 102 = .ok (.goto (-80), 3) := by decide +kernel
theorem d_Mod_sorts_105 : decode prog_14_method_40_code 105 = .ok (.iload_n 1, 1) := by decide +kernel
theorem d_Mod_sorts_106 : decode prog_14_method_40_code 106 = .ok (.ifCond .ne 7, 3) := by decide +kernel
theorem d_Mod_sorts_109 : decode prog_14_method_40_code 109 = .ok (.iload_n 2, 1) := by decide +kernel
theorem d_Mod_sorts_110 : decode prog_14_method_40_code 110 = .ok (.goto 4, 3) := by decide +kernel
theorem d_Mod_sorts_113 : decode prog_14_method_40_code 113 = .ok (.iload_n 3, 1) := by decide +kernel
theorem d_Mod_sorts_114 : decode prog_14_method_40_code 114 = .ok (.ireturn, 1) := by decide +kernel
theorem d_Mod_alike_0 : decode prog_14_method_41_code 0 = .ok (.aload_n 0, 1) := by decide +kernel
theorem d_Mod_alike_1 : decode prog_14_method_41_code 1 = .ok (.iload_n 1, 1) := by decide +kernel
theorem d_Mod_alike_2 : decode prog_14_method_41_code 2 = .ok (.invokevirtual 63, 3) := by decide +kernel
theorem d_Mod_alike_5 : decode prog_14_method_41_code 5 = .ok (.ifCond .ne 9, 3) := by decide +kernel
theorem d_Mod_alike_8 : decode prog_14_method_41_code 8 = .ok (.aload_n 0, 1) := by decide +kernel
theorem d_Mod_alike_9 : decode prog_14_method_41_code 9 = .ok (.iconst (-1), 1) := by decide +kernel
theorem d_Mod_alike_10 : decode prog_14_method_41_code 10 = .ok (.invokevirtual 29, 3) := by decide +kernel
theorem d_Mod_alike_13 : decode prog_14_method_41_code 13 = .ok (.ireturn, 1) := by decide +kernel
theorem d_Mod_alike_14 : decode prog_14_method_41_code 14 = .ok (.iconst 0, 1) := by decide +kernel
theorem d_Mod_alike_15 : decode prog_14_method_41_code 15 = .ok (.istore_n 2, 1) := by decide +kernel
theorem d_Mod_alike_16 : decode prog_14_method_41_code 16 = .ok (.aload_n 0, 1) := by decide +kernel
theorem d_Mod_alike_17 : decode prog_14_method_41_code 17 = .ok (.iload_n 2, 1) := by decide +kernel
theorem d_Mod_alike_18 : decode prog_14_method_41_code 18 = .ok (.invokevirtual 106, 3) := by decide +kernel
theorem d_Mod_alike_21 : decode prog_14_method_41_code 21 = .ok (.aload_n 0, 1) := by decide +kernel
theorem d_Mod_alike_22 : decode prog_14_method_41_code 22 = .ok (.iload_n 1, 1) := by decide +kernel
theorem d_Mod_alike_23 : decode prog_14_method_41_code 23 = .ok (.invokevirtual 106, 3) := by decide +kernel
theorem d_Mod_alike_26 : decode prog_14_method_41_code 26 = .ok (.if_icmp .eq 9, 3) := by decide +kernel
theorem d_Mod_alike_29 : decode prog_14_method_41_code 29 = .ok (.iinc 2 1, 3) := by decide +kernel
theorem d_Mod_alike_32 : decode prog_14_method_41_code 32 = .ok (.goto (-16), 3) := by decide +kernel
theorem d_Mod_alike_35 : decode prog_14_method_41_code 35 = .ok (.iload_n 2, 1) := by decide +kernel
theorem d_Mod_alike_36 : decode prog_14_method_41_code 36 = .ok (.ireturn, 1) := by decide +kernel
theorem d_Mod_together_0 : decode prog_14_method_42_code 0 = .ok (.iload_n 1, 1) := by decide +kernel
theorem d_Mod_together_1 : decode prog_14_method_42_code 1 = .ok (.bipush 8, 2) := by decide +kernel
theorem d_Mod_together_3 : decode prog_14_method_42_code 3 = .ok (.invokestatic 25, 3) := by decide +kernel
theorem d_Mod_together_6 : decode prog_14_method_42_code 6 = .ok (.ifCond .eq 12, 3) := by decide +kernel
theorem d_Mod_together_9 : decode prog_14_method_42_code 9 = .ok (.iload_n 2, 1) := by decide +kernel
theorem d_Mod_together_10 : decode prog_14_method_42_code 10 = .ok (.bipush 8, 2) := by decide +kernel
theorem d_Mod_together_12 : decode prog_14_method_42_code 12 = .ok (.invokestatic 25, 3) := by decide +kernel
theorem d_Mod_together_15 : decode prog_14_method_42_code 15 = .ok (.ifCond .ne 12, 3) := by decide +kernel
theorem d_Mod_together_18 : decode prog_14_method_42_code 18 = .ok (.ldc 102, 2) := by decide +kernel
theorem d_Mod_together_20 : decode prog_14_method_42_code 20 = .ok (.aload_n 0, 1) := by decide +kernel
theorem d_Mod_together_21 : decode prog_14_method_42_code 21 = .ok (.iconst (-1), 1) := by decide +kernel
theorem d_Mod_together_22 : decode prog_14_method_42_code 22 = .ok (.invokevirtual 29, 3) := by decide +kernel
theorem d_Mod_together_25 : decode prog_14_method_42_code 25 = .ok (.isub, 1) := by decide +kernel
theorem d_Mod_together_26 : decode prog_14_method_42_code 26 = .ok (.ireturn, 1) := by decide +kernel
theorem d_Mod_together_27 : decode prog_14_method_42_code 27 = .ok (.iconst 0, 1) := by decide +kernel
theorem d_Mod_together_28 : decode prog_14_method_42_code 28 = .ok (.istore_n 3, 1) := by decide +kernel
theorem d_Mod_together_29 : decode prog_14_method_42_code 29 = .ok (.iconst 0, 1) := by decide +kernel
theorem d_Mod_together_30 : decode prog_14_method_42_code 30 = .ok (.istore 4, 2) := by decide +kernel
theorem d_Mod_together_32 : decode prog_14_method_42_code 32 = .ok (.iconst 0, 1) := by decide +kernel
theorem d_Mod_together_33 : decode prog_14_method_42_code 33 = .ok (.istore 5, 2) := by decide +kernel
theorem d_Mod_together_35 : decode prog_14_method_42_code 35 = .ok (.iconst 0, 1) := by decide +kernel
theorem d_Mod_together_36 : decode prog_14_method_42_code 36 = .ok (.istore 6, 2) := by decide +kernel
theorem d_Mod_together_38 : decode prog_14_method_42_code 38 = .ok (.iconst 0, 1) := by decide +kernel
theorem d_Mod_together_39 : decode prog_14_method_42_code 39 = .ok (.istore 7, 2) := by decide +kernel
theorem d_Mod_together_41 : decode prog_14_method_42_code 41 = .ok (.iload 7, 2) := by decide +kernel
theorem d_Mod_together_43 : decode prog_14_method_42_code 43 = .ok (.aload_n 0, 1) := by decide +kernel
theorem d_Mod_together_44 : decode prog_14_method_42_code 44 = .ok (.getfield 13, 3) := by decide +kernel
theorem d_Mod_together_47 : decode prog_14_method_42_code 47 = .ok (.iconst 0, 1) := by decide +kernel
theorem d_Mod_together_48 : decode prog_14_method_42_code 48 = .ok (.iaload, 1) := by decide +kernel
theorem d_Mod_together_49 : decode prog_14_method_42_code 49 = .ok (.if_icmp .ge 68, 3) := by decide +kernel
theorem d_Mod_together_52 : decode prog_14_method_42_code 52 = .ok (.aload_n 0, 1) := by decide +kernel
theorem d_Mod_together_53 : decode prog_14_method_42_code 53 = .ok (.iload 7, 2) := by decide +kernel
theorem d_Mod_together_55 : decode prog_14_method_42_code 55 = .ok (.iload_n 1, 1) := by decide +kernel
theorem d_Mod_together_56 : decode prog_14_method_42_code 56 = .ok (.invokevirtual 70, 3) := by decide +kernel
theorem d_Mod_together_59 : decode prog_14_method_42_code 59 = .ok (.ifCond .eq 29, 3) := by decide +kernel
theorem d_Mod_together_62 : decode prog_14_method_42_code 62 = .ok (.iinc 3 1, 3) := by decide +kernel
theorem d_Mod_together_65 : decode prog_14_method_42_code 65 = .ok (.iload 4, 2) := by decide +kernel
theorem d_Mod_together_67 : decode prog_14_method_42_code 67 = .ok (.aload_n 0, 1) := by decide +kernel
theorem d_Mod_together_68 : decode prog_14_method_42_code 68 = .ok (.iload 7, 2) := by decide +kernel
theorem d_Mod_together_70 : decode prog_14_method_42_code 70 = .ok (.iload_n 2, 1) := by decide +kernel
theorem d_Mod_together_71 : decode prog_14_method_42_code 71 = .ok (.invokevirtual 70, 3) := by decide +kernel
theorem d_Mod_together_74 : decode prog_14_method_42_code 74 = .ok (.ifCond .eq 7, 3) := by decide +kernel
theorem d_Mod_together_77 : decode prog_14_method_42_code 77 = .ok (.iconst 1, 1) := by decide +kernel
theorem d_Mod_together_78 : decode prog_14_method_42_code 78 = .ok (.goto 4, 3) := by decide +kernel
theorem d_Mod_together_81 : decode prog_14_method_42_code 81 = .ok (.iconst 0, 1) := by decide +kernel
theorem d_Mod_together_82 : decode prog_14_method_42_code 82 = .ok (.iadd, 1) := by decide +kernel
theorem d_Mod_together_83 : decode prog_14_method_42_code 83 = .ok (.istore 4, 2) := by decide +kernel
theorem d_Mod_together_85 : decode prog_14_method_42_code 85 = .ok (.goto 26, 3) := by decide +kernel
theorem d_Mod_together_88 : decode prog_14_method_42_code 88 = .ok (.iinc 5 1, 3) := by decide +kernel
theorem d_Mod_together_91 : decode prog_14_method_42_code 91 = .ok (.iload 6, 2) := by decide +kernel
theorem d_Mod_together_93 : decode prog_14_method_42_code 93 = .ok (.aload_n 0, 1) := by decide +kernel
theorem d_Mod_together_94 : decode prog_14_method_42_code 94 = .ok (.iload 7, 2) := by decide +kernel
theorem d_Mod_together_96 : decode prog_14_method_42_code 96 = .ok (.iload_n 2, 1) := by decide +kernel
theorem d_Mod_together_97 : decode prog_14_method_42_code 97 = .ok (.invokevirtual 70, 3) := by decide +kernel
theorem d_Mod_together_100 : decode prog_14_method_42_code 100 = .ok (.ifCond .eq 7, 3) := by decide +kernel
theorem d_Mod_together_103 : decode prog_14_method_42_code 103 = .ok (.iconst 1, 1) := by decide +kernel
theorem d_Mod_together_104 : decode prog_14_method_42_code 104 = .ok (.goto 4, 3) := by decide +kernel
theorem d_Mod_together_107 : decode prog_14_method_42_code 107 = .ok (.iconst 0, 1) := by decide +kernel
theorem d_Mod_together_108 : decode prog_14_method_42_code 108 = .ok (.iadd, 1) := by decide +kernel
theorem d_Mod_together_109 : decode prog_14_method_42_code 109 = .ok (.istore 6, 2) := by decide +kernel
theorem d_Mod_together_111 : decode prog_14_method_42_code 111 = .ok (.iinc 7 1, 3) := by decide +kernel
theorem d_Mod_together_114 : decode prog_14_method_42_code 114 = .ok (.goto (-73), 3) := by decide +kernel
theorem d_Mod_together_117 : decode prog_14_method_42_code 117 = .ok (.iload_n 3, 1) := by decide +kernel
theorem d_Mod_together_118 : decode prog_14_method_42_code 118 = .ok (.ifCond .eq 8, 3) := by decide +kernel
theorem d_Mod_together_121 : decode prog_14_method_42_code 121 = .ok (.iload 5, 2) := by decide +kernel
theorem d_Mod_together_123 : decode prog_14_method_42_code 123 = .ok (.ifCond .ne 15, 3) := by decide +kernel
theorem d_Mod_together_126 : decode prog_14_method_42_code 126 = .ok (.ldc 102, 2) := by decide +kernel
theorem d_Mod_together_128 : decode prog_14_method_42_code 128 = .ok (.aload_n 0, 1) := by decide +kernel
theorem d_Mod_together_129 : decode prog_14_method_42_code 129 = .ok (.bipush (-3), 2) := by decide +kernel
theorem d_Mod_together_131 : decode prog_14_method_42_code 131 = .ok (.invokevirtual 29, 3) := by decide +kernel
theorem d_Mod_together_134 : decode prog_14_method_42_code 134 = .ok (.isub, 1) := by decide +kernel
theorem d_Mod_together_135 : decode prog_14_method_42_code 135 = .ok (.goto 19, 3) := by decide +kernel
theorem d_Mod_together_138 : decode prog_14_method_42_code 138 = .ok (.bipush 100, 2) := by decide +kernel
theorem d_Mod_together_140 : decode prog_14_method_42_code 140 = .ok (.iload 4, 2) := by decide +kernel
theorem d_Mod_together_142 : decode prog_14_method_42_code 142 = .ok (.imul, 1) := by decide +kernel
theorem d_Mod_together_143 : decode prog_14_method_42_code 143 = .ok (.iload_n 3, 1) := by decide +kernel
theorem d_Mod_together_144 : decode prog_14_method_42_code 144 = .ok (.idiv, 1) := by decide +kernel
theorem d_Mod_together_145 : decode prog_14_method_42_code 145 = .ok (.bipush 100, 2) := by decide +kernel
theorem d_Mod_together_147 : decode prog_14_method_42_code 147 = .ok (.iload 6, 2) := by decide +kernel
theorem d_Mod_together_149 : decode prog_14_method_42_code 149 = .ok (.imul, 1) := by decide +kernel
theorem d_Mod_together_150 : decode prog_14_method_42_code 150 = .ok (.iload 5, 2) := by decide +kernel
theorem d_Mod_together_152 : decode prog_14_method_42_code 152 = .ok (.idiv, 1) := by decide +kernel
theorem d_Mod_together_153 : decode prog_14_method_42_code 153 = .ok (.isub, 1) := by decide +kernel
theorem d_Mod_together_154 : decode prog_14_method_42_code 154 = .ok (.ireturn, 1) := by decide +kernel
theorem d_Mod_twice_0 : decode prog_14_method_43_code 0 = .ok (.aload_n 0, 1) := by decide +kernel
theorem d_Mod_twice_1 : decode prog_14_method_43_code 1 = .ok (.iload_n 1, 1) := by decide +kernel
theorem d_Mod_twice_2 : decode prog_14_method_43_code 2 = .ok (.invokevirtual 63, 3) := by decide +kernel
theorem d_Mod_twice_5 : decode prog_14_method_43_code 5 = .ok (.ifCond .eq 11, 3) := by decide +kernel
theorem d_Mod_twice_8 : decode prog_14_method_43_code 8 = .ok (.aload_n 0, 1) := by decide +kernel
theorem d_Mod_twice_9 : decode prog_14_method_43_code 9 = .ok (.iload_n 2, 1) := by decide +kernel
theorem d_Mod_twice_10 : decode prog_14_method_43_code 10 = .ok (.invokevirtual 63, 3) := by decide +kernel
theorem d_Mod_twice_13 : decode prog_14_method_43_code 13 = .ok (.ifCond .ne 7, 3) := by decide +kernel
theorem d_Mod_twice_16 : decode prog_14_method_43_code 16 = .ok (.iconst (-1), 1) := by decide +kernel
theorem d_Mod_twice_17 : decode prog_14_method_43_code 17 = .ok (.goto 40, 3) := by decide +kernel
theorem d_Mod_twice_20 : decode prog_14_method_43_code 20 = .ok (.aload_n 0, 1) := by decide +kernel
theorem d_Mod_twice_21 : decode prog_14_method_43_code 21 = .ok (.iload_n 2, 1) := by decide +kernel
theorem d_Mod_twice_22 : decode prog_14_method_43_code 22 = .ok (.iconst 4, 1) := by decide +kernel
theorem d_Mod_twice_23 : decode prog_14_method_43_code 23 = .ok (.invokevirtual 66, 3) := by decide +kernel
theorem d_Mod_twice_26 : decode prog_14_method_43_code 26 = .ok (.aload_n 0, 1) := by decide +kernel
theorem d_Mod_twice_27 : decode prog_14_method_43_code 27 = .ok (.iload_n 1, 1) := by decide +kernel
theorem d_Mod_twice_28 : decode prog_14_method_43_code 28 = .ok (.iconst 4, 1) := by decide +kernel
theorem d_Mod_twice_29 : decode prog_14_method_43_code 29 = .ok (.invokevirtual 66, 3) := by decide +kernel
theorem d_Mod_twice_32 : decode prog_14_method_43_code 32 = .ok (.if_icmp .gt 8, 3) := by decide +kernel
theorem d_Mod_twice_35 : decode prog_14_method_43_code 35 = .ok (.bipush (-3), 2) := by decide +kernel
theorem d_Mod_twice_37 : decode prog_14_method_43_code 37 = .ok (.goto 20, 3) := by decide +kernel
theorem d_Mod_twice_40 : decode prog_14_method_43_code 40 = .ok (.aload_n 0, 1) := by decide +kernel
theorem d_Mod_twice_41 : decode prog_14_method_43_code 41 = .ok (.getfield 13, 3) := by decide +kernel
theorem d_Mod_twice_44 : decode prog_14_method_43_code 44 = .ok (.iconst 1, 1) := by decide +kernel
theorem d_Mod_twice_45 : decode prog_14_method_43_code 45 = .ok (.iaload, 1) := by decide +kernel
theorem d_Mod_twice_46 : decode prog_14_method_43_code 46 = .ok (.bipush 10, 2) := by decide +kernel
theorem d_Mod_twice_48 : decode prog_14_method_43_code 48 = .ok (.if_icmp .ne 8, 3) := by decide +kernel
theorem d_Mod_twice_51 : decode prog_14_method_43_code 51 = .ok (.bipush (-6), 2) := by decide +kernel
theorem d_Mod_twice_53 : decode prog_14_method_43_code 53 = .ok (.goto 4, 3) := by decide +kernel
theorem d_Mod_twice_56 : decode prog_14_method_43_code 56 = .ok (.iconst 0, 1) := by decide +kernel
theorem d_Mod_twice_57 : decode prog_14_method_43_code 57 = .ok (.istore_n 3, 1) := by decide +kernel
theorem d_Mod_twice_58 : decode prog_14_method_43_code 58 = .ok (.iload_n 3, 1) := by decide +kernel
theorem d_Mod_twice_59 : decode prog_14_method_43_code 59 = .ok (.ifCond .eq 9, 3) := by decide +kernel
theorem d_Mod_twice_62 : decode prog_14_method_43_code 62 = .ok (.aload_n 0, 1) := by decide +kernel
theorem d_Mod_twice_63 : decode prog_14_method_43_code 63 = .ok (.iload_n 3, 1) := by decide +kernel
theorem d_Mod_twice_64 : decode prog_14_method_43_code 64 = .ok (.invokevirtual 29, 3) := by decide +kernel
theorem d_Mod_twice_67 : decode prog_14_method_43_code 67 = .ok (.ireturn, 1) := by decide +kernel
theorem d_Mod_twice_68 : decode prog_14_method_43_code 68 = .ok (.aload_n 0, 1) := by decide +kernel
theorem d_Mod_twice_69 : decode prog_14_method_43_code 69 = .ok (.getfield 13, 3) := by decide +kernel
theorem d_Mod_twice_72 : decode prog_14_method_43_code 72 = .ok (.sipush 234, 3) := by decide +kernel
theorem d_Mod_twice_75 : decode prog_14_method_43_code 75 = .ok (.iconst 2, 1) := by decide +kernel
theorem d_Mod_twice_76 : decode prog_14_method_43_code 76 = .ok (.aload_n 0, 1) := by decide +kernel
theorem d_Mod_twice_77 : decode prog_14_method_43_code 77 = .ok (.getfield 13, 3) := by decide +kernel
theorem d_Mod_twice_80 : decode prog_14_method_43_code 80 = .ok (.iconst 1, 1) := by decide +kernel
theorem d_Mod_twice_81 : decode prog_14_method_43_code 81 = .ok (.iaload, 1) := by decide +kernel
theorem d_Mod_twice_82 : decode prog_14_method_43_code 82 = .ok (.imul, 1) := by decide +kernel
theorem d_Mod_twice_83 : decode prog_14_method_43_code 83 = .ok (.iadd, 1) := by decide +kernel
theorem d_Mod_twice_84 : decode prog_14_method_43_code 84 = .ok (.iload_n 1, 1) := by decide +kernel
theorem d_Mod_twice_85 : decode prog_14_method_43_code 85 = .ok (.iastore, 1) := by decide +kernel
theorem d_Mod_twice_86 : decode prog_14_method_43_code 86 = .ok (.aload_n 0, 1) := by decide +kernel
theorem d_Mod_twice_87 : decode prog_14_method_43_code 87 = .ok (.getfield 13, 3) := by decide +kernel
theorem d_Mod_twice_90 : decode prog_14_method_43_code 90 = .ok (.sipush 234, 3) := by decide +kernel
theorem d_Mod_twice_93 : decode prog_14_method_43_code 93 = .ok (.iconst 2, 1) := by decide +kernel
theorem d_Mod_twice_94 : decode prog_14_method_43_code 94 = .ok (.aload_n 0, 1) := by decide +kernel
theorem d_Mod_twice_95 : decode prog_14_method_43_code 95 = .ok (.getfield 13, 3) := by decide +kernel
theorem d_Mod_twice_98 : decode prog_14_method_43_code 98 = .ok (.iconst 1, 1) := by decide +kernel
theorem d_Mod_twice_99 : decode prog_14_method_43_code 99 = .ok (.iaload, 1) := by decide +kernel
theorem d_Mod_twice_100 : decode prog_14_method_43_code 100 = .ok (.imul, 1) := by decide +kernel
theorem d_Mod_twice_101 : decode prog_14_method_43_code 101 = .ok (.iadd, 1) := by decide +kernel
theorem d_Mod_twice_102 : decode prog_14_method_43_code 102 = .ok (.iconst 1, 1) := by decide +kernel
theorem d_Mod_twice_103 : decode prog_14_method_43_code 103 = .ok (.iadd, 1) := by decide +kernel
theorem d_Mod_twice_104 : decode prog_14_method_43_code 104 = .ok (.iload_n 2, 1) := by decide +kernel
theorem d_Mod_twice_105 : decode prog_14_method_43_code 105 = .ok (.iastore, 1) := by decide +kernel
theorem d_Mod_twice_106 : decode prog_14_method_43_code 106 = .ok (.aload_n 0, 1) := by decide +kernel
theorem d_Mod_twice_107 : decode prog_14_method_43_code 107 = .ok (.getfield 13, 3) := by decide +kernel
theorem d_Mod_twice_110 : decode prog_14_method_43_code 110 = .ok (.iconst 1, 1) := by decide +kernel
theorem d_Mod_twice_111 : decode prog_14_method_43_code 111 = .ok (.dup2, 1) := by decide +kernel
theorem d_Mod_twice_112 : decode prog_14_method_43_code 112 = .ok (.iaload, 1) := by decide +kernel
theorem d_Mod_twice_113 : decode prog_14_method_43_code 113 = .ok (.iconst 1, 1) := by decide +kernel
theorem d_Mod_twice_114 : decode prog_14_method_43_code 114 = .ok (.iadd, 1) := by decide +kernel
theorem d_Mod_twice_115 : decode prog_14_method_43_code 115 = .ok (.iastore, 1) := by decide +kernel
theorem d_Mod_twice_116 : decode prog_14_method_43_code 116 = .ok (.aload_n 0, 1) := by decide +kernel
theorem d_Mod_twice_117 : decode prog_14_method_43_code 117 = .ok (.getfield 13, 3) := by decide +kernel
theorem d_Mod_twice_120 : decode prog_14_method_43_code 120 = .ok (.iconst 1, 1) := by decide +kernel
theorem d_Mod_twice_121 : decode prog_14_method_43_code 121 = .ok (.iaload, 1) := by decide +kernel
theorem d_Mod_twice_122 : decode prog_14_method_43_code 122 = .ok (.ireturn, 1) := by decide +kernel
theorem d_Mod_grows_0 : decode prog_14_method_44_code 0 = .ok (.iload_n 1, 1) := by decide +kernel
theorem d_Mod_grows_1 : decode prog_14_method_44_code 1 = .ok (.iconst 2, 1) := by decide +kernel
theorem d_Mod_grows_2 : decode prog_14_method_44_code 2 = .ok (.invokestatic 25, 3) := by decide +kernel
theorem d_Mod_grows_5 : decode prog_14_method_44_code 5 = .ok (.ifCond .eq 11, 3) := by decide +kernel
theorem d_Mod_grows_8 : decode prog_14_method_44_code 8 = .ok (.iload_n 2, 1) := by decide +kernel
theorem d_Mod_grows_9 : decode prog_14_method_44_code 9 = .ok (.iconst 2, 1) := by decide +kernel
theorem d_Mod_grows_10 : decode prog_14_method_44_code 10 = .ok (.invokestatic 25, 3) := by decide +kernel
theorem d_Mod_grows_13 : decode prog_14_method_44_code 13 = .ok (.ifCond .ne 13, 3) := by decide +kernel
theorem d_Mod_grows_16 : decode prog_14_method_44_code 16 = .ok (.ldc 102, 2) := by decide +kernel
theorem d_Mod_grows_18 : decode prog_14_method_44_code 18 = .ok (.aload_n 0, 1) := by decide +kernel
theorem d_Mod_grows_19 : decode prog_14_method_44_code 19 = .ok (.bipush (-2), 2) := by decide +kernel
theorem d_Mod_grows_21 : decode prog_14_method_44_code 21 = .ok (.invokevirtual 29, 3) := by decide +kernel
theorem d_Mod_grows_24 : decode prog_14_method_44_code 24 = .ok (.isub, 1) := by decide +kernel
theorem d_Mod_grows_25 : decode prog_14_method_44_code 25 = .ok (.ireturn, 1) := by decide +kernel
theorem d_Mod_grows_26 : decode prog_14_method_44_code 26 = .ok (.iconst 0, 1) := by decide +kernel
theorem d_Mod_grows_27 : decode prog_14_method_44_code 27 = .ok (.istore_n 3, 1) := by decide +kernel
theorem d_Mod_grows_28 : decode prog_14_method_44_code 28 = .ok (.iconst 0, 1) := by decide +kernel
theorem d_Mod_grows_29 : decode prog_14_method_44_code 29 = .ok (.istore 4, 2) := by decide +kernel
theorem d_Mod_grows_31 : decode prog_14_method_44_code 31 = .ok (.iconst 0, 1) := by decide +kernel
theorem d_Mod_grows_32 : decode prog_14_method_44_code 32 = .ok (.istore 5, 2) := by decide +kernel
theorem d_Mod_grows_34 : decode prog_14_method_44_code 34 = .ok (.iload 5, 2) := by decide +kernel
theorem d_Mod_grows_36 : decode prog_14_method_44_code 36 = .ok (.aload_n 0, 1) := by decide +kernel
theorem d_Mod_grows_37 : decode prog_14_method_44_code 37 = .ok (.getfield 13, 3) := by decide +kernel
theorem d_Mod_grows_40 : decode prog_14_method_44_code 40 = .ok (.iconst 1, 1) := by decide +kernel
theorem d_Mod_grows_41 : decode prog_14_method_44_code 41 = .ok (.iaload, 1) := by decide +kernel
theorem d_Mod_grows_42 : decode prog_14_method_44_code 42 = .ok (.if_icmp .ge 76, 3) := by decide +kernel
theorem d_Mod_grows_45 : decode prog_14_method_44_code 45 = .ok (.aload_n 0, 1) := by decide +kernel
theorem d_Mod_grows_46 : decode prog_14_method_44_code 46 = .ok (.aload_n 0, 1) := by decide +kernel
theorem d_Mod_grows_47 : decode prog_14_method_44_code 47 = .ok (.getfield 13, 3) := by decide +kernel
theorem d_Mod_grows_50 : decode prog_14_method_44_code 50 = .ok (.sipush 234, 3) := by decide +kernel
theorem d_Mod_grows_53 : decode prog_14_method_44_code 53 = .ok (.iconst 2, 1) := by decide +kernel
theorem d_Mod_grows_54 : decode prog_14_method_44_code 54 = .ok (.iload 5, 2) := by decide +kernel
theorem d_Mod_grows_56 : decode prog_14_method_44_code 56 = .ok (.imul, 1) := by decide +kernel
theorem d_Mod_grows_57 : decode prog_14_method_44_code 57 = .ok (.iadd, 1) := by decide +kernel
theorem d_Mod_grows_58 : decode prog_14_method_44_code 58 = .ok (.iaload, 1) := by decide +kernel
theorem d_Mod_grows_59 : decode prog_14_method_44_code 59 = .ok (.iload_n 1, 1) := by decide +kernel
theorem d_Mod_grows_60 : decode prog_14_method_44_code 60 = .ok (.invokevirtual 66, 3) := by decide +kernel
theorem d_Mod_grows_63 : decode prog_14_method_44_code 63 = .ok (.istore 6, 2) := by decide +kernel
theorem d_Mod_grows_65 : decode prog_14_method_44_code 65 = .ok (.aload_n 0, 1) := by decide +kernel
theorem d_Mod_grows_66 : decode prog_14_method_44_code 66 = .ok (.aload_n 0, 1) := by decide +kernel
theorem d_Mod_grows_67 : decode prog_14_method_44_code 67 = .ok (.getfield 13, 3) := by decide +kernel
theorem d_Mod_grows_70 : decode prog_14_method_44_code 70 = .ok (.sipush 234, 3) := by decide +kernel
theorem d_Mod_grows_73 : decode prog_14_method_44_code 73 = .ok (.iconst 2, 1) := by decide +kernel
theorem d_Mod_grows_74 : decode prog_14_method_44_code 74 = .ok (.iload 5, 2) := by decide +kernel
theorem d_Mod_grows_76 : decode prog_14_method_44_code 76 = .ok (.imul, 1) := by decide +kernel
theorem d_Mod_grows_77 : decode prog_14_method_44_code 77 = .ok (.iadd, 1) := by decide +kernel
theorem d_Mod_grows_78 : decode prog_14_method_44_code 78 = .ok (.iconst 1, 1) := by decide +kernel
theorem d_Mod_grows_79 : decode prog_14_method_44_code 79 = .ok (.iadd, 1) := by decide +kernel
theorem d_Mod_grows_80 : decode prog_14_method_44_code 80 = .ok (.iaload, 1) := by decide +kernel
theorem d_Mod_grows_81 : decode prog_14_method_44_code 81 = .ok (.iload_n 1, 1) := by decide +kernel
theorem d_Mod_grows_82 : decode prog_14_method_44_code 82 = .ok (.invokevirtual 66, 3) := by decide +kernel
theorem d_Mod_grows_85 : decode prog_14_method_44_code 85 = .ok (.istore 7, 2) := by decide +kernel
theorem d_Mod_grows_87 : decode prog_14_method_44_code 87 = .ok (.iload 6, 2) := by decide +kernel
theorem d_Mod_grows_89 : decode prog_14_method_44_code 89 = .ok (.ifCond .lt 23, 3) := by decide +kernel
theorem d_Mod_grows_92 : decode prog_14_method_44_code 92 = .ok (.iload 7, 2) := by decide +kernel
theorem d_Mod_grows_94 : decode prog_14_method_44_code 94 = .ok (.ifCond .ge 6, 3) := by decide +kernel
theorem d_Mod_grows_97 : decode prog_14_method_44_code 97 = .ok (.goto 15, 3) := by decide +kernel
theorem d_Mod_grows_100 : decode prog_14_method_44_code 100 = .ok (.iload_n 3, 1) := by decide +kernel
theorem d_Mod_grows_101 : decode prog_14_method_44_code 101 = .ok (.iload 6, 2) := by decide +kernel
theorem d_Mod_grows_103 : decode prog_14_method_44_code 103 = .ok (.iadd, 1) := by decide +kernel
theorem d_Mod_grows_104 : decode prog_14_method_44_code 104 = .ok (.istore_n 3, 1) := by decide +kernel
theorem d_Mod_grows_105 : decode prog_14_method_44_code 105 = .ok (.iload 4, 2) := by decide +kernel
theorem d_Mod_grows_107 : decode prog_14_method_44_code 107 = .ok (.iload 7, 2) := by decide +kernel
theorem d_Mod_grows_109 : decode prog_14_method_44_code 109 = .ok (.iadd, 1) := by decide +kernel
theorem d_Mod_grows_110 : decode prog_14_method_44_code 110 = .ok (.istore 4, 2) := by decide +kernel
theorem d_Mod_grows_112 : decode prog_14_method_44_code 112 = .ok (.iinc 5 1, 3) := by decide +kernel
theorem d_Mod_grows_115 : decode prog_14_method_44_code 115 = .ok (.goto (-81), 3) := by decide +kernel
theorem d_Mod_grows_118 : decode prog_14_method_44_code 118 = .ok (.iload_n 3, 1) := by decide +kernel
theorem d_Mod_grows_119 : decode prog_14_method_44_code 119 = .ok (.ifCond .ne 15, 3) := by decide +kernel
theorem d_Mod_grows_122 : decode prog_14_method_44_code 122 = .ok (.ldc 102, 2) := by decide +kernel
theorem d_Mod_grows_124 : decode prog_14_method_44_code 124 = .ok (.aload_n 0, 1) := by decide +kernel
theorem d_Mod_grows_125 : decode prog_14_method_44_code 125 = .ok (.bipush (-3), 2) := by decide +kernel
theorem d_Mod_grows_127 : decode prog_14_method_44_code 127 = .ok (.invokevirtual 29, 3) := by decide +kernel
theorem d_Mod_grows_130 : decode prog_14_method_44_code 130 = .ok (.isub, 1) := by decide +kernel
theorem d_Mod_grows_131 : decode prog_14_method_44_code 131 = .ok (.goto 10, 3) := by decide +kernel
theorem d_Mod_grows_134 : decode prog_14_method_44_code 134 = .ok (.iload 4, 2) := by decide +kernel
theorem d_Mod_grows_136 : decode prog_14_method_44_code 136 = .ok (.iload_n 3, 1) := by decide +kernel
theorem d_Mod_grows_137 : decode prog_14_method_44_code 137 = .ok (.iload_n 2, 1) := by decide +kernel
theorem d_Mod_grows_138 : decode prog_14_method_44_code 138 = .ok (.invokestatic 103, 3) := by decide +kernel
theorem d_Mod_grows_141 : decode prog_14_method_44_code 141 = .ok (.ireturn, 1) := by decide +kernel
theorem d_Mod_people_0 : decode prog_14_method_45_code 0 = .ok (.iload_n 1, 1) := by decide +kernel
theorem d_Mod_people_1 : decode prog_14_method_45_code 1 = .ok (.bipush 10, 2) := by decide +kernel
theorem d_Mod_people_3 : decode prog_14_method_45_code 3 = .ok (.invokestatic 25, 3) := by decide +kernel
theorem d_Mod_people_6 : decode prog_14_method_45_code 6 = .ok (.ifCond .eq 14, 3) := by decide +kernel
theorem d_Mod_people_9 : decode prog_14_method_45_code 9 = .ok (.iload_n 2, 1) := by decide +kernel
theorem d_Mod_people_10 : decode prog_14_method_45_code 10 = .ok (.iconst 0, 1) := by decide +kernel
theorem d_Mod_people_11 : decode prog_14_method_45_code 11 = .ok (.sipush 999, 3) := by decide +kernel
theorem d_Mod_people_14 : decode prog_14_method_45_code 14 = .ok (.invokestatic 82, 3) := by decide +kernel
theorem d_Mod_people_17 : decode prog_14_method_45_code 17 = .ok (.goto 4, 3) := by decide +kernel
theorem d_Mod_people_20 : decode prog_14_method_45_code 20 = .ok (.iconst (-1), 1) := by decide +kernel
theorem d_Mod_people_21 : decode prog_14_method_45_code 21 = .ok (.istore_n 3, 1) := by decide +kernel
theorem d_Mod_people_22 : decode prog_14_method_45_code 22 = .ok (.iload_n 3, 1) := by decide +kernel
theorem d_Mod_people_23 : decode prog_14_method_45_code 23 = .ok (.ifCond .eq 11, 3) := by decide +kernel
theorem d_Mod_people_26 : decode prog_14_method_45_code 26 = .ok (.aload_n 0, 1) := by decide +kernel
theorem d_Mod_people_27 : decode prog_14_method_45_code 27 = .ok (.iload_n 3, 1) := by decide +kernel
theorem d_Mod_people_28 : decode prog_14_method_45_code 28 = .ok (.invokevirtual 29, 3) := by decide +kernel
theorem d_Mod_people_31 : decode prog_14_method_45_code 31 = .ok (.goto 13, 3) := by decide +kernel
theorem d_Mod_people_34 : decode prog_14_method_45_code 34 = .ok (.aload_n 0, 1) := by decide +kernel
theorem d_Mod_people_35 : decode prog_14_method_45_code 35 = .ok (.sipush 254, 3) := by decide +kernel
theorem d_Mod_people_38 : decode prog_14_method_45_code 38 = .ok (.iload_n 1, 1) := by decide +kernel
theorem d_Mod_people_39 : decode prog_14_method_45_code 39 = .ok (.iadd, 1) := by decide +kernel
theorem d_Mod_people_40 : decode prog_14_method_45_code 40 = .ok (.iload_n 2, 1) := by decide +kernel
theorem d_Mod_people_41 : decode prog_14_method_45_code 41 = .ok (.invokevirtual 86, 3) := by decide +kernel
theorem d_Mod_people_44 : decode prog_14_method_45_code 44 = .ok (.ireturn, 1) := by decide +kernel
theorem d_Mod_strokes_0 : decode prog_14_method_46_code 0 = .ok (.iload_n 1, 1) := by decide +kernel
theorem d_Mod_strokes_1 : decode prog_14_method_46_code 1 = .ok (.iconst 0, 1) := by decide +kernel
theorem d_Mod_strokes_2 : decode prog_14_method_46_code 2 = .ok (.bipush 99, 2) := by decide +kernel
theorem d_Mod_strokes_4 : decode prog_14_method_46_code 4 = .ok (.invokestatic 82, 3) := by decide +kernel
theorem d_Mod_strokes_7 : decode prog_14_method_46_code 7 = .ok (.istore_n 2, 1) := by decide +kernel
theorem d_Mod_strokes_8 : decode prog_14_method_46_code 8 = .ok (.iload_n 2, 1) := by decide +kernel
theorem d_Mod_strokes_9 : decode prog_14_method_46_code 9 = .ok (.ifCond .eq 11, 3) := by decide +kernel
theorem d_Mod_strokes_12 : decode prog_14_method_46_code 12 = .ok (.aload_n 0, 1) := by decide +kernel
theorem d_Mod_strokes_13 : decode prog_14_method_46_code 13 = .ok (.iload_n 2, 1) := by decide +kernel
theorem d_Mod_strokes_14 : decode prog_14_method_46_code 14 = .ok (.invokevirtual 29, 3) := by decide +kernel
theorem d_Mod_strokes_17 : decode prog_14_method_46_code 17 = .ok (.goto 9, 3) := by decide +kernel
theorem d_Mod_strokes_20 : decode prog_14_method_46_code 20 = .ok (.aload_n 0, 1) := by decide +kernel
theorem d_Mod_strokes_21 : decode prog_14_method_46_code 21 = .ok (.iconst 3, 1) := by decide +kernel
theorem d_Mod_strokes_22 : decode prog_14_method_46_code 22 = .ok (.iload_n 1, 1) := by decide +kernel
theorem d_Mod_strokes_23 : decode prog_14_method_46_code 23 = .ok (.invokevirtual 86, 3) := by decide +kernel
theorem d_Mod_strokes_26 : decode prog_14_method_46_code 26 = .ok (.ireturn, 1) := by decide +kernel
theorem d_Mod_reach_0 : decode prog_14_method_47_code 0 = .ok (.iload_n 1, 1) := by decide +kernel
theorem d_Mod_reach_1 : decode prog_14_method_47_code 1 = .ok (.invokestatic 79, 3) := by decide +kernel
theorem d_Mod_reach_4 : decode prog_14_method_47_code 4 = .ok (.ifCond .eq 13, 3) := by decide +kernel
theorem d_Mod_reach_7 : decode prog_14_method_47_code 7 = .ok (.iload_n 2, 1) := by decide +kernel
theorem d_Mod_reach_8 : decode prog_14_method_47_code 8 = .ok (.iconst 0, 1) := by decide +kernel
theorem d_Mod_reach_9 : decode prog_14_method_47_code 9 = .ok (.bipush 10, 2) := by decide +kernel
theorem d_Mod_reach_11 : decode prog_14_method_47_code 11 = .ok (.invokestatic 82, 3) := by decide +kernel
theorem d_Mod_reach_14 : decode prog_14_method_47_code 14 = .ok (.goto 4, 3) := by decide +kernel
theorem d_Mod_reach_17 : decode prog_14_method_47_code 17 = .ok (.iconst (-1), 1) := by decide +kernel
theorem d_Mod_reach_18 : decode prog_14_method_47_code 18 = .ok (.istore_n 3, 1) := by decide +kernel
theorem d_Mod_reach_19 : decode prog_14_method_47_code 19 = .ok (.iload_n 3, 1) := by decide +kernel
theorem d_Mod_reach_20 : decode prog_14_method_47_code 20 = .ok (.ifCond .eq 11, 3) := by decide +kernel
theorem d_Mod_reach_23 : decode prog_14_method_47_code 23 = .ok (.aload_n 0, 1) := by decide +kernel
theorem d_Mod_reach_24 : decode prog_14_method_47_code 24 = .ok (.iload_n 3, 1) := by decide +kernel
theorem d_Mod_reach_25 : decode prog_14_method_47_code 25 = .ok (.invokevirtual 29, 3) := by decide +kernel
theorem d_Mod_reach_28 : decode prog_14_method_47_code 28 = .ok (.goto 19, 3) := by decide +kernel
theorem d_Mod_reach_31 : decode prog_14_method_47_code 31 = .ok (.aload_n 0, 1) := by decide +kernel
theorem d_Mod_reach_32 : decode prog_14_method_47_code 32 = .ok (.sipush 186, 3) := by decide +kernel
theorem d_Mod_reach_35 : decode prog_14_method_47_code 35 = .ok (.bipush 8, 2) := by decide +kernel
theorem d_Mod_reach_37 : decode prog_14_method_47_code 37 = .ok (.iload_n 1, 1) := by decide +kernel
theorem d_Mod_reach_38 : decode prog_14_method_47_code 38 = .ok (.imul, 1) := by decide +kernel
theorem d_Mod_reach_39 : decode prog_14_method_47_code 39 = .ok (.iadd, 1) := by decide +kernel
theorem d_Mod_reach_40 : decode prog_14_method_47_code 40 = .ok (.bipush 7, 2) := by decide +kernel
theorem d_Mod_reach_42 : decode prog_14_method_47_code 42 = .ok (.iadd, 1) := by decide +kernel
theorem d_Mod_reach_43 : decode prog_14_method_47_code 43 = .ok (.iload_n 2, 1) := by decide +kernel
theorem d_Mod_reach_44 : decode prog_14_method_47_code 44 = .ok (.invokevirtual 86, 3) := by decide +kernel
theorem d_Mod_reach_47 : decode prog_14_method_47_code 47 = .ok (.ireturn, 1) := by decide +kernel
theorem d_Mod_shouldOf_0 : decode prog_14_method_48_code 0 = .ok (.iconst 0, 1) := by decide +kernel
theorem d_Mod_shouldOf_1 : decode prog_14_method_48_code 1 = .ok (.istore_n 2, 1) := by decide +kernel
theorem d_Mod_shouldOf_2 : decode prog_14_method_48_code 2 = .ok (.iconst 0, 1) := by decide +kernel
theorem d_Mod_shouldOf_3 : decode prog_14_method_48_code 3 = .ok (.istore_n 3, 1) := by decide +kernel
theorem d_Mod_shouldOf_4 : decode prog_14_method_48_code 4 = .ok (.iload_n 3, 1) := by decide +kernel
theorem d_Mod_shouldOf_5 : decode prog_14_method_48_code 5 = .ok (.aload_n 0, 1) := by decide +kernel
theorem d_Mod_shouldOf_6 : decode prog_14_method_48_code 6 = .ok (.getfield 13, 3) := by decide +kernel
theorem d_Mod_shouldOf_9 : decode prog_14_method_48_code 9 = .ok (.sipush 186, 3) := by decide +kernel
theorem d_Mod_shouldOf_12 : decode prog_14_method_48_code 12 = .ok (.bipush 8, 2) := by decide +kernel
theorem d_Mod_shouldOf_14 : decode prog_14_method_48_code 14 = .ok (.iload_n 1, 1) := by decide +kernel
theorem d_Mod_shouldOf_15 : decode prog_14_method_48_code 15 = .ok (.imul, 1) := by decide +kernel
theorem d_Mod_shouldOf_16 : decode prog_14_method_48_code 16 = .ok (.iadd, 1) := by decide +kernel
theorem d_Mod_shouldOf_17 : decode prog_14_method_48_code 17 = .ok (.bipush 7, 2) := by decide +kernel
theorem d_Mod_shouldOf_19 : decode prog_14_method_48_code 19 = .ok (.iadd, 1) := by decide +kernel
theorem d_Mod_shouldOf_20 : decode prog_14_method_48_code 20 = .ok (.iaload, 1) := by decide +kernel
theorem d_Mod_shouldOf_21 : decode prog_14_method_48_code 21 = .ok (.if_icmp .ge 22, 3) := by decide +kernel
theorem d_Mod_shouldOf_24 : decode prog_14_method_48_code 24 = .ok (.iload_n 2, 1) := by decide +kernel
theorem d_Mod_shouldOf_25 : decode prog_14_method_48_code 25 = .ok (.aload_n 0, 1) := by decide +kernel
theorem d_Mod_shouldOf_26 : decode prog_14_method_48_code 26 = .ok (.getfield 13, 3) := by decide +kernel
theorem d_Mod_shouldOf_29 : decode prog_14_method_48_code 29 = .ok (.sipush 254, 3) := by decide +kernel
theorem d_Mod_shouldOf_32 : decode prog_14_method_48_code 32 = .ok (.iload_n 3, 1) := by decide +kernel
theorem d_Mod_shouldOf_33 : decode prog_14_method_48_code 33 = .ok (.iadd, 1) := by decide +kernel
theorem d_Mod_shouldOf_34 : decode prog_14_method_48_code 34 = .ok (.iaload, 1) := by decide +kernel
theorem d_Mod_shouldOf_35 : decode prog_14_method_48_code 35 = .ok (.iadd, 1) := by decide +kernel
theorem d_Mod_shouldOf_36 : decode prog_14_method_48_code 36 = .ok (.istore_n 2, 1) := by decide +kernel
theorem d_Mod_shouldOf_37 : decode prog_14_method_48_code 37 = .ok (.iinc 3 1, 3) := by decide +kernel
theorem d_Mod_shouldOf_40 : decode prog_14_method_48_code 40 = .ok (.goto (-36), 3) := by decide +kernel
theorem d_Mod_shouldOf_43 : decode prog_14_method_48_code 43 = .ok (.iload_n 2, 1) := by decide +kernel
theorem d_Mod_shouldOf_44 : decode prog_14_method_48_code 44 = .ok (.aload_n 0, 1) := by decide +kernel
theorem d_Mod_shouldOf_45 : decode prog_14_method_48_code 45 = .ok (.getfield 13, 3) := by decide +kernel
theorem d_Mod_shouldOf_48 : decode prog_14_method_48_code 48 = .ok (.iconst 3, 1) := by decide +kernel
theorem d_Mod_shouldOf_49 : decode prog_14_method_48_code 49 = .ok (.iaload, 1) := by decide +kernel
theorem d_Mod_shouldOf_50 : decode prog_14_method_48_code 50 = .ok (.imul, 1) := by decide +kernel
theorem d_Mod_shouldOf_51 : decode prog_14_method_48_code 51 = .ok (.ireturn, 1) := by decide +kernel
theorem d_Mod_should_0 : decode prog_14_method_49_code 0 = .ok (.iload_n 1, 1) := by decide +kernel
theorem d_Mod_should_1 : decode prog_14_method_49_code 1 = .ok (.invokestatic 79, 3) := by decide +kernel
theorem d_Mod_should_4 : decode prog_14_method_49_code 4 = .ok (.ifCond .eq 11, 3) := by decide +kernel
theorem d_Mod_should_7 : decode prog_14_method_49_code 7 = .ok (.aload_n 0, 1) := by decide +kernel
theorem d_Mod_should_8 : decode prog_14_method_49_code 8 = .ok (.iload_n 1, 1) := by decide +kernel
theorem d_Mod_should_9 : decode prog_14_method_49_code 9 = .ok (.invokevirtual 115, 3) := by decide +kernel
theorem d_Mod_should_12 : decode prog_14_method_49_code 12 = .ok (.goto 8, 3) := by decide +kernel
theorem d_Mod_should_15 : decode prog_14_method_49_code 15 = .ok (.aload_n 0, 1) := by decide +kernel
theorem d_Mod_should_16 : decode prog_14_method_49_code 16 = .ok (.iconst (-1), 1) := by decide +kernel
theorem d_Mod_should_17 : decode prog_14_method_49_code 17 = .ok (.invokevirtual 29, 3) := by decide +kernel
theorem d_Mod_should_20 : decode prog_14_method_49_code 20 = .ok (.ireturn, 1) := by decide +kernel
theorem d_Mod_seenOf_0 : decode prog_14_method_50_code 0 = .ok (.iconst 0, 1) := by decide +kernel
theorem d_Mod_seenOf_1 : decode prog_14_method_50_code 1 = .ok (.istore_n 2, 1) := by decide +kernel
theorem d_Mod_seenOf_2 : decode prog_14_method_50_code 2 = .ok (.iconst 0, 1) := by decide +kernel
theorem d_Mod_seenOf_3 : decode prog_14_method_50_code 3 = .ok (.istore_n 3, 1) := by decide +kernel
theorem d_Mod_seenOf_4 : decode prog_14_method_50_code 4 = .ok (.iload_n 3, 1) := by decide +kernel
theorem d_Mod_seenOf_5 : decode prog_14_method_50_code 5 = .ok (.aload_n 0, 1) := by decide +kernel
theorem d_Mod_seenOf_6 : decode prog_14_method_50_code 6 = .ok (.getfield 13, 3) := by decide +kernel
theorem d_Mod_seenOf_9 : decode prog_14_method_50_code 9 = .ok (.iconst 0, 1) := by decide +kernel
theorem d_Mod_seenOf_10 : decode prog_14_method_50_code 10 = .ok (.iaload, 1) := by decide +kernel
theorem d_Mod_seenOf_11 : decode prog_14_method_50_code 11 = .ok (.if_icmp .ge 27, 3) := by decide +kernel
theorem d_Mod_seenOf_14 : decode prog_14_method_50_code 14 = .ok (.iload_n 2, 1) := by decide +kernel
theorem d_Mod_seenOf_15 : decode prog_14_method_50_code 15 = .ok (.aload_n 0, 1) := by decide +kernel
theorem d_Mod_seenOf_16 : decode prog_14_method_50_code 16 = .ok (.iload_n 3, 1) := by decide +kernel
theorem d_Mod_seenOf_17 : decode prog_14_method_50_code 17 = .ok (.iload_n 1, 1) := by decide +kernel
theorem d_Mod_seenOf_18 : decode prog_14_method_50_code 18 = .ok (.iconst 0, 1) := by decide +kernel
theorem d_Mod_seenOf_19 : decode prog_14_method_50_code 19 = .ok (.invokevirtual 96, 3) := by decide +kernel
theorem d_Mod_seenOf_22 : decode prog_14_method_50_code 22 = .ok (.ifCond .eq 7, 3) := by decide +kernel
theorem d_Mod_seenOf_25 : decode prog_14_method_50_code 25 = .ok (.iconst 1, 1) := by decide +kernel
theorem d_Mod_seenOf_26 : decode prog_14_method_50_code 26 = .ok (.goto 4, 3) := by decide +kernel
theorem d_Mod_seenOf_29 : decode prog_14_method_50_code 29 = .ok (.iconst 0, 1) := by decide +kernel
theorem d_Mod_seenOf_30 : decode prog_14_method_50_code 30 = .ok (.iadd, 1) := by decide +kernel
theorem d_Mod_seenOf_31 : decode prog_14_method_50_code 31 = .ok (.istore_n 2, 1) := by decide +kernel
theorem d_Mod_seenOf_32 : decode prog_14_method_50_code 32 = .ok (.iinc 3 1, 3) := by decide +kernel
theorem d_Mod_seenOf_35 : decode prog_14_method_50_code 35 = .ok (.goto (-31), 3) := by decide +kernel
theorem d_Mod_seenOf_38 : decode prog_14_method_50_code 38 = .ok (.iload_n 2, 1) := by decide +kernel
theorem d_Mod_seenOf_39 : decode prog_14_method_50_code 39 = .ok (.ireturn, 1) := by decide +kernel
theorem d_Mod_seen_0 : decode prog_14_method_51_code 0 = .ok (.iload_n 1, 1) := by decide +kernel
theorem d_Mod_seen_1 : decode prog_14_method_51_code 1 = .ok (.invokestatic 79, 3) := by decide +kernel
theorem d_Mod_seen_4 : decode prog_14_method_51_code 4 = .ok (.ifCond .eq 11, 3) := by decide +kernel
theorem d_Mod_seen_7 : decode prog_14_method_51_code 7 = .ok (.aload_n 0, 1) := by decide +kernel
theorem d_Mod_seen_8 : decode prog_14_method_51_code 8 = .ok (.iload_n 1, 1) := by decide +kernel
theorem d_Mod_seen_9 : decode prog_14_method_51_code 9 = .ok (.invokevirtual 118, 3) := by decide +kernel
theorem d_Mod_seen_12 : decode prog_14_method_51_code 12 = .ok (.goto 8, 3) := by decide +kernel
theorem d_Mod_seen_15 : decode prog_14_method_51_code 15 = .ok (.aload_n 0, 1) := by decide +kernel
theorem d_Mod_seen_16 : decode prog_14_method_51_code 16 = .ok (.iconst (-1), 1) := by decide +kernel
theorem d_Mod_seen_17 : decode prog_14_method_51_code 17 = .ok (.invokevirtual 29, 3) := by decide +kernel
theorem d_Mod_seen_20 : decode prog_14_method_51_code 20 = .ok (.ireturn, 1) := by decide +kernel
theorem d_Mod_beyond_0 : decode prog_14_method_52_code 0 = .ok (.iload_n 1, 1) := by decide +kernel
theorem d_Mod_beyond_1 : decode prog_14_method_52_code 1 = .ok (.invokestatic 79, 3) := by decide +kernel
theorem d_Mod_beyond_4 : decode prog_14_method_52_code 4 = .ok (.ifCond .eq 14, 3) := by decide +kernel
theorem d_Mod_beyond_7 : decode prog_14_method_52_code 7 = .ok (.iload_n 2, 1) := by decide +kernel
theorem d_Mod_beyond_8 : decode prog_14_method_52_code 8 = .ok (.iconst 1, 1) := by decide +kernel
theorem d_Mod_beyond_9 : decode prog_14_method_52_code 9 = .ok (.sipush 999, 3) := by decide +kernel
theorem d_Mod_beyond_12 : decode prog_14_method_52_code 12 = .ok (.invokestatic 82, 3) := by decide +kernel
theorem d_Mod_beyond_15 : decode prog_14_method_52_code 15 = .ok (.goto 4, 3) := by decide +kernel
theorem d_Mod_beyond_18 : decode prog_14_method_52_code 18 = .ok (.iconst (-1), 1) := by decide +kernel
theorem d_Mod_beyond_19 : decode prog_14_method_52_code 19 = .ok (.istore_n 3, 1) := by decide +kernel
theorem d_Mod_beyond_20 : decode prog_14_method_52_code 20 = .ok (.iload_n 3, 1) := by decide +kernel
theorem d_Mod_beyond_21 : decode prog_14_method_52_code 21 = .ok (.ifCond .eq 14, 3) := by decide +kernel
theorem d_Mod_beyond_24 : decode prog_14_method_52_code 24 = .ok (.ldc 102, 2) := by decide +kernel
theorem d_Mod_beyond_26 : decode prog_14_method_52_code 26 = .ok (.aload_n 0, 1) := by decide +kernel
theorem d_Mod_beyond_27 : decode prog_14_method_52_code 27 = .ok (.iload_n 3, 1) := by decide +kernel
theorem d_Mod_beyond_28 : decode prog_14_method_52_code 28 = .ok (.invokevirtual 29, 3) := by decide +kernel
theorem d_Mod_beyond_31 : decode prog_14_method_52_code 31 = .ok (.isub, 1) := by decide +kernel
theorem d_Mod_beyond_32 : decode prog_14_method_52_code 32 = .ok (.goto 16, 3) := by decide +kernel
theorem d_Mod_beyond_35 : decode prog_14_method_52_code 35 = .ok (.aload_n 0, 1) := by decide +kernel
theorem d_Mod_beyond_36 : decode prog_14_method_52_code 36 = .ok (.iload_n 1, 1) := by decide +kernel
theorem d_Mod_beyond_37 : decode prog_14_method_52_code 37 = .ok (.invokevirtual 118, 3) := by decide +kernel
theorem d_Mod_beyond_40 : decode prog_14_method_52_code 40 = .ok (.iload_n 2, 1) := by decide +kernel
theorem d_Mod_beyond_41 : decode prog_14_method_52_code 41 = .ok (.imul, 1) := by decide +kernel
theorem d_Mod_beyond_42 : decode prog_14_method_52_code 42 = .ok (.aload_n 0, 1) := by decide +kernel
theorem d_Mod_beyond_43 : decode prog_14_method_52_code 43 = .ok (.iload_n 1, 1) := by decide +kernel
theorem d_Mod_beyond_44 : decode prog_14_method_52_code 44 = .ok (.invokevirtual 115, 3) := by decide +kernel
theorem d_Mod_beyond_47 : decode prog_14_method_52_code 47 = .ok (.isub, 1) := by decide +kernel
theorem d_Mod_beyond_48 : decode prog_14_method_52_code 48 = .ok (.ireturn, 1) := by decide +kernel
theorem d_Mod_leads_0 : decode prog_14_method_53_code 0 = .ok (.iconst 0, 1) := by decide +kernel
theorem d_Mod_leads_1 : decode prog_14_method_53_code 1 = .ok (.istore_n 1, 1) := by decide +kernel
theorem d_Mod_leads_2 : decode prog_14_method_53_code 2 = .ok (.iconst 0, 1) := by decide +kernel
theorem d_Mod_leads_3 : decode prog_14_method_53_code 3 = .ok (.istore_n 2, 1) := by decide +kernel
theorem d_Mod_leads_4 : decode prog_14_method_53_code 4 = .ok (.iload_n 2, 1) := by decide +kernel
theorem d_Mod_leads_5 : decode prog_14_method_53_code 5 = .ok (.aload_n 0, 1) := by decide +kernel
theorem d_Mod_leads_6 : decode prog_14_method_53_code 6 = .ok (.getfield 13, 3) := by decide +kernel
theorem d_Mod_leads_9 : decode prog_14_method_53_code 9 = .ok (.iconst 0, 1) := by decide +kernel
theorem d_Mod_leads_10 : decode prog_14_method_53_code 10 = .ok (.iaload, 1) := by decide +kernel
theorem d_Mod_leads_11 : decode prog_14_method_53_code 11 = .ok (.if_icmp .ge 18, 3) := by decide +kernel
theorem d_Mod_leads_14 : decode prog_14_method_53_code 14 = .ok (.iload_n 1, 1) := by decide +kernel
theorem d_Mod_leads_15 : decode prog_14_method_53_code 15 = .ok (.aload_n 0, 1) := by decide +kernel
theorem d_Mod_leads_16 : decode prog_14_method_53_code 16 = .ok (.iload_n 2, 1) := by decide +kernel
theorem d_Mod_leads_17 : decode prog_14_method_53_code 17 = .ok (.iconst 5, 1) := by decide +kernel
theorem d_Mod_leads_18 : decode prog_14_method_53_code 18 = .ok (.invokevirtual 66, 3) := by decide +kernel
theorem d_Mod_leads_21 : decode prog_14_method_53_code 21 = .ok (.iadd, 1) := by decide +kernel
theorem d_Mod_leads_22 : decode prog_14_method_53_code 22 = .ok (.istore_n 1, 1) := by decide +kernel
theorem d_Mod_leads_23 : decode prog_14_method_53_code 23 = .ok (.iinc 2 1, 3) := by decide +kernel
theorem d_Mod_leads_26 : decode prog_14_method_53_code 26 = .ok (.goto (-22), 3) := by decide +kernel
theorem d_Mod_leads_29 : decode prog_14_method_53_code 29 = .ok (.iload_n 1, 1) := by decide +kernel
theorem d_Mod_leads_30 : decode prog_14_method_53_code 30 = .ok (.ifCond .eq 13, 3) := by decide +kernel
theorem d_Mod_leads_33 : decode prog_14_method_53_code 33 = .ok (.iload_n 1, 1) := by decide +kernel
theorem d_Mod_leads_34 : decode prog_14_method_53_code 34 = .ok (.aload_n 0, 1) := by decide +kernel
theorem d_Mod_leads_35 : decode prog_14_method_53_code 35 = .ok (.getfield 13, 3) := by decide +kernel
theorem d_Mod_leads_38 : decode prog_14_method_53_code 38 = .ok (.iconst 0, 1) := by decide +kernel
theorem d_Mod_leads_39 : decode prog_14_method_53_code 39 = .ok (.iaload, 1) := by decide +kernel
theorem d_Mod_leads_40 : decode prog_14_method_53_code 40 = .ok (.if_icmp .ne 6, 3) := by decide +kernel
theorem d_Mod_leads_43 : decode prog_14_method_53_code 43 = .ok (.bipush (-9), 2) := by decide +kernel
theorem d_Mod_leads_45 : decode prog_14_method_53_code 45 = .ok (.ireturn, 1) := by decide +kernel
theorem d_Mod_leads_46 : decode prog_14_method_53_code 46 = .ok (.bipush (-9), 2) := by decide +kernel
theorem d_Mod_leads_48 : decode prog_14_method_53_code 48 = .ok (.istore_n 2, 1) := by decide +kernel
theorem d_Mod_leads_49 : decode prog_14_method_53_code 49 = .ok (.iconst 0, 1) := by decide +kernel
theorem d_Mod_leads_50 : decode prog_14_method_53_code 50 = .ok (.istore_n 3, 1) := by decide +kernel
theorem d_Mod_leads_51 : decode prog_14_method_53_code 51 = .ok (.iconst 0, 1) := by decide +kernel
theorem d_Mod_leads_52 : decode prog_14_method_53_code 52 = .ok (.istore 4, 2) := by decide +kernel
theorem d_Mod_leads_54 : decode prog_14_method_53_code 54 = .ok (.iload 4, 2) := by decide +kernel
theorem d_Mod_leads_56 : decode prog_14_method_53_code 56 = .ok (.bipush 6, 2) := by decide +kernel
theorem d_Mod_leads_58 : decode prog_14_method_53_code 58 = .ok (.if_icmp .ge 115, 3) := by decide +kernel
theorem d_Mod_leads_61 : decode prog_14_method_53_code 61 = .ok (.iconst 0, 1) := by decide +kernel
theorem d_Mod_leads_62 : decode prog_14_method_53_code 62 = .ok (.istore 5, 2) := by decide +kernel
theorem d_Mod_leads_64 : decode prog_14_method_53_code 64 = .ok (.iconst 0, 1) := by decide +kernel
theorem d_Mod_leads_65 : decode prog_14_method_53_code 65 = .ok (.istore 6, 2) := by decide +kernel
theorem d_Mod_leads_67 : decode prog_14_method_53_code 67 = .ok (.iload 6, 2) := by decide +kernel
theorem d_Mod_leads_69 : decode prog_14_method_53_code 69 = .ok (.aload_n 0, 1) := by decide +kernel
theorem d_Mod_leads_70 : decode prog_14_method_53_code 70 = .ok (.getfield 13, 3) := by decide +kernel
theorem d_Mod_leads_73 : decode prog_14_method_53_code 73 = .ok (.iconst 0, 1) := by decide +kernel
theorem d_Mod_leads_74 : decode prog_14_method_53_code 74 = .ok (.iaload, 1) := by decide +kernel
theorem d_Mod_leads_75 : decode prog_14_method_53_code 75 = .ok (.if_icmp .ge 42, 3) := by decide +kernel
theorem d_Mod_leads_78 : decode prog_14_method_53_code 78 = .ok (.iload 5, 2) := by decide +kernel
theorem d_Mod_leads_80 : decode prog_14_method_53_code 80 = .ok (.aload_n 0, 1) := by decide +kernel
theorem d_Mod_leads_81 : decode prog_14_method_53_code 81 = .ok (.iload 6, 2) := by decide +kernel
theorem d_Mod_leads_83 : decode prog_14_method_53_code 83 = .ok (.iconst 5, 1) := by decide +kernel
theorem d_Mod_leads_84 : decode prog_14_method_53_code 84 = .ok (.invokevirtual 66, 3) := by decide +kernel
theorem d_Mod_leads_87 : decode prog_14_method_53_code 87 = .ok (.iconst 1, 1) := by decide +kernel
theorem d_Mod_leads_88 : decode prog_14_method_53_code 88 = .ok (.if_icmp .ne 19, 3) := by decide +kernel
theorem d_Mod_leads_91 : decode prog_14_method_53_code 91 = .ok (.aload_n 0, 1) := by decide +kernel
theorem d_Mod_leads_92 : decode prog_14_method_53_code 92 = .ok (.iload 6, 2) := by decide +kernel
theorem d_Mod_leads_94 : decode prog_14_method_53_code 94 = .ok (.iload 4, 2) := by decide +kernel
theorem d_Mod_leads_96 : decode prog_14_method_53_code 96 = .ok (.iconst 0, 1) := by decide +kernel
theorem d_Mod_leads_97 : decode prog_14_method_53_code 97 = .ok (.invokevirtual 96, 3) := by decide +kernel
theorem d_Mod_leads_100 : decode prog_14_method_53_code 100 = .ok (.ifCond .eq 7, 3) := by decide +kernel
theorem d_Mod_leads_103 : decode prog_14_method_53_code 103 = .ok (.iconst 1, 1) := by decide +kernel
theorem d_Mod_leads_104 : decode prog_14_method_53_code 104 = .ok (.goto 4, 3) := by decide +kernel
theorem d_Mod_leads_107 : decode prog_14_method_53_code 107 = .ok (.iconst 0, 1) := by decide +kernel
theorem d_Mod_leads_108 : decode prog_14_method_53_code 108 = .ok (.iadd, 1) := by decide +kernel
theorem d_Mod_leads_109 : decode prog_14_method_53_code 109 = .ok (.istore 5, 2) := by decide +kernel
theorem d_Mod_leads_111 : decode prog_14_method_53_code 111 = .ok (.iinc 6 1, 3) := by decide +kernel
theorem d_Mod_leads_114 : decode prog_14_method_53_code 114 = .ok (.goto (-47), 3) := by decide +kernel
theorem d_Mod_leads_117 : decode prog_14_method_53_code 117 = .ok (.bipush 100, 2) := by decide +kernel
theorem d_Mod_leads_119 : decode prog_14_method_53_code 119 = .ok (.iload 5, 2) := by decide +kernel
theorem d_Mod_leads_121 : decode prog_14_method_53_code 121 = .ok (.imul, 1) := by decide +kernel
theorem d_Mod_leads_122 : decode prog_14_method_53_code 122 = .ok (.iload_n 1, 1) := by decide +kernel
theorem d_Mod_leads_123 : decode prog_14_method_53_code 123 = .ok (.idiv, 1) := by decide +kernel
theorem d_Mod_leads_124 : decode prog_14_method_53_code 124 = .ok (.bipush 100, 2) := by decide +kernel
theorem d_Mod_leads_126 : decode prog_14_method_53_code 126 = .ok (.aload_n 0, 1) := by decide +kernel
theorem d_Mod_leads_127 : decode prog_14_method_53_code 127 = .ok (.iload 4, 2) := by decide +kernel
theorem d_Mod_leads_129 : decode prog_14_method_53_code 129 = .ok (.invokevirtual 118, 3) := by decide +kernel
theorem d_Mod_leads_132 : decode prog_14_method_53_code 132 = .ok (.iload 5, 2) := by decide +kernel
theorem d_Mod_leads_134 : decode prog_14_method_53_code 134 = .ok (.isub, 1) := by decide +kernel
theorem d_Mod_leads_135 : decode prog_14_method_53_code 135 = .ok (.imul, 1) := by decide +kernel
theorem d_Mod_leads_136 : decode prog_14_method_53_code 136 = .ok (.aload_n 0, 1) := by decide +kernel
theorem d_Mod_leads_137 : decode prog_14_method_53_code 137 = .ok (.getfield 13, 3) := by decide +kernel
theorem d_Mod_leads_140 : decode prog_14_method_53_code 140 = .ok (.iconst 0, 1) := by decide +kernel
theorem d_Mod_leads_141 : decode prog_14_method_53_code 141 = .ok (.iaload, 1) := by decide +kernel
theorem d_Mod_leads_142 : decode prog_14_method_53_code 142 = .ok (.iload_n 1, 1) := by decide +kernel
theorem d_Mod_leads_143 : decode prog_14_method_53_code 143 = .ok (.isub, 1) := by decide +kernel
theorem d_Mod_leads_144 : decode prog_14_method_53_code 144 = .ok (.idiv, 1) := by decide +kernel
theorem d_Mod_leads_145 : decode prog_14_method_53_code 145 = .ok (.isub, 1) := by decide +kernel
theorem d_Mod_leads_146 : decode prog_14_method_53_code 146 = .ok (.istore 6, 2) := by decide +kernel
theorem d_Mod_leads_148 : decode prog_14_method_53_code 148 = .ok (.iload_n 2, 1) := by decide +kernel
theorem d_Mod_leads_149 : decode prog_14_method_53_code 149 = .ok (.ifCond .lt 12, 3) := by decide +kernel
theorem d_Mod_leads_152 : decode prog_14_method_53_code 152 = .ok (.iload 6, 2) := by decide +kernel
theorem d_Mod_leads_154 : decode prog_14_method_53_code 154 = .ok (.iload_n 3, 1) := by decide +kernel
theorem d_Mod_leads_155 : decode prog_14_method_53_code 155 = .ok (.if_icmp .gt 6, 3) := by decide +kernel
theorem d_Mod_leads_158 : decode prog_14_method_53_code 158 = .ok (.goto 9, 3) := by decide +kernel
theorem d_Mod_leads_161 : decode prog_14_method_53_code 161 = .ok (.iload 4, 2) := by decide +kernel
theorem d_Mod_leads_163 : decode prog_14_method_53_code 163 = .ok (.istore_n 2, 1) := by decide +kernel
theorem d_Mod_leads_164 : decode prog_14_method_53_code 164 = .ok (.iload 6, 2) := by decide +kernel
theorem d_Mod_leads_166 : decode prog_14_method_53_code 166 = .ok (.istore_n 3, 1) := by decide +kernel
theorem d_Mod_leads_167 : decode prog_14_method_53_code 167 = .ok (.iinc 4 1, 3) := by decide +kernel
theorem d_Mod_leads_170 : decode prog_14_method_53_code 170 = .ok (.goto (-116), 3) := by decide +kernel
theorem d_Mod_leads_173 : decode prog_14_method_53_code 173 = .ok (.iload_n 2, 1) := by decide +kernel
theorem d_Mod_leads_174 : decode prog_14_method_53_code 174 = .ok (.ireturn, 1) := by decide +kernel
theorem d_Mod_pictures_0 : decode prog_14_method_54_code 0 = .ok (.iload_n 1, 1) := by decide +kernel
theorem d_Mod_pictures_1 : decode prog_14_method_54_code 1 = .ok (.invokestatic 79, 3) := by decide +kernel
theorem d_Mod_pictures_4 : decode prog_14_method_54_code 4 = .ok (.ifCond .ne 9, 3) := by decide +kernel
theorem d_Mod_pictures_7 : decode prog_14_method_54_code 7 = .ok (.aload_n 0, 1) := by decide +kernel
theorem d_Mod_pictures_8 : decode prog_14_method_54_code 8 = .ok (.iconst (-1), 1) := by decide +kernel
theorem d_Mod_pictures_9 : decode prog_14_method_54_code 9 = .ok (.invokevirtual 29, 3) := by decide +kernel
theorem d_Mod_pictures_12 : decode prog_14_method_54_code 12 = .ok (.ireturn, 1) := by decide +kernel
theorem d_Mod_pictures_13 : decode prog_14_method_54_code 13 = .ok (.iconst 0, 1) := by decide +kernel
theorem d_Mod_pictures_14 : decode prog_14_method_54_code 14 = .ok (.istore_n 2, 1) := by decide +kernel
theorem d_Mod_pictures_15 : decode prog_14_method_54_code 15 = .ok (.iconst 0, 1) := by decide +kernel
theorem d_Mod_pictures_16 : decode prog_14_method_54_code 16 = .ok (.istore_n 3, 1) := by decide +kernel
theorem d_Mod_pictures_17 : decode prog_14_method_54_code 17 = .ok (.iload_n 3, 1) := by decide +kernel
theorem d_Mod_pictures_18 : decode prog_14_method_54_code 18 = .ok (.aload_n 0, 1) := by decide +kernel
theorem d_Mod_pictures_19 : decode prog_14_method_54_code 19 = .ok (.getfield 13, 3) := by decide +kernel
theorem d_Mod_pictures_22 : decode prog_14_method_54_code 22 = .ok (.iconst 0, 1) := by decide +kernel
theorem d_Mod_pictures_23 : decode prog_14_method_54_code 23 = .ok (.iaload, 1) := by decide +kernel
theorem d_Mod_pictures_24 : decode prog_14_method_54_code 24 = .ok (.if_icmp .ge 38, 3) := by decide +kernel
theorem d_Mod_pictures_27 : decode prog_14_method_54_code 27 = .ok (.iload_n 2, 1) := by decide +kernel
theorem d_Mod_pictures_28 : decode prog_14_method_54_code 28 = .ok (.aload_n 0, 1) := by decide +kernel
theorem d_Mod_pictures_29 : decode prog_14_method_54_code 29 = .ok (.iload_n 3, 1) := by decide +kernel
theorem d_Mod_pictures_30 : decode prog_14_method_54_code 30 = .ok (.bipush 7, 2) := by decide +kernel
theorem d_Mod_pictures_32 : decode prog_14_method_54_code 32 = .ok (.invokevirtual 70, 3) := by decide +kernel
theorem d_Mod_pictures_35 : decode prog_14_method_54_code 35 = .ok (.ifCond .eq 18, 3) := by decide +kernel
theorem d_Mod_pictures_38 : decode prog_14_method_54_code 38 = .ok (.aload_n 0, 1) := by decide +kernel
theorem d_Mod_pictures_39 : decode prog_14_method_54_code 39 = .ok (.iload_n 3, 1) := by decide +kernel
theorem d_Mod_pictures_40 : decode prog_14_method_54_code 40 = .ok (.invokevirtual 106, 3) := by decide +kernel
theorem d_Mod_pictures_43 : decode prog_14_method_54_code 43 = .ok (.iconst 1, 1) := by decide +kernel
theorem d_Mod_pictures_44 : decode prog_14_method_54_code 44 = .ok (.iload_n 1, 1) := by decide +kernel
theorem d_Mod_pictures_45 : decode prog_14_method_54_code 45 = .ok (.ishl, 1) := by decide +kernel
theorem d_Mod_pictures_46 : decode prog_14_method_54_code 46 = .ok (.if_icmp .ne 7, 3) := by decide +kernel
theorem d_Mod_pictures_49 : decode prog_14_method_54_code 49 = .ok (.iconst 1, 1) := by decide +kernel
theorem d_Mod_pictures_50 : decode prog_14_method_54_code 50 = .ok (.goto 4, 3) := by decide +kernel
theorem d_Mod_pictures_53 : decode prog_14_method_54_code 53 = .ok (.iconst 0, 1) := by decide +kernel
theorem d_Mod_pictures_54 : decode prog_14_method_54_code 54 = .ok (.iadd, 1) := by decide +kernel
theorem d_Mod_pictures_55 : decode prog_14_method_54_code 55 = .ok (.istore_n 2, 1) := by decide +kernel
theorem d_Mod_pictures_56 : decode prog_14_method_54_code 56 = .ok (.iinc 3 1, 3) := by decide +kernel
theorem d_Mod_pictures_59 : decode prog_14_method_54_code 59 = .ok (.goto (-42), 3) := by decide +kernel
theorem d_Mod_pictures_62 : decode prog_14_method_54_code 62 = .ok (.iload_n 2, 1) := by decide +kernel
theorem d_Mod_pictures_63 : decode prog_14_method_54_code 63 = .ok (.ireturn, 1) := by decide +kernel
theorem d_Mod_bench_0 : decode prog_14_method_55_code 0 = .ok (.iload_n 3, 1) := by decide +kernel
theorem d_Mod_bench_1 : decode prog_14_method_55_code 1 = .ok (.bipush 8, 2) := by decide +kernel
theorem d_Mod_bench_3 : decode prog_14_method_55_code 3 = .ok (.invokestatic 25, 3) := by decide +kernel
theorem d_Mod_bench_6 : decode prog_14_method_55_code 6 = .ok (.ifCond .eq 14, 3) := by decide +kernel
theorem d_Mod_bench_9 : decode prog_14_method_55_code 9 = .ok (.iload 4, 2) := by decide +kernel
theorem d_Mod_bench_11 : decode prog_14_method_55_code 11 = .ok (.sipush 256, 3) := by decide +kernel
theorem d_Mod_bench_14 : decode prog_14_method_55_code 14 = .ok (.invokestatic 25, 3) := by decide +kernel
theorem d_Mod_bench_17 : decode prog_14_method_55_code 17 = .ok (.ifCond .ne 7, 3) := by decide +kernel
theorem d_Mod_bench_20 : decode prog_14_method_55_code 20 = .ok (.iconst (-1), 1) := by decide +kernel
theorem d_Mod_bench_21 : decode prog_14_method_55_code 21 = .ok (.goto 36, 3) := by decide +kernel
theorem d_Mod_bench_24 : decode prog_14_method_55_code 24 = .ok (.iload_n 1, 1) := by decide +kernel
theorem d_Mod_bench_25 : decode prog_14_method_55_code 25 = .ok (.ifCond .lt 7, 3) := by decide +kernel
theorem d_Mod_bench_28 : decode prog_14_method_55_code 28 = .ok (.iload_n 2, 1) := by decide +kernel
theorem d_Mod_bench_29 : decode prog_14_method_55_code 29 = .ok (.ifCond .ge 8, 3) := by decide +kernel
theorem d_Mod_bench_32 : decode prog_14_method_55_code 32 = .ok (.bipush (-4), 2) := by decide +kernel
theorem d_Mod_bench_34 : decode prog_14_method_55_code 34 = .ok (.goto 23, 3) := by decide +kernel
theorem d_Mod_bench_37 : decode prog_14_method_55_code 37 = .ok (.iload_n 1, 1) := by decide +kernel
theorem d_Mod_bench_38 : decode prog_14_method_55_code 38 = .ok (.sipush 999, 3) := by decide +kernel
theorem d_Mod_bench_41 : decode prog_14_method_55_code 41 = .ok (.if_icmp .gt 10, 3) := by decide +kernel
theorem d_Mod_bench_44 : decode prog_14_method_55_code 44 = .ok (.iload_n 2, 1) := by decide +kernel
theorem d_Mod_bench_45 : decode prog_14_method_55_code 45 = .ok (.sipush 999, 3) := by decide +kernel
theorem d_Mod_bench_48 : decode prog_14_method_55_code 48 = .ok (.if_icmp .le 8, 3) := by decide +kernel
theorem d_Mod_bench_51 : decode prog_14_method_55_code 51 = .ok (.bipush (-6), 2) := by decide +kernel
theorem d_Mod_bench_53 : decode prog_14_method_55_code 53 = .ok (.goto 4, 3) := by decide +kernel
theorem d_Mod_bench_56 : decode prog_14_method_55_code 56 = .ok (.iconst 0, 1) := by decide +kernel
theorem d_Mod_bench_57 : decode prog_14_method_55_code 57 = .ok (.istore 5, 2) := by decide +kernel
theorem d_Mod_bench_59 : decode prog_14_method_55_code 59 = .ok (.iload 5, 2) := by decide +kernel
theorem d_Mod_bench_61 : decode prog_14_method_55_code 61 = .ok (.ifCond .eq 10, 3) := by decide +kernel
theorem d_Mod_bench_64 : decode prog_14_method_55_code 64 = .ok (.aload_n 0, 1) := by decide +kernel
theorem d_Mod_bench_65 : decode prog_14_method_55_code 65 = .ok (.iload 5, 2) := by decide +kernel
theorem d_Mod_bench_67 : decode prog_14_method_55_code 67 = .ok (.invokevirtual 29, 3) := by decide +kernel
theorem d_Mod_bench_70 : decode prog_14_method_55_code 70 = .ok (.ireturn, 1) := by decide +kernel
theorem d_Mod_bench_71 : decode prog_14_method_55_code 71 = .ok (.aload_n 0, 1) := by decide +kernel
theorem d_Mod_bench_72 : decode prog_14_method_55_code 72 = .ok (.getfield 13, 3) := by decide +kernel
theorem d_Mod_bench_75 : decode prog_14_method_55_code 75 = .ok (.sipush 264, 3) := by decide +kernel
theorem d_Mod_bench_78 : decode prog_14_method_55_code 78 = .ok (.iload_n 1, 1) := by decide +kernel
theorem d_Mod_bench_79 : decode prog_14_method_55_code 79 = .ok (.iastore, 1) := by decide +kernel
theorem d_Mod_bench_80 : decode prog_14_method_55_code 80 = .ok (.aload_n 0, 1) := by decide +kernel
theorem d_Mod_bench_81 : decode prog_14_method_55_code 81 = .ok (.getfield 13, 3) := by decide +kernel
theorem d_Mod_bench_84 : decode prog_14_method_55_code 84 = .ok (.sipush 265, 3) := by decide +kernel
theorem d_Mod_bench_87 : decode prog_14_method_55_code 87 = .ok (.iload_n 2, 1) := by decide +kernel
theorem d_Mod_bench_88 : decode prog_14_method_55_code 88 = .ok (.iastore, 1) := by decide +kernel
theorem d_Mod_bench_89 : decode prog_14_method_55_code 89 = .ok (.aload_n 0, 1) := by decide +kernel
theorem d_Mod_bench_90 : decode prog_14_method_55_code 90 = .ok (.getfield 13, 3) := by decide +kernel
theorem d_Mod_bench_93 : decode prog_14_method_55_code 93 = .ok (.sipush 266, 3) := by decide +kernel
theorem d_Mod_bench_96 : decode prog_14_method_55_code 96 = .ok (.iload_n 3, 1) := by decide +kernel
theorem d_Mod_bench_97 : decode prog_14_method_55_code 97 = .ok (.iastore, 1) := by decide +kernel
theorem d_Mod_bench_98 : decode prog_14_method_55_code 98 = .ok (.aload_n 0, 1) := by decide +kernel
theorem d_Mod_bench_99 : decode prog_14_method_55_code 99 = .ok (.getfield 13, 3) := by decide +kernel
theorem d_Mod_bench_102 : decode prog_14_method_55_code 102 = .ok (.sipush 267, 3) := by decide +kernel
theorem d_Mod_bench_105 : decode prog_14_method_55_code 105 = .ok (.iload 4, 2) := by decide +kernel
theorem d_Mod_bench_107 : decode prog_14_method_55_code 107 = .ok (.iastore, 1) := by decide +kernel
theorem d_Mod_bench_108 : decode prog_14_method_55_code 108 = .ok (.iconst 1, 1) := by decide +kernel
theorem d_Mod_bench_109 : decode prog_14_method_55_code 109 = .ok (.ireturn, 1) := by decide +kernel
theorem d_Mod_hasLine_0 : decode prog_14_method_56_code 0 = .ok (.iload_n 2, 1) := by decide +kernel
theorem d_Mod_hasLine_1 : decode prog_14_method_56_code 1 = .ok (.iconst 2, 1) := by decide +kernel
theorem d_Mod_hasLine_2 : decode prog_14_method_56_code 2 = .ok (.if_icmp .le 38, 3) := by decide +kernel
theorem d_Mod_hasLine_5 : decode prog_14_method_56_code 5 = .ok (.aload_n 0, 1) := by decide +kernel
theorem d_Mod_hasLine_6 : decode prog_14_method_56_code 6 = .ok (.iload_n 1, 1) := by decide +kernel
theorem d_Mod_hasLine_7 : decode prog_14_method_56_code 7 = .ok (.iload_n 2, 1) := by decide +kernel
theorem d_Mod_hasLine_8 : decode prog_14_method_56_code 8 = .ok (.iconst 3, 1) := by decide +kernel
theorem d_Mod_hasLine_9 : decode prog_14_method_56_code 9 = .ok (.isub, 1) := by decide +kernel
theorem d_Mod_hasLine_10 : decode prog_14_method_56_code 10 = .ok (.invokevirtual 70, 3) := by decide +kernel
theorem d_Mod_hasLine_13 : decode prog_14_method_56_code 13 = .ok (.ifCond .eq 21, 3) := by decide +kernel
theorem d_Mod_hasLine_16 : decode prog_14_method_56_code 16 = .ok (.aload_n 0, 1) := by decide +kernel
theorem d_Mod_hasLine_17 : decode prog_14_method_56_code 17 = .ok (.getfield 13, 3) := by decide +kernel
theorem d_Mod_hasLine_20 : decode prog_14_method_56_code 20 = .ok (.sipush 267, 3) := by decide +kernel
theorem d_Mod_hasLine_23 : decode prog_14_method_56_code 23 = .ok (.iaload, 1) := by decide +kernel
theorem d_Mod_hasLine_24 : decode prog_14_method_56_code 24 = .ok (.iload_n 2, 1) := by decide +kernel
theorem d_Mod_hasLine_25 : decode prog_14_method_56_code 25 = .ok (.iconst 3, 1) := by decide +kernel
theorem d_Mod_hasLine_26 : decode prog_14_method_56_code 26 = .ok (.isub, 1) := by decide +kernel
theorem d_Mod_hasLine_27 : decode prog_14_method_56_code 27 = .ok (.ishr, 1) := by decide +kernel
theorem d_Mod_hasLine_28 : decode prog_14_method_56_code 28 = .ok (.iconst 1, 1) := by decide +kernel
theorem d_Mod_hasLine_29 : decode prog_14_method_56_code 29 = .ok (.iand, 1) := by decide +kernel
theorem d_Mod_hasLine_30 : decode prog_14_method_56_code 30 = .ok (.iconst 1, 1) := by decide +kernel
theorem d_Mod_hasLine_31 : decode prog_14_method_56_code 31 = .ok (.if_icmp .ne 7, 3) := by decide +kernel
theorem d_Mod_hasLine_34 : decode prog_14_method_56_code 34 = .ok (.iconst 1, 1) := by decide +kernel
theorem d_Mod_hasLine_35 : decode prog_14_method_56_code 35 = .ok (.goto 4, 3) := by decide +kernel
theorem d_Mod_hasLine_38 : decode prog_14_method_56_code 38 = .ok (.iconst 0, 1) := by decide +kernel
theorem d_Mod_hasLine_39 : decode prog_14_method_56_code 39 = .ok (.ireturn, 1) := by decide +kernel
theorem d_Mod_hasLine_40 : decode prog_14_method_56_code 40 = .ok (.aload_n 0, 1) := by decide +kernel
theorem d_Mod_hasLine_41 : decode prog_14_method_56_code 41 = .ok (.iload_n 1, 1) := by decide +kernel
theorem d_Mod_hasLine_42 : decode prog_14_method_56_code 42 = .ok (.iload_n 2, 1) := by decide +kernel
theorem d_Mod_hasLine_43 : decode prog_14_method_56_code 43 = .ok (.invokevirtual 66, 3) := by decide +kernel
theorem d_Mod_hasLine_46 : decode prog_14_method_56_code 46 = .ok (.istore_n 3, 1) := by decide +kernel
theorem d_Mod_hasLine_47 : decode prog_14_method_56_code 47 = .ok (.iload_n 3, 1) := by decide +kernel
theorem d_Mod_hasLine_48 : decode prog_14_method_56_code 48 = .ok (.ifCond .lt 37, 3) := by decide +kernel
theorem d_Mod_hasLine_51 : decode prog_14_method_56_code 51 = .ok (.iload_n 2, 1) := by decide +kernel
theorem d_Mod_hasLine_52 : decode prog_14_method_56_code 52 = .ok (.iconst 2, 1) := by decide +kernel
theorem d_Mod_hasLine_53 : decode prog_14_method_56_code 53 = .ok (.if_icmp .ne 18, 3) := by decide +kernel
theorem d_Mod_hasLine_56 : decode prog_14_method_56_code 56 = .ok (.aload_n 0, 1) := by decide +kernel
theorem d_Mod_hasLine_57 : decode prog_14_method_56_code 57 = .ok (.getfield 13, 3) := by decide +kernel
theorem d_Mod_hasLine_60 : decode prog_14_method_56_code 60 = .ok (.sipush 266, 3) := by decide +kernel
theorem d_Mod_hasLine_63 : decode prog_14_method_56_code 63 = .ok (.iaload, 1) := by decide +kernel
theorem d_Mod_hasLine_64 : decode prog_14_method_56_code 64 = .ok (.iload_n 3, 1) := by decide +kernel
theorem d_Mod_hasLine_65 : decode prog_14_method_56_code 65 = .ok (.if_icmp .ne 24, 3) := by decide +kernel
theorem d_Mod_hasLine_68 : decode prog_14_method_56_code 68 = .ok (.goto 17, 3) := by decide +kernel
theorem d_Mod_hasLine_71 : decode prog_14_method_56_code 71 = .ok (.aload_n 0, 1) := by decide +kernel
theorem d_Mod_hasLine_72 : decode prog_14_method_56_code 72 = .ok (.getfield 13, 3) := by decide +kernel
theorem d_Mod_hasLine_75 : decode prog_14_method_56_code 75 = .ok (.sipush 264, 3) := by decide +kernel
theorem d_Mod_hasLine_78 : decode prog_14_method_56_code 78 = .ok (.iload_n 2, 1) := by decide +kernel
theorem d_Mod_hasLine_79 : decode prog_14_method_56_code 79 = .ok (.iadd, 1) := by decide +kernel
theorem d_Mod_hasLine_80 : decode prog_14_method_56_code 80 = .ok (.iaload, 1) := by decide +kernel
theorem d_Mod_hasLine_81 : decode prog_14_method_56_code 81 = .ok (.iload_n 3, 1) := by decide +kernel
theorem d_Mod_hasLine_82 : decode prog_14_method_56_code 82 = .ok (.if_icmp .lt 7, 3) := by decide +kernel
theorem d_Mod_hasLine_85 : decode prog_14_method_56_code 85 = .ok (.iconst 1, 1) := by decide +kernel
theorem d_Mod_hasLine_86 : decode prog_14_method_56_code 86 = .ok (.goto 4, 3) := by decide +kernel
theorem d_Mod_hasLine_89 : decode prog_14_method_56_code 89 = .ok (.iconst 0, 1) := by decide +kernel
theorem d_Mod_hasLine_90 : decode prog_14_method_56_code 90 = .ok (.ireturn, 1) := by decide +kernel
theorem d_Mod_lines_0 : decode prog_14_method_57_code 0 = .ok (.aload_n 0, 1) := by decide +kernel
theorem d_Mod_lines_1 : decode prog_14_method_57_code 1 = .ok (.iload_n 1, 1) := by decide +kernel
theorem d_Mod_lines_2 : decode prog_14_method_57_code 2 = .ok (.invokevirtual 63, 3) := by decide +kernel
theorem d_Mod_lines_5 : decode prog_14_method_57_code 5 = .ok (.ifCond .ne 9, 3) := by decide +kernel
theorem d_Mod_lines_8 : decode prog_14_method_57_code 8 = .ok (.aload_n 0, 1) := by decide +kernel
theorem d_Mod_lines_9 : decode prog_14_method_57_code 9 = .ok (.iconst (-1), 1) := by decide +kernel
theorem d_Mod_lines_10 : decode prog_14_method_57_code 10 = .ok (.invokevirtual 29, 3) := by decide +kernel
theorem d_Mod_lines_13 : decode prog_14_method_57_code 13 = .ok (.ireturn, 1) := by decide +kernel
theorem d_Mod_lines_14 : decode prog_14_method_57_code 14 = .ok (.iconst 0, 1) := by decide +kernel
theorem d_Mod_lines_15 : decode prog_14_method_57_code 15 = .ok (.istore_n 2, 1) := by decide +kernel
theorem d_Mod_lines_16 : decode prog_14_method_57_code 16 = .ok (.iconst 0, 1) := by decide +kernel
theorem d_Mod_lines_17 : decode prog_14_method_57_code 17 = .ok (.istore_n 3, 1) := by decide +kernel
theorem d_Mod_lines_18 : decode prog_14_method_57_code 18 = .ok (.iload_n 3, 1) := by decide +kernel
theorem d_Mod_lines_19 : decode prog_14_method_57_code 19 = .ok (.bipush 11, 2) := by decide +kernel
theorem d_Mod_lines_21 : decode prog_14_method_57_code 21 = .ok (.if_icmp .ge 26, 3) := by decide +kernel
theorem d_Mod_lines_24 : decode prog_14_method_57_code 24 = .ok (.iload_n 2, 1) := by decide +kernel
theorem d_Mod_lines_25 : decode prog_14_method_57_code 25 = .ok (.aload_n 0, 1) := by decide +kernel
theorem d_Mod_lines_26 : decode prog_14_method_57_code 26 = .ok (.iload_n 1, 1) := by decide +kernel
theorem d_Mod_lines_27 : decode prog_14_method_57_code 27 = .ok (.iload_n 3, 1) := by decide +kernel
theorem d_Mod_lines_28 : decode prog_14_method_57_code 28 = .ok (.invokevirtual 121, 3) := by decide +kernel
theorem d_Mod_lines_31 : decode prog_14_method_57_code 31 = .ok (.ifCond .eq 7, 3) := by decide +kernel
theorem d_Mod_lines_34 : decode prog_14_method_57_code 34 = .ok (.iconst 1, 1) := by decide +kernel
theorem d_Mod_lines_35 : decode prog_14_method_57_code 35 = .ok (.goto 4, 3) := by decide +kernel
theorem d_Mod_lines_38 : decode prog_14_method_57_code 38 = .ok (.iconst 0, 1) := by decide +kernel
theorem d_Mod_lines_39 : decode prog_14_method_57_code 39 = .ok (.iadd, 1) := by decide +kernel
theorem d_Mod_lines_40 : decode prog_14_method_57_code 40 = .ok (.istore_n 2, 1) := by decide +kernel
theorem d_Mod_lines_41 : decode prog_14_method_57_code 41 = .ok (.iinc 3 1, 3) := by decide +kernel
theorem d_Mod_lines_44 : decode prog_14_method_57_code 44 = .ok (.goto (-26), 3) := by decide +kernel
theorem d_Mod_lines_47 : decode prog_14_method_57_code 47 = .ok (.iload_n 2, 1) := by decide +kernel
theorem d_Mod_lines_48 : decode prog_14_method_57_code 48 = .ok (.ireturn, 1) := by decide +kernel
theorem d_Mod_misses_0 : decode prog_14_method_58_code 0 = .ok (.aload_n 0, 1) := by decide +kernel
theorem d_Mod_misses_1 : decode prog_14_method_58_code 1 = .ok (.iload_n 1, 1) := by decide +kernel
theorem d_Mod_misses_2 : decode prog_14_method_58_code 2 = .ok (.invokevirtual 63, 3) := by decide +kernel
theorem d_Mod_misses_5 : decode prog_14_method_58_code 5 = .ok (.ifCond .ne 9, 3) := by decide +kernel
theorem d_Mod_misses_8 : decode prog_14_method_58_code 8 = .ok (.aload_n 0, 1) := by decide +kernel
theorem d_Mod_misses_9 : decode prog_14_method_58_code 9 = .ok (.iconst (-1), 1) := by decide +kernel
theorem d_Mod_misses_10 : decode prog_14_method_58_code 10 = .ok (.invokevirtual 29, 3) := by decide +kernel
theorem d_Mod_misses_13 : decode prog_14_method_58_code 13 = .ok (.ireturn, 1) := by decide +kernel
theorem d_Mod_misses_14 : decode prog_14_method_58_code 14 = .ok (.iconst 0, 1) := by decide +kernel
theorem d_Mod_misses_15 : decode prog_14_method_58_code 15 = .ok (.istore_n 2, 1) := by decide +kernel
theorem d_Mod_misses_16 : decode prog_14_method_58_code 16 = .ok (.iload_n 2, 1) := by decide +kernel
theorem d_Mod_misses_17 : decode prog_14_method_58_code 17 = .ok (.bipush 11, 2) := by decide +kernel
theorem d_Mod_misses_19 : decode prog_14_method_58_code 19 = .ok (.if_icmp .ge 20, 3) := by decide +kernel
theorem d_Mod_misses_22 : decode prog_14_method_58_code 22 = .ok (.aload_n 0, 1) := by decide +kernel
theorem d_Mod_misses_23 : decode prog_14_method_58_code 23 = .ok (.iload_n 1, 1) := by decide +kernel
theorem d_Mod_misses_24 : decode prog_14_method_58_code 24 = .ok (.iload_n 2, 1) := by decide +kernel
theorem d_Mod_misses_25 : decode prog_14_method_58_code 25 = .ok (.invokevirtual 121, 3) := by decide +kernel
theorem d_Mod_misses_28 : decode prog_14_method_58_code 28 = .ok (.ifCond .ne 5, 3) := by decide +kernel
theorem d_Mod_misses_31 : decode prog_14_method_58_code 31 = .ok (.iload_n 2, 1) := by decide +kernel
theorem d_Mod_misses_32 : decode prog_14_method_58_code 32 = .ok (.ireturn, 1) := by decide +kernel
theorem d_Mod_misses_33 : decode prog_14_method_58_code 33 = .ok (.iinc 2 1, 3) := by decide +kernel
theorem d_Mod_misses_36 : decode prog_14_method_58_code 36 = .ok (.goto (-20), 3) := by decide +kernel
theorem d_Mod_misses_39 : decode prog_14_method_58_code 39 = .ok (.bipush (-9), 2) := by decide +kernel
theorem d_Mod_misses_41 : decode prog_14_method_58_code 41 = .ok (.ireturn, 1) := by decide +kernel
theorem d_Mod_barred_0 : decode prog_14_method_59_code 0 = .ok (.iload_n 1, 1) := by decide +kernel
theorem d_Mod_barred_1 : decode prog_14_method_59_code 1 = .ok (.sipush 256, 3) := by decide +kernel
theorem d_Mod_barred_4 : decode prog_14_method_59_code 4 = .ok (.invokestatic 25, 3) := by decide +kernel
theorem d_Mod_barred_7 : decode prog_14_method_59_code 7 = .ok (.ifCond .ne 9, 3) := by decide +kernel
theorem d_Mod_barred_10 : decode prog_14_method_59_code 10 = .ok (.aload_n 0, 1) := by decide +kernel
theorem d_Mod_barred_11 : decode prog_14_method_59_code 11 = .ok (.iconst (-1), 1) := by decide +kernel
theorem d_Mod_barred_12 : decode prog_14_method_59_code 12 = .ok (.invokevirtual 29, 3) := by decide +kernel
theorem d_Mod_barred_15 : decode prog_14_method_59_code 15 = .ok (.ireturn, 1) := by decide +kernel
theorem d_Mod_barred_16 : decode prog_14_method_59_code 16 = .ok (.iconst 0, 1) := by decide +kernel
theorem d_Mod_barred_17 : decode prog_14_method_59_code 17 = .ok (.istore_n 2, 1) := by decide +kernel
theorem d_Mod_barred_18 : decode prog_14_method_59_code 18 = .ok (.iconst 0, 1) := by decide +kernel
theorem d_Mod_barred_19 : decode prog_14_method_59_code 19 = .ok (.istore_n 3, 1) := by decide +kernel
theorem d_Mod_barred_20 : decode prog_14_method_59_code 20 = .ok (.iload_n 3, 1) := by decide +kernel
theorem d_Mod_barred_21 : decode prog_14_method_59_code 21 = .ok (.bipush 6, 2) := by decide +kernel
theorem d_Mod_barred_23 : decode prog_14_method_59_code 23 = .ok (.if_icmp .ge 41, 3) := by decide +kernel
theorem d_Mod_barred_26 : decode prog_14_method_59_code 26 = .ok (.iload_n 2, 1) := by decide +kernel
theorem d_Mod_barred_27 : decode prog_14_method_59_code 27 = .ok (.iload_n 1, 1) := by decide +kernel
theorem d_Mod_barred_28 : decode prog_14_method_59_code 28 = .ok (.aload_n 0, 1) := by decide +kernel
theorem d_Mod_barred_29 : decode prog_14_method_59_code 29 = .ok (.getfield 13, 3) := by decide +kernel
theorem d_Mod_barred_32 : decode prog_14_method_59_code 32 = .ok (.sipush 186, 3) := by decide +kernel
theorem d_Mod_barred_35 : decode prog_14_method_59_code 35 = .ok (.bipush 8, 2) := by decide +kernel
theorem d_Mod_barred_37 : decode prog_14_method_59_code 37 = .ok (.iload_n 3, 1) := by decide +kernel
theorem d_Mod_barred_38 : decode prog_14_method_59_code 38 = .ok (.imul, 1) := by decide +kernel
theorem d_Mod_barred_39 : decode prog_14_method_59_code 39 = .ok (.iadd, 1) := by decide +kernel
theorem d_Mod_barred_40 : decode prog_14_method_59_code 40 = .ok (.iconst 4, 1) := by decide +kernel
theorem d_Mod_barred_41 : decode prog_14_method_59_code 41 = .ok (.iadd, 1) := by decide +kernel
theorem d_Mod_barred_42 : decode prog_14_method_59_code 42 = .ok (.iaload, 1) := by decide +kernel
theorem d_Mod_barred_43 : decode prog_14_method_59_code 43 = .ok (.iconst (-1), 1) := by decide +kernel
theorem d_Mod_barred_44 : decode prog_14_method_59_code 44 = .ok (.ixor, 1) := by decide +kernel
theorem d_Mod_barred_45 : decode prog_14_method_59_code 45 = .ok (.iand, 1) := by decide +kernel
theorem d_Mod_barred_46 : decode prog_14_method_59_code 46 = .ok (.ifCond .eq 9, 3) := by decide +kernel
theorem d_Mod_barred_49 : decode prog_14_method_59_code 49 = .ok (.iconst 1, 1) := by decide +kernel
theorem d_Mod_barred_50 : decode prog_14_method_59_code 50 = .ok (.iload_n 3, 1) := by decide +kernel
theorem d_Mod_barred_51 : decode prog_14_method_59_code 51 = .ok (.ishl, 1) := by decide +kernel
theorem d_Mod_barred_52 : decode prog_14_method_59_code 52 = .ok (.goto 4, 3) := by decide +kernel
theorem d_Mod_barred_55 : decode prog_14_method_59_code 55 = .ok (.iconst 0, 1) := by decide +kernel
theorem d_Mod_barred_56 : decode prog_14_method_59_code 56 = .ok (.ior, 1) := by decide +kernel
theorem d_Mod_barred_57 : decode prog_14_method_59_code 57 = .ok (.istore_n 2, 1) := by decide +kernel
theorem d_Mod_barred_58 : decode prog_14_method_59_code 58 = .ok (.iinc 3 1, 3) := by decide +kernel
theorem d_Mod_barred_61 : decode prog_14_method_59_code 61 = .ok (.goto (-41), 3) := by decide +kernel
theorem d_Mod_barred_64 : decode prog_14_method_59_code 64 = .ok (.iload_n 2, 1) := by decide +kernel
theorem d_Mod_barred_65 : decode prog_14_method_59_code 65 = .ok (.ireturn, 1) := by decide +kernel
theorem d_Mod_glasses_0 : decode prog_14_method_60_code 0 = .ok (.iload_n 1, 1) := by decide +kernel
theorem d_Mod_glasses_1 : decode prog_14_method_60_code 1 = .ok (.invokestatic 79, 3) := by decide +kernel
theorem d_Mod_glasses_4 : decode prog_14_method_60_code 4 = .ok (.ifCond .eq 12, 3) := by decide +kernel
theorem d_Mod_glasses_7 : decode prog_14_method_60_code 7 = .ok (.iload_n 2, 1) := by decide +kernel
theorem d_Mod_glasses_8 : decode prog_14_method_60_code 8 = .ok (.iconst 1, 1) := by decide +kernel
theorem d_Mod_glasses_9 : decode prog_14_method_60_code 9 = .ok (.iconst 5, 1) := by decide +kernel
theorem d_Mod_glasses_10 : decode prog_14_method_60_code 10 = .ok (.invokestatic 82, 3) := by decide +kernel
theorem d_Mod_glasses_13 : decode prog_14_method_60_code 13 = .ok (.goto 4, 3) := by decide +kernel
theorem d_Mod_glasses_16 : decode prog_14_method_60_code 16 = .ok (.iconst (-1), 1) := by decide +kernel
theorem d_Mod_glasses_17 : decode prog_14_method_60_code 17 = .ok (.istore_n 3, 1) := by decide +kernel
theorem d_Mod_glasses_18 : decode prog_14_method_60_code 18 = .ok (.iload_n 3, 1) := by decide +kernel
theorem d_Mod_glasses_19 : decode prog_14_method_60_code 19 = .ok (.ifCond .eq 9, 3) := by decide +kernel
theorem d_Mod_glasses_22 : decode prog_14_method_60_code 22 = .ok (.aload_n 0, 1) := by decide +kernel
theorem d_Mod_glasses_23 : decode prog_14_method_60_code 23 = .ok (.iload_n 3, 1) := by decide +kernel
theorem d_Mod_glasses_24 : decode prog_14_method_60_code 24 = .ok (.invokevirtual 29, 3) := by decide +kernel
theorem d_Mod_glasses_27 : decode prog_14_method_60_code 27 = .ok (.ireturn, 1) := by decide +kernel
theorem d_Mod_glasses_28 : decode prog_14_method_60_code 28 = .ok (.aload_n 0, 1) := by decide +kernel
theorem d_Mod_glasses_29 : decode prog_14_method_60_code 29 = .ok (.getfield 13, 3) := by decide +kernel
theorem d_Mod_glasses_32 : decode prog_14_method_60_code 32 = .ok (.sipush 186, 3) := by decide +kernel
theorem d_Mod_glasses_35 : decode prog_14_method_60_code 35 = .ok (.bipush 8, 2) := by decide +kernel
theorem d_Mod_glasses_37 : decode prog_14_method_60_code 37 = .ok (.iload_n 1, 1) := by decide +kernel
theorem d_Mod_glasses_38 : decode prog_14_method_60_code 38 = .ok (.imul, 1) := by decide +kernel
theorem d_Mod_glasses_39 : decode prog_14_method_60_code 39 = .ok (.iadd, 1) := by decide +kernel
theorem d_Mod_glasses_40 : decode prog_14_method_60_code 40 = .ok (.bipush 7, 2) := by decide +kernel
theorem d_Mod_glasses_42 : decode prog_14_method_60_code 42 = .ok (.iadd, 1) := by decide +kernel
theorem d_Mod_glasses_43 : decode prog_14_method_60_code 43 = .ok (.iaload, 1) := by decide +kernel
theorem d_Mod_glasses_44 : decode prog_14_method_60_code 44 = .ok (.istore 4, 2) := by decide +kernel
theorem d_Mod_glasses_46 : decode prog_14_method_60_code 46 = .ok (.iload_n 2, 1) := by decide +kernel
theorem d_Mod_glasses_47 : decode prog_14_method_60_code 47 = .ok (.iload 4, 2) := by decide +kernel
theorem d_Mod_glasses_49 : decode prog_14_method_60_code 49 = .ok (.if_icmp .ge 7, 3) := by decide +kernel
theorem d_Mod_glasses_52 : decode prog_14_method_60_code 52 = .ok (.iload_n 2, 1) := by decide +kernel
theorem d_Mod_glasses_53 : decode prog_14_method_60_code 53 = .ok (.goto 5, 3) := by decide +kernel
theorem d_Mod_glasses_56 : decode prog_14_method_60_code 56 = .ok (.iload 4, 2) := by decide +kernel
theorem d_Mod_glasses_58 : decode prog_14_method_60_code 58 = .ok (.istore 5, 2) := by decide +kernel
theorem d_Mod_glasses_60 : decode prog_14_method_60_code 60 = .ok (.bipush (-9), 2) := by decide +kernel
theorem d_Mod_glasses_62 : decode prog_14_method_60_code 62 = .ok (.istore 6, 2) := by decide +kernel
theorem d_Mod_glasses_64 : decode prog_14_method_60_code 64 = .ok (.iconst 0, 1) := by decide +kernel
theorem d_Mod_glasses_65 : decode prog_14_method_60_code 65 = .ok (.istore 7, 2) := by decide +kernel
theorem d_Mod_glasses_67 : decode prog_14_method_60_code 67 = .ok (.iconst 0, 1) := by decide +kernel
theorem d_Mod_glasses_68 : decode prog_14_method_60_code 68 = .ok (.istore 8, 2) := by decide +kernel
theorem d_Mod_glasses_70 : decode prog_14_method_60_code 70 = .ok (.iload 8, 2) := by decide +kernel
theorem d_Mod_glasses_72 : decode prog_14_method_60_code 72 = .ok (.iconst 1, 1) := by decide +kernel
theorem d_Mod_glasses_73 : decode prog_14_method_60_code 73 = .ok (.iload 4, 2) := by decide +kernel
theorem d_Mod_glasses_75 : decode prog_14_method_60_code 75 = .ok (.ishl, 1) := by decide +kernel
theorem d_Mod_glasses_76 : decode prog_14_method_60_code 76 = .ok (.if_icmp .ge 88, 3) := by decide +kernel
theorem d_Mod_glasses_79 : decode prog_14_method_60_code 79 = .ok (.iload 8, 2) := by decide +kernel
theorem d_Mod_glasses_81 : decode prog_14_method_60_code 81 = .ok (.invokestatic 109, 3) := by decide +kernel
theorem d_Mod_glasses_84 : decode prog_14_method_60_code 84 = .ok (.iload 5, 2) := by decide +kernel
theorem d_Mod_glasses_86 : decode prog_14_method_60_code 86 = .ok (.if_icmp .eq 6, 3) := by decide +kernel
theorem d_Mod_glasses_89 : decode prog_14_method_60_code 89 = .ok (.goto 69, 3) := by decide +kernel
theorem d_Mod_glasses_92 : decode prog_14_method_60_code 92 = .ok (.iconst 0, 1) := by decide +kernel
theorem d_Mod_glasses_93 : decode prog_14_method_60_code 93 = .ok (.istore 9, 2) := by decide +kernel
theorem d_Mod_glasses_95 : decode prog_14_method_60_code 95 = .ok (.iconst 0, 1) := by decide +kernel
theorem d_Mod_glasses_96 : decode prog_14_method_60_code 96 = .ok (.istore 10, 2) := by decide +kernel
theorem d_Mod_glasses_98 : decode prog_14_method_60_code 98 = .ok (.iload 10, 2) := by decide +kernel
theorem d_Mod_glasses_100 : decode prog_14_method_60_code 100 = .ok (.iload 4, 2) := by decide +kernel
theorem d_Mod_glasses_102 : decode prog_14_method_60_code 102 = .ok (.if_icmp .ge 33, 3) := by decide +kernel
theorem d_Mod_glasses_105 : decode prog_14_method_60_code 105 = .ok (.iload 9, 2) := by decide +kernel
theorem d_Mod_glasses_107 : decode prog_14_method_60_code 107 = .ok (.iload 8, 2) := by decide +kernel
theorem d_Mod_glasses_109 : decode prog_14_method_60_code 109 = .ok (.iload 10, 2) := by decide +kernel
theorem d_Mod_glasses_111 : decode prog_14_method_60_code 111 = .ok (.ishr, 1) := by decide +kernel
theorem d_Mod_glasses_112 : decode prog_14_method_60_code 112 = .ok (.iconst 1, 1) := by decide +kernel
theorem d_Mod_glasses_113 : decode prog_14_method_60_code 113 = .ok (.iand, 1) := by decide +kernel
theorem d_Mod_glasses_114 : decode prog_14_method_60_code 114 = .ok (.aload_n 0, 1) := by decide +kernel
theorem d_Mod_glasses_115 : decode prog_14_method_60_code 115 = .ok (.getfield 13, 3) := by decide +kernel
theorem d_Mod_glasses_118 : decode prog_14_method_60_code 118 = .ok (.sipush 254, 3) := by decide +kernel
theorem d_Mod_glasses_121 : decode prog_14_method_60_code 121 = .ok (.iload 10, 2) := by decide +kernel
theorem d_Mod_glasses_123 : decode prog_14_method_60_code 123 = .ok (.iadd, 1) := by decide +kernel
theorem d_Mod_glasses_124 : decode prog_14_method_60_code 124 = .ok (.iaload, 1) := by decide +kernel
theorem d_Mod_glasses_125 : decode prog_14_method_60_code 125 = .ok (.imul, 1) := by decide +kernel
theorem d_Mod_glasses_126 : decode prog_14_method_60_code 126 = .ok (.iadd, 1) := by decide +kernel
theorem d_Mod_glasses_127 : decode prog_14_method_60_code 127 = .ok (.istore 9, 2) := by decide +kernel
theorem d_Mod_glasses_129 : decode prog_14_method_60_code 129 = .ok (.iinc 10 1, 3) := by decide +kernel
theorem d_Mod_glasses_132 : decode prog_14_method_60_code 132 = .ok (.goto (-34), 3) := by decide +kernel
theorem d_Mod_glasses_135 : decode prog_14_method_60_code 135 = .ok (.iload 6, 2) := by decide +kernel
theorem d_Mod_glasses_137 : decode prog_14_method_60_code 137 = .ok (.ifCond .lt 13, 3) := by decide +kernel
theorem d_Mod_glasses_140 : decode prog_14_method_60_code 140 = .ok (.iload 9, 2) := by decide +kernel
theorem d_Mod_glasses_142 : decode prog_14_method_60_code 142 = .ok (.iload 7, 2) := by decide +kernel
theorem d_Mod_glasses_144 : decode prog_14_method_60_code 144 = .ok (.if_icmp .gt 6, 3) := by decide +kernel
theorem d_Mod_glasses_147 : decode prog_14_method_60_code 147 = .ok (.goto 11, 3) := by decide +kernel
theorem d_Mod_glasses_150 : decode prog_14_method_60_code 150 = .ok (.iload 8, 2) := by decide +kernel
theorem d_Mod_glasses_152 : decode prog_14_method_60_code 152 = .ok (.istore 6, 2) := by decide +kernel
theorem d_Mod_glasses_154 : decode prog_14_method_60_code 154 = .ok (.iload 9, 2) := by decide +kernel
theorem d_Mod_glasses_156 : decode prog_14_method_60_code 156 = .ok (.istore 7, 2) := by decide +kernel
theorem d_Mod_glasses_158 : decode prog_14_method_60_code 158 = .ok (.iinc 8 1, 3) := by decide +kernel
theorem d_Mod_glasses_161 : decode prog_14_method_60_code 161 = .ok (.goto (-91), 3) := by decide +kernel
theorem d_Mod_glasses_164 : decode prog_14_method_60_code 164 = .ok (.iload 6, 2) := by decide +kernel
theorem d_Mod_glasses_166 : decode prog_14_method_60_code 166 = .ok (.ireturn, 1) := by decide +kernel
theorem d_Mod_image_0 : decode prog_14_method_61_code 0 = .ok (.iconst 0, 1) := by decide +kernel
theorem d_Mod_image_1 : decode prog_14_method_61_code 1 = .ok (.istore_n 1, 1) := by decide +kernel
theorem d_Mod_image_2 : decode prog_14_method_61_code 2 = .ok (.iload_n 1, 1) := by decide +kernel
theorem d_Mod_image_3 : decode prog_14_method_61_code 3 = .ok (.sipush 268, 3) := by decide +kernel
theorem d_Mod_image_6 : decode prog_14_method_61_code 6 = .ok (.if_icmp .ge 21, 3) := by decide +kernel
theorem d_Mod_image_9 : decode prog_14_method_61_code 9 = .ok (.aload_n 0, 1) := by decide +kernel
theorem d_Mod_image_10 : decode prog_14_method_61_code 10 = .ok (.getfield 16, 3) := by decide +kernel
theorem d_Mod_image_13 : decode prog_14_method_61_code 13 = .ok (.iload_n 1, 1) := by decide +kernel
theorem d_Mod_image_14 : decode prog_14_method_61_code 14 = .ok (.aload_n 0, 1) := by decide +kernel
theorem d_Mod_image_15 : decode prog_14_method_61_code 15 = .ok (.getfield 13, 3) := by decide +kernel
theorem d_Mod_image_18 : decode prog_14_method_61_code 18 = .ok (.iload_n 1, 1) := by decide +kernel
theorem d_Mod_image_19 : decode prog_14_method_61_code 19 = .ok (.iaload, 1) := by decide +kernel
theorem d_Mod_image_20 : decode prog_14_method_61_code 20 = .ok (.iastore, 1) := by decide +kernel
theorem d_Mod_image_21 : decode prog_14_method_61_code 21 = .ok (.iinc 1 1, 3) := by decide +kernel
theorem d_Mod_image_24 : decode prog_14_method_61_code 24 = .ok (.goto (-22), 3) := by decide +kernel
theorem d_Mod_image_27 : decode prog_14_method_61_code 27 = .ok (.aload_n 0, 1) := by decide +kernel
theorem d_Mod_image_28 : decode prog_14_method_61_code 28 = .ok (.iconst 1, 1) := by decide +kernel
theorem d_Mod_image_29 : decode prog_14_method_61_code 29 = .ok (.putfield 124, 3) := by decide +kernel
theorem d_Mod_image_32 : decode prog_14_method_61_code 32 = .ok (.aload_n 0, 1) := by decide +kernel
theorem d_Mod_image_33 : decode prog_14_method_61_code 33 = .ok (.getfield 13, 3) := by decide +kernel
theorem d_Mod_image_36 : decode prog_14_method_61_code 36 = .ok (.iconst 0, 1) := by decide +kernel
theorem d_Mod_image_37 : decode prog_14_method_61_code 37 = .ok (.iaload, 1) := by decide +kernel
theorem d_Mod_image_38 : decode prog_14_method_61_code 38 = .ok (.ireturn, 1) := by decide +kernel
theorem d_Mod_on_0 : decode prog_14_method_62_code 0 = .ok (.aload_n 0, 1) := by decide +kernel
theorem d_Mod_on_1 : decode prog_14_method_62_code 1 = .ok (.getfield 124, 3) := by decide +kernel
theorem d_Mod_on_4 : decode prog_14_method_62_code 4 = .ok (.ifCond .ne 10, 3) := by decide +kernel
theorem d_Mod_on_7 : decode prog_14_method_62_code 7 = .ok (.aload_n 0, 1) := by decide +kernel
theorem d_Mod_on_8 : decode prog_14_method_62_code 8 = .ok (.bipush (-3), 2) := by decide +kernel
theorem d_Mod_on_10 : decode prog_14_method_62_code 10 = .ok (.invokevirtual 29, 3) := by decide +kernel
theorem d_Mod_on_13 : decode prog_14_method_62_code 13 = .ok (.ireturn, 1) := by decide +kernel
theorem d_Mod_on_14 : decode prog_14_method_62_code 14 = .ok (.iconst 0, 1) := by decide +kernel
theorem d_Mod_on_15 : decode prog_14_method_62_code 15 = .ok (.istore_n 1, 1) := by decide +kernel
theorem d_Mod_on_16 : decode prog_14_method_62_code 16 = .ok (.iload_n 1, 1) := by decide +kernel
theorem d_Mod_on_17 : decode prog_14_method_62_code 17 = .ok (.sipush 268, 3) := by decide +kernel
theorem d_Mod_on_20 : decode prog_14_method_62_code 20 = .ok (.if_icmp .ge 21, 3) := by decide +kernel
theorem d_Mod_on_23 : decode prog_14_method_62_code 23 = .ok (.aload_n 0, 1) := by decide +kernel
theorem d_Mod_on_24 : decode prog_14_method_62_code 24 = .ok (.getfield 13, 3) := by decide +kernel
theorem d_Mod_on_27 : decode prog_14_method_62_code 27 = .ok (.iload_n 1, 1) := by decide +kernel
theorem d_Mod_on_28 : decode prog_14_method_62_code 28 = .ok (.aload_n 0, 1) := by decide +kernel
theorem d_Mod_on_29 : decode prog_14_method_62_code 29 = .ok (.getfield 16, 3) := by decide +kernel
theorem d_Mod_on_32 : decode prog_14_method_62_code 32 = .ok (.iload_n 1, 1) := by decide +kernel
theorem d_Mod_on_33 : decode prog_14_method_62_code 33 = .ok (.iaload, 1) := by decide +kernel
theorem d_Mod_on_34 : decode prog_14_method_62_code 34 = .ok (.iastore, 1) := by decide +kernel
theorem d_Mod_on_35 : decode prog_14_method_62_code 35 = .ok (.iinc 1 1, 3) := by decide +kernel
theorem d_Mod_on_38 : decode prog_14_method_62_code 38 = .ok (.goto (-22), 3) := by decide +kernel
theorem d_Mod_on_41 : decode prog_14_method_62_code 41 = .ok (.aload_n 0, 1) := by decide +kernel
theorem d_Mod_on_42 : decode prog_14_method_62_code 42 = .ok (.getfield 13, 3) := by decide +kernel
theorem d_Mod_on_45 : decode prog_14_method_62_code 45 = .ok (.iconst 0, 1) := by decide +kernel
theorem d_Mod_on_46 : decode prog_14_method_62_code 46 = .ok (.iaload, 1) := by decide +kernel
theorem d_Mod_on_47 : decode prog_14_method_62_code 47 = .ok (.ireturn, 1) := by decide +kernel
theorem d_Mod_count_0 : decode prog_14_method_63_code 0 = .ok (.iload_n 1, 1) := by decide +kernel
theorem d_Mod_count_1 : decode prog_14_method_63_code 1 = .ok (.bipush 10, 2) := by decide +kernel
theorem d_Mod_count_3 : decode prog_14_method_63_code 3 = .ok (.if_icmp .le 19, 3) := by decide +kernel
theorem d_Mod_count_6 : decode prog_14_method_63_code 6 = .ok (.iload_n 1, 1) := by decide +kernel
theorem d_Mod_count_7 : decode prog_14_method_63_code 7 = .ok (.bipush 17, 2) := by decide +kernel
theorem d_Mod_count_9 : decode prog_14_method_63_code 9 = .ok (.if_icmp .ge 13, 3) := by decide +kernel
theorem d_Mod_count_12 : decode prog_14_method_63_code 12 = .ok (.aload_n 0, 1) := by decide +kernel
theorem d_Mod_count_13 : decode prog_14_method_63_code 13 = .ok (.getfield 7, 3) := by decide +kernel
theorem d_Mod_count_16 : decode prog_14_method_63_code 16 = .ok (.iload_n 1, 1) := by decide +kernel
theorem d_Mod_count_17 : decode prog_14_method_63_code 17 = .ok (.bipush 10, 2) := by decide +kernel
theorem d_Mod_count_19 : decode prog_14_method_63_code 19 = .ok (.isub, 1) := by decide +kernel
theorem d_Mod_count_20 : decode prog_14_method_63_code 20 = .ok (.iaload, 1) := by decide +kernel
theorem d_Mod_count_21 : decode prog_14_method_63_code 21 = .ok (.ireturn, 1) := by decide +kernel
theorem d_Mod_count_22 : decode prog_14_method_63_code 22 = .ok (.iconst 0, 1) := by decide +kernel
theorem d_Mod_count_23 : decode prog_14_method_63_code 23 = .ok (.istore_n 2, 1) := by decide +kernel
theorem d_Mod_count_24 : decode prog_14_method_63_code 24 = .ok (.iload_n 1, 1) := by decide +kernel
theorem d_Mod_count_25 : decode prog_14_method_63_code 25 = .ok (.tableswitch 172 0 5 #[39, 46, 75, 82, 135, 167], 39) := by decide +kernel
theorem d_Mod_count_64 : decode prog_14_method_63_code 64 = .ok (.aload_n 0, 1) := by decide +kernel
theorem d_Mod_count_65 : decode prog_14_method_63_code 65 = .ok (.getfield 13, 3) := by decide +kernel
theorem d_Mod_count_68 : decode prog_14_method_63_code 68 = .ok (.iconst 0, 1) := by decide +kernel
theorem d_Mod_count_69 : decode prog_14_method_63_code 69 = .ok (.iaload, 1) := by decide +kernel
theorem d_Mod_count_70 : decode prog_14_method_63_code 70 = .ok (.ireturn, 1) := by decide +kernel
theorem d_Mod_count_71 : decode prog_14_method_63_code 71 = .ok (.iconst 0, 1) := by decide +kernel
theorem d_Mod_count_72 : decode prog_14_method_63_code 72 = .ok (.istore_n 3, 1) := by decide +kernel
theorem d_Mod_count_73 : decode prog_14_method_63_code 73 = .ok (.iload_n 3, 1) := by decide +kernel
theorem d_Mod_count_74 : decode prog_14_method_63_code 74 = .ok (.aload_n 0, 1) := by decide +kernel
theorem d_Mod_count_75 : decode prog_14_method_63_code 75 = .ok (.getfield 13, 3) := by decide +kernel
theorem d_Mod_count_78 : decode prog_14_method_63_code 78 = .ok (.iconst 0, 1) := by decide +kernel
theorem d_Mod_count_79 : decode prog_14_method_63_code 79 = .ok (.iaload, 1) := by decide +kernel
theorem d_Mod_count_80 : decode prog_14_method_63_code 80 = .ok (.if_icmp .ge 18, 3) := by decide +kernel
theorem d_Mod_count_83 : decode prog_14_method_63_code 83 = .ok (.iload_n 2, 1) := by decide +kernel
theorem d_Mod_count_84 : decode prog_14_method_63_code 84 = .ok (.aload_n 0, 1) := by decide +kernel
theorem d_Mod_count_85 : decode prog_14_method_63_code 85 = .ok (.iload_n 3, 1) := by decide +kernel
theorem d_Mod_count_86 : decode prog_14_method_63_code 86 = .ok (.iconst 5, 1) := by decide +kernel
theorem d_Mod_count_87 : decode prog_14_method_63_code 87 = .ok (.invokevirtual 66, 3) := by decide +kernel
theorem d_Mod_count_90 : decode prog_14_method_63_code 90 = .ok (.iadd, 1) := by decide +kernel
theorem d_Mod_count_91 : decode prog_14_method_63_code 91 = .ok (.istore_n 2, 1) := by decide +kernel
theorem d_Mod_count_92 : decode prog_14_method_63_code 92 = .ok (.iinc 3 1, 3) := by decide +kernel
theorem d_Mod_count_95 : decode prog_14_method_63_code 95 = .ok (.goto (-22), 3) := by decide +kernel
theorem d_Mod_count_98 : decode prog_14_method_63_code 98 = .ok (.iload_n 2, 1) := by decide +kernel
theorem d_Mod_count_99 : decode prog_14_method_63_code 99 = .ok (.ireturn, 1) := by decide +kernel
theorem d_Mod_count_100 : decode prog_14_method_63_code 100 = .ok (.aload_n 0, 1) := by decide +kernel
theorem d_Mod_count_101 : decode prog_14_method_63_code 101 = .ok (.getfield 13, 3) := by decide +kernel
theorem d_Mod_count_104 : decode prog_14_method_63_code 104 = .ok (.iconst 1, 1) := by decide +kernel
theorem d_Mod_count_105 : decode prog_14_method_63_code 105 = .ok (.iaload, 1) := by decide +kernel
theorem d_Mod_count_106 : decode prog_14_method_63_code 106 = .ok (.ireturn, 1) := by decide +kernel
theorem d_Mod_count_107 : decode prog_14_method_63_code 107 = .ok (.iconst 0, 1) := by decide +kernel
theorem d_Mod_count_108 : decode prog_14_method_63_code 108 = .ok (.istore_n 3, 1) := by decide +kernel
theorem d_Mod_count_109 : decode prog_14_method_63_code 109 = .ok (.iload_n 3, 1) := by decide +kernel
theorem d_Mod_count_110 : decode prog_14_method_63_code 110 = .ok (.aload_n 0, 1) := by decide +kernel
theorem d_Mod_count_111 : decode prog_14_method_63_code 111 = .ok (.getfield 13, 3) := by decide +kernel
theorem d_Mod_count_114 : decode prog_14_method_63_code 114 = .ok (.iconst 0, 1) := by decide +kernel
theorem d_Mod_count_115 : decode prog_14_method_63_code 115 = .ok (.iaload, 1) := by decide +kernel
theorem d_Mod_count_116 : decode prog_14_method_63_code 116 = .ok (.if_icmp .ge 42, 3) := by decide +kernel
theorem d_Mod_count_119 : decode prog_14_method_63_code 119 = .ok (.iconst 0, 1) := by decide +kernel
theorem d_Mod_count_120 : decode prog_14_method_63_code 120 = .ok (.istore 4, 2) := by decide +kernel
theorem d_Mod_count_122 : decode prog_14_method_63_code 122 = .ok (.iload 4, 2) := by decide +kernel
theorem d_Mod_count_124 : decode prog_14_method_63_code 124 = .ok (.iconst 3, 1) := by decide +kernel
theorem d_Mod_count_125 : decode prog_14_method_63_code 125 = .ok (.if_icmp .ge 27, 3) := by decide +kernel
theorem d_Mod_count_128 : decode prog_14_method_63_code 128 = .ok (.iload_n 2, 1) := by decide +kernel
theorem d_Mod_count_129 : decode prog_14_method_63_code 129 = .ok (.aload_n 0, 1) := by decide +kernel
theorem d_Mod_count_130 : decode prog_14_method_63_code 130 = .ok (.iload_n 3, 1) := by decide +kernel
theorem d_Mod_count_131 : decode prog_14_method_63_code 131 = .ok (.iload 4, 2) := by decide +kernel
theorem d_Mod_count_133 : decode prog_14_method_63_code 133 = .ok (.invokevirtual 66, 3) := by decide +kernel
theorem d_Mod_count_136 : decode prog_14_method_63_code 136 = .ok (.ifCond .ge 7, 3) := by decide +kernel
theorem d_Mod_count_139 : decode prog_14_method_63_code 139 = .ok (.iconst 1, 1) := by decide +kernel
theorem d_Mod_count_140 : decode prog_14_method_63_code 140 = .ok (.goto 4, 3) := by decide +kernel
theorem d_Mod_count_143 : decode prog_14_method_63_code 143 = .ok (.iconst 0, 1) := by decide +kernel
theorem d_Mod_count_144 : decode prog_14_method_63_code 144 = .ok (.iadd, 1) := by decide +kernel
theorem d_Mod_count_145 : decode prog_14_method_63_code 145 = .ok (.istore_n 2, 1) := by decide +kernel
theorem d_Mod_count_146 : decode prog_14_method_63_code 146 = .ok (.iinc 4 1, 3) := by decide +kernel
theorem d_Mod_count_149 : decode prog_14_method_63_code 149 = .ok (.goto (-27), 3) := by decide +kernel
theorem d_Mod_count_152 : decode prog_14_method_63_code 152 = .ok (.iinc 3 1, 3) := by decide +kernel
theorem d_Mod_count_155 : decode prog_14_method_63_code 155 = .ok (.goto (-46), 3) := by decide +kernel
theorem d_Mod_count_158 : decode prog_14_method_63_code 158 = .ok (.iload_n 2, 1) := by decide +kernel
theorem d_Mod_count_159 : decode prog_14_method_63_code 159 = .ok (.ireturn, 1) := by decide +kernel
theorem d_Mod_count_160 : decode prog_14_method_63_code 160 = .ok (.iconst 0, 1) := by decide +kernel
theorem d_Mod_count_161 : decode prog_14_method_63_code 161 = .ok (.istore_n 3, 1) := by decide +kernel
theorem d_Mod_count_162 : decode prog_14_method_63_code 162 = .ok (.iload_n 3, 1) := by decide +kernel
theorem d_Mod_count_163 : decode prog_14_method_63_code 163 = .ok (.aload_n 0, 1) := by decide +kernel
theorem d_Mod_count_164 : decode prog_14_method_63_code 164 = .ok (.getfield 13, 3) := by decide +kernel
theorem d_Mod_count_167 : decode prog_14_method_63_code 167 = .ok (.iconst 0, 1) := by decide +kernel
theorem d_Mod_count_168 : decode prog_14_method_63_code 168 = .ok (.iaload, 1) := by decide +kernel
theorem d_Mod_count_169 : decode prog_14_method_63_code 169 = .ok (.if_icmp .ge 21, 3) := by decide +kernel
theorem d_Mod_count_172 : decode prog_14_method_63_code 172 = .ok (.iload_n 2, 1) := by decide +kernel
theorem d_Mod_count_173 : decode prog_14_method_63_code 173 = .ok (.aload_n 0, 1) := by decide +kernel
theorem d_Mod_count_174 : decode prog_14_method_63_code 174 = .ok (.iload_n 3, 1) := by decide +kernel
theorem d_Mod_count_175 : decode prog_14_method_63_code 175 = .ok (.iconst 3, 1) := by decide +kernel
theorem d_Mod_count_176 : decode prog_14_method_63_code 176 = .ok (.invokevirtual 66, 3) := by decide +kernel
theorem d_Mod_count_179 : decode prog_14_method_63_code 179 = .ok (.invokestatic 109, 3) := by decide +kernel
theorem d_Mod_count_182 : decode prog_14_method_63_code 182 = .ok (.iadd, 1) := by decide +kernel
theorem d_Mod_count_183 : decode prog_14_method_63_code 183 = .ok (.istore_n 2, 1) := by decide +kernel
theorem d_Mod_count_184 : decode prog_14_method_63_code 184 = .ok (.iinc 3 1, 3) := by decide +kernel
theorem d_Mod_count_187 : decode prog_14_method_63_code 187 = .ok (.goto (-25), 3) := by decide +kernel
theorem d_Mod_count_190 : decode prog_14_method_63_code 190 = .ok (.iload_n 2, 1) := by decide +kernel
theorem d_Mod_count_191 : decode prog_14_method_63_code 191 = .ok (.ireturn, 1) := by decide +kernel
theorem d_Mod_count_192 : decode prog_14_method_63_code 192 = .ok (.aload_n 0, 1) := by decide +kernel
theorem d_Mod_count_193 : decode prog_14_method_63_code 193 = .ok (.getfield 33, 3) := by decide +kernel
theorem d_Mod_count_196 : decode prog_14_method_63_code 196 = .ok (.ireturn, 1) := by decide +kernel
theorem d_Mod_count_197 : decode prog_14_method_63_code 197 = .ok (.bipush (-9), 2) := by decide +kernel
theorem d_Mod_count_199 : decode prog_14_method_63_code 199 = .ok (.ireturn, 1) := by decide +kernel
end
section
theorem d_Ben_init_0 : decode prog_2_method_1_code 0 = .ok (.aload_n 0, 1) := by decide +kernel
theorem d_Ben_init_1 : decode prog_2_method_1_code 1 = .ok (.invokespecial 3, 3) := by decide +kernel
theorem d_Ben_init_4 : decode prog_2_method_1_code 4 = .ok (.return_, 1) := by decide +kernel
theorem d_Ben_tell_0 : decode prog_2_method_2_code 0 = .ok (.aload_n 0, 1) := by decide +kernel
theorem d_Ben_tell_1 : decode prog_2_method_2_code 1 = .ok (.iload_n 1, 1) := by decide +kernel
theorem d_Ben_tell_2 : decode prog_2_method_2_code 2 = .ok (.putfield 9, 3) := by decide +kernel
theorem d_Ben_tell_5 : decode prog_2_method_2_code 5 = .ok (.aload_n 0, 1) := by decide +kernel
theorem d_Ben_tell_6 : decode prog_2_method_2_code 6 = .ok (.iload_n 2, 1) := by decide +kernel
theorem d_Ben_tell_7 : decode prog_2_method_2_code 7 = .ok (.putfield 15, 3) := by decide +kernel
theorem d_Ben_tell_10 : decode prog_2_method_2_code 10 = .ok (.aload_n 0, 1) := by decide +kernel
theorem d_Ben_tell_11 : decode prog_2_method_2_code 11 = .ok (.iload_n 3, 1) := by decide +kernel
theorem d_Ben_tell_12 : decode prog_2_method_2_code 12 = .ok (.putfield 18, 3) := by decide +kernel
theorem d_Ben_tell_15 : decode prog_2_method_2_code 15 = .ok (.aload_n 0, 1) := by decide +kernel
theorem d_Ben_tell_16 : decode prog_2_method_2_code 16 = .ok (.iload 4, 2) := by decide +kernel
theorem d_Ben_tell_18 : decode prog_2_method_2_code 18 = .ok (.putfield 21, 3) := by decide +kernel
theorem d_Ben_tell_21 : decode prog_2_method_2_code 21 = .ok (.return_, 1) := by decide +kernel
theorem d_Ben_linesLacking_0 : decode prog_2_method_3_code 0 = .ok (.aload_n 1, 1) := by decide +kernel
theorem d_Ben_linesLacking_1 : decode prog_2_method_3_code 1 = .ok (.getfield 24, 3) := by decide +kernel
theorem d_Ben_linesLacking_4 : decode prog_2_method_3_code 4 = .ok (.aload_n 0, 1) := by decide +kernel
theorem d_Ben_linesLacking_5 : decode prog_2_method_3_code 5 = .ok (.getfield 21, 3) := by decide +kernel
theorem d_Ben_linesLacking_8 : decode prog_2_method_3_code 8 = .ok (.iconst (-1), 1) := by decide +kernel
theorem d_Ben_linesLacking_9 : decode prog_2_method_3_code 9 = .ok (.ixor, 1) := by decide +kernel
theorem d_Ben_linesLacking_10 : decode prog_2_method_3_code 10 = .ok (.iand, 1) := by decide +kernel
theorem d_Ben_linesLacking_11 : decode prog_2_method_3_code 11 = .ok (.iconst 3, 1) := by decide +kernel
theorem d_Ben_linesLacking_12 : decode prog_2_method_3_code 12 = .ok (.ishl, 1) := by decide +kernel
theorem d_Ben_linesLacking_13 : decode prog_2_method_3_code 13 = .ok (.istore_n 2, 1) := by decide +kernel
theorem d_Ben_linesLacking_14 : decode prog_2_method_3_code 14 = .ok (.iload_n 2, 1) := by decide +kernel
theorem d_Ben_linesLacking_15 : decode prog_2_method_3_code 15 = .ok (.aload_n 0, 1) := by decide +kernel
theorem d_Ben_linesLacking_16 : decode prog_2_method_3_code 16 = .ok (.getfield 9, 3) := by decide +kernel
theorem d_Ben_linesLacking_19 : decode prog_2_method_3_code 19 = .ok (.aload_n 1, 1) := by decide +kernel
theorem d_Ben_linesLacking_20 : decode prog_2_method_3_code 20 = .ok (.getfield 27, 3) := by decide +kernel
theorem d_Ben_linesLacking_23 : decode prog_2_method_3_code 23 = .ok (.if_icmp .ge 7, 3) := by decide +kernel
theorem d_Ben_linesLacking_26 : decode prog_2_method_3_code 26 = .ok (.iconst 1, 1) := by decide +kernel
theorem d_Ben_linesLacking_27 : decode prog_2_method_3_code 27 = .ok (.goto 4, 3) := by decide +kernel
theorem d_Ben_linesLacking_30 : decode prog_2_method_3_code 30 = .ok (.iconst 0, 1) := by decide +kernel
theorem d_Ben_linesLacking_31 : decode prog_2_method_3_code 31 = .ok (.ior, 1) := by decide +kernel
theorem d_Ben_linesLacking_32 : decode prog_2_method_3_code 32 = .ok (.istore_n 2, 1) := by decide +kernel
theorem d_Ben_linesLacking_33 : decode prog_2_method_3_code 33 = .ok (.iload_n 2, 1) := by decide +kernel
theorem d_Ben_linesLacking_34 : decode prog_2_method_3_code 34 = .ok (.aload_n 0, 1) := by decide +kernel
theorem d_Ben_linesLacking_35 : decode prog_2_method_3_code 35 = .ok (.getfield 15, 3) := by decide +kernel
theorem d_Ben_linesLacking_38 : decode prog_2_method_3_code 38 = .ok (.aload_n 1, 1) := by decide +kernel
theorem d_Ben_linesLacking_39 : decode prog_2_method_3_code 39 = .ok (.getfield 28, 3) := by decide +kernel
theorem d_Ben_linesLacking_42 : decode prog_2_method_3_code 42 = .ok (.if_icmp .ge 7, 3) := by decide +kernel
theorem d_Ben_linesLacking_45 : decode prog_2_method_3_code 45 = .ok (.iconst 2, 1) := by decide +kernel
theorem d_Ben_linesLacking_46 : decode prog_2_method_3_code 46 = .ok (.goto 4, 3) := by decide +kernel
theorem d_Ben_linesLacking_49 : decode prog_2_method_3_code 49 = .ok (.iconst 0, 1) := by decide +kernel
theorem d_Ben_linesLacking_50 : decode prog_2_method_3_code 50 = .ok (.ior, 1) := by decide +kernel
theorem d_Ben_linesLacking_51 : decode prog_2_method_3_code 51 = .ok (.istore_n 2, 1) := by decide +kernel
theorem d_Ben_linesLacking_52 : decode prog_2_method_3_code 52 = .ok (.iload_n 2, 1) := by decide +kernel
theorem d_Ben_linesLacking_53 : decode prog_2_method_3_code 53 = .ok (.aload_n 1, 1) := by decide +kernel
theorem d_Ben_linesLacking_54 : decode prog_2_method_3_code 54 = .ok (.getfield 29, 3) := by decide +kernel
theorem d_Ben_linesLacking_57 : decode prog_2_method_3_code 57 = .ok (.bipush (-9), 2) := by decide +kernel
theorem d_Ben_linesLacking_59 : decode prog_2_method_3_code 59 = .ok (.if_icmp .eq 18, 3) := by decide +kernel
theorem d_Ben_linesLacking_62 : decode prog_2_method_3_code 62 = .ok (.aload_n 1, 1) := by decide +kernel
theorem d_Ben_linesLacking_63 : decode prog_2_method_3_code 63 = .ok (.getfield 29, 3) := by decide +kernel
theorem d_Ben_linesLacking_66 : decode prog_2_method_3_code 66 = .ok (.aload_n 0, 1) := by decide +kernel
theorem d_Ben_linesLacking_67 : decode prog_2_method_3_code 67 = .ok (.getfield 18, 3) := by decide +kernel
theorem d_Ben_linesLacking_70 : decode prog_2_method_3_code 70 = .ok (.if_icmp .eq 7, 3) := by decide +kernel
theorem d_Ben_linesLacking_73 : decode prog_2_method_3_code 73 = .ok (.iconst 4, 1) := by decide +kernel
theorem d_Ben_linesLacking_74 : decode prog_2_method_3_code 74 = .ok (.goto 4, 3) := by decide +kernel
theorem d_Ben_linesLacking_77 : decode prog_2_method_3_code 77 = .ok (.iconst 0, 1) := by decide +kernel
theorem d_Ben_linesLacking_78 : decode prog_2_method_3_code 78 = .ok (.ior, 1) := by decide +kernel
theorem d_Ben_linesLacking_79 : decode prog_2_method_3_code 79 = .ok (.istore_n 2, 1) := by decide +kernel
theorem d_Ben_linesLacking_80 : decode prog_2_method_3_code 80 = .ok (.iload_n 2, 1) := by decide +kernel
theorem d_Ben_linesLacking_81 : decode prog_2_method_3_code 81 = .ok (.ireturn, 1) := by decide +kernel
theorem d_Cal_init_0 : decode prog_3_method_1_code 0 = .ok (.aload_n 0, 1) := by decide +kernel
theorem d_Cal_init_1 : decode prog_3_method_1_code 1 = .ok (.aload_n 1, 1) := by decide +kernel
theorem d_Cal_init_2 : decode prog_3_method_1_code 2 = .ok (.invokespecial 1, 3) := by decide +kernel
theorem d_Cal_init_5 : decode prog_3_method_1_code 5 = .ok (.return_, 1) := by decide +kernel
theorem d_Cal_kindNumber_0 : decode prog_3_method_2_code 0 = .ok (.iconst 5, 1) := by decide +kernel
theorem d_Cal_kindNumber_1 : decode prog_3_method_2_code 1 = .ok (.ireturn, 1) := by decide +kernel
theorem d_Cal_ownWeight_0 : decode prog_3_method_3_code 0 = .ok (.iconst 1, 1) := by decide +kernel
theorem d_Cal_ownWeight_1 : decode prog_3_method_3_code 1 = .ok (.ireturn, 1) := by decide +kernel
theorem d_Eye_init_0 : decode prog_4_method_1_code 0 = .ok (.aload_n 0, 1) := by decide +kernel
theorem d_Eye_init_1 : decode prog_4_method_1_code 1 = .ok (.aload_n 1, 1) := by decide +kernel
theorem d_Eye_init_2 : decode prog_4_method_1_code 2 = .ok (.invokespecial 1, 3) := by decide +kernel
theorem d_Eye_init_5 : decode prog_4_method_1_code 5 = .ok (.return_, 1) := by decide +kernel
theorem d_Eye_kindNumber_0 : decode prog_4_method_2_code 0 = .ok (.iconst 3, 1) := by decide +kernel
theorem d_Eye_kindNumber_1 : decode prog_4_method_2_code 1 = .ok (.ireturn, 1) := by decide +kernel
theorem d_Eye_ownWeight_0 : decode prog_4_method_3_code 0 = .ok (.iconst 5, 1) := by decide +kernel
theorem d_Eye_ownWeight_1 : decode prog_4_method_3_code 1 = .ok (.ireturn, 1) := by decide +kernel
theorem d_Gro_init_0 : decode prog_5_method_1_code 0 = .ok (.aload_n 0, 1) := by decide +kernel
theorem d_Gro_init_1 : decode prog_5_method_1_code 1 = .ok (.aload_n 1, 1) := by decide +kernel
theorem d_Gro_init_2 : decode prog_5_method_1_code 2 = .ok (.invokespecial 3, 3) := by decide +kernel
theorem d_Gro_init_5 : decode prog_5_method_1_code 5 = .ok (.return_, 1) := by decide +kernel
theorem d_Gro_kindNumber_0 : decode prog_5_method_2_code 0 = .ok (.iconst 4, 1) := by decide +kernel
theorem d_Gro_kindNumber_1 : decode prog_5_method_2_code 1 = .ok (.ireturn, 1) := by decide +kernel
theorem d_Gro_ownWeight_0 : decode prog_5_method_3_code 0 = .ok (.aload_n 0, 1) := by decide +kernel
theorem d_Gro_ownWeight_1 : decode prog_5_method_3_code 1 = .ok (.invokespecial 9, 3) := by decide +kernel
theorem d_Gro_ownWeight_4 : decode prog_5_method_3_code 4 = .ok (.aload_n 0, 1) := by decide +kernel
theorem d_Gro_ownWeight_5 : decode prog_5_method_3_code 5 = .ok (.getfield 13, 3) := by decide +kernel
theorem d_Gro_ownWeight_8 : decode prog_5_method_3_code 8 = .ok (.bipush 20, 2) := by decide +kernel
theorem d_Gro_ownWeight_10 : decode prog_5_method_3_code 10 = .ok (.idiv, 1) := by decide +kernel
theorem d_Gro_ownWeight_11 : decode prog_5_method_3_code 11 = .ok (.isub, 1) := by decide +kernel
theorem d_Gro_ownWeight_12 : decode prog_5_method_3_code 12 = .ok (.ireturn, 1) := by decide +kernel
theorem d_Law_init_0 : decode prog_6_method_1_code 0 = .ok (.aload_n 0, 1) := by decide +kernel
theorem d_Law_init_1 : decode prog_6_method_1_code 1 = .ok (.invokespecial 3, 3) := by decide +kernel
theorem d_Law_init_4 : decode prog_6_method_1_code 4 = .ok (.aload_n 0, 1) := by decide +kernel
theorem d_Law_init_5 : decode prog_6_method_1_code 5 = .ok (.bipush 7, 2) := by decide +kernel
theorem d_Law_init_7 : decode prog_6_method_1_code 7 = .ok (.newarray .int, 2) := by decide +kernel
theorem d_Law_init_9 : decode prog_6_method_1_code 9 = .ok (.putfield 9, 3) := by decide +kernel
theorem d_Law_init_12 : decode prog_6_method_1_code 12 = .ok (.aload_n 0, 1) := by decide +kernel
theorem d_Law_init_13 : decode prog_6_method_1_code 13 = .ok (.getfield 9, 3) := by decide +kernel
theorem d_Law_init_16 : decode prog_6_method_1_code 16 = .ok (.iconst 1, 1) := by decide +kernel
theorem d_Law_init_17 : decode prog_6_method_1_code 17 = .ok (.sipush 999, 3) := by decide +kernel
theorem d_Law_init_20 : decode prog_6_method_1_code 20 = .ok (.iastore, 1) := by decide +kernel
theorem d_Law_init_21 : decode prog_6_method_1_code 21 = .ok (.aload_n 0, 1) := by decide +kernel
theorem d_Law_init_22 : decode prog_6_method_1_code 22 = .ok (.getfield 9, 3) := by decide +kernel
theorem d_Law_init_25 : decode prog_6_method_1_code 25 = .ok (.iconst 3, 1) := by decide +kernel
theorem d_Law_init_26 : decode prog_6_method_1_code 26 = .ok (.sipush 999, 3) := by decide +kernel
theorem d_Law_init_29 : decode prog_6_method_1_code 29 = .ok (.iastore, 1) := by decide +kernel
theorem d_Law_init_30 : decode prog_6_method_1_code 30 = .ok (.aload_n 0, 1) := by decide +kernel
theorem d_Law_init_31 : decode prog_6_method_1_code 31 = .ok (.getfield 9, 3) := by decide +kernel
theorem d_Law_init_34 : decode prog_6_method_1_code 34 = .ok (.iconst 4, 1) := by decide +kernel
theorem d_Law_init_35 : decode prog_6_method_1_code 35 = .ok (.sipush 255, 3) := by decide +kernel
theorem d_Law_init_38 : decode prog_6_method_1_code 38 = .ok (.iastore, 1) := by decide +kernel
theorem d_Law_init_39 : decode prog_6_method_1_code 39 = .ok (.aload_n 0, 1) := by decide +kernel
theorem d_Law_init_40 : decode prog_6_method_1_code 40 = .ok (.bipush 10, 2) := by decide +kernel
theorem d_Law_init_42 : decode prog_6_method_1_code 42 = .ok (.putfield 15, 3) := by decide +kernel
theorem d_Law_init_45 : decode prog_6_method_1_code 45 = .ok (.return_, 1) := by decide +kernel
theorem d_Law_becomeLike_0 : decode prog_6_method_2_code 0 = .ok (.aload_n 1, 1) := by decide +kernel
theorem d_Law_becomeLike_1 : decode prog_6_method_2_code 1 = .ok (.getfield 9, 3) := by decide +kernel
theorem d_Law_becomeLike_4 : decode prog_6_method_2_code 4 = .ok (.aload_n 0, 1) := by decide +kernel
theorem d_Law_becomeLike_5 : decode prog_6_method_2_code 5 = .ok (.getfield 9, 3) := by decide +kernel
theorem d_Law_becomeLike_8 : decode prog_6_method_2_code 8 = .ok (.invokestatic 19, 3) := by decide +kernel
theorem d_Law_becomeLike_11 : decode prog_6_method_2_code 11 = .ok (.aload_n 0, 1) := by decide +kernel
theorem d_Law_becomeLike_12 : decode prog_6_method_2_code 12 = .ok (.aload_n 1, 1) := by decide +kernel
theorem d_Law_becomeLike_13 : decode prog_6_method_2_code 13 = .ok (.getfield 15, 3) := by decide +kernel
theorem d_Law_becomeLike_16 : decode prog_6_method_2_code 16 = .ok (.putfield 15, 3) := by decide +kernel
theorem d_Law_becomeLike_19 : decode prog_6_method_2_code 19 = .ok (.return_, 1) := by decide +kernel
theorem d_Law_brokenBy_0 : decode prog_6_method_3_code 0 = .ok (.iconst 0, 1) := by decide +kernel
theorem d_Law_brokenBy_1 : decode prog_6_method_3_code 1 = .ok (.istore 4, 2) := by decide +kernel
theorem d_Law_brokenBy_3 : decode prog_6_method_3_code 3 = .ok (.iload_n 2, 1) := by decide +kernel
theorem d_Law_brokenBy_4 : decode prog_6_method_3_code 4 = .ok (.bipush (-9), 2) := by decide +kernel
theorem d_Law_brokenBy_6 : decode prog_6_method_3_code 6 = .ok (.if_icmp .eq 43, 3) := by decide +kernel
theorem d_Law_brokenBy_9 : decode prog_6_method_3_code 9 = .ok (.iload 4, 2) := by decide +kernel
theorem d_Law_brokenBy_11 : decode prog_6_method_3_code 11 = .ok (.iload_n 2, 1) := by decide +kernel
theorem d_Law_brokenBy_12 : decode prog_6_method_3_code 12 = .ok (.aload_n 0, 1) := by decide +kernel
theorem d_Law_brokenBy_13 : decode prog_6_method_3_code 13 = .ok (.getfield 9, 3) := by decide +kernel
theorem d_Law_brokenBy_16 : decode prog_6_method_3_code 16 = .ok (.iconst 0, 1) := by decide +kernel
theorem d_Law_brokenBy_17 : decode prog_6_method_3_code 17 = .ok (.iaload, 1) := by decide +kernel
theorem d_Law_brokenBy_18 : decode prog_6_method_3_code 18 = .ok (.if_icmp .ge 7, 3) := by decide +kernel
theorem d_Law_brokenBy_21 : decode prog_6_method_3_code 21 = .ok (.iconst 1, 1) := by decide +kernel
theorem d_Law_brokenBy_22 : decode prog_6_method_3_code 22 = .ok (.goto 4, 3) := by decide +kernel
theorem d_Law_brokenBy_25 : decode prog_6_method_3_code 25 = .ok (.iconst 0, 1) := by decide +kernel
theorem d_Law_brokenBy_26 : decode prog_6_method_3_code 26 = .ok (.ior, 1) := by decide +kernel
theorem d_Law_brokenBy_27 : decode prog_6_method_3_code 27 = .ok (.istore 4, 2) := by decide +kernel
theorem d_Law_brokenBy_29 : decode prog_6_method_3_code 29 = .ok (.iload 4, 2) := by decide +kernel
theorem d_Law_brokenBy_31 : decode prog_6_method_3_code 31 = .ok (.iload_n 2, 1) := by decide +kernel
theorem d_Law_brokenBy_32 : decode prog_6_method_3_code 32 = .ok (.aload_n 0, 1) := by decide +kernel
theorem d_Law_brokenBy_33 : decode prog_6_method_3_code 33 = .ok (.getfield 9, 3) := by decide +kernel
theorem d_Law_brokenBy_36 : decode prog_6_method_3_code 36 = .ok (.iconst 1, 1) := by decide +kernel
theorem d_Law_brokenBy_37 : decode prog_6_method_3_code 37 = .ok (.iaload, 1) := by decide +kernel
theorem d_Law_brokenBy_38 : decode prog_6_method_3_code 38 = .ok (.if_icmp .le 7, 3) := by decide +kernel
theorem d_Law_brokenBy_41 : decode prog_6_method_3_code 41 = .ok (.iconst 2, 1) := by decide +kernel
theorem d_Law_brokenBy_42 : decode prog_6_method_3_code 42 = .ok (.goto 4, 3) := by decide +kernel
theorem d_Law_brokenBy_45 : decode prog_6_method_3_code 45 = .ok (.iconst 0, 1) := by decide +kernel
theorem d_Law_brokenBy_46 : decode prog_6_method_3_code 46 = .ok (.ior, 1) := by decide +kernel
theorem d_Law_brokenBy_47 : decode prog_6_method_3_code 47 = .ok (.istore 4, 2) := by decide +kernel
theorem d_Law_brokenBy_49 : decode prog_6_method_3_code 49 = .ok (.iload_n 3, 1) := by decide +kernel
theorem d_Law_brokenBy_50 : decode prog_6_method_3_code 50 = .ok (.bipush (-9), 2) := by decide +kernel
theorem d_Law_brokenBy_52 : decode prog_6_method_3_code 52 = .ok (.if_icmp .eq 44, 3) := by decide +kernel
theorem d_Law_brokenBy_55 : decode prog_6_method_3_code 55 = .ok (.iload 4, 2) := by decide +kernel
theorem d_Law_brokenBy_57 : decode prog_6_method_3_code 57 = .ok (.iload_n 3, 1) := by decide +kernel
theorem d_Law_brokenBy_58 : decode prog_6_method_3_code 58 = .ok (.aload_n 0, 1) := by decide +kernel
theorem d_Law_brokenBy_59 : decode prog_6_method_3_code 59 = .ok (.getfield 9, 3) := by decide +kernel
theorem d_Law_brokenBy_62 : decode prog_6_method_3_code 62 = .ok (.iconst 2, 1) := by decide +kernel
theorem d_Law_brokenBy_63 : decode prog_6_method_3_code 63 = .ok (.iaload, 1) := by decide +kernel
theorem d_Law_brokenBy_64 : decode prog_6_method_3_code 64 = .ok (.if_icmp .ge 7, 3) := by decide +kernel
theorem d_Law_brokenBy_67 : decode prog_6_method_3_code 67 = .ok (.iconst 4, 1) := by decide +kernel
theorem d_Law_brokenBy_68 : decode prog_6_method_3_code 68 = .ok (.goto 4, 3) := by decide +kernel
theorem d_Law_brokenBy_71 : decode prog_6_method_3_code 71 = .ok (.iconst 0, 1) := by decide +kernel
theorem d_Law_brokenBy_72 : decode prog_6_method_3_code 72 = .ok (.ior, 1) := by decide +kernel
theorem d_Law_brokenBy_73 : decode prog_6_method_3_code 73 = .ok (.istore 4, 2) := by decide +kernel
theorem d_Law_brokenBy_75 : decode prog_6_method_3_code 75 = .ok (.iload 4, 2) := by decide +kernel
theorem d_Law_brokenBy_77 : decode prog_6_method_3_code 77 = .ok (.iload_n 3, 1) := by decide +kernel
theorem d_Law_brokenBy_78 : decode prog_6_method_3_code 78 = .ok (.aload_n 0, 1) := by decide +kernel
theorem d_Law_brokenBy_79 : decode prog_6_method_3_code 79 = .ok (.getfield 9, 3) := by decide +kernel
theorem d_Law_brokenBy_82 : decode prog_6_method_3_code 82 = .ok (.iconst 3, 1) := by decide +kernel
theorem d_Law_brokenBy_83 : decode prog_6_method_3_code 83 = .ok (.iaload, 1) := by decide +kernel
theorem d_Law_brokenBy_84 : decode prog_6_method_3_code 84 = .ok (.if_icmp .le 8, 3) := by decide +kernel
theorem d_Law_brokenBy_87 : decode prog_6_method_3_code 87 = .ok (.bipush 8, 2) := by decide +kernel
theorem d_Law_brokenBy_89 : decode prog_6_method_3_code 89 = .ok (.goto 4, 3) := by decide +kernel
theorem d_Law_brokenBy_92 : decode prog_6_method_3_code 92 = .ok (.iconst 0, 1) := by decide +kernel
theorem d_Law_brokenBy_93 : decode prog_6_method_3_code 93 = .ok (.ior, 1) := by decide +kernel
theorem d_Law_brokenBy_94 : decode prog_6_method_3_code 94 = .ok (.istore 4, 2) := by decide +kernel
theorem d_Law_brokenBy_96 : decode prog_6_method_3_code 96 = .ok (.aload_n 1, 1) := by decide +kernel
theorem d_Law_brokenBy_97 : decode prog_6_method_3_code 97 = .ok (.getfield 23, 3) := by decide +kernel
theorem d_Law_brokenBy_100 : decode prog_6_method_3_code 100 = .ok (.bipush (-9), 2) := by decide +kernel
theorem d_Law_brokenBy_102 : decode prog_6_method_3_code 102 = .ok (.if_icmp .eq 26, 3) := by decide +kernel
theorem d_Law_brokenBy_105 : decode prog_6_method_3_code 105 = .ok (.aload_n 0, 1) := by decide +kernel
theorem d_Law_brokenBy_106 : decode prog_6_method_3_code 106 = .ok (.getfield 9, 3) := by decide +kernel
theorem d_Law_brokenBy_109 : decode prog_6_method_3_code 109 = .ok (.iconst 4, 1) := by decide +kernel
theorem d_Law_brokenBy_110 : decode prog_6_method_3_code 110 = .ok (.iaload, 1) := by decide +kernel
theorem d_Law_brokenBy_111 : decode prog_6_method_3_code 111 = .ok (.aload_n 1, 1) := by decide +kernel
theorem d_Law_brokenBy_112 : decode prog_6_method_3_code 112 = .ok (.getfield 23, 3) := by decide +kernel
theorem d_Law_brokenBy_115 : decode prog_6_method_3_code 115 = .ok (.invokestatic 28, 3) := by decide +kernel
theorem d_Law_brokenBy_118 : decode prog_6_method_3_code 118 = .ok (.ifCond .ne 10, 3) := by decide +kernel
theorem d_Law_brokenBy_121 : decode prog_6_method_3_code 121 = .ok (.iload 4, 2) := by decide +kernel
theorem d_Law_brokenBy_123 : decode prog_6_method_3_code 123 = .ok (.bipush 16, 2) := by decide +kernel
theorem d_Law_brokenBy_125 : decode prog_6_method_3_code 125 = .ok (.ior, 1) := by decide +kernel
theorem d_Law_brokenBy_126 : decode prog_6_method_3_code 126 = .ok (.istore 4, 2) := by decide +kernel
theorem d_Law_brokenBy_128 : decode prog_6_method_3_code 128 = .ok (.iload 4, 2) := by decide +kernel
theorem d_Law_brokenBy_130 : decode prog_6_method_3_code 130 = .ok (.aload_n 0, 1) := by decide +kernel
theorem d_Law_brokenBy_131 : decode prog_6_method_3_code 131 = .ok (.getfield 9, 3) := by decide +kernel
theorem d_Law_brokenBy_134 : decode prog_6_method_3_code 134 = .ok (.iconst 5, 1) := by decide +kernel
theorem d_Law_brokenBy_135 : decode prog_6_method_3_code 135 = .ok (.iaload, 1) := by decide +kernel
theorem d_Law_brokenBy_136 : decode prog_6_method_3_code 136 = .ok (.aload_n 1, 1) := by decide +kernel
theorem d_Law_brokenBy_137 : decode prog_6_method_3_code 137 = .ok (.getfield 32, 3) := by decide +kernel
theorem d_Law_brokenBy_140 : decode prog_6_method_3_code 140 = .ok (.iconst (-1), 1) := by decide +kernel
theorem d_Law_brokenBy_141 : decode prog_6_method_3_code 141 = .ok (.ixor, 1) := by decide +kernel
theorem d_Law_brokenBy_142 : decode prog_6_method_3_code 142 = .ok (.iand, 1) := by decide +kernel
theorem d_Law_brokenBy_143 : decode prog_6_method_3_code 143 = .ok (.ifCond .eq 8, 3) := by decide +kernel
theorem d_Law_brokenBy_146 : decode prog_6_method_3_code 146 = .ok (.bipush 32, 2) := by decide +kernel
theorem d_Law_brokenBy_148 : decode prog_6_method_3_code 148 = .ok (.goto 4, 3) := by decide +kernel
theorem d_Law_brokenBy_151 : decode prog_6_method_3_code 151 = .ok (.iconst 0, 1) := by decide +kernel
theorem d_Law_brokenBy_152 : decode prog_6_method_3_code 152 = .ok (.ior, 1) := by decide +kernel
theorem d_Law_brokenBy_153 : decode prog_6_method_3_code 153 = .ok (.istore 4, 2) := by decide +kernel
theorem d_Law_brokenBy_155 : decode prog_6_method_3_code 155 = .ok (.iload 4, 2) := by decide +kernel
theorem d_Law_brokenBy_157 : decode prog_6_method_3_code 157 = .ok (.aload_n 0, 1) := by decide +kernel
theorem d_Law_brokenBy_158 : decode prog_6_method_3_code 158 = .ok (.getfield 9, 3) := by decide +kernel
theorem d_Law_brokenBy_161 : decode prog_6_method_3_code 161 = .ok (.bipush 6, 2) := by decide +kernel
theorem d_Law_brokenBy_163 : decode prog_6_method_3_code 163 = .ok (.iaload, 1) := by decide +kernel
theorem d_Law_brokenBy_164 : decode prog_6_method_3_code 164 = .ok (.aload_n 1, 1) := by decide +kernel
theorem d_Law_brokenBy_165 : decode prog_6_method_3_code 165 = .ok (.getfield 32, 3) := by decide +kernel
theorem d_Law_brokenBy_168 : decode prog_6_method_3_code 168 = .ok (.iand, 1) := by decide +kernel
theorem d_Law_brokenBy_169 : decode prog_6_method_3_code 169 = .ok (.ifCond .eq 8, 3) := by decide +kernel
theorem d_Law_brokenBy_172 : decode prog_6_method_3_code 172 = .ok (.bipush 64, 2) := by decide +kernel
theorem d_Law_brokenBy_174 : decode prog_6_method_3_code 174 = .ok (.goto 4, 3) := by decide +kernel
theorem d_Law_brokenBy_177 : decode prog_6_method_3_code 177 = .ok (.iconst 0, 1) := by decide +kernel
theorem d_Law_brokenBy_178 : decode prog_6_method_3_code 178 = .ok (.ior, 1) := by decide +kernel
theorem d_Law_brokenBy_179 : decode prog_6_method_3_code 179 = .ok (.istore 4, 2) := by decide +kernel
theorem d_Law_brokenBy_181 : decode prog_6_method_3_code 181 = .ok (.iload 4, 2) := by decide +kernel
theorem d_Law_brokenBy_183 : decode prog_6_method_3_code 183 = .ok (.ireturn, 1) := by decide +kernel
theorem d_Nea_init_0 : decode prog_7_method_1_code 0 = .ok (.aload_n 0, 1) := by decide +kernel
theorem d_Nea_init_1 : decode prog_7_method_1_code 1 = .ok (.aload_n 1, 1) := by decide +kernel
theorem d_Nea_init_2 : decode prog_7_method_1_code 2 = .ok (.invokespecial 1, 3) := by decide +kernel
theorem d_Nea_init_5 : decode prog_7_method_1_code 5 = .ok (.return_, 1) := by decide +kernel
theorem d_Nea_kindNumber_0 : decode prog_7_method_2_code 0 = .ok (.iconst 1, 1) := by decide +kernel
theorem d_Nea_kindNumber_1 : decode prog_7_method_2_code 1 = .ok (.ireturn, 1) := by decide +kernel
theorem d_Nea_ownWeight_0 : decode prog_7_method_3_code 0 = .ok (.bipush 15, 2) := by decide +kernel
theorem d_Nea_ownWeight_2 : decode prog_7_method_3_code 2 = .ok (.ireturn, 1) := by decide +kernel
theorem d_Roo_init_0 : decode prog_8_method_1_code 0 = .ok (.aload_n 0, 1) := by decide +kernel
theorem d_Roo_init_1 : decode prog_8_method_1_code 1 = .ok (.invokespecial 3, 3) := by decide +kernel
theorem d_Roo_init_4 : decode prog_8_method_1_code 4 = .ok (.aload_n 0, 1) := by decide +kernel
theorem d_Roo_init_5 : decode prog_8_method_1_code 5 = .ok (.bipush 30, 2) := by decide +kernel
theorem d_Roo_init_7 : decode prog_8_method_1_code 7 = .ok (.anewarray 9, 3) := by decide +kernel
theorem d_Roo_init_10 : decode prog_8_method_1_code 10 = .ok (.putfield 11, 3) := by decide +kernel
theorem d_Roo_init_13 : decode prog_8_method_1_code 13 = .ok (.aload_n 0, 1) := by decide +kernel
theorem d_Roo_init_14 : decode prog_8_method_1_code 14 = .ok (.bipush 6, 2) := by decide +kernel
theorem d_Roo_init_16 : decode prog_8_method_1_code 16 = .ok (.anewarray 17, 3) := by decide +kernel
theorem d_Roo_init_19 : decode prog_8_method_1_code 19 = .ok (.putfield 19, 3) := by decide +kernel
theorem d_Roo_init_22 : decode prog_8_method_1_code 22 = .ok (.iconst 0, 1) := by decide +kernel
theorem d_Roo_init_23 : decode prog_8_method_1_code 23 = .ok (.istore_n 1, 1) := by decide +kernel
theorem d_Roo_init_24 : decode prog_8_method_1_code 24 = .ok (.iload_n 1, 1) := by decide +kernel
theorem d_Roo_init_25 : decode prog_8_method_1_code 25 = .ok (.aload_n 0, 1) := by decide +kernel
theorem d_Roo_init_26 : decode prog_8_method_1_code 26 = .ok (.getfield 19, 3) := by decide +kernel
theorem d_Roo_init_29 : decode prog_8_method_1_code 29 = .ok (.arraylength, 1) := by decide +kernel
theorem d_Roo_init_30 : decode prog_8_method_1_code 30 = .ok (.if_icmp .ge 22, 3) := by decide +kernel
theorem d_Roo_init_33 : decode prog_8_method_1_code 33 = .ok (.aload_n 0, 1) := by decide +kernel
theorem d_Roo_init_34 : decode prog_8_method_1_code 34 = .ok (.getfield 19, 3) := by decide +kernel
theorem d_Roo_init_37 : decode prog_8_method_1_code 37 = .ok (.iload_n 1, 1) := by decide +kernel
theorem d_Roo_init_38 : decode prog_8_method_1_code 38 = .ok (.new 17, 3) := by decide +kernel
theorem d_Roo_init_41 : decode prog_8_method_1_code 41 = .ok (.dup, 1) := by decide +kernel
theorem d_Roo_init_42 : decode prog_8_method_1_code 42 = .ok (.invokespecial 23, 3) := by decide +kernel
theorem d_Roo_init_45 : decode prog_8_method_1_code 45 = .ok (.aastore, 1) := by decide +kernel
theorem d_Roo_init_46 : decode prog_8_method_1_code 46 = .ok (.iinc 1 1, 3) := by decide +kernel
theorem d_Roo_init_49 : decode prog_8_method_1_code 49 = .ok (.goto (-25), 3) := by decide +kernel
theorem d_Roo_init_52 : decode prog_8_method_1_code 52 = .ok (.aload_n 0, 1) := by decide +kernel
theorem d_Roo_init_53 : decode prog_8_method_1_code 53 = .ok (.bipush 10, 2) := by decide +kernel
theorem d_Roo_init_55 : decode prog_8_method_1_code 55 = .ok (.anewarray 9, 3) := by decide +kernel
theorem d_Roo_init_58 : decode prog_8_method_1_code 58 = .ok (.putfield 24, 3) := by decide +kernel
theorem d_Roo_init_61 : decode prog_8_method_1_code 61 = .ok (.aload_n 0, 1) := by decide +kernel
theorem d_Roo_init_62 : decode prog_8_method_1_code 62 = .ok (.bipush 10, 2) := by decide +kernel
theorem d_Roo_init_64 : decode prog_8_method_1_code 64 = .ok (.anewarray 9, 3) := by decide +kernel
theorem d_Roo_init_67 : decode prog_8_method_1_code 67 = .ok (.putfield 27, 3) := by decide +kernel
theorem d_Roo_init_70 : decode prog_8_method_1_code 70 = .ok (.aload_n 0, 1) := by decide +kernel
theorem d_Roo_init_71 : decode prog_8_method_1_code 71 = .ok (.iconst 2, 1) := by decide +kernel
theorem d_Roo_init_72 : decode prog_8_method_1_code 72 = .ok (.newarray .int, 2) := by decide +kernel
theorem d_Roo_init_74 : decode prog_8_method_1_code 74 = .ok (.putfield 30, 3) := by decide +kernel
theorem d_Roo_init_77 : decode prog_8_method_1_code 77 = .ok (.aload_n 0, 1) := by decide +kernel
theorem d_Roo_init_78 : decode prog_8_method_1_code 78 = .ok (.bipush 10, 2) := by decide +kernel
theorem d_Roo_init_80 : decode prog_8_method_1_code 80 = .ok (.newarray .int, 2) := by decide +kernel
theorem d_Roo_init_82 : decode prog_8_method_1_code 82 = .ok (.putfield 34, 3) := by decide +kernel
theorem d_Roo_init_85 : decode prog_8_method_1_code 85 = .ok (.aload_n 0, 1) := by decide +kernel
theorem d_Roo_init_86 : decode prog_8_method_1_code 86 = .ok (.new 37, 3) := by decide +kernel
theorem d_Roo_init_89 : decode prog_8_method_1_code 89 = .ok (.dup, 1) := by decide +kernel
theorem d_Roo_init_90 : decode prog_8_method_1_code 90 = .ok (.invokespecial 39, 3) := by decide +kernel
theorem d_Roo_init_93 : decode prog_8_method_1_code 93 = .ok (.putfield 40, 3) := by decide +kernel
theorem d_Roo_init_96 : decode prog_8_method_1_code 96 = .ok (.return_, 1) := by decide +kernel
theorem d_Roo_becomeLike_0 : decode prog_8_method_2_code 0 = .ok (.aload_n 1, 1) := by decide +kernel
theorem d_Roo_becomeLike_1 : decode prog_8_method_2_code 1 = .ok (.getfield 11, 3) := by decide +kernel
theorem d_Roo_becomeLike_4 : decode prog_8_method_2_code 4 = .ok (.aload_n 0, 1) := by decide +kernel
theorem d_Roo_becomeLike_5 : decode prog_8_method_2_code 5 = .ok (.getfield 11, 3) := by decide +kernel
theorem d_Roo_becomeLike_8 : decode prog_8_method_2_code 8 = .ok (.invokestatic 44, 3) := by decide +kernel
theorem d_Roo_becomeLike_11 : decode prog_8_method_2_code 11 = .ok (.aload_n 1, 1) := by decide +kernel
theorem d_Roo_becomeLike_12 : decode prog_8_method_2_code 12 = .ok (.getfield 24, 3) := by decide +kernel
theorem d_Roo_becomeLike_15 : decode prog_8_method_2_code 15 = .ok (.aload_n 0, 1) := by decide +kernel
theorem d_Roo_becomeLike_16 : decode prog_8_method_2_code 16 = .ok (.getfield 24, 3) := by decide +kernel
theorem d_Roo_becomeLike_19 : decode prog_8_method_2_code 19 = .ok (.invokestatic 44, 3) := by decide +kernel
theorem d_Roo_becomeLike_22 : decode prog_8_method_2_code 22 = .ok (.aload_n 1, 1) := by decide +kernel
theorem d_Roo_becomeLike_23 : decode prog_8_method_2_code 23 = .ok (.getfield 27, 3) := by decide +kernel
theorem d_Roo_becomeLike_26 : decode prog_8_method_2_code 26 = .ok (.aload_n 0, 1) := by decide +kernel
theorem d_Roo_becomeLike_27 : decode prog_8_method_2_code 27 = .ok (.getfield 27, 3) := by decide +kernel
theorem d_Roo_becomeLike_30 : decode prog_8_method_2_code 30 = .ok (.invokestatic 44, 3) := by decide +kernel
theorem d_Roo_becomeLike_33 : decode prog_8_method_2_code 33 = .ok (.iconst 0, 1) := by decide +kernel
theorem d_Roo_becomeLike_34 : decode prog_8_method_2_code 34 = .ok (.istore_n 2, 1) := by decide +kernel
theorem d_Roo_becomeLike_35 : decode prog_8_method_2_code 35 = .ok (.iload_n 2, 1) := by decide +kernel
theorem d_Roo_becomeLike_36 : decode prog_8_method_2_code 36 = .ok (.bipush 6, 2) := by decide +kernel
theorem d_Roo_becomeLike_38 : decode prog_8_method_2_code 38 = .ok (.if_icmp .ge 37, 3) := by decide +kernel
theorem d_Roo_becomeLike_41 : decode prog_8_method_2_code 41 = .ok (.aload_n 0, 1) := by decide +kernel
theorem d_Roo_becomeLike_42 : decode prog_8_method_2_code 42 = .ok (.iload_n 2, 1) := by decide +kernel
theorem d_Roo_becomeLike_43 : decode prog_8_method_2_code 43 = .ok (.invokevirtual 48, 3) := by decide +kernel
theorem d_Roo_becomeLike_46 : decode prog_8_method_2_code 46 = .ok (.astore_n 3, 1) := by decide +kernel
theorem d_Roo_becomeLike_47 : decode prog_8_method_2_code 47 = .ok (.aload_n 1, 1) := by decide +kernel
theorem d_Roo_becomeLike_48 : decode prog_8_method_2_code 48 = .ok (.iload_n 2, 1) := by decide +kernel
theorem d_Roo_becomeLike_49 : decode prog_8_method_2_code 49 = .ok (.invokevirtual 48, 3) := by decide +kernel
theorem d_Roo_becomeLike_52 : decode prog_8_method_2_code 52 = .ok (.astore 4, 2) := by decide +kernel
theorem d_Roo_becomeLike_54 : decode prog_8_method_2_code 54 = .ok (.aload_n 3, 1) := by decide +kernel
theorem d_Roo_becomeLike_55 : decode prog_8_method_2_code 55 = .ok (.ifnull 14, 3) := by decide +kernel
theorem d_Roo_becomeLike_58 : decode prog_8_method_2_code 58 = .ok (.aload 4, 2) := by decide +kernel
theorem d_Roo_becomeLike_60 : decode prog_8_method_2_code 60 = .ok (.ifnull 9, 3) := by decide +kernel
theorem d_Roo_becomeLike_63 : decode prog_8_method_2_code 63 = .ok (.aload_n 3, 1) := by decide +kernel
theorem d_Roo_becomeLike_64 : decode prog_8_method_2_code 64 = .ok (.aload 4, 2) := by decide +kernel
theorem d_Roo_becomeLike_66 : decode prog_8_method_2_code 66 = .ok (.invokevirtual 52, 3) := by decide +kernel
theorem d_Roo_becomeLike_69 : decode prog_8_method_2_code 69 = .ok (.iinc 2 1, 3) := by decide +kernel
theorem d_Roo_becomeLike_72 : decode prog_8_method_2_code 72 = .ok (.goto (-37), 3) := by decide +kernel
theorem d_Roo_becomeLike_75 : decode prog_8_method_2_code 75 = .ok (.aload_n 1, 1) := by decide +kernel
theorem d_Roo_becomeLike_76 : decode prog_8_method_2_code 76 = .ok (.getfield 30, 3) := by decide +kernel
theorem d_Roo_becomeLike_79 : decode prog_8_method_2_code 79 = .ok (.aload_n 0, 1) := by decide +kernel
theorem d_Roo_becomeLike_80 : decode prog_8_method_2_code 80 = .ok (.getfield 30, 3) := by decide +kernel
theorem d_Roo_becomeLike_83 : decode prog_8_method_2_code 83 = .ok (.invokestatic 56, 3) := by decide +kernel
theorem d_Roo_becomeLike_86 : decode prog_8_method_2_code 86 = .ok (.aload_n 1, 1) := by decide +kernel
theorem d_Roo_becomeLike_87 : decode prog_8_method_2_code 87 = .ok (.getfield 34, 3) := by decide +kernel
theorem d_Roo_becomeLike_90 : decode prog_8_method_2_code 90 = .ok (.aload_n 0, 1) := by decide +kernel
theorem d_Roo_becomeLike_91 : decode prog_8_method_2_code 91 = .ok (.getfield 34, 3) := by decide +kernel
theorem d_Roo_becomeLike_94 : decode prog_8_method_2_code 94 = .ok (.invokestatic 56, 3) := by decide +kernel
theorem d_Roo_becomeLike_97 : decode prog_8_method_2_code 97 = .ok (.aload_n 1, 1) := by decide +kernel
theorem d_Roo_becomeLike_98 : decode prog_8_method_2_code 98 = .ok (.getfield 40, 3) := by decide +kernel
theorem d_Roo_becomeLike_101 : decode prog_8_method_2_code 101 = .ok (.astore_n 2, 1) := by decide +kernel
theorem d_Roo_becomeLike_102 : decode prog_8_method_2_code 102 = .ok (.aload_n 0, 1) := by decide +kernel
theorem d_Roo_becomeLike_103 : decode prog_8_method_2_code 103 = .ok (.getfield 40, 3) := by decide +kernel
theorem d_Roo_becomeLike_106 : decode prog_8_method_2_code 106 = .ok (.aload_n 2, 1) := by decide +kernel
theorem d_Roo_becomeLike_107 : decode prog_8_method_2_code 107 = .ok (.getfield 60, 3) := by decide +kernel
theorem d_Roo_becomeLike_110 : decode prog_8_method_2_code 110 = .ok (.aload_n 2, 1) := by decide +kernel
theorem d_Roo_becomeLike_111 : decode prog_8_method_2_code 111 = .ok (.getfield 64, 3) := by decide +kernel
theorem d_Roo_becomeLike_114 : decode prog_8_method_2_code 114 = .ok (.aload_n 2, 1) := by decide +kernel
theorem d_Roo_becomeLike_115 : decode prog_8_method_2_code 115 = .ok (.getfield 67, 3) := by decide +kernel
theorem d_Roo_becomeLike_118 : decode prog_8_method_2_code 118 = .ok (.aload_n 2, 1) := by decide +kernel
theorem d_Roo_becomeLike_119 : decode prog_8_method_2_code 119 = .ok (.getfield 70, 3) := by decide +kernel
theorem d_Roo_becomeLike_122 : decode prog_8_method_2_code 122 = .ok (.invokevirtual 73, 3) := by decide +kernel
theorem d_Roo_becomeLike_125 : decode prog_8_method_2_code 125 = .ok (.aload_n 0, 1) := by decide +kernel
theorem d_Roo_becomeLike_126 : decode prog_8_method_2_code 126 = .ok (.aload_n 1, 1) := by decide +kernel
theorem d_Roo_becomeLike_127 : decode prog_8_method_2_code 127 = .ok (.getfield 77, 3) := by decide +kernel
theorem d_Roo_becomeLike_130 : decode prog_8_method_2_code 130 = .ok (.putfield 77, 3) := by decide +kernel
theorem d_Roo_becomeLike_133 : decode prog_8_method_2_code 133 = .ok (.aload_n 0, 1) := by decide +kernel
theorem d_Roo_becomeLike_134 : decode prog_8_method_2_code 134 = .ok (.aload_n 1, 1) := by decide +kernel
theorem d_Roo_becomeLike_135 : decode prog_8_method_2_code 135 = .ok (.getfield 80, 3) := by decide +kernel
theorem d_Roo_becomeLike_138 : decode prog_8_method_2_code 138 = .ok (.putfield 80, 3) := by decide +kernel
theorem d_Roo_becomeLike_141 : decode prog_8_method_2_code 141 = .ok (.aload_n 0, 1) := by decide +kernel
theorem d_Roo_becomeLike_142 : decode prog_8_method_2_code 142 = .ok (.aload_n 1, 1) := by decide +kernel
theorem d_Roo_becomeLike_143 : decode prog_8_method_2_code 143 = .ok (.getfield 83, 3) := by decide +kernel
theorem d_Roo_becomeLike_146 : decode prog_8_method_2_code 146 = .ok (.putfield 83, 3) := by decide +kernel
theorem d_Roo_becomeLike_149 : decode prog_8_method_2_code 149 = .ok (.aload_n 0, 1) := by decide +kernel
theorem d_Roo_becomeLike_150 : decode prog_8_method_2_code 150 = .ok (.aload_n 1, 1) := by decide +kernel
theorem d_Roo_becomeLike_151 : decode prog_8_method_2_code 151 = .ok (.getfield 86, 3) := by decide +kernel
theorem d_Roo_becomeLike_154 : decode prog_8_method_2_code 154 = .ok (.putfield 86, 3) := by decide +kernel
theorem d_Roo_becomeLike_157 : decode prog_8_method_2_code 157 = .ok (.return_, 1) := by decide +kernel
theorem d_Roo_copyTellings_0 : decode prog_8_method_3_code 0 = .ok (.iconst 0, 1) := by decide +kernel
theorem d_Roo_copyTellings_1 : decode prog_8_method_3_code 1 = .ok (.istore_n 2, 1) := by decide +kernel
theorem d_Roo_copyTellings_2 : decode prog_8_method_3_code 2 = .ok (.iload_n 2, 1) := by decide +kernel
theorem d_Roo_copyTellings_3 : decode prog_8_method_3_code 3 = .ok (.aload_n 0, 1) := by decide +kernel
theorem d_Roo_copyTellings_4 : decode prog_8_method_3_code 4 = .ok (.arraylength, 1) := by decide +kernel
theorem d_Roo_copyTellings_5 : decode prog_8_method_3_code 5 = .ok (.if_icmp .ge 21, 3) := by decide +kernel
theorem d_Roo_copyTellings_8 : decode prog_8_method_3_code 8 = .ok (.iload_n 2, 1) := by decide +kernel
theorem d_Roo_copyTellings_9 : decode prog_8_method_3_code 9 = .ok (.aload_n 1, 1) := by decide +kernel
theorem d_Roo_copyTellings_10 : decode prog_8_method_3_code 10 = .ok (.arraylength, 1) := by decide +kernel
theorem d_Roo_copyTellings_11 : decode prog_8_method_3_code 11 = .ok (.if_icmp .ge 15, 3) := by decide +kernel
theorem d_Roo_copyTellings_14 : decode prog_8_method_3_code 14 = .ok (.aload_n 1, 1) := by decide +kernel
theorem d_Roo_copyTellings_15 : decode prog_8_method_3_code 15 = .ok (.iload_n 2, 1) := by decide +kernel
theorem d_Roo_copyTellings_16 : decode prog_8_method_3_code 16 = .ok (.aload_n 0, 1) := by decide +kernel
theorem d_Roo_copyTellings_17 : decode prog_8_method_3_code 17 = .ok (.iload_n 2, 1) := by decide +kernel
theorem d_Roo_copyTellings_18 : decode prog_8_method_3_code 18 = .ok (.aaload, 1) := by decide +kernel
theorem d_Roo_copyTellings_19 : decode prog_8_method_3_code 19 = .ok (.aastore, 1) := by decide +kernel
theorem d_Roo_copyTellings_20 : decode prog_8_method_3_code 20 = .ok (.iinc 2 1, 3) := by decide +kernel
theorem d_Roo_copyTellings_23 : decode prog_8_method_3_code 23 = .ok (.goto (-21), 3) := by decide +kernel
theorem d_Roo_copyTellings_26 : decode prog_8_method_3_code 26 = .ok (.return_, 1) := by decide +kernel
theorem d_Roo_tellingAt_0 : decode prog_8_method_4_code 0 = .ok (.iload_n 1, 1) := by decide +kernel
theorem d_Roo_tellingAt_1 : decode prog_8_method_4_code 1 = .ok (.aload_n 0, 1) := by decide +kernel
theorem d_Roo_tellingAt_2 : decode prog_8_method_4_code 2 = .ok (.getfield 77, 3) := by decide +kernel
theorem d_Roo_tellingAt_5 : decode prog_8_method_4_code 5 = .ok (.if_icmp .ge 14, 3) := by decide +kernel
theorem d_Roo_tellingAt_8 : decode prog_8_method_4_code 8 = .ok (.aload_n 0, 1) := by decide +kernel
theorem d_Roo_tellingAt_9 : decode prog_8_method_4_code 9 = .ok (.getfield 11, 3) := by decide +kernel
theorem d_Roo_tellingAt_12 : decode prog_8_method_4_code 12 = .ok (.iload_n 1, 1) := by decide +kernel
theorem d_Roo_tellingAt_13 : decode prog_8_method_4_code 13 = .ok (.invokestatic 90, 3) := by decide +kernel
theorem d_Roo_tellingAt_16 : decode prog_8_method_4_code 16 = .ok (.goto 4, 3) := by decide +kernel
theorem d_Roo_tellingAt_19 : decode prog_8_method_4_code 19 = .ok (.aconst_null, 1) := by decide +kernel
theorem d_Roo_tellingAt_20 : decode prog_8_method_4_code 20 = .ok (.areturn, 1) := by decide +kernel
theorem d_Roo_firstOfPair_0 : decode prog_8_method_5_code 0 = .ok (.iload_n 1, 1) := by decide +kernel
theorem d_Roo_firstOfPair_1 : decode prog_8_method_5_code 1 = .ok (.aload_n 0, 1) := by decide +kernel
theorem d_Roo_firstOfPair_2 : decode prog_8_method_5_code 2 = .ok (.getfield 80, 3) := by decide +kernel
theorem d_Roo_firstOfPair_5 : decode prog_8_method_5_code 5 = .ok (.if_icmp .ge 14, 3) := by decide +kernel
theorem d_Roo_firstOfPair_8 : decode prog_8_method_5_code 8 = .ok (.aload_n 0, 1) := by decide +kernel
theorem d_Roo_firstOfPair_9 : decode prog_8_method_5_code 9 = .ok (.getfield 24, 3) := by decide +kernel
theorem d_Roo_firstOfPair_12 : decode prog_8_method_5_code 12 = .ok (.iload_n 1, 1) := by decide +kernel
theorem d_Roo_firstOfPair_13 : decode prog_8_method_5_code 13 = .ok (.invokestatic 90, 3) := by decide +kernel
theorem d_Roo_firstOfPair_16 : decode prog_8_method_5_code 16 = .ok (.goto 4, 3) := by decide +kernel
theorem d_Roo_firstOfPair_19 : decode prog_8_method_5_code 19 = .ok (.aconst_null, 1) := by decide +kernel
theorem d_Roo_firstOfPair_20 : decode prog_8_method_5_code 20 = .ok (.areturn, 1) := by decide +kernel
theorem d_Roo_secondOfPair_0 : decode prog_8_method_6_code 0 = .ok (.iload_n 1, 1) := by decide +kernel
theorem d_Roo_secondOfPair_1 : decode prog_8_method_6_code 1 = .ok (.aload_n 0, 1) := by decide +kernel
theorem d_Roo_secondOfPair_2 : decode prog_8_method_6_code 2 = .ok (.getfield 80, 3) := by decide +kernel
theorem d_Roo_secondOfPair_5 : decode prog_8_method_6_code 5 = .ok (.if_icmp .ge 14, 3) := by decide +kernel
theorem d_Roo_secondOfPair_8 : decode prog_8_method_6_code 8 = .ok (.aload_n 0, 1) := by decide +kernel
theorem d_Roo_secondOfPair_9 : decode prog_8_method_6_code 9 = .ok (.getfield 27, 3) := by decide +kernel
theorem d_Roo_secondOfPair_12 : decode prog_8_method_6_code 12 = .ok (.iload_n 1, 1) := by decide +kernel
theorem d_Roo_secondOfPair_13 : decode prog_8_method_6_code 13 = .ok (.invokestatic 90, 3) := by decide +kernel
theorem d_Roo_secondOfPair_16 : decode prog_8_method_6_code 16 = .ok (.goto 4, 3) := by decide +kernel
theorem d_Roo_secondOfPair_19 : decode prog_8_method_6_code 19 = .ok (.aconst_null, 1) := by decide +kernel
theorem d_Roo_secondOfPair_20 : decode prog_8_method_6_code 20 = .ok (.areturn, 1) := by decide +kernel
theorem d_Roo_inRow_0 : decode prog_8_method_7_code 0 = .ok (.iload_n 1, 1) := by decide +kernel
theorem d_Roo_inRow_1 : decode prog_8_method_7_code 1 = .ok (.ifCond .lt 15, 3) := by decide +kernel
theorem d_Roo_inRow_4 : decode prog_8_method_7_code 4 = .ok (.iload_n 1, 1) := by decide +kernel
theorem d_Roo_inRow_5 : decode prog_8_method_7_code 5 = .ok (.aload_n 0, 1) := by decide +kernel
theorem d_Roo_inRow_6 : decode prog_8_method_7_code 6 = .ok (.arraylength, 1) := by decide +kernel
theorem d_Roo_inRow_7 : decode prog_8_method_7_code 7 = .ok (.if_icmp .ge 9, 3) := by decide +kernel
theorem d_Roo_inRow_10 : decode prog_8_method_7_code 10 = .ok (.aload_n 0, 1) := by decide +kernel
theorem d_Roo_inRow_11 : decode prog_8_method_7_code 11 = .ok (.iload_n 1, 1) := by decide +kernel
theorem d_Roo_inRow_12 : decode prog_8_method_7_code 12 = .ok (.aaload, 1) := by decide +kernel
theorem d_Roo_inRow_13 : decode prog_8_method_7_code 13 = .ok (.goto 4, 3) := by decide +kernel
theorem d_Roo_inRow_16 : decode prog_8_method_7_code 16 = .ok (.aconst_null, 1) := by decide +kernel
theorem d_Roo_inRow_17 : decode prog_8_method_7_code 17 = .ok (.areturn, 1) := by decide +kernel
theorem d_Roo_lawAt_0 : decode prog_8_method_8_code 0 = .ok (.iload_n 1, 1) := by decide +kernel
theorem d_Roo_lawAt_1 : decode prog_8_method_8_code 1 = .ok (.ifCond .lt 21, 3) := by decide +kernel
theorem d_Roo_lawAt_4 : decode prog_8_method_8_code 4 = .ok (.iload_n 1, 1) := by decide +kernel
theorem d_Roo_lawAt_5 : decode prog_8_method_8_code 5 = .ok (.aload_n 0, 1) := by decide +kernel
theorem d_Roo_lawAt_6 : decode prog_8_method_8_code 6 = .ok (.getfield 19, 3) := by decide +kernel
theorem d_Roo_lawAt_9 : decode prog_8_method_8_code 9 = .ok (.arraylength, 1) := by decide +kernel
theorem d_Roo_lawAt_10 : decode prog_8_method_8_code 10 = .ok (.if_icmp .ge 12, 3) := by decide +kernel
theorem d_Roo_lawAt_13 : decode prog_8_method_8_code 13 = .ok (.aload_n 0, 1) := by decide +kernel
theorem d_Roo_lawAt_14 : decode prog_8_method_8_code 14 = .ok (.getfield 19, 3) := by decide +kernel
theorem d_Roo_lawAt_17 : decode prog_8_method_8_code 17 = .ok (.iload_n 1, 1) := by decide +kernel
theorem d_Roo_lawAt_18 : decode prog_8_method_8_code 18 = .ok (.aaload, 1) := by decide +kernel
theorem d_Roo_lawAt_19 : decode prog_8_method_8_code 19 = .ok (.goto 4, 3) := by decide +kernel
theorem d_Roo_lawAt_22 : decode prog_8_method_8_code 22 = .ok (.aconst_null, 1) := by decide +kernel
theorem d_Roo_lawAt_23 : decode prog_8_method_8_code 23 = .ok (.areturn, 1) := by decide +kernel
theorem d_Roo_addTelling_0 : decode prog_8_method_9_code 0 = .ok (.aload_n 0, 1) := by decide +kernel
theorem d_Roo_addTelling_1 : decode prog_8_method_9_code 1 = .ok (.getfield 77, 3) := by decide +kernel
theorem d_Roo_addTelling_4 : decode prog_8_method_9_code 4 = .ok (.ifCond .lt 15, 3) := by decide +kernel
theorem d_Roo_addTelling_7 : decode prog_8_method_9_code 7 = .ok (.aload_n 0, 1) := by decide +kernel
theorem d_Roo_addTelling_8 : decode prog_8_method_9_code 8 = .ok (.getfield 77, 3) := by decide +kernel
theorem d_Roo_addTelling_11 : decode prog_8_method_9_code 11 = .ok (.aload_n 0, 1) := by decide +kernel
theorem d_Roo_addTelling_12 : decode prog_8_method_9_code 12 = .ok (.getfield 11, 3) := by decide +kernel
theorem d_Roo_addTelling_15 : decode prog_8_method_9_code 15 = .ok (.arraylength, 1) := by decide +kernel
theorem d_Roo_addTelling_16 : decode prog_8_method_9_code 16 = .ok (.if_icmp .lt 6, 3) := by decide +kernel
theorem d_Roo_addTelling_19 : decode prog_8_method_9_code 19 = .ok (.bipush (-9), 2) := by decide +kernel
theorem d_Roo_addTelling_21 : decode prog_8_method_9_code 21 = .ok (.ireturn, 1) := by decide +kernel
theorem d_Roo_addTelling_22 : decode prog_8_method_9_code 22 = .ok (.aload_n 0, 1) := by decide +kernel
theorem d_Roo_addTelling_23 : decode prog_8_method_9_code 23 = .ok (.getfield 11, 3) := by decide +kernel
theorem d_Roo_addTelling_26 : decode prog_8_method_9_code 26 = .ok (.aload_n 0, 1) := by decide +kernel
theorem d_Roo_addTelling_27 : decode prog_8_method_9_code 27 = .ok (.getfield 77, 3) := by decide +kernel
theorem d_Roo_addTelling_30 : decode prog_8_method_9_code 30 = .ok (.aload_n 1, 1) := by decide +kernel
theorem d_Roo_addTelling_31 : decode prog_8_method_9_code 31 = .ok (.aastore, 1) := by decide +kernel
theorem d_Roo_addTelling_32 : decode prog_8_method_9_code 32 = .ok (.aload_n 0, 1) := by decide +kernel
theorem d_Roo_addTelling_33 : decode prog_8_method_9_code 33 = .ok (.dup, 1) := by decide +kernel
theorem d_Roo_addTelling_34 : decode prog_8_method_9_code 34 = .ok (.getfield 77, 3) := by decide +kernel
theorem d_Roo_addTelling_37 : decode prog_8_method_9_code 37 = .ok (.iconst 1, 1) := by decide +kernel
theorem d_Roo_addTelling_38 : decode prog_8_method_9_code 38 = .ok (.iadd, 1) := by decide +kernel
theorem d_Roo_addTelling_39 : decode prog_8_method_9_code 39 = .ok (.putfield 77, 3) := by decide +kernel
theorem d_Roo_addTelling_42 : decode prog_8_method_9_code 42 = .ok (.aload_n 0, 1) := by decide +kernel
theorem d_Roo_addTelling_43 : decode prog_8_method_9_code 43 = .ok (.getfield 77, 3) := by decide +kernel
theorem d_Roo_addTelling_46 : decode prog_8_method_9_code 46 = .ok (.iconst 1, 1) := by decide +kernel
theorem d_Roo_addTelling_47 : decode prog_8_method_9_code 47 = .ok (.isub, 1) := by decide +kernel
theorem d_Roo_addTelling_48 : decode prog_8_method_9_code 48 = .ok (.ireturn, 1) := by decide +kernel
theorem d_Roo_addPair_0 : decode prog_8_method_10_code 0 = .ok (.aload_n 0, 1) := by decide +kernel
theorem d_Roo_addPair_1 : decode prog_8_method_10_code 1 = .ok (.getfield 80, 3) := by decide +kernel
theorem d_Roo_addPair_4 : decode prog_8_method_10_code 4 = .ok (.ifCond .lt 57, 3) := by decide +kernel
theorem d_Roo_addPair_7 : decode prog_8_method_10_code 7 = .ok (.aload_n 0, 1) := by decide +kernel
theorem d_Roo_addPair_8 : decode prog_8_method_10_code 8 = .ok (.getfield 80, 3) := by decide +kernel
theorem d_Roo_addPair_11 : decode prog_8_method_10_code 11 = .ok (.aload_n 0, 1) := by decide +kernel
theorem d_Roo_addPair_12 : decode prog_8_method_10_code 12 = .ok (.getfield 24, 3) := by decide +kernel
theorem d_Roo_addPair_15 : decode prog_8_method_10_code 15 = .ok (.arraylength, 1) := by decide +kernel
theorem d_Roo_addPair_16 : decode prog_8_method_10_code 16 = .ok (.if_icmp .ge 45, 3) := by decide +kernel
theorem d_Roo_addPair_19 : decode prog_8_method_10_code 19 = .ok (.aload_n 0, 1) := by decide +kernel
theorem d_Roo_addPair_20 : decode prog_8_method_10_code 20 = .ok (.getfield 80, 3) := by decide +kernel
theorem d_Roo_addPair_23 : decode prog_8_method_10_code 23 = .ok (.aload_n 0, 1) := by decide +kernel
theorem d_Roo_addPair_24 : decode prog_8_method_10_code 24 = .ok (.getfield 27, 3) := by decide +kernel
theorem d_Roo_addPair_27 : decode prog_8_method_10_code 27 = .ok (.arraylength, 1) := by decide +kernel
theorem d_Roo_addPair_28 : decode prog_8_method_10_code 28 = .ok (.if_icmp .ge 33, 3) := by decide +kernel
theorem d_Roo_addPair_31 : decode prog_8_method_10_code 31 = .ok (.aload_n 0, 1) := by decide +kernel
theorem d_Roo_addPair_32 : decode prog_8_method_10_code 32 = .ok (.getfield 24, 3) := by decide +kernel
theorem d_Roo_addPair_35 : decode prog_8_method_10_code 35 = .ok (.aload_n 0, 1) := by decide +kernel
theorem d_Roo_addPair_36 : decode prog_8_method_10_code 36 = .ok (.getfield 80, 3) := by decide +kernel
theorem d_Roo_addPair_39 : decode prog_8_method_10_code 39 = .ok (.aload_n 1, 1) := by decide +kernel
theorem d_Roo_addPair_40 : decode prog_8_method_10_code 40 = .ok (.aastore, 1) := by decide +kernel
theorem d_Roo_addPair_41 : decode prog_8_method_10_code 41 = .ok (.aload_n 0, 1) := by decide +kernel
theorem d_Roo_addPair_42 : decode prog_8_method_10_code 42 = .ok (.getfield 27, 3) := by decide +kernel
theorem d_Roo_addPair_45 : decode prog_8_method_10_code 45 = .ok (.aload_n 0, 1) := by decide +kernel
theorem d_Roo_addPair_46 : decode prog_8_method_10_code 46 = .ok (.getfield 80, 3) := by decide +kernel
theorem d_Roo_addPair_49 : decode prog_8_method_10_code 49 = .ok (.aload_n 2, 1) := by decide +kernel
theorem d_Roo_addPair_50 : decode prog_8_method_10_code 50 = .ok (.aastore, 1) := by decide +kernel
theorem d_Roo_addPair_51 : decode prog_8_method_10_code 51 = .ok (.aload_n 0, 1) := by decide +kernel
theorem d_Roo_addPair_52 : decode prog_8_method_10_code 52 = .ok (.dup, 1) := by decide +kernel
theorem d_Roo_addPair_53 : decode prog_8_method_10_code 53 = .ok (.getfield 80, 3) := by decide +kernel
theorem d_Roo_addPair_56 : decode prog_8_method_10_code 56 = .ok (.iconst 1, 1) := by decide +kernel
theorem d_Roo_addPair_57 : decode prog_8_method_10_code 57 = .ok (.iadd, 1) := by decide +kernel
theorem d_Roo_addPair_58 : decode prog_8_method_10_code 58 = .ok (.putfield 80, 3) := by decide +kernel
theorem d_Roo_addPair_61 : decode prog_8_method_10_code 61 = .ok (.aload_n 0, 1) := by decide +kernel
theorem d_Roo_addPair_62 : decode prog_8_method_10_code 62 = .ok (.getfield 80, 3) := by decide +kernel
theorem d_Roo_addPair_65 : decode prog_8_method_10_code 65 = .ok (.ireturn, 1) := by decide +kernel
theorem d_Roo_rightNumber_0 : decode prog_8_method_11_code 0 = .ok (.aload_n 1, 1) := by decide +kernel
theorem d_Roo_rightNumber_1 : decode prog_8_method_11_code 1 = .ok (.iload_n 2, 1) := by decide +kernel
theorem d_Roo_rightNumber_2 : decode prog_8_method_11_code 2 = .ok (.invokevirtual 94, 3) := by decide +kernel
theorem d_Roo_rightNumber_5 : decode prog_8_method_11_code 5 = .ok (.ifCond .ne 16, 3) := by decide +kernel
theorem d_Roo_rightNumber_8 : decode prog_8_method_11_code 8 = .ok (.iload_n 2, 1) := by decide +kernel
theorem d_Roo_rightNumber_9 : decode prog_8_method_11_code 9 = .ok (.ifCond .lt 12, 3) := by decide +kernel
theorem d_Roo_rightNumber_12 : decode prog_8_method_11_code 12 = .ok (.iload_n 2, 1) := by decide +kernel
theorem d_Roo_rightNumber_13 : decode prog_8_method_11_code 13 = .ok (.aload_n 0, 1) := by decide +kernel
theorem d_Roo_rightNumber_14 : decode prog_8_method_11_code 14 = .ok (.getfield 30, 3) := by decide +kernel
theorem d_Roo_rightNumber_17 : decode prog_8_method_11_code 17 = .ok (.arraylength, 1) := by decide +kernel
theorem d_Roo_rightNumber_18 : decode prog_8_method_11_code 18 = .ok (.if_icmp .lt 6, 3) := by decide +kernel
theorem d_Roo_rightNumber_21 : decode prog_8_method_11_code 21 = .ok (.bipush (-9), 2) := by decide +kernel
theorem d_Roo_rightNumber_23 : decode prog_8_method_11_code 23 = .ok (.ireturn, 1) := by decide +kernel
theorem d_Roo_rightNumber_24 : decode prog_8_method_11_code 24 = .ok (.bipush 100, 2) := by decide +kernel
theorem d_Roo_rightNumber_26 : decode prog_8_method_11_code 26 = .ok (.aload_n 0, 1) := by decide +kernel
theorem d_Roo_rightNumber_27 : decode prog_8_method_11_code 27 = .ok (.getfield 30, 3) := by decide +kernel
theorem d_Roo_rightNumber_30 : decode prog_8_method_11_code 30 = .ok (.iload_n 2, 1) := by decide +kernel
theorem d_Roo_rightNumber_31 : decode prog_8_method_11_code 31 = .ok (.iaload, 1) := by decide +kernel
theorem d_Roo_rightNumber_32 : decode prog_8_method_11_code 32 = .ok (.aload_n 1, 1) := by decide +kernel
theorem d_Roo_rightNumber_33 : decode prog_8_method_11_code 33 = .ok (.getfield 98, 3) := by decide +kernel
theorem d_Roo_rightNumber_36 : decode prog_8_method_11_code 36 = .ok (.imul, 1) := by decide +kernel
theorem d_Roo_rightNumber_37 : decode prog_8_method_11_code 37 = .ok (.iadd, 1) := by decide +kernel
theorem d_Roo_rightNumber_38 : decode prog_8_method_11_code 38 = .ok (.istore_n 3, 1) := by decide +kernel
theorem d_Roo_rightNumber_39 : decode prog_8_method_11_code 39 = .ok (.iload_n 3, 1) := by decide +kernel
theorem d_Roo_rightNumber_40 : decode prog_8_method_11_code 40 = .ok (.iconst 1, 1) := by decide +kernel
theorem d_Roo_rightNumber_41 : decode prog_8_method_11_code 41 = .ok (.if_icmp .ge 8, 3) := by decide +kernel
theorem d_Roo_rightNumber_44 : decode prog_8_method_11_code 44 = .ok (.bipush (-9), 2) := by decide +kernel
theorem d_Roo_rightNumber_46 : decode prog_8_method_11_code 46 = .ok (.goto 13, 3) := by decide +kernel
theorem d_Roo_rightNumber_49 : decode prog_8_method_11_code 49 = .ok (.bipush 100, 2) := by decide +kernel
theorem d_Roo_rightNumber_51 : decode prog_8_method_11_code 51 = .ok (.aload_n 1, 1) := by decide +kernel
theorem d_Roo_rightNumber_52 : decode prog_8_method_11_code 52 = .ok (.iload_n 2, 1) := by decide +kernel
theorem d_Roo_rightNumber_53 : decode prog_8_method_11_code 53 = .ok (.invokevirtual 101, 3) := by decide +kernel
theorem d_Roo_rightNumber_56 : decode prog_8_method_11_code 56 = .ok (.imul, 1) := by decide +kernel
theorem d_Roo_rightNumber_57 : decode prog_8_method_11_code 57 = .ok (.iload_n 3, 1) := by decide +kernel
theorem d_Roo_rightNumber_58 : decode prog_8_method_11_code 58 = .ok (.idiv, 1) := by decide +kernel
theorem d_Roo_rightNumber_59 : decode prog_8_method_11_code 59 = .ok (.ireturn, 1) := by decide +kernel
theorem d_Roo_heldNumber_0 : decode prog_8_method_12_code 0 = .ok (.aload_n 0, 1) := by decide +kernel
theorem d_Roo_heldNumber_1 : decode prog_8_method_12_code 1 = .ok (.getfield 86, 3) := by decide +kernel
theorem d_Roo_heldNumber_4 : decode prog_8_method_12_code 4 = .ok (.ifCond .eq 12, 3) := by decide +kernel
theorem d_Roo_heldNumber_7 : decode prog_8_method_12_code 7 = .ok (.aload_n 0, 1) := by decide +kernel
theorem d_Roo_heldNumber_8 : decode prog_8_method_12_code 8 = .ok (.aload_n 1, 1) := by decide +kernel
theorem d_Roo_heldNumber_9 : decode prog_8_method_12_code 9 = .ok (.iload_n 2, 1) := by decide +kernel
theorem d_Roo_heldNumber_10 : decode prog_8_method_12_code 10 = .ok (.invokevirtual 105, 3) := by decide +kernel
theorem d_Roo_heldNumber_13 : decode prog_8_method_12_code 13 = .ok (.goto 8, 3) := by decide +kernel
theorem d_Roo_heldNumber_16 : decode prog_8_method_12_code 16 = .ok (.aload_n 1, 1) := by decide +kernel
theorem d_Roo_heldNumber_17 : decode prog_8_method_12_code 17 = .ok (.iload_n 2, 1) := by decide +kernel
theorem d_Roo_heldNumber_18 : decode prog_8_method_12_code 18 = .ok (.invokevirtual 101, 3) := by decide +kernel
theorem d_Roo_heldNumber_21 : decode prog_8_method_12_code 21 = .ok (.ireturn, 1) := by decide +kernel
theorem d_Roo_brokenBy_0 : decode prog_8_method_13_code 0 = .ok (.aload_n 2, 1) := by decide +kernel
theorem d_Roo_brokenBy_1 : decode prog_8_method_13_code 1 = .ok (.aload_n 1, 1) := by decide +kernel
theorem d_Roo_brokenBy_2 : decode prog_8_method_13_code 2 = .ok (.aload_n 0, 1) := by decide +kernel
theorem d_Roo_brokenBy_3 : decode prog_8_method_13_code 3 = .ok (.aload_n 1, 1) := by decide +kernel
theorem d_Roo_brokenBy_4 : decode prog_8_method_13_code 4 = .ok (.iconst 0, 1) := by decide +kernel
theorem d_Roo_brokenBy_5 : decode prog_8_method_13_code 5 = .ok (.invokevirtual 109, 3) := by decide +kernel
theorem d_Roo_brokenBy_8 : decode prog_8_method_13_code 8 = .ok (.aload_n 0, 1) := by decide +kernel
theorem d_Roo_brokenBy_9 : decode prog_8_method_13_code 9 = .ok (.aload_n 1, 1) := by decide +kernel
theorem d_Roo_brokenBy_10 : decode prog_8_method_13_code 10 = .ok (.iconst 1, 1) := by decide +kernel
theorem d_Roo_brokenBy_11 : decode prog_8_method_13_code 11 = .ok (.invokevirtual 109, 3) := by decide +kernel
theorem d_Roo_brokenBy_14 : decode prog_8_method_13_code 14 = .ok (.invokevirtual 112, 3) := by decide +kernel
theorem d_Roo_brokenBy_17 : decode prog_8_method_13_code 17 = .ok (.ireturn, 1) := by decide +kernel
theorem d_Roo_lawsFitted_0 : decode prog_8_method_14_code 0 = .ok (.aload_n 0, 1) := by decide +kernel
theorem d_Roo_lawsFitted_1 : decode prog_8_method_14_code 1 = .ok (.aload_n 1, 1) := by decide +kernel
theorem d_Roo_lawsFitted_2 : decode prog_8_method_14_code 2 = .ok (.iconst 0, 1) := by decide +kernel
theorem d_Roo_lawsFitted_3 : decode prog_8_method_14_code 3 = .ok (.invokevirtual 109, 3) := by decide +kernel
theorem d_Roo_lawsFitted_6 : decode prog_8_method_14_code 6 = .ok (.istore_n 2, 1) := by decide +kernel
theorem d_Roo_lawsFitted_7 : decode prog_8_method_14_code 7 = .ok (.aload_n 0, 1) := by decide +kernel
theorem d_Roo_lawsFitted_8 : decode prog_8_method_14_code 8 = .ok (.aload_n 1, 1) := by decide +kernel
theorem d_Roo_lawsFitted_9 : decode prog_8_method_14_code 9 = .ok (.iconst 1, 1) := by decide +kernel
theorem d_Roo_lawsFitted_10 : decode prog_8_method_14_code 10 = .ok (.invokevirtual 109, 3) := by decide +kernel
theorem d_Roo_lawsFitted_13 : decode prog_8_method_14_code 13 = .ok (.istore_n 3, 1) := by decide +kernel
theorem d_Roo_lawsFitted_14 : decode prog_8_method_14_code 14 = .ok (.iconst 0, 1) := by decide +kernel
theorem d_Roo_lawsFitted_15 : decode prog_8_method_14_code 15 = .ok (.istore 4, 2) := by decide +kernel
theorem d_Roo_lawsFitted_17 : decode prog_8_method_14_code 17 = .ok (.iconst 0, 1) := by decide +kernel
theorem d_Roo_lawsFitted_18 : decode prog_8_method_14_code 18 = .ok (.istore 5, 2) := by decide +kernel
theorem d_Roo_lawsFitted_20 : decode prog_8_method_14_code 20 = .ok (.iload 5, 2) := by decide +kernel
theorem d_Roo_lawsFitted_22 : decode prog_8_method_14_code 22 = .ok (.bipush 6, 2) := by decide +kernel
theorem d_Roo_lawsFitted_24 : decode prog_8_method_14_code 24 = .ok (.if_icmp .ge 42, 3) := by decide +kernel
theorem d_Roo_lawsFitted_27 : decode prog_8_method_14_code 27 = .ok (.aload_n 0, 1) := by decide +kernel
theorem d_Roo_lawsFitted_28 : decode prog_8_method_14_code 28 = .ok (.iload 5, 2) := by decide +kernel
theorem d_Roo_lawsFitted_30 : decode prog_8_method_14_code 30 = .ok (.invokevirtual 48, 3) := by decide +kernel
theorem d_Roo_lawsFitted_33 : decode prog_8_method_14_code 33 = .ok (.astore 6, 2) := by decide +kernel
theorem d_Roo_lawsFitted_35 : decode prog_8_method_14_code 35 = .ok (.aload 6, 2) := by decide +kernel
theorem d_Roo_lawsFitted_37 : decode prog_8_method_14_code 37 = .ok (.ifnull 23, 3) := by decide +kernel
theorem d_Roo_lawsFitted_40 : decode prog_8_method_14_code 40 = .ok (.aload 6, 2) := by decide +kernel
theorem d_Roo_lawsFitted_42 : decode prog_8_method_14_code 42 = .ok (.aload_n 1, 1) := by decide +kernel
theorem d_Roo_lawsFitted_43 : decode prog_8_method_14_code 43 = .ok (.iload_n 2, 1) := by decide +kernel
theorem d_Roo_lawsFitted_44 : decode prog_8_method_14_code 44 = .ok (.iload_n 3, 1) := by decide +kernel
theorem d_Roo_lawsFitted_45 : decode prog_8_method_14_code 45 = .ok (.invokevirtual 112, 3) := by decide +kernel
theorem d_Roo_lawsFitted_48 : decode prog_8_method_14_code 48 = .ok (.ifCond .ne 12, 3) := by decide +kernel
theorem d_Roo_lawsFitted_51 : decode prog_8_method_14_code 51 = .ok (.iload 4, 2) := by decide +kernel
theorem d_Roo_lawsFitted_53 : decode prog_8_method_14_code 53 = .ok (.iconst 1, 1) := by decide +kernel
theorem d_Roo_lawsFitted_54 : decode prog_8_method_14_code 54 = .ok (.iload 5, 2) := by decide +kernel
theorem d_Roo_lawsFitted_56 : decode prog_8_method_14_code 56 = .ok (.ishl, 1) := by decide +kernel
theorem d_Roo_lawsFitted_57 : decode prog_8_method_14_code 57 = .ok (.ior, 1) := by decide +kernel
theorem d_Roo_lawsFitted_58 : decode prog_8_method_14_code 58 = .ok (.istore 4, 2) := by decide +kernel
theorem d_Roo_lawsFitted_60 : decode prog_8_method_14_code 60 = .ok (.iinc 5 1, 3) := by decide +kernel
theorem d_Roo_lawsFitted_63 : decode prog_8_method_14_code 63 = .ok (.goto (-43), 3) := by decide +kernel
theorem d_Roo_lawsFitted_66 : decode prog_8_method_14_code 66 = .ok (.iload 4, 2) := by decide +kernel
theorem d_Roo_lawsFitted_68 : decode prog_8_method_14_code 68 = .ok (.ireturn, 1) := by decide +kernel
theorem d_Roo_howManyFit_0 : decode prog_8_method_15_code 0 = .ok (.iconst 0, 1) := by decide +kernel
theorem d_Roo_howManyFit_1 : decode prog_8_method_15_code 1 = .ok (.istore_n 2, 1) := by decide +kernel
theorem d_Roo_howManyFit_2 : decode prog_8_method_15_code 2 = .ok (.aload_n 0, 1) := by decide +kernel
theorem d_Roo_howManyFit_3 : decode prog_8_method_15_code 3 = .ok (.getfield 11, 3) := by decide +kernel
theorem d_Roo_howManyFit_6 : decode prog_8_method_15_code 6 = .ok (.astore_n 3, 1) := by decide +kernel
theorem d_Roo_howManyFit_7 : decode prog_8_method_15_code 7 = .ok (.aload_n 3, 1) := by decide +kernel
theorem d_Roo_howManyFit_8 : decode prog_8_method_15_code 8 = .ok (.arraylength, 1) := by decide +kernel
theorem d_Roo_howManyFit_9 : decode prog_8_method_15_code 9 = .ok (.istore 4, 2) := by decide +kernel
theorem d_Roo_howManyFit_11 : decode prog_8_method_15_code 11 = .ok (.iconst 0, 1) := by decide +kernel
theorem d_Roo_howManyFit_12 : decode prog_8_method_15_code 12 = .ok (.istore 5, 2) := by decide +kernel
theorem d_Roo_howManyFit_14 : decode prog_8_method_15_code 14 = .ok (.iload 5, 2) := by decide +kernel
theorem d_Roo_howManyFit_16 : decode prog_8_method_15_code 16 = .ok (.iload 4, 2) := by decide +kernel
theorem d_Roo_howManyFit_18 : decode prog_8_method_15_code 18 = .ok (.if_icmp .ge 38, 3) := by decide +kernel
theorem d_Roo_howManyFit_21 : decode prog_8_method_15_code 21 = .ok (.aload_n 3, 1) := by decide +kernel
theorem d_Roo_howManyFit_22 : decode prog_8_method_15_code 22 = .ok (.iload 5, 2) := by decide +kernel
theorem d_Roo_howManyFit_24 : decode prog_8_method_15_code 24 = .ok (.aaload, 1) := by decide +kernel
theorem d_Roo_howManyFit_25 : decode prog_8_method_15_code 25 = .ok (.astore 6, 2) := by decide +kernel
theorem d_Roo_howManyFit_27 : decode prog_8_method_15_code 27 = .ok (.iload_n 2, 1) := by decide +kernel
theorem d_Roo_howManyFit_28 : decode prog_8_method_15_code 28 = .ok (.aload 6, 2) := by decide +kernel
theorem d_Roo_howManyFit_30 : decode prog_8_method_15_code 30 = .ok (.ifnull 17, 3) := by decide +kernel
theorem d_Roo_howManyFit_33 : decode prog_8_method_15_code 33 = .ok (.aload_n 0, 1) := by decide +kernel
theorem d_Roo_howManyFit_34 : decode prog_8_method_15_code 34 = .ok (.aload 6, 2) := by decide +kernel
theorem d_Roo_howManyFit_36 : decode prog_8_method_15_code 36 = .ok (.aload_n 1, 1) := by decide +kernel
theorem d_Roo_howManyFit_37 : decode prog_8_method_15_code 37 = .ok (.invokevirtual 116, 3) := by decide +kernel
theorem d_Roo_howManyFit_40 : decode prog_8_method_15_code 40 = .ok (.ifCond .ne 7, 3) := by decide +kernel
theorem d_Roo_howManyFit_43 : decode prog_8_method_15_code 43 = .ok (.iconst 1, 1) := by decide +kernel
theorem d_Roo_howManyFit_44 : decode prog_8_method_15_code 44 = .ok (.goto 4, 3) := by decide +kernel
theorem d_Roo_howManyFit_47 : decode prog_8_method_15_code 47 = .ok (.iconst 0, 1) := by decide +kernel
theorem d_Roo_howManyFit_48 : decode prog_8_method_15_code 48 = .ok (.iadd, 1) := by decide +kernel
theorem d_Roo_howManyFit_49 : decode prog_8_method_15_code 49 = .ok (.istore_n 2, 1) := by decide +kernel
theorem d_Roo_howManyFit_50 : decode prog_8_method_15_code 50 = .ok (.iinc 5 1, 3) := by decide +kernel
theorem d_Roo_howManyFit_53 : decode prog_8_method_15_code 53 = .ok (.goto (-39), 3) := by decide +kernel
theorem d_Roo_howManyFit_56 : decode prog_8_method_15_code 56 = .ok (.iload_n 2, 1) := by decide +kernel
theorem d_Roo_howManyFit_57 : decode prog_8_method_15_code 57 = .ok (.ireturn, 1) := by decide +kernel
theorem d_Roo_howManyAskedFit_0 : decode prog_8_method_16_code 0 = .ok (.iconst 0, 1) := by decide +kernel
theorem d_Roo_howManyAskedFit_1 : decode prog_8_method_16_code 1 = .ok (.istore_n 2, 1) := by decide +kernel
theorem d_Roo_howManyAskedFit_2 : decode prog_8_method_16_code 2 = .ok (.aload_n 0, 1) := by decide +kernel
theorem d_Roo_howManyAskedFit_3 : decode prog_8_method_16_code 3 = .ok (.getfield 11, 3) := by decide +kernel
theorem d_Roo_howManyAskedFit_6 : decode prog_8_method_16_code 6 = .ok (.astore_n 3, 1) := by decide +kernel
theorem d_Roo_howManyAskedFit_7 : decode prog_8_method_16_code 7 = .ok (.aload_n 3, 1) := by decide +kernel
theorem d_Roo_howManyAskedFit_8 : decode prog_8_method_16_code 8 = .ok (.arraylength, 1) := by decide +kernel
theorem d_Roo_howManyAskedFit_9 : decode prog_8_method_16_code 9 = .ok (.istore 4, 2) := by decide +kernel
theorem d_Roo_howManyAskedFit_11 : decode prog_8_method_16_code 11 = .ok (.iconst 0, 1) := by decide +kernel
theorem d_Roo_howManyAskedFit_12 : decode prog_8_method_16_code 12 = .ok (.istore 5, 2) := by decide +kernel
theorem d_Roo_howManyAskedFit_14 : decode prog_8_method_16_code 14 = .ok (.iload 5, 2) := by decide +kernel
theorem d_Roo_howManyAskedFit_16 : decode prog_8_method_16_code 16 = .ok (.iload 4, 2) := by decide +kernel
theorem d_Roo_howManyAskedFit_18 : decode prog_8_method_16_code 18 = .ok (.if_icmp .ge 46, 3) := by decide +kernel
theorem d_Roo_howManyAskedFit_21 : decode prog_8_method_16_code 21 = .ok (.aload_n 3, 1) := by decide +kernel
theorem d_Roo_howManyAskedFit_22 : decode prog_8_method_16_code 22 = .ok (.iload 5, 2) := by decide +kernel
theorem d_Roo_howManyAskedFit_24 : decode prog_8_method_16_code 24 = .ok (.aaload, 1) := by decide +kernel
theorem d_Roo_howManyAskedFit_25 : decode prog_8_method_16_code 25 = .ok (.astore 6, 2) := by decide +kernel
theorem d_Roo_howManyAskedFit_27 : decode prog_8_method_16_code 27 = .ok (.iload_n 2, 1) := by decide +kernel
theorem d_Roo_howManyAskedFit_28 : decode prog_8_method_16_code 28 = .ok (.aload 6, 2) := by decide +kernel
theorem d_Roo_howManyAskedFit_30 : decode prog_8_method_16_code 30 = .ok (.ifnull 25, 3) := by decide +kernel
theorem d_Roo_howManyAskedFit_33 : decode prog_8_method_16_code 33 = .ok (.aload 6, 2) := by decide +kernel
theorem d_Roo_howManyAskedFit_35 : decode prog_8_method_16_code 35 = .ok (.getfield 119, 3) := by decide +kernel
theorem d_Roo_howManyAskedFit_38 : decode prog_8_method_16_code 38 = .ok (.ifCond .eq 17, 3) := by decide +kernel
theorem d_Roo_howManyAskedFit_41 : decode prog_8_method_16_code 41 = .ok (.aload_n 0, 1) := by decide +kernel
theorem d_Roo_howManyAskedFit_42 : decode prog_8_method_16_code 42 = .ok (.aload 6, 2) := by decide +kernel
theorem d_Roo_howManyAskedFit_44 : decode prog_8_method_16_code 44 = .ok (.aload_n 1, 1) := by decide +kernel
theorem d_Roo_howManyAskedFit_45 : decode prog_8_method_16_code 45 = .ok (.invokevirtual 116, 3) := by decide +kernel
theorem d_Roo_howManyAskedFit_48 : decode prog_8_method_16_code 48 = .ok (.ifCond .ne 7, 3) := by decide +kernel
theorem d_Roo_howManyAskedFit_51 : decode prog_8_method_16_code 51 = .ok (.iconst 1, 1) := by decide +kernel
theorem d_Roo_howManyAskedFit_52 : decode prog_8_method_16_code 52 = .ok (.goto 4, 3) := by decide +kernel
theorem d_Roo_howManyAskedFit_55 : decode prog_8_method_16_code 55 = .ok (.iconst 0, 1) := by decide +kernel
theorem d_Roo_howManyAskedFit_56 : decode prog_8_method_16_code 56 = .ok (.iadd, 1) := by decide +kernel
theorem d_Roo_howManyAskedFit_57 : decode prog_8_method_16_code 57 = .ok (.istore_n 2, 1) := by decide +kernel
theorem d_Roo_howManyAskedFit_58 : decode prog_8_method_16_code 58 = .ok (.iinc 5 1, 3) := by decide +kernel
theorem d_Roo_howManyAskedFit_61 : decode prog_8_method_16_code 61 = .ok (.goto (-47), 3) := by decide +kernel
theorem d_Roo_howManyAskedFit_64 : decode prog_8_method_16_code 64 = .ok (.iload_n 2, 1) := by decide +kernel
theorem d_Roo_howManyAskedFit_65 : decode prog_8_method_16_code 65 = .ok (.ireturn, 1) := by decide +kernel
theorem d_Roo_howManyAsked_0 : decode prog_8_method_17_code 0 = .ok (.iconst 0, 1) := by decide +kernel
theorem d_Roo_howManyAsked_1 : decode prog_8_method_17_code 1 = .ok (.istore_n 1, 1) := by decide +kernel
theorem d_Roo_howManyAsked_2 : decode prog_8_method_17_code 2 = .ok (.aload_n 0, 1) := by decide +kernel
theorem d_Roo_howManyAsked_3 : decode prog_8_method_17_code 3 = .ok (.getfield 11, 3) := by decide +kernel
theorem d_Roo_howManyAsked_6 : decode prog_8_method_17_code 6 = .ok (.astore_n 2, 1) := by decide +kernel
theorem d_Roo_howManyAsked_7 : decode prog_8_method_17_code 7 = .ok (.aload_n 2, 1) := by decide +kernel
theorem d_Roo_howManyAsked_8 : decode prog_8_method_17_code 8 = .ok (.arraylength, 1) := by decide +kernel
theorem d_Roo_howManyAsked_9 : decode prog_8_method_17_code 9 = .ok (.istore_n 3, 1) := by decide +kernel
theorem d_Roo_howManyAsked_10 : decode prog_8_method_17_code 10 = .ok (.iconst 0, 1) := by decide +kernel
theorem d_Roo_howManyAsked_11 : decode prog_8_method_17_code 11 = .ok (.istore 4, 2) := by decide +kernel
theorem d_Roo_howManyAsked_13 : decode prog_8_method_17_code 13 = .ok (.iload 4, 2) := by decide +kernel
theorem d_Roo_howManyAsked_15 : decode prog_8_method_17_code 15 = .ok (.iload_n 3, 1) := by decide +kernel
theorem d_Roo_howManyAsked_16 : decode prog_8_method_17_code 16 = .ok (.if_icmp .ge 36, 3) := by decide +kernel
theorem d_Roo_howManyAsked_19 : decode prog_8_method_17_code 19 = .ok (.aload_n 2, 1) := by decide +kernel
theorem d_Roo_howManyAsked_20 : decode prog_8_method_17_code 20 = .ok (.iload 4, 2) := by decide +kernel
theorem d_Roo_howManyAsked_22 : decode prog_8_method_17_code 22 = .ok (.aaload, 1) := by decide +kernel
theorem d_Roo_howManyAsked_23 : decode prog_8_method_17_code 23 = .ok (.astore 5, 2) := by decide +kernel
theorem d_Roo_howManyAsked_25 : decode prog_8_method_17_code 25 = .ok (.iload_n 1, 1) := by decide +kernel
theorem d_Roo_howManyAsked_26 : decode prog_8_method_17_code 26 = .ok (.aload 5, 2) := by decide +kernel
theorem d_Roo_howManyAsked_28 : decode prog_8_method_17_code 28 = .ok (.ifnull 15, 3) := by decide +kernel
theorem d_Roo_howManyAsked_31 : decode prog_8_method_17_code 31 = .ok (.aload 5, 2) := by decide +kernel
theorem d_Roo_howManyAsked_33 : decode prog_8_method_17_code 33 = .ok (.getfield 119, 3) := by decide +kernel
theorem d_Roo_howManyAsked_36 : decode prog_8_method_17_code 36 = .ok (.ifCond .eq 7, 3) := by decide +kernel
theorem d_Roo_howManyAsked_39 : decode prog_8_method_17_code 39 = .ok (.iconst 1, 1) := by decide +kernel
theorem d_Roo_howManyAsked_40 : decode prog_8_method_17_code 40 = .ok (.goto 4, 3) := by decide +kernel
theorem d_Roo_howManyAsked_43 : decode prog_8_method_17_code 43 = .ok (.iconst 0, 1) := by decide +kernel
theorem d_Roo_howManyAsked_44 : decode prog_8_method_17_code 44 = .ok (.iadd, 1) := by decide +kernel
theorem d_Roo_howManyAsked_45 : decode prog_8_method_17_code 45 = .ok (.istore_n 1, 1) := by decide +kernel
theorem d_Roo_howManyAsked_46 : decode prog_8_method_17_code 46 = .ok (.iinc 4 1, 3) := by decide +kernel
theorem d_Roo_howManyAsked_49 : decode prog_8_method_17_code 49 = .ok (.goto (-36), 3) := by decide +kernel
theorem d_Roo_howManyAsked_52 : decode prog_8_method_17_code 52 = .ok (.iload_n 1, 1) := by decide +kernel
theorem d_Roo_howManyAsked_53 : decode prog_8_method_17_code 53 = .ok (.ireturn, 1) := by decide +kernel
theorem d_Roo_howManyGaps_0 : decode prog_8_method_18_code 0 = .ok (.iconst 0, 1) := by decide +kernel
theorem d_Roo_howManyGaps_1 : decode prog_8_method_18_code 1 = .ok (.istore_n 1, 1) := by decide +kernel
theorem d_Roo_howManyGaps_2 : decode prog_8_method_18_code 2 = .ok (.aload_n 0, 1) := by decide +kernel
theorem d_Roo_howManyGaps_3 : decode prog_8_method_18_code 3 = .ok (.getfield 11, 3) := by decide +kernel
theorem d_Roo_howManyGaps_6 : decode prog_8_method_18_code 6 = .ok (.astore_n 2, 1) := by decide +kernel
theorem d_Roo_howManyGaps_7 : decode prog_8_method_18_code 7 = .ok (.aload_n 2, 1) := by decide +kernel
theorem d_Roo_howManyGaps_8 : decode prog_8_method_18_code 8 = .ok (.arraylength, 1) := by decide +kernel
theorem d_Roo_howManyGaps_9 : decode prog_8_method_18_code 9 = .ok (.istore_n 3, 1) := by decide +kernel
theorem d_Roo_howManyGaps_10 : decode prog_8_method_18_code 10 = .ok (.iconst 0, 1) := by decide +kernel
theorem d_Roo_howManyGaps_11 : decode prog_8_method_18_code 11 = .ok (.istore 4, 2) := by decide +kernel
theorem d_Roo_howManyGaps_13 : decode prog_8_method_18_code 13 = .ok (.iload 4, 2) := by decide +kernel
theorem d_Roo_howManyGaps_15 : decode prog_8_method_18_code 15 = .ok (.iload_n 3, 1) := by decide +kernel
theorem d_Roo_howManyGaps_16 : decode prog_8_method_18_code 16 = .ok (.if_icmp .ge 32, 3) := by decide +kernel
theorem d_Roo_howManyGaps_19 : decode prog_8_method_18_code 19 = .ok (.aload_n 2, 1) := by decide +kernel
theorem d_Roo_howManyGaps_20 : decode prog_8_method_18_code 20 = .ok (.iload 4, 2) := by decide +kernel
theorem d_Roo_howManyGaps_22 : decode prog_8_method_18_code 22 = .ok (.aaload, 1) := by decide +kernel
theorem d_Roo_howManyGaps_23 : decode prog_8_method_18_code 23 = .ok (.astore 5, 2) := by decide +kernel
theorem d_Roo_howManyGaps_25 : decode prog_8_method_18_code 25 = .ok (.iload_n 1, 1) := by decide +kernel
theorem d_Roo_howManyGaps_26 : decode prog_8_method_18_code 26 = .ok (.aload 5, 2) := by decide +kernel
theorem d_Roo_howManyGaps_28 : decode prog_8_method_18_code 28 = .ok (.ifnonnull 7, 3) := by decide +kernel
theorem d_Roo_howManyGaps_31 : decode prog_8_method_18_code 31 = .ok (.iconst 0, 1) := by decide +kernel
theorem d_Roo_howManyGaps_32 : decode prog_8_method_18_code 32 = .ok (.goto 8, 3) := by decide +kernel
theorem d_Roo_howManyGaps_35 : decode prog_8_method_18_code 35 = .ok (.aload 5, 2) := by decide +kernel
theorem d_Roo_howManyGaps_37 : decode prog_8_method_18_code 37 = .ok (.invokevirtual 122, 3) := by decide +kernel
theorem d_Roo_howManyGaps_40 : decode prog_8_method_18_code 40 = .ok (.iadd, 1) := by decide +kernel
theorem d_Roo_howManyGaps_41 : decode prog_8_method_18_code 41 = .ok (.istore_n 1, 1) := by decide +kernel
theorem d_Roo_howManyGaps_42 : decode prog_8_method_18_code 42 = .ok (.iinc 4 1, 3) := by decide +kernel
theorem d_Roo_howManyGaps_45 : decode prog_8_method_18_code 45 = .ok (.goto (-32), 3) := by decide +kernel
theorem d_Roo_howManyGaps_48 : decode prog_8_method_18_code 48 = .ok (.iload_n 1, 1) := by decide +kernel
theorem d_Roo_howManyGaps_49 : decode prog_8_method_18_code 49 = .ok (.ireturn, 1) := by decide +kernel
theorem d_Roo_howManyMarks_0 : decode prog_8_method_19_code 0 = .ok (.iconst 0, 1) := by decide +kernel
theorem d_Roo_howManyMarks_1 : decode prog_8_method_19_code 1 = .ok (.istore_n 1, 1) := by decide +kernel
theorem d_Roo_howManyMarks_2 : decode prog_8_method_19_code 2 = .ok (.aload_n 0, 1) := by decide +kernel
theorem d_Roo_howManyMarks_3 : decode prog_8_method_19_code 3 = .ok (.getfield 11, 3) := by decide +kernel
theorem d_Roo_howManyMarks_6 : decode prog_8_method_19_code 6 = .ok (.astore_n 2, 1) := by decide +kernel
theorem d_Roo_howManyMarks_7 : decode prog_8_method_19_code 7 = .ok (.aload_n 2, 1) := by decide +kernel
theorem d_Roo_howManyMarks_8 : decode prog_8_method_19_code 8 = .ok (.arraylength, 1) := by decide +kernel
theorem d_Roo_howManyMarks_9 : decode prog_8_method_19_code 9 = .ok (.istore_n 3, 1) := by decide +kernel
theorem d_Roo_howManyMarks_10 : decode prog_8_method_19_code 10 = .ok (.iconst 0, 1) := by decide +kernel
theorem d_Roo_howManyMarks_11 : decode prog_8_method_19_code 11 = .ok (.istore 4, 2) := by decide +kernel
theorem d_Roo_howManyMarks_13 : decode prog_8_method_19_code 13 = .ok (.iload 4, 2) := by decide +kernel
theorem d_Roo_howManyMarks_15 : decode prog_8_method_19_code 15 = .ok (.iload_n 3, 1) := by decide +kernel
theorem d_Roo_howManyMarks_16 : decode prog_8_method_19_code 16 = .ok (.if_icmp .ge 35, 3) := by decide +kernel
theorem d_Roo_howManyMarks_19 : decode prog_8_method_19_code 19 = .ok (.aload_n 2, 1) := by decide +kernel
theorem d_Roo_howManyMarks_20 : decode prog_8_method_19_code 20 = .ok (.iload 4, 2) := by decide +kernel
theorem d_Roo_howManyMarks_22 : decode prog_8_method_19_code 22 = .ok (.aaload, 1) := by decide +kernel
theorem d_Roo_howManyMarks_23 : decode prog_8_method_19_code 23 = .ok (.astore 5, 2) := by decide +kernel
theorem d_Roo_howManyMarks_25 : decode prog_8_method_19_code 25 = .ok (.iload_n 1, 1) := by decide +kernel
theorem d_Roo_howManyMarks_26 : decode prog_8_method_19_code 26 = .ok (.aload 5, 2) := by decide +kernel
theorem d_Roo_howManyMarks_28 : decode prog_8_method_19_code 28 = .ok (.ifnonnull 7, 3) := by decide +kernel
theorem d_Roo_howManyMarks_31 : decode prog_8_method_19_code 31 = .ok (.iconst 0, 1) := by decide +kernel
theorem d_Roo_howManyMarks_32 : decode prog_8_method_19_code 32 = .ok (.goto 11, 3) := by decide +kernel
theorem d_Roo_howManyMarks_35 : decode prog_8_method_19_code 35 = .ok (.aload 5, 2) := by decide +kernel
theorem d_Roo_howManyMarks_37 : decode prog_8_method_19_code 37 = .ok (.getfield 126, 3) := by decide +kernel
theorem d_Roo_howManyMarks_40 : decode prog_8_method_19_code 40 = .ok (.invokestatic 127, 3) := by decide +kernel
theorem d_Roo_howManyMarks_43 : decode prog_8_method_19_code 43 = .ok (.iadd, 1) := by decide +kernel
theorem d_Roo_howManyMarks_44 : decode prog_8_method_19_code 44 = .ok (.istore_n 1, 1) := by decide +kernel
theorem d_Roo_howManyMarks_45 : decode prog_8_method_19_code 45 = .ok (.iinc 4 1, 3) := by decide +kernel
theorem d_Roo_howManyMarks_48 : decode prog_8_method_19_code 48 = .ok (.goto (-35), 3) := by decide +kernel
theorem d_Roo_howManyMarks_51 : decode prog_8_method_19_code 51 = .ok (.iload_n 1, 1) := by decide +kernel
theorem d_Roo_howManyMarks_52 : decode prog_8_method_19_code 52 = .ok (.ireturn, 1) := by decide +kernel
theorem d_Roo_shownTo_0 : decode prog_8_method_20_code 0 = .ok (.iconst 0, 1) := by decide +kernel
theorem d_Roo_shownTo_1 : decode prog_8_method_20_code 1 = .ok (.istore_n 2, 1) := by decide +kernel
theorem d_Roo_shownTo_2 : decode prog_8_method_20_code 2 = .ok (.iconst 0, 1) := by decide +kernel
theorem d_Roo_shownTo_3 : decode prog_8_method_20_code 3 = .ok (.istore_n 3, 1) := by decide +kernel
theorem d_Roo_shownTo_4 : decode prog_8_method_20_code 4 = .ok (.iload_n 3, 1) := by decide +kernel
theorem d_Roo_shownTo_5 : decode prog_8_method_20_code 5 = .ok (.aload_n 1, 1) := by decide +kernel
theorem d_Roo_shownTo_6 : decode prog_8_method_20_code 6 = .ok (.getfield 132, 3) := by decide +kernel
theorem d_Roo_shownTo_9 : decode prog_8_method_20_code 9 = .ok (.if_icmp .ge 27, 3) := by decide +kernel
theorem d_Roo_shownTo_12 : decode prog_8_method_20_code 12 = .ok (.iload_n 3, 1) := by decide +kernel
theorem d_Roo_shownTo_13 : decode prog_8_method_20_code 13 = .ok (.aload_n 0, 1) := by decide +kernel
theorem d_Roo_shownTo_14 : decode prog_8_method_20_code 14 = .ok (.getfield 34, 3) := by decide +kernel
theorem d_Roo_shownTo_17 : decode prog_8_method_20_code 17 = .ok (.arraylength, 1) := by decide +kernel
theorem d_Roo_shownTo_18 : decode prog_8_method_20_code 18 = .ok (.if_icmp .ge 18, 3) := by decide +kernel
theorem d_Roo_shownTo_21 : decode prog_8_method_20_code 21 = .ok (.iload_n 2, 1) := by decide +kernel
theorem d_Roo_shownTo_22 : decode prog_8_method_20_code 22 = .ok (.aload_n 0, 1) := by decide +kernel
theorem d_Roo_shownTo_23 : decode prog_8_method_20_code 23 = .ok (.getfield 34, 3) := by decide +kernel
theorem d_Roo_shownTo_26 : decode prog_8_method_20_code 26 = .ok (.iload_n 3, 1) := by decide +kernel
theorem d_Roo_shownTo_27 : decode prog_8_method_20_code 27 = .ok (.iaload, 1) := by decide +kernel
theorem d_Roo_shownTo_28 : decode prog_8_method_20_code 28 = .ok (.iadd, 1) := by decide +kernel
theorem d_Roo_shownTo_29 : decode prog_8_method_20_code 29 = .ok (.istore_n 2, 1) := by decide +kernel
theorem d_Roo_shownTo_30 : decode prog_8_method_20_code 30 = .ok (.iinc 3 1, 3) := by decide +kernel
theorem d_Roo_shownTo_33 : decode prog_8_method_20_code 33 = .ok (.goto (-29), 3) := by decide +kernel
theorem d_Roo_shownTo_36 : decode prog_8_method_20_code 36 = .ok (.aload_n 0, 1) := by decide +kernel
theorem d_Roo_shownTo_37 : decode prog_8_method_20_code 37 = .ok (.getfield 83, 3) := by decide +kernel
theorem d_Roo_shownTo_40 : decode prog_8_method_20_code 40 = .ok (.iload_n 2, 1) := by decide +kernel
theorem d_Roo_shownTo_41 : decode prog_8_method_20_code 41 = .ok (.imul, 1) := by decide +kernel
theorem d_Roo_shownTo_42 : decode prog_8_method_20_code 42 = .ok (.ireturn, 1) := by decide +kernel
theorem d_Roo_fullestRing_0 : decode prog_8_method_21_code 0 = .ok (.iconst (-1), 1) := by decide +kernel
theorem d_Roo_fullestRing_1 : decode prog_8_method_21_code 1 = .ok (.istore_n 3, 1) := by decide +kernel
theorem d_Roo_fullestRing_2 : decode prog_8_method_21_code 2 = .ok (.iconst (-1), 1) := by decide +kernel
theorem d_Roo_fullestRing_3 : decode prog_8_method_21_code 3 = .ok (.istore 4, 2) := by decide +kernel
theorem d_Roo_fullestRing_5 : decode prog_8_method_21_code 5 = .ok (.iconst 0, 1) := by decide +kernel
theorem d_Roo_fullestRing_6 : decode prog_8_method_21_code 6 = .ok (.istore 5, 2) := by decide +kernel
theorem d_Roo_fullestRing_8 : decode prog_8_method_21_code 8 = .ok (.iload 5, 2) := by decide +kernel
theorem d_Roo_fullestRing_10 : decode prog_8_method_21_code 10 = .ok (.iload_n 1, 1) := by decide +kernel
theorem d_Roo_fullestRing_11 : decode prog_8_method_21_code 11 = .ok (.if_icmp .ge 52, 3) := by decide +kernel
theorem d_Roo_fullestRing_14 : decode prog_8_method_21_code 14 = .ok (.iload 5, 2) := by decide +kernel
theorem d_Roo_fullestRing_16 : decode prog_8_method_21_code 16 = .ok (.aload_n 0, 1) := by decide +kernel
theorem d_Roo_fullestRing_17 : decode prog_8_method_21_code 17 = .ok (.getfield 34, 3) := by decide +kernel
theorem d_Roo_fullestRing_20 : decode prog_8_method_21_code 20 = .ok (.arraylength, 1) := by decide +kernel
theorem d_Roo_fullestRing_21 : decode prog_8_method_21_code 21 = .ok (.if_icmp .ge 42, 3) := by decide +kernel
theorem d_Roo_fullestRing_24 : decode prog_8_method_21_code 24 = .ok (.iload_n 2, 1) := by decide +kernel
theorem d_Roo_fullestRing_25 : decode prog_8_method_21_code 25 = .ok (.iload 5, 2) := by decide +kernel
theorem d_Roo_fullestRing_27 : decode prog_8_method_21_code 27 = .ok (.invokestatic 135, 3) := by decide +kernel
theorem d_Roo_fullestRing_30 : decode prog_8_method_21_code 30 = .ok (.ifCond .ne 27, 3) := by decide +kernel
theorem d_Roo_fullestRing_33 : decode prog_8_method_21_code 33 = .ok (.aload_n 0, 1) := by decide +kernel
theorem d_Roo_fullestRing_34 : decode prog_8_method_21_code 34 = .ok (.getfield 34, 3) := by decide +kernel
theorem d_Roo_fullestRing_37 : decode prog_8_method_21_code 37 = .ok (.iload 5, 2) := by decide +kernel
theorem d_Roo_fullestRing_39 : decode prog_8_method_21_code 39 = .ok (.iaload, 1) := by decide +kernel
theorem d_Roo_fullestRing_40 : decode prog_8_method_21_code 40 = .ok (.iload 4, 2) := by decide +kernel
theorem d_Roo_fullestRing_42 : decode prog_8_method_21_code 42 = .ok (.if_icmp .le 15, 3) := by decide +kernel
theorem d_Roo_fullestRing_45 : decode prog_8_method_21_code 45 = .ok (.iload 5, 2) := by decide +kernel
theorem d_Roo_fullestRing_47 : decode prog_8_method_21_code 47 = .ok (.istore_n 3, 1) := by decide +kernel
theorem d_Roo_fullestRing_48 : decode prog_8_method_21_code 48 = .ok (.aload_n 0, 1) := by decide +kernel
theorem d_Roo_fullestRing_49 : decode prog_8_method_21_code 49 = .ok (.getfield 34, 3) := by decide +kernel
theorem d_Roo_fullestRing_52 : decode prog_8_method_21_code 52 = .ok (.iload 5, 2) := by decide +kernel
theorem d_Roo_fullestRing_54 : decode prog_8_method_21_code 54 = .ok (.iaload, 1) := by decide +kernel
theorem d_Roo_fullestRing_55 : decode prog_8_method_21_code 55 = .ok (.istore 4, 2) := by decide +kernel
theorem d_Roo_fullestRing_57 : decode prog_8_method_21_code 57 = .ok (.iinc 5 1, 3) := by decide +kernel
theorem d_Roo_fullestRing_60 : decode prog_8_method_21_code 60 = .ok (.goto (-52), 3) := by decide +kernel
theorem d_Roo_fullestRing_63 : decode prog_8_method_21_code 63 = .ok (.iload_n 3, 1) := by decide +kernel
theorem d_Roo_fullestRing_64 : decode prog_8_method_21_code 64 = .ok (.ireturn, 1) := by decide +kernel
theorem d_Tap_init_0 : decode prog_9_method_1_code 0 = .ok (.aload_n 0, 1) := by decide +kernel
theorem d_Tap_init_1 : decode prog_9_method_1_code 1 = .ok (.invokespecial 3, 3) := by decide +kernel
theorem d_Tap_init_4 : decode prog_9_method_1_code 4 = .ok (.aload_n 0, 1) := by decide +kernel
theorem d_Tap_init_5 : decode prog_9_method_1_code 5 = .ok (.bipush 24, 2) := by decide +kernel
theorem d_Tap_init_7 : decode prog_9_method_1_code 7 = .ok (.newarray .int, 2) := by decide +kernel
theorem d_Tap_init_9 : decode prog_9_method_1_code 9 = .ok (.putfield 9, 3) := by decide +kernel
theorem d_Tap_init_12 : decode prog_9_method_1_code 12 = .ok (.return_, 1) := by decide +kernel
theorem d_Tap_roomLeft_0 : decode prog_9_method_2_code 0 = .ok (.aload_n 0, 1) := by decide +kernel
theorem d_Tap_roomLeft_1 : decode prog_9_method_2_code 1 = .ok (.getfield 9, 3) := by decide +kernel
theorem d_Tap_roomLeft_4 : decode prog_9_method_2_code 4 = .ok (.arraylength, 1) := by decide +kernel
theorem d_Tap_roomLeft_5 : decode prog_9_method_2_code 5 = .ok (.aload_n 0, 1) := by decide +kernel
theorem d_Tap_roomLeft_6 : decode prog_9_method_2_code 6 = .ok (.getfield 15, 3) := by decide +kernel
theorem d_Tap_roomLeft_9 : decode prog_9_method_2_code 9 = .ok (.isub, 1) := by decide +kernel
theorem d_Tap_roomLeft_10 : decode prog_9_method_2_code 10 = .ok (.ireturn, 1) := by decide +kernel
theorem d_Tap_add_0 : decode prog_9_method_3_code 0 = .ok (.iconst 0, 1) := by decide +kernel
theorem d_Tap_add_1 : decode prog_9_method_3_code 1 = .ok (.istore 4, 2) := by decide +kernel
theorem d_Tap_add_3 : decode prog_9_method_3_code 3 = .ok (.iload 4, 2) := by decide +kernel
theorem d_Tap_add_5 : decode prog_9_method_3_code 5 = .ok (.iload_n 1, 1) := by decide +kernel
theorem d_Tap_add_6 : decode prog_9_method_3_code 6 = .ok (.if_icmp .ge 59, 3) := by decide +kernel
theorem d_Tap_add_9 : decode prog_9_method_3_code 9 = .ok (.aload_n 0, 1) := by decide +kernel
theorem d_Tap_add_10 : decode prog_9_method_3_code 10 = .ok (.getfield 15, 3) := by decide +kernel
theorem d_Tap_add_13 : decode prog_9_method_3_code 13 = .ok (.ifCond .lt 52, 3) := by decide +kernel
theorem d_Tap_add_16 : decode prog_9_method_3_code 16 = .ok (.aload_n 0, 1) := by decide +kernel
theorem d_Tap_add_17 : decode prog_9_method_3_code 17 = .ok (.getfield 15, 3) := by decide +kernel
theorem d_Tap_add_20 : decode prog_9_method_3_code 20 = .ok (.aload_n 0, 1) := by decide +kernel
theorem d_Tap_add_21 : decode prog_9_method_3_code 21 = .ok (.getfield 9, 3) := by decide +kernel
theorem d_Tap_add_24 : decode prog_9_method_3_code 24 = .ok (.arraylength, 1) := by decide +kernel
theorem d_Tap_add_25 : decode prog_9_method_3_code 25 = .ok (.if_icmp .ge 40, 3) := by decide +kernel
theorem d_Tap_add_28 : decode prog_9_method_3_code 28 = .ok (.aload_n 0, 1) := by decide +kernel
theorem d_Tap_add_29 : decode prog_9_method_3_code 29 = .ok (.getfield 9, 3) := by decide +kernel
theorem d_Tap_add_32 : decode prog_9_method_3_code 32 = .ok (.aload_n 0, 1) := by decide +kernel
theorem d_Tap_add_33 : decode prog_9_method_3_code 33 = .ok (.getfield 15, 3) := by decide +kernel
theorem d_Tap_add_36 : decode prog_9_method_3_code 36 = .ok (.lload_n 2, 1) := by decide +kernel
theorem d_Tap_add_37 : decode prog_9_method_3_code 37 = .ok (.bipush 8, 2) := by decide +kernel
theorem d_Tap_add_39 : decode prog_9_method_3_code 39 = .ok (.iload 4, 2) := by decide +kernel
theorem d_Tap_add_41 : decode prog_9_method_3_code 41 = .ok (.imul, 1) := by decide +kernel
theorem d_Tap_add_42 : decode prog_9_method_3_code 42 = .ok (.lushr, 1) := by decide +kernel
theorem d_Tap_add_43 : decode prog_9_method_3_code 43 = .ok (.ldc2_w 19, 3) := by decide +kernel
theorem d_Tap_add_46 : decode prog_9_method_3_code 46 = .ok (.land, 1) := by decide +kernel
theorem d_Tap_add_47 : decode prog_9_method_3_code 47 = .ok (.l2i, 1) := by decide +kernel
theorem d_Tap_add_48 : decode prog_9_method_3_code 48 = .ok (.iastore, 1) := by decide +kernel
theorem d_Tap_add_49 : decode prog_9_method_3_code 49 = .ok (.aload_n 0, 1) := by decide +kernel
theorem d_Tap_add_50 : decode prog_9_method_3_code 50 = .ok (.dup, 1) := by decide +kernel
theorem d_Tap_add_51 : decode prog_9_method_3_code 51 = .ok (.getfield 15, 3) := by decide +kernel
theorem d_Tap_add_54 : decode prog_9_method_3_code 54 = .ok (.iconst 1, 1) := by decide +kernel
theorem d_Tap_add_55 : decode prog_9_method_3_code 55 = .ok (.iadd, 1) := by decide +kernel
theorem d_Tap_add_56 : decode prog_9_method_3_code 56 = .ok (.putfield 15, 3) := by decide +kernel
theorem d_Tap_add_59 : decode prog_9_method_3_code 59 = .ok (.iinc 4 1, 3) := by decide +kernel
theorem d_Tap_add_62 : decode prog_9_method_3_code 62 = .ok (.goto (-59), 3) := by decide +kernel
theorem d_Tap_add_65 : decode prog_9_method_3_code 65 = .ok (.return_, 1) := by decide +kernel
theorem d_Tap_clear_0 : decode prog_9_method_4_code 0 = .ok (.aload_n 0, 1) := by decide +kernel
theorem d_Tap_clear_1 : decode prog_9_method_4_code 1 = .ok (.iconst 0, 1) := by decide +kernel
theorem d_Tap_clear_2 : decode prog_9_method_4_code 2 = .ok (.putfield 15, 3) := by decide +kernel
theorem d_Tap_clear_5 : decode prog_9_method_4_code 5 = .ok (.return_, 1) := by decide +kernel
theorem d_Tap_read_0 : decode prog_9_method_5_code 0 = .ok (.aload_n 0, 1) := by decide +kernel
theorem d_Tap_read_1 : decode prog_9_method_5_code 1 = .ok (.iconst 0, 1) := by decide +kernel
theorem d_Tap_read_2 : decode prog_9_method_5_code 2 = .ok (.putfield 21, 3) := by decide +kernel
theorem d_Tap_read_5 : decode prog_9_method_5_code 5 = .ok (.aload_n 0, 1) := by decide +kernel
theorem d_Tap_read_6 : decode prog_9_method_5_code 6 = .ok (.invokevirtual 24, 3) := by decide +kernel
theorem d_Tap_read_9 : decode prog_9_method_5_code 9 = .ok (.ifCond .eq 42, 3) := by decide +kernel
theorem d_Tap_read_12 : decode prog_9_method_5_code 12 = .ok (.aload_n 0, 1) := by decide +kernel
theorem d_Tap_read_13 : decode prog_9_method_5_code 13 = .ok (.invokevirtual 28, 3) := by decide +kernel
theorem d_Tap_read_16 : decode prog_9_method_5_code 16 = .ok (.ifCond .eq 35, 3) := by decide +kernel
theorem d_Tap_read_19 : decode prog_9_method_5_code 19 = .ok (.aload_n 0, 1) := by decide +kernel
theorem d_Tap_read_20 : decode prog_9_method_5_code 20 = .ok (.invokevirtual 31, 3) := by decide +kernel
theorem d_Tap_read_23 : decode prog_9_method_5_code 23 = .ok (.ifCond .eq 28, 3) := by decide +kernel
theorem d_Tap_read_26 : decode prog_9_method_5_code 26 = .ok (.aload_n 0, 1) := by decide +kernel
theorem d_Tap_read_27 : decode prog_9_method_5_code 27 = .ok (.invokevirtual 34, 3) := by decide +kernel
theorem d_Tap_read_30 : decode prog_9_method_5_code 30 = .ok (.ifCond .eq 21, 3) := by decide +kernel
theorem d_Tap_read_33 : decode prog_9_method_5_code 33 = .ok (.aload_n 0, 1) := by decide +kernel
theorem d_Tap_read_34 : decode prog_9_method_5_code 34 = .ok (.invokevirtual 37, 3) := by decide +kernel
theorem d_Tap_read_37 : decode prog_9_method_5_code 37 = .ok (.ifCond .eq 14, 3) := by decide +kernel
theorem d_Tap_read_40 : decode prog_9_method_5_code 40 = .ok (.aload_n 0, 1) := by decide +kernel
theorem d_Tap_read_41 : decode prog_9_method_5_code 41 = .ok (.invokevirtual 40, 3) := by decide +kernel
theorem d_Tap_read_44 : decode prog_9_method_5_code 44 = .ok (.ifCond .eq 7, 3) := by decide +kernel
theorem d_Tap_read_47 : decode prog_9_method_5_code 47 = .ok (.iconst 1, 1) := by decide +kernel
theorem d_Tap_read_48 : decode prog_9_method_5_code 48 = .ok (.goto 4, 3) := by decide +kernel
theorem d_Tap_read_51 : decode prog_9_method_5_code 51 = .ok (.iconst 0, 1) := by decide +kernel
theorem d_Tap_read_52 : decode prog_9_method_5_code 52 = .ok (.ireturn, 1) := by decide +kernel
theorem d_Tap_newTelling_0 : decode prog_9_method_6_code 0 = .ok (.aload_n 0, 1) := by decide +kernel
theorem d_Tap_newTelling_1 : decode prog_9_method_6_code 1 = .ok (.getfield 43, 3) := by decide +kernel
theorem d_Tap_newTelling_4 : decode prog_9_method_6_code 4 = .ok (.ifCond .eq 12, 3) := by decide +kernel
theorem d_Tap_newTelling_7 : decode prog_9_method_6_code 7 = .ok (.new 47, 3) := by decide +kernel
theorem d_Tap_newTelling_10 : decode prog_9_method_6_code 10 = .ok (.dup, 1) := by decide +kernel
theorem d_Tap_newTelling_11 : decode prog_9_method_6_code 11 = .ok (.aload_n 0, 1) := by decide +kernel
theorem d_Tap_newTelling_12 : decode prog_9_method_6_code 12 = .ok (.invokespecial 49, 3) := by decide +kernel
theorem d_Tap_newTelling_15 : decode prog_9_method_6_code 15 = .ok (.areturn, 1) := by decide +kernel
theorem d_Tap_newTelling_16 : decode prog_9_method_6_code 16 = .ok (.aload_n 0, 1) := by decide +kernel
theorem d_Tap_newTelling_17 : decode prog_9_method_6_code 17 = .ok (.getfield 52, 3) := by decide +kernel
theorem d_Tap_newTelling_20 : decode prog_9_method_6_code 20 = .ok (.iconst 5, 1) := by decide +kernel
theorem d_Tap_newTelling_21 : decode prog_9_method_6_code 21 = .ok (.invokestatic 55, 3) := by decide +kernel
theorem d_Tap_newTelling_24 : decode prog_9_method_6_code 24 = .ok (.ifCond .eq 24, 3) := by decide +kernel
theorem d_Tap_newTelling_27 : decode prog_9_method_6_code 27 = .ok (.aload_n 0, 1) := by decide +kernel
theorem d_Tap_newTelling_28 : decode prog_9_method_6_code 28 = .ok (.getfield 52, 3) := by decide +kernel
theorem d_Tap_newTelling_31 : decode prog_9_method_6_code 31 = .ok (.bipush 6, 2) := by decide +kernel
theorem d_Tap_newTelling_33 : decode prog_9_method_6_code 33 = .ok (.invokestatic 55, 3) := by decide +kernel
theorem d_Tap_newTelling_36 : decode prog_9_method_6_code 36 = .ok (.ifCond .ne 12, 3) := by decide +kernel
theorem d_Tap_newTelling_39 : decode prog_9_method_6_code 39 = .ok (.new 59, 3) := by decide +kernel
theorem d_Tap_newTelling_42 : decode prog_9_method_6_code 42 = .ok (.dup, 1) := by decide +kernel
theorem d_Tap_newTelling_43 : decode prog_9_method_6_code 43 = .ok (.aload_n 0, 1) := by decide +kernel
theorem d_Tap_newTelling_44 : decode prog_9_method_6_code 44 = .ok (.invokespecial 61, 3) := by decide +kernel
theorem d_Tap_newTelling_47 : decode prog_9_method_6_code 47 = .ok (.areturn, 1) := by decide +kernel
theorem d_Tap_newTelling_48 : decode prog_9_method_6_code 48 = .ok (.aload_n 0, 1) := by decide +kernel
theorem d_Tap_newTelling_49 : decode prog_9_method_6_code 49 = .ok (.getfield 52, 3) := by decide +kernel
theorem d_Tap_newTelling_52 : decode prog_9_method_6_code 52 = .ok (.iconst 3, 1) := by decide +kernel
theorem d_Tap_newTelling_53 : decode prog_9_method_6_code 53 = .ok (.invokestatic 55, 3) := by decide +kernel
theorem d_Tap_newTelling_56 : decode prog_9_method_6_code 56 = .ok (.ifCond .eq 23, 3) := by decide +kernel
theorem d_Tap_newTelling_59 : decode prog_9_method_6_code 59 = .ok (.aload_n 0, 1) := by decide +kernel
theorem d_Tap_newTelling_60 : decode prog_9_method_6_code 60 = .ok (.getfield 52, 3) := by decide +kernel
theorem d_Tap_newTelling_63 : decode prog_9_method_6_code 63 = .ok (.iconst 4, 1) := by decide +kernel
theorem d_Tap_newTelling_64 : decode prog_9_method_6_code 64 = .ok (.invokestatic 55, 3) := by decide +kernel
theorem d_Tap_newTelling_67 : decode prog_9_method_6_code 67 = .ok (.ifCond .eq 12, 3) := by decide +kernel
theorem d_Tap_newTelling_70 : decode prog_9_method_6_code 70 = .ok (.new 62, 3) := by decide +kernel
theorem d_Tap_newTelling_73 : decode prog_9_method_6_code 73 = .ok (.dup, 1) := by decide +kernel
theorem d_Tap_newTelling_74 : decode prog_9_method_6_code 74 = .ok (.aload_n 0, 1) := by decide +kernel
theorem d_Tap_newTelling_75 : decode prog_9_method_6_code 75 = .ok (.invokespecial 64, 3) := by decide +kernel
theorem d_Tap_newTelling_78 : decode prog_9_method_6_code 78 = .ok (.areturn, 1) := by decide +kernel
theorem d_Tap_newTelling_79 : decode prog_9_method_6_code 79 = .ok (.aload_n 0, 1) := by decide +kernel
theorem d_Tap_newTelling_80 : decode prog_9_method_6_code 80 = .ok (.getfield 52, 3) := by decide +kernel
theorem d_Tap_newTelling_83 : decode prog_9_method_6_code 83 = .ok (.iconst 4, 1) := by decide +kernel
theorem d_Tap_newTelling_84 : decode prog_9_method_6_code 84 = .ok (.invokestatic 55, 3) := by decide +kernel
theorem d_Tap_newTelling_87 : decode prog_9_method_6_code 87 = .ok (.ifCond .eq 12, 3) := by decide +kernel
theorem d_Tap_newTelling_90 : decode prog_9_method_6_code 90 = .ok (.new 65, 3) := by decide +kernel
theorem d_Tap_newTelling_93 : decode prog_9_method_6_code 93 = .ok (.dup, 1) := by decide +kernel
theorem d_Tap_newTelling_94 : decode prog_9_method_6_code 94 = .ok (.aload_n 0, 1) := by decide +kernel
theorem d_Tap_newTelling_95 : decode prog_9_method_6_code 95 = .ok (.invokespecial 67, 3) := by decide +kernel
theorem d_Tap_newTelling_98 : decode prog_9_method_6_code 98 = .ok (.areturn, 1) := by decide +kernel
theorem d_Tap_newTelling_99 : decode prog_9_method_6_code 99 = .ok (.aload_n 0, 1) := by decide +kernel
theorem d_Tap_newTelling_100 : decode prog_9_method_6_code 100 = .ok (.getfield 68, 3) := by decide +kernel
theorem d_Tap_newTelling_103 : decode prog_9_method_6_code 103 = .ok (.bipush 20, 2) := by decide +kernel
theorem d_Tap_newTelling_105 : decode prog_9_method_6_code 105 = .ok (.if_icmp .lt 14, 3) := by decide +kernel
theorem d_Tap_newTelling_108 : decode prog_9_method_6_code 108 = .ok (.new 71, 3) := by decide +kernel
theorem d_Tap_newTelling_111 : decode prog_9_method_6_code 111 = .ok (.dup, 1) := by decide +kernel
theorem d_Tap_newTelling_112 : decode prog_9_method_6_code 112 = .ok (.aload_n 0, 1) := by decide +kernel
theorem d_Tap_newTelling_113 : decode prog_9_method_6_code 113 = .ok (.invokespecial 73, 3) := by decide +kernel
theorem d_Tap_newTelling_116 : decode prog_9_method_6_code 116 = .ok (.goto 11, 3) := by decide +kernel
theorem d_Tap_newTelling_119 : decode prog_9_method_6_code 119 = .ok (.new 74, 3) := by decide +kernel
theorem d_Tap_newTelling_122 : decode prog_9_method_6_code 122 = .ok (.dup, 1) := by decide +kernel
theorem d_Tap_newTelling_123 : decode prog_9_method_6_code 123 = .ok (.aload_n 0, 1) := by decide +kernel
theorem d_Tap_newTelling_124 : decode prog_9_method_6_code 124 = .ok (.invokespecial 76, 3) := by decide +kernel
theorem d_Tap_newTelling_127 : decode prog_9_method_6_code 127 = .ok (.areturn, 1) := by decide +kernel
theorem d_Tap_byteHere_0 : decode prog_9_method_7_code 0 = .ok (.aload_n 0, 1) := by decide +kernel
theorem d_Tap_byteHere_1 : decode prog_9_method_7_code 1 = .ok (.getfield 21, 3) := by decide +kernel
theorem d_Tap_byteHere_4 : decode prog_9_method_7_code 4 = .ok (.ifCond .lt 38, 3) := by decide +kernel
theorem d_Tap_byteHere_7 : decode prog_9_method_7_code 7 = .ok (.aload_n 0, 1) := by decide +kernel
theorem d_Tap_byteHere_8 : decode prog_9_method_7_code 8 = .ok (.getfield 21, 3) := by decide +kernel
theorem d_Tap_byteHere_11 : decode prog_9_method_7_code 11 = .ok (.aload_n 0, 1) := by decide +kernel
theorem d_Tap_byteHere_12 : decode prog_9_method_7_code 12 = .ok (.getfield 15, 3) := by decide +kernel
theorem d_Tap_byteHere_15 : decode prog_9_method_7_code 15 = .ok (.if_icmp .ge 27, 3) := by decide +kernel
theorem d_Tap_byteHere_18 : decode prog_9_method_7_code 18 = .ok (.aload_n 0, 1) := by decide +kernel
theorem d_Tap_byteHere_19 : decode prog_9_method_7_code 19 = .ok (.getfield 21, 3) := by decide +kernel
theorem d_Tap_byteHere_22 : decode prog_9_method_7_code 22 = .ok (.aload_n 0, 1) := by decide +kernel
theorem d_Tap_byteHere_23 : decode prog_9_method_7_code 23 = .ok (.getfield 9, 3) := by decide +kernel
theorem d_Tap_byteHere_26 : decode prog_9_method_7_code 26 = .ok (.arraylength, 1) := by decide +kernel
theorem d_Tap_byteHere_27 : decode prog_9_method_7_code 27 = .ok (.if_icmp .ge 15, 3) := by decide +kernel
theorem d_Tap_byteHere_30 : decode prog_9_method_7_code 30 = .ok (.aload_n 0, 1) := by decide +kernel
theorem d_Tap_byteHere_31 : decode prog_9_method_7_code 31 = .ok (.getfield 9, 3) := by decide +kernel
theorem d_Tap_byteHere_34 : decode prog_9_method_7_code 34 = .ok (.aload_n 0, 1) := by decide +kernel
theorem d_Tap_byteHere_35 : decode prog_9_method_7_code 35 = .ok (.getfield 21, 3) := by decide +kernel
theorem d_Tap_byteHere_38 : decode prog_9_method_7_code 38 = .ok (.iaload, 1) := by decide +kernel
theorem d_Tap_byteHere_39 : decode prog_9_method_7_code 39 = .ok (.goto 4, 3) := by decide +kernel
theorem d_Tap_byteHere_42 : decode prog_9_method_7_code 42 = .ok (.iconst (-1), 1) := by decide +kernel
theorem d_Tap_byteHere_43 : decode prog_9_method_7_code 43 = .ok (.ireturn, 1) := by decide +kernel
theorem d_Tap_passes_0 : decode prog_9_method_8_code 0 = .ok (.aload_n 0, 1) := by decide +kernel
theorem d_Tap_passes_1 : decode prog_9_method_8_code 1 = .ok (.invokevirtual 77, 3) := by decide +kernel
theorem d_Tap_passes_4 : decode prog_9_method_8_code 4 = .ok (.iload_n 1, 1) := by decide +kernel
theorem d_Tap_passes_5 : decode prog_9_method_8_code 5 = .ok (.if_icmp .eq 5, 3) := by decide +kernel
theorem d_Tap_passes_8 : decode prog_9_method_8_code 8 = .ok (.iconst 0, 1) := by decide +kernel
theorem d_Tap_passes_9 : decode prog_9_method_8_code 9 = .ok (.ireturn, 1) := by decide +kernel
theorem d_Tap_passes_10 : decode prog_9_method_8_code 10 = .ok (.aload_n 0, 1) := by decide +kernel
theorem d_Tap_passes_11 : decode prog_9_method_8_code 11 = .ok (.dup, 1) := by decide +kernel
theorem d_Tap_passes_12 : decode prog_9_method_8_code 12 = .ok (.getfield 21, 3) := by decide +kernel
theorem d_Tap_passes_15 : decode prog_9_method_8_code 15 = .ok (.iconst 1, 1) := by decide +kernel
theorem d_Tap_passes_16 : decode prog_9_method_8_code 16 = .ok (.iadd, 1) := by decide +kernel
theorem d_Tap_passes_17 : decode prog_9_method_8_code 17 = .ok (.putfield 21, 3) := by decide +kernel
theorem d_Tap_passes_20 : decode prog_9_method_8_code 20 = .ok (.iconst 1, 1) := by decide +kernel
theorem d_Tap_passes_21 : decode prog_9_method_8_code 21 = .ok (.ireturn, 1) := by decide +kernel
theorem d_Tap_digitHere_0 : decode prog_9_method_9_code 0 = .ok (.aload_n 0, 1) := by decide +kernel
theorem d_Tap_digitHere_1 : decode prog_9_method_9_code 1 = .ok (.invokevirtual 77, 3) := by decide +kernel
theorem d_Tap_digitHere_4 : decode prog_9_method_9_code 4 = .ok (.bipush 48, 2) := by decide +kernel
theorem d_Tap_digitHere_6 : decode prog_9_method_9_code 6 = .ok (.if_icmp .lt 16, 3) := by decide +kernel
theorem d_Tap_digitHere_9 : decode prog_9_method_9_code 9 = .ok (.aload_n 0, 1) := by decide +kernel
theorem d_Tap_digitHere_10 : decode prog_9_method_9_code 10 = .ok (.invokevirtual 77, 3) := by decide +kernel
theorem d_Tap_digitHere_13 : decode prog_9_method_9_code 13 = .ok (.bipush 57, 2) := by decide +kernel
theorem d_Tap_digitHere_15 : decode prog_9_method_9_code 15 = .ok (.if_icmp .gt 7, 3) := by decide +kernel
theorem d_Tap_digitHere_18 : decode prog_9_method_9_code 18 = .ok (.iconst 1, 1) := by decide +kernel
theorem d_Tap_digitHere_19 : decode prog_9_method_9_code 19 = .ok (.goto 4, 3) := by decide +kernel
theorem d_Tap_digitHere_22 : decode prog_9_method_9_code 22 = .ok (.iconst 0, 1) := by decide +kernel
theorem d_Tap_digitHere_23 : decode prog_9_method_9_code 23 = .ok (.ireturn, 1) := by decide +kernel
theorem d_Tap_readNumber_0 : decode prog_9_method_10_code 0 = .ok (.aload_n 0, 1) := by decide +kernel
theorem d_Tap_readNumber_1 : decode prog_9_method_10_code 1 = .ok (.invokevirtual 81, 3) := by decide +kernel
theorem d_Tap_readNumber_4 : decode prog_9_method_10_code 4 = .ok (.ifCond .ne 6, 3) := by decide +kernel
theorem d_Tap_readNumber_7 : decode prog_9_method_10_code 7 = .ok (.bipush (-9), 2) := by decide +kernel
theorem d_Tap_readNumber_9 : decode prog_9_method_10_code 9 = .ok (.ireturn, 1) := by decide +kernel
theorem d_Tap_readNumber_10 : decode prog_9_method_10_code 10 = .ok (.iconst 0, 1) := by decide +kernel
theorem d_Tap_readNumber_11 : decode prog_9_method_10_code 11 = .ok (.istore_n 2, 1) := by decide +kernel
theorem d_Tap_readNumber_12 : decode prog_9_method_10_code 12 = .ok (.iconst 0, 1) := by decide +kernel
theorem d_Tap_readNumber_13 : decode prog_9_method_10_code 13 = .ok (.istore_n 3, 1) := by decide +kernel
theorem d_Tap_readNumber_14 : decode prog_9_method_10_code 14 = .ok (.iload_n 3, 1) := by decide +kernel
theorem d_Tap_readNumber_15 : decode prog_9_method_10_code 15 = .ok (.iload_n 1, 1) := by decide +kernel
theorem d_Tap_readNumber_16 : decode prog_9_method_10_code 16 = .ok (.if_icmp .ge 39, 3) := by decide +kernel
theorem d_Tap_readNumber_19 : decode prog_9_method_10_code 19 = .ok (.aload_n 0, 1) := by decide +kernel
theorem d_Tap_readNumber_20 : decode prog_9_method_10_code 20 = .ok (.invokevirtual 81, 3) := by decide +kernel
theorem d_Tap_readNumber_23 : decode prog_9_method_10_code 23 = .ok (.ifCond .eq 32, 3) := by decide +kernel
theorem d_Tap_readNumber_26 : decode prog_9_method_10_code 26 = .ok (.bipush 10, 2) := by decide +kernel
theorem d_Tap_readNumber_28 : decode prog_9_method_10_code 28 = .ok (.iload_n 2, 1) := by decide +kernel
theorem d_Tap_readNumber_29 : decode prog_9_method_10_code 29 = .ok (.imul, 1) := by decide +kernel
theorem d_Tap_readNumber_30 : decode prog_9_method_10_code 30 = .ok (.aload_n 0, 1) := by decide +kernel
theorem d_Tap_readNumber_31 : decode prog_9_method_10_code 31 = .ok (.invokevirtual 77, 3) := by decide +kernel
theorem d_Tap_readNumber_34 : decode prog_9_method_10_code 34 = .ok (.iadd, 1) := by decide +kernel
theorem d_Tap_readNumber_35 : decode prog_9_method_10_code 35 = .ok (.bipush 48, 2) := by decide +kernel
theorem d_Tap_readNumber_37 : decode prog_9_method_10_code 37 = .ok (.isub, 1) := by decide +kernel
theorem d_Tap_readNumber_38 : decode prog_9_method_10_code 38 = .ok (.istore_n 2, 1) := by decide +kernel
theorem d_Tap_readNumber_39 : decode prog_9_method_10_code 39 = .ok (.aload_n 0, 1) := by decide +kernel
theorem d_Tap_readNumber_40 : decode prog_9_method_10_code 40 = .ok (.dup, 1) := by decide +kernel
theorem d_Tap_readNumber_41 : decode prog_9_method_10_code 41 = .ok (.getfield 21, 3) := by decide +kernel
theorem d_Tap_readNumber_44 : decode prog_9_method_10_code 44 = .ok (.iconst 1, 1) := by decide +kernel
theorem d_Tap_readNumber_45 : decode prog_9_method_10_code 45 = .ok (.iadd, 1) := by decide +kernel
theorem d_Tap_readNumber_46 : decode prog_9_method_10_code 46 = .ok (.putfield 21, 3) := by decide +kernel
theorem d_Tap_readNumber_49 : decode prog_9_method_10_code 49 = .ok (.iinc 3 1, 3) := by decide +kernel
theorem d_Tap_readNumber_52 : decode prog_9_method_10_code 52 = .ok (.goto (-38), 3) := by decide +kernel
theorem d_Tap_readNumber_55 : decode prog_9_method_10_code 55 = .ok (.iload_n 2, 1) := by decide +kernel
theorem d_Tap_readNumber_56 : decode prog_9_method_10_code 56 = .ok (.ireturn, 1) := by decide +kernel
theorem d_Tap_readSize_0 : decode prog_9_method_11_code 0 = .ok (.aload_n 0, 1) := by decide +kernel
theorem d_Tap_readSize_1 : decode prog_9_method_11_code 1 = .ok (.bipush (-9), 2) := by decide +kernel
theorem d_Tap_readSize_3 : decode prog_9_method_11_code 3 = .ok (.putfield 84, 3) := by decide +kernel
theorem d_Tap_readSize_6 : decode prog_9_method_11_code 6 = .ok (.aload_n 0, 1) := by decide +kernel
theorem d_Tap_readSize_7 : decode prog_9_method_11_code 7 = .ok (.bipush 115, 2) := by decide +kernel
theorem d_Tap_readSize_9 : decode prog_9_method_11_code 9 = .ok (.invokevirtual 87, 3) := by decide +kernel
theorem d_Tap_readSize_12 : decode prog_9_method_11_code 12 = .ok (.ifCond .ne 5, 3) := by decide +kernel
theorem d_Tap_readSize_15 : decode prog_9_method_11_code 15 = .ok (.iconst 1, 1) := by decide +kernel
theorem d_Tap_readSize_16 : decode prog_9_method_11_code 16 = .ok (.ireturn, 1) := by decide +kernel
theorem d_Tap_readSize_17 : decode prog_9_method_11_code 17 = .ok (.aload_n 0, 1) := by decide +kernel
theorem d_Tap_readSize_18 : decode prog_9_method_11_code 18 = .ok (.aload_n 0, 1) := by decide +kernel
theorem d_Tap_readSize_19 : decode prog_9_method_11_code 19 = .ok (.iconst 3, 1) := by decide +kernel
theorem d_Tap_readSize_20 : decode prog_9_method_11_code 20 = .ok (.invokevirtual 91, 3) := by decide +kernel
theorem d_Tap_readSize_23 : decode prog_9_method_11_code 23 = .ok (.putfield 84, 3) := by decide +kernel
theorem d_Tap_readSize_26 : decode prog_9_method_11_code 26 = .ok (.aload_n 0, 1) := by decide +kernel
theorem d_Tap_readSize_27 : decode prog_9_method_11_code 27 = .ok (.getfield 84, 3) := by decide +kernel
theorem d_Tap_readSize_30 : decode prog_9_method_11_code 30 = .ok (.bipush (-9), 2) := by decide +kernel
theorem d_Tap_readSize_32 : decode prog_9_method_11_code 32 = .ok (.if_icmp .eq 7, 3) := by decide +kernel
theorem d_Tap_readSize_35 : decode prog_9_method_11_code 35 = .ok (.iconst 1, 1) := by decide +kernel
theorem d_Tap_readSize_36 : decode prog_9_method_11_code 36 = .ok (.goto 4, 3) := by decide +kernel
theorem d_Tap_readSize_39 : decode prog_9_method_11_code 39 = .ok (.iconst 0, 1) := by decide +kernel
theorem d_Tap_readSize_40 : decode prog_9_method_11_code 40 = .ok (.ireturn, 1) := by decide +kernel
theorem d_Tap_readSeconds_0 : decode prog_9_method_12_code 0 = .ok (.aload_n 0, 1) := by decide +kernel
theorem d_Tap_readSeconds_1 : decode prog_9_method_12_code 1 = .ok (.bipush (-9), 2) := by decide +kernel
theorem d_Tap_readSeconds_3 : decode prog_9_method_12_code 3 = .ok (.putfield 95, 3) := by decide +kernel
theorem d_Tap_readSeconds_6 : decode prog_9_method_12_code 6 = .ok (.aload_n 0, 1) := by decide +kernel
theorem d_Tap_readSeconds_7 : decode prog_9_method_12_code 7 = .ok (.bipush 116, 2) := by decide +kernel
theorem d_Tap_readSeconds_9 : decode prog_9_method_12_code 9 = .ok (.invokevirtual 87, 3) := by decide +kernel
theorem d_Tap_readSeconds_12 : decode prog_9_method_12_code 12 = .ok (.ifCond .ne 5, 3) := by decide +kernel
theorem d_Tap_readSeconds_15 : decode prog_9_method_12_code 15 = .ok (.iconst 1, 1) := by decide +kernel
theorem d_Tap_readSeconds_16 : decode prog_9_method_12_code 16 = .ok (.ireturn, 1) := by decide +kernel
theorem d_Tap_readSeconds_17 : decode prog_9_method_12_code 17 = .ok (.aload_n 0, 1) := by decide +kernel
theorem d_Tap_readSeconds_18 : decode prog_9_method_12_code 18 = .ok (.aload_n 0, 1) := by decide +kernel
theorem d_Tap_readSeconds_19 : decode prog_9_method_12_code 19 = .ok (.iconst 3, 1) := by decide +kernel
theorem d_Tap_readSeconds_20 : decode prog_9_method_12_code 20 = .ok (.invokevirtual 91, 3) := by decide +kernel
theorem d_Tap_readSeconds_23 : decode prog_9_method_12_code 23 = .ok (.putfield 95, 3) := by decide +kernel
theorem d_Tap_readSeconds_26 : decode prog_9_method_12_code 26 = .ok (.aload_n 0, 1) := by decide +kernel
theorem d_Tap_readSeconds_27 : decode prog_9_method_12_code 27 = .ok (.getfield 95, 3) := by decide +kernel
theorem d_Tap_readSeconds_30 : decode prog_9_method_12_code 30 = .ok (.bipush (-9), 2) := by decide +kernel
theorem d_Tap_readSeconds_32 : decode prog_9_method_12_code 32 = .ok (.if_icmp .eq 7, 3) := by decide +kernel
theorem d_Tap_readSeconds_35 : decode prog_9_method_12_code 35 = .ok (.iconst 1, 1) := by decide +kernel
theorem d_Tap_readSeconds_36 : decode prog_9_method_12_code 36 = .ok (.goto 4, 3) := by decide +kernel
theorem d_Tap_readSeconds_39 : decode prog_9_method_12_code 39 = .ok (.iconst 0, 1) := by decide +kernel
theorem d_Tap_readSeconds_40 : decode prog_9_method_12_code 40 = .ok (.ireturn, 1) := by decide +kernel
theorem d_Tap_readColour_0 : decode prog_9_method_13_code 0 = .ok (.aload_n 0, 1) := by decide +kernel
theorem d_Tap_readColour_1 : decode prog_9_method_13_code 1 = .ok (.bipush (-9), 2) := by decide +kernel
theorem d_Tap_readColour_3 : decode prog_9_method_13_code 3 = .ok (.putfield 98, 3) := by decide +kernel
theorem d_Tap_readColour_6 : decode prog_9_method_13_code 6 = .ok (.aload_n 0, 1) := by decide +kernel
theorem d_Tap_readColour_7 : decode prog_9_method_13_code 7 = .ok (.bipush 99, 2) := by decide +kernel
theorem d_Tap_readColour_9 : decode prog_9_method_13_code 9 = .ok (.invokevirtual 87, 3) := by decide +kernel
theorem d_Tap_readColour_12 : decode prog_9_method_13_code 12 = .ok (.ifCond .ne 5, 3) := by decide +kernel
theorem d_Tap_readColour_15 : decode prog_9_method_13_code 15 = .ok (.iconst 1, 1) := by decide +kernel
theorem d_Tap_readColour_16 : decode prog_9_method_13_code 16 = .ok (.ireturn, 1) := by decide +kernel
theorem d_Tap_readColour_17 : decode prog_9_method_13_code 17 = .ok (.aload_n 0, 1) := by decide +kernel
theorem d_Tap_readColour_18 : decode prog_9_method_13_code 18 = .ok (.invokevirtual 77, 3) := by decide +kernel
theorem d_Tap_readColour_21 : decode prog_9_method_13_code 21 = .ok (.bipush 48, 2) := by decide +kernel
theorem d_Tap_readColour_23 : decode prog_9_method_13_code 23 = .ok (.if_icmp .lt 12, 3) := by decide +kernel
theorem d_Tap_readColour_26 : decode prog_9_method_13_code 26 = .ok (.aload_n 0, 1) := by decide +kernel
theorem d_Tap_readColour_27 : decode prog_9_method_13_code 27 = .ok (.invokevirtual 77, 3) := by decide +kernel
theorem d_Tap_readColour_30 : decode prog_9_method_13_code 30 = .ok (.bipush 55, 2) := by decide +kernel
theorem d_Tap_readColour_32 : decode prog_9_method_13_code 32 = .ok (.if_icmp .le 5, 3) := by decide +kernel
theorem d_Tap_readColour_35 : decode prog_9_method_13_code 35 = .ok (.iconst 0, 1) := by decide +kernel
theorem d_Tap_readColour_36 : decode prog_9_method_13_code 36 = .ok (.ireturn, 1) := by decide +kernel
theorem d_Tap_readColour_37 : decode prog_9_method_13_code 37 = .ok (.aload_n 0, 1) := by decide +kernel
theorem d_Tap_readColour_38 : decode prog_9_method_13_code 38 = .ok (.aload_n 0, 1) := by decide +kernel
theorem d_Tap_readColour_39 : decode prog_9_method_13_code 39 = .ok (.iconst 1, 1) := by decide +kernel
theorem d_Tap_readColour_40 : decode prog_9_method_13_code 40 = .ok (.invokevirtual 91, 3) := by decide +kernel
theorem d_Tap_readColour_43 : decode prog_9_method_13_code 43 = .ok (.putfield 98, 3) := by decide +kernel
theorem d_Tap_readColour_46 : decode prog_9_method_13_code 46 = .ok (.iconst 1, 1) := by decide +kernel
theorem d_Tap_readColour_47 : decode prog_9_method_13_code 47 = .ok (.ireturn, 1) := by decide +kernel
theorem d_Tap_readMarks_0 : decode prog_9_method_14_code 0 = .ok (.aload_n 0, 1) := by decide +kernel
theorem d_Tap_readMarks_1 : decode prog_9_method_14_code 1 = .ok (.iconst 0, 1) := by decide +kernel
theorem d_Tap_readMarks_2 : decode prog_9_method_14_code 2 = .ok (.putfield 52, 3) := by decide +kernel
theorem d_Tap_readMarks_5 : decode prog_9_method_14_code 5 = .ok (.iconst 0, 1) := by decide +kernel
theorem d_Tap_readMarks_6 : decode prog_9_method_14_code 6 = .ok (.istore_n 1, 1) := by decide +kernel
theorem d_Tap_readMarks_7 : decode prog_9_method_14_code 7 = .ok (.iload_n 1, 1) := by decide +kernel
theorem d_Tap_readMarks_8 : decode prog_9_method_14_code 8 = .ok (.bipush 8, 2) := by decide +kernel
theorem d_Tap_readMarks_10 : decode prog_9_method_14_code 10 = .ok (.if_icmp .ge 43, 3) := by decide +kernel
theorem d_Tap_readMarks_13 : decode prog_9_method_14_code 13 = .ok (.iload_n 1, 1) := by decide +kernel
theorem d_Tap_readMarks_14 : decode prog_9_method_14_code 14 = .ok (.ldc 101, 2) := by decide +kernel
theorem d_Tap_readMarks_16 : decode prog_9_method_14_code 16 = .ok (.invokevirtual 103, 3) := by decide +kernel
theorem d_Tap_readMarks_19 : decode prog_9_method_14_code 19 = .ok (.if_icmp .ge 34, 3) := by decide +kernel
theorem d_Tap_readMarks_22 : decode prog_9_method_14_code 22 = .ok (.aload_n 0, 1) := by decide +kernel
theorem d_Tap_readMarks_23 : decode prog_9_method_14_code 23 = .ok (.ldc 101, 2) := by decide +kernel
theorem d_Tap_readMarks_25 : decode prog_9_method_14_code 25 = .ok (.iload_n 1, 1) := by decide +kernel
theorem d_Tap_readMarks_26 : decode prog_9_method_14_code 26 = .ok (.invokevirtual 107, 3) := by decide +kernel
theorem d_Tap_readMarks_29 : decode prog_9_method_14_code 29 = .ok (.invokevirtual 87, 3) := by decide +kernel
theorem d_Tap_readMarks_32 : decode prog_9_method_14_code 32 = .ok (.ifCond .eq 15, 3) := by decide +kernel
theorem d_Tap_readMarks_35 : decode prog_9_method_14_code 35 = .ok (.aload_n 0, 1) := by decide +kernel
theorem d_Tap_readMarks_36 : decode prog_9_method_14_code 36 = .ok (.dup, 1) := by decide +kernel
theorem d_Tap_readMarks_37 : decode prog_9_method_14_code 37 = .ok (.getfield 52, 3) := by decide +kernel
theorem d_Tap_readMarks_40 : decode prog_9_method_14_code 40 = .ok (.iconst 1, 1) := by decide +kernel
theorem d_Tap_readMarks_41 : decode prog_9_method_14_code 41 = .ok (.iload_n 1, 1) := by decide +kernel
theorem d_Tap_readMarks_42 : decode prog_9_method_14_code 42 = .ok (.ishl, 1) := by decide +kernel
theorem d_Tap_readMarks_43 : decode prog_9_method_14_code 43 = .ok (.ior, 1) := by decide +kernel
theorem d_Tap_readMarks_44 : decode prog_9_method_14_code 44 = .ok (.putfield 52, 3) := by decide +kernel
theorem d_Tap_readMarks_47 : decode prog_9_method_14_code 47 = .ok (.iinc 1 1, 3) := by decide +kernel
theorem d_Tap_readMarks_50 : decode prog_9_method_14_code 50 = .ok (.goto (-43), 3) := by decide +kernel
theorem d_Tap_readMarks_53 : decode prog_9_method_14_code 53 = .ok (.iconst 1, 1) := by decide +kernel
theorem d_Tap_readMarks_54 : decode prog_9_method_14_code 54 = .ok (.ireturn, 1) := by decide +kernel
theorem d_Tap_readYears_0 : decode prog_9_method_15_code 0 = .ok (.aload_n 0, 1) := by decide +kernel
theorem d_Tap_readYears_1 : decode prog_9_method_15_code 1 = .ok (.bipush 64, 2) := by decide +kernel
theorem d_Tap_readYears_3 : decode prog_9_method_15_code 3 = .ok (.invokevirtual 87, 3) := by decide +kernel
theorem d_Tap_readYears_6 : decode prog_9_method_15_code 6 = .ok (.ifCond .ne 5, 3) := by decide +kernel
theorem d_Tap_readYears_9 : decode prog_9_method_15_code 9 = .ok (.iconst 0, 1) := by decide +kernel
theorem d_Tap_readYears_10 : decode prog_9_method_15_code 10 = .ok (.ireturn, 1) := by decide +kernel
theorem d_Tap_readYears_11 : decode prog_9_method_15_code 11 = .ok (.aload_n 0, 1) := by decide +kernel
theorem d_Tap_readYears_12 : decode prog_9_method_15_code 12 = .ok (.aload_n 0, 1) := by decide +kernel
theorem d_Tap_readYears_13 : decode prog_9_method_15_code 13 = .ok (.iconst 2, 1) := by decide +kernel
theorem d_Tap_readYears_14 : decode prog_9_method_15_code 14 = .ok (.invokevirtual 91, 3) := by decide +kernel
theorem d_Tap_readYears_17 : decode prog_9_method_15_code 17 = .ok (.putfield 68, 3) := by decide +kernel
theorem d_Tap_readYears_20 : decode prog_9_method_15_code 20 = .ok (.aload_n 0, 1) := by decide +kernel
theorem d_Tap_readYears_21 : decode prog_9_method_15_code 21 = .ok (.getfield 68, 3) := by decide +kernel
theorem d_Tap_readYears_24 : decode prog_9_method_15_code 24 = .ok (.bipush (-9), 2) := by decide +kernel
theorem d_Tap_readYears_26 : decode prog_9_method_15_code 26 = .ok (.if_icmp .eq 7, 3) := by decide +kernel
theorem d_Tap_readYears_29 : decode prog_9_method_15_code 29 = .ok (.iconst 1, 1) := by decide +kernel
theorem d_Tap_readYears_30 : decode prog_9_method_15_code 30 = .ok (.goto 4, 3) := by decide +kernel
theorem d_Tap_readYears_33 : decode prog_9_method_15_code 33 = .ok (.iconst 0, 1) := by decide +kernel
theorem d_Tap_readYears_34 : decode prog_9_method_15_code 34 = .ok (.ireturn, 1) := by decide +kernel
theorem d_Tap_readAsked_0 : decode prog_9_method_16_code 0 = .ok (.aload_n 0, 1) := by decide +kernel
theorem d_Tap_readAsked_1 : decode prog_9_method_16_code 1 = .ok (.aload_n 0, 1) := by decide +kernel
theorem d_Tap_readAsked_2 : decode prog_9_method_16_code 2 = .ok (.bipush 63, 2) := by decide +kernel
theorem d_Tap_readAsked_4 : decode prog_9_method_16_code 4 = .ok (.invokevirtual 87, 3) := by decide +kernel
theorem d_Tap_readAsked_7 : decode prog_9_method_16_code 7 = .ok (.putfield 43, 3) := by decide +kernel
theorem d_Tap_readAsked_10 : decode prog_9_method_16_code 10 = .ok (.aload_n 0, 1) := by decide +kernel
theorem d_Tap_readAsked_11 : decode prog_9_method_16_code 11 = .ok (.invokevirtual 77, 3) := by decide +kernel
theorem d_Tap_readAsked_14 : decode prog_9_method_16_code 14 = .ok (.iconst (-1), 1) := by decide +kernel
theorem d_Tap_readAsked_15 : decode prog_9_method_16_code 15 = .ok (.if_icmp .ne 7, 3) := by decide +kernel
theorem d_Tap_readAsked_18 : decode prog_9_method_16_code 18 = .ok (.iconst 1, 1) := by decide +kernel
theorem d_Tap_readAsked_19 : decode prog_9_method_16_code 19 = .ok (.goto 4, 3) := by decide +kernel
theorem d_Tap_readAsked_22 : decode prog_9_method_16_code 22 = .ok (.iconst 0, 1) := by decide +kernel
theorem d_Tap_readAsked_23 : decode prog_9_method_16_code 23 = .ok (.ireturn, 1) := by decide +kernel
theorem d_Tel_init_0 : decode prog_10_method_1_code 0 = .ok (.aload_n 0, 1) := by decide +kernel
theorem d_Tel_init_1 : decode prog_10_method_1_code 1 = .ok (.invokespecial 3, 3) := by decide +kernel
theorem d_Tel_init_4 : decode prog_10_method_1_code 4 = .ok (.aload_n 0, 1) := by decide +kernel
theorem d_Tel_init_5 : decode prog_10_method_1_code 5 = .ok (.aload_n 1, 1) := by decide +kernel
theorem d_Tel_init_6 : decode prog_10_method_1_code 6 = .ok (.getfield 9, 3) := by decide +kernel
theorem d_Tel_init_9 : decode prog_10_method_1_code 9 = .ok (.putfield 15, 3) := by decide +kernel
theorem d_Tel_init_12 : decode prog_10_method_1_code 12 = .ok (.aload_n 0, 1) := by decide +kernel
theorem d_Tel_init_13 : decode prog_10_method_1_code 13 = .ok (.aload_n 1, 1) := by decide +kernel
theorem d_Tel_init_14 : decode prog_10_method_1_code 14 = .ok (.getfield 18, 3) := by decide +kernel
theorem d_Tel_init_17 : decode prog_10_method_1_code 17 = .ok (.putfield 21, 3) := by decide +kernel
theorem d_Tel_init_20 : decode prog_10_method_1_code 20 = .ok (.aload_n 0, 1) := by decide +kernel
theorem d_Tel_init_21 : decode prog_10_method_1_code 21 = .ok (.aload_n 1, 1) := by decide +kernel
theorem d_Tel_init_22 : decode prog_10_method_1_code 22 = .ok (.getfield 22, 3) := by decide +kernel
theorem d_Tel_init_25 : decode prog_10_method_1_code 25 = .ok (.putfield 25, 3) := by decide +kernel
theorem d_Tel_init_28 : decode prog_10_method_1_code 28 = .ok (.aload_n 0, 1) := by decide +kernel
theorem d_Tel_init_29 : decode prog_10_method_1_code 29 = .ok (.aload_n 1, 1) := by decide +kernel
theorem d_Tel_init_30 : decode prog_10_method_1_code 30 = .ok (.getfield 26, 3) := by decide +kernel
theorem d_Tel_init_33 : decode prog_10_method_1_code 33 = .ok (.putfield 29, 3) := by decide +kernel
theorem d_Tel_init_36 : decode prog_10_method_1_code 36 = .ok (.aload_n 0, 1) := by decide +kernel
theorem d_Tel_init_37 : decode prog_10_method_1_code 37 = .ok (.aload_n 1, 1) := by decide +kernel
theorem d_Tel_init_38 : decode prog_10_method_1_code 38 = .ok (.getfield 30, 3) := by decide +kernel
theorem d_Tel_init_41 : decode prog_10_method_1_code 41 = .ok (.putfield 33, 3) := by decide +kernel
theorem d_Tel_init_44 : decode prog_10_method_1_code 44 = .ok (.aload_n 0, 1) := by decide +kernel
theorem d_Tel_init_45 : decode prog_10_method_1_code 45 = .ok (.aload_n 1, 1) := by decide +kernel
theorem d_Tel_init_46 : decode prog_10_method_1_code 46 = .ok (.getfield 34, 3) := by decide +kernel
theorem d_Tel_init_49 : decode prog_10_method_1_code 49 = .ok (.putfield 38, 3) := by decide +kernel
theorem d_Tel_init_52 : decode prog_10_method_1_code 52 = .ok (.return_, 1) := by decide +kernel
theorem d_Tel_has_0 : decode prog_10_method_4_code 0 = .ok (.aload_n 0, 1) := by decide +kernel
theorem d_Tel_has_1 : decode prog_10_method_4_code 1 = .ok (.getfield 29, 3) := by decide +kernel
theorem d_Tel_has_4 : decode prog_10_method_4_code 4 = .ok (.iload_n 1, 1) := by decide +kernel
theorem d_Tel_has_5 : decode prog_10_method_4_code 5 = .ok (.invokestatic 39, 3) := by decide +kernel
theorem d_Tel_has_8 : decode prog_10_method_4_code 8 = .ok (.ireturn, 1) := by decide +kernel
theorem d_Tel_numberTold_0 : decode prog_10_method_5_code 0 = .ok (.iload_n 1, 1) := by decide +kernel
theorem d_Tel_numberTold_1 : decode prog_10_method_5_code 1 = .ok (.ifCond .ne 10, 3) := by decide +kernel
theorem d_Tel_numberTold_4 : decode prog_10_method_5_code 4 = .ok (.aload_n 0, 1) := by decide +kernel
theorem d_Tel_numberTold_5 : decode prog_10_method_5_code 5 = .ok (.getfield 15, 3) := by decide +kernel
theorem d_Tel_numberTold_8 : decode prog_10_method_5_code 8 = .ok (.goto 7, 3) := by decide +kernel
theorem d_Tel_numberTold_11 : decode prog_10_method_5_code 11 = .ok (.aload_n 0, 1) := by decide +kernel
theorem d_Tel_numberTold_12 : decode prog_10_method_5_code 12 = .ok (.getfield 21, 3) := by decide +kernel
theorem d_Tel_numberTold_15 : decode prog_10_method_5_code 15 = .ok (.ireturn, 1) := by decide +kernel
theorem d_Tel_lacks_0 : decode prog_10_method_6_code 0 = .ok (.aload_n 0, 1) := by decide +kernel
theorem d_Tel_lacks_1 : decode prog_10_method_6_code 1 = .ok (.iload_n 1, 1) := by decide +kernel
theorem d_Tel_lacks_2 : decode prog_10_method_6_code 2 = .ok (.invokevirtual 43, 3) := by decide +kernel
theorem d_Tel_lacks_5 : decode prog_10_method_6_code 5 = .ok (.bipush (-9), 2) := by decide +kernel
theorem d_Tel_lacks_7 : decode prog_10_method_6_code 7 = .ok (.if_icmp .ne 7, 3) := by decide +kernel
theorem d_Tel_lacks_10 : decode prog_10_method_6_code 10 = .ok (.iconst 1, 1) := by decide +kernel
theorem d_Tel_lacks_11 : decode prog_10_method_6_code 11 = .ok (.goto 4, 3) := by decide +kernel
theorem d_Tel_lacks_14 : decode prog_10_method_6_code 14 = .ok (.iconst 0, 1) := by decide +kernel
theorem d_Tel_lacks_15 : decode prog_10_method_6_code 15 = .ok (.ireturn, 1) := by decide +kernel
theorem d_Tel_gaps_0 : decode prog_10_method_7_code 0 = .ok (.aload_n 0, 1) := by decide +kernel
theorem d_Tel_gaps_1 : decode prog_10_method_7_code 1 = .ok (.getfield 15, 3) := by decide +kernel
theorem d_Tel_gaps_4 : decode prog_10_method_7_code 4 = .ok (.bipush (-9), 2) := by decide +kernel
theorem d_Tel_gaps_6 : decode prog_10_method_7_code 6 = .ok (.if_icmp .ne 7, 3) := by decide +kernel
theorem d_Tel_gaps_9 : decode prog_10_method_7_code 9 = .ok (.iconst 1, 1) := by decide +kernel
theorem d_Tel_gaps_10 : decode prog_10_method_7_code 10 = .ok (.goto 4, 3) := by decide +kernel
theorem d_Tel_gaps_13 : decode prog_10_method_7_code 13 = .ok (.iconst 0, 1) := by decide +kernel
theorem d_Tel_gaps_14 : decode prog_10_method_7_code 14 = .ok (.aload_n 0, 1) := by decide +kernel
theorem d_Tel_gaps_15 : decode prog_10_method_7_code 15 = .ok (.getfield 21, 3) := by decide +kernel
theorem d_Tel_gaps_18 : decode prog_10_method_7_code 18 = .ok (.bipush (-9), 2) := by decide +kernel
theorem d_Tel_gaps_20 : decode prog_10_method_7_code 20 = .ok (.if_icmp .ne 7, 3) := by decide +kernel
theorem d_Tel_gaps_23 : decode prog_10_method_7_code 23 = .ok (.iconst 1, 1) := by decide +kernel
theorem d_Tel_gaps_24 : decode prog_10_method_7_code 24 = .ok (.goto 4, 3) := by decide +kernel
theorem d_Tel_gaps_27 : decode prog_10_method_7_code 27 = .ok (.iconst 0, 1) := by decide +kernel
theorem d_Tel_gaps_28 : decode prog_10_method_7_code 28 = .ok (.iadd, 1) := by decide +kernel
theorem d_Tel_gaps_29 : decode prog_10_method_7_code 29 = .ok (.aload_n 0, 1) := by decide +kernel
theorem d_Tel_gaps_30 : decode prog_10_method_7_code 30 = .ok (.getfield 25, 3) := by decide +kernel
theorem d_Tel_gaps_33 : decode prog_10_method_7_code 33 = .ok (.bipush (-9), 2) := by decide +kernel
theorem d_Tel_gaps_35 : decode prog_10_method_7_code 35 = .ok (.if_icmp .ne 7, 3) := by decide +kernel
theorem d_Tel_gaps_38 : decode prog_10_method_7_code 38 = .ok (.iconst 1, 1) := by decide +kernel
theorem d_Tel_gaps_39 : decode prog_10_method_7_code 39 = .ok (.goto 4, 3) := by decide +kernel
theorem d_Tel_gaps_42 : decode prog_10_method_7_code 42 = .ok (.iconst 0, 1) := by decide +kernel
theorem d_Tel_gaps_43 : decode prog_10_method_7_code 43 = .ok (.iadd, 1) := by decide +kernel
theorem d_Tel_gaps_44 : decode prog_10_method_7_code 44 = .ok (.ireturn, 1) := by decide +kernel
theorem d_Thr_init_0 : decode prog_11_method_1_code 0 = .ok (.aload_n 0, 1) := by decide +kernel
theorem d_Thr_init_1 : decode prog_11_method_1_code 1 = .ok (.aload_n 1, 1) := by decide +kernel
theorem d_Thr_init_2 : decode prog_11_method_1_code 2 = .ok (.invokespecial 3, 3) := by decide +kernel
theorem d_Thr_init_5 : decode prog_11_method_1_code 5 = .ok (.return_, 1) := by decide +kernel
theorem d_Thr_kindNumber_0 : decode prog_11_method_2_code 0 = .ok (.iconst 2, 1) := by decide +kernel
theorem d_Thr_kindNumber_1 : decode prog_11_method_2_code 1 = .ok (.ireturn, 1) := by decide +kernel
theorem d_Thr_ownWeight_0 : decode prog_11_method_3_code 0 = .ok (.aload_n 0, 1) := by decide +kernel
theorem d_Thr_ownWeight_1 : decode prog_11_method_3_code 1 = .ok (.invokespecial 9, 3) := by decide +kernel
theorem d_Thr_ownWeight_4 : decode prog_11_method_3_code 4 = .ok (.aload_n 0, 1) := by decide +kernel
theorem d_Thr_ownWeight_5 : decode prog_11_method_3_code 5 = .ok (.getfield 13, 3) := by decide +kernel
theorem d_Thr_ownWeight_8 : decode prog_11_method_3_code 8 = .ok (.bipush (-9), 2) := by decide +kernel
theorem d_Thr_ownWeight_10 : decode prog_11_method_3_code 10 = .ok (.if_icmp .ne 7, 3) := by decide +kernel
theorem d_Thr_ownWeight_13 : decode prog_11_method_3_code 13 = .ok (.iconst 0, 1) := by decide +kernel
theorem d_Thr_ownWeight_14 : decode prog_11_method_3_code 14 = .ok (.goto 7, 3) := by decide +kernel
theorem d_Thr_ownWeight_17 : decode prog_11_method_3_code 17 = .ok (.aload_n 0, 1) := by decide +kernel
theorem d_Thr_ownWeight_18 : decode prog_11_method_3_code 18 = .ok (.getfield 13, 3) := by decide +kernel
theorem d_Thr_ownWeight_21 : decode prog_11_method_3_code 21 = .ok (.iadd, 1) := by decide +kernel
theorem d_Thr_ownWeight_22 : decode prog_11_method_3_code 22 = .ok (.ireturn, 1) := by decide +kernel
theorem d_Wit_init_0 : decode prog_12_method_1_code 0 = .ok (.aload_n 0, 1) := by decide +kernel
theorem d_Wit_init_1 : decode prog_12_method_1_code 1 = .ok (.aload_n 1, 1) := by decide +kernel
theorem d_Wit_init_2 : decode prog_12_method_1_code 2 = .ok (.invokespecial 1, 3) := by decide +kernel
theorem d_Wit_init_5 : decode prog_12_method_1_code 5 = .ok (.return_, 1) := by decide +kernel
theorem d_Wit_kindNumber_0 : decode prog_12_method_2_code 0 = .ok (.iconst 0, 1) := by decide +kernel
theorem d_Wit_kindNumber_1 : decode prog_12_method_2_code 1 = .ok (.ireturn, 1) := by decide +kernel
theorem d_Wit_ownWeight_0 : decode prog_12_method_3_code 0 = .ok (.bipush 8, 2) := by decide +kernel
theorem d_Wit_ownWeight_2 : decode prog_12_method_3_code 2 = .ok (.ireturn, 1) := by decide +kernel
theorem d_Lir_init_0 : decode prog_1_method_1_code 0 = .ok (.aload_n 0, 1) := by decide +kernel
theorem d_Lir_init_1 : decode prog_1_method_1_code 1 = .ok (.invokespecial 1, 3) := by decide +kernel
theorem d_Lir_init_4 : decode prog_1_method_1_code 4 = .ok (.aload_n 0, 1) := by decide +kernel
theorem d_Lir_init_5 : decode prog_1_method_1_code 5 = .ok (.new 7, 3) := by decide +kernel
theorem d_Lir_init_8 : decode prog_1_method_1_code 8 = .ok (.dup, 1) := by decide +kernel
theorem d_Lir_init_9 : decode prog_1_method_1_code 9 = .ok (.invokespecial 9, 3) := by decide +kernel
theorem d_Lir_init_12 : decode prog_1_method_1_code 12 = .ok (.putfield 10, 3) := by decide +kernel
theorem d_Lir_init_15 : decode prog_1_method_1_code 15 = .ok (.aload_n 0, 1) := by decide +kernel
theorem d_Lir_init_16 : decode prog_1_method_1_code 16 = .ok (.new 16, 3) := by decide +kernel
theorem d_Lir_init_19 : decode prog_1_method_1_code 19 = .ok (.dup, 1) := by decide +kernel
theorem d_Lir_init_20 : decode prog_1_method_1_code 20 = .ok (.invokespecial 18, 3) := by decide +kernel
theorem d_Lir_init_23 : decode prog_1_method_1_code 23 = .ok (.putfield 19, 3) := by decide +kernel
theorem d_Lir_init_26 : decode prog_1_method_1_code 26 = .ok (.aload_n 0, 1) := by decide +kernel
theorem d_Lir_init_27 : decode prog_1_method_1_code 27 = .ok (.new 16, 3) := by decide +kernel
theorem d_Lir_init_30 : decode prog_1_method_1_code 30 = .ok (.dup, 1) := by decide +kernel
theorem d_Lir_init_31 : decode prog_1_method_1_code 31 = .ok (.invokespecial 18, 3) := by decide +kernel
theorem d_Lir_init_34 : decode prog_1_method_1_code 34 = .ok (.putfield 23, 3) := by decide +kernel
theorem d_Lir_init_37 : decode prog_1_method_1_code 37 = .ok (.aload_n 0, 1) := by decide +kernel
theorem d_Lir_init_38 : decode prog_1_method_1_code 38 = .ok (.bipush 7, 2) := by decide +kernel
theorem d_Lir_init_40 : decode prog_1_method_1_code 40 = .ok (.newarray .int, 2) := by decide +kernel
theorem d_Lir_init_42 : decode prog_1_method_1_code 42 = .ok (.putfield 26, 3) := by decide +kernel
theorem d_Lir_init_45 : decode prog_1_method_1_code 45 = .ok (.aload_n 0, 1) := by decide +kernel
theorem d_Lir_init_46 : decode prog_1_method_1_code 46 = .ok (.bipush 30, 2) := by decide +kernel
theorem d_Lir_init_48 : decode prog_1_method_1_code 48 = .ok (.newarray .int, 2) := by decide +kernel
theorem d_Lir_init_50 : decode prog_1_method_1_code 50 = .ok (.putfield 30, 3) := by decide +kernel
theorem d_Lir_init_53 : decode prog_1_method_1_code 53 = .ok (.aload_n 0, 1) := by decide +kernel
theorem d_Lir_init_54 : decode prog_1_method_1_code 54 = .ok (.iconst 0, 1) := by decide +kernel
theorem d_Lir_init_55 : decode prog_1_method_1_code 55 = .ok (.putfield 33, 3) := by decide +kernel
theorem d_Lir_init_58 : decode prog_1_method_1_code 58 = .ok (.return_, 1) := by decide +kernel
theorem d_Lir_feed_0 : decode prog_1_method_2_code 0 = .ok (.iload_n 1, 1) := by decide +kernel
theorem d_Lir_feed_1 : decode prog_1_method_2_code 1 = .ok (.iconst 1, 1) := by decide +kernel
theorem d_Lir_feed_2 : decode prog_1_method_2_code 2 = .ok (.if_icmp .ge 10, 3) := by decide +kernel
theorem d_Lir_feed_5 : decode prog_1_method_2_code 5 = .ok (.aload_n 0, 1) := by decide +kernel
theorem d_Lir_feed_6 : decode prog_1_method_2_code 6 = .ok (.bipush (-4), 2) := by decide +kernel
theorem d_Lir_feed_8 : decode prog_1_method_2_code 8 = .ok (.invokevirtual 37, 3) := by decide +kernel
theorem d_Lir_feed_11 : decode prog_1_method_2_code 11 = .ok (.ireturn, 1) := by decide +kernel
theorem d_Lir_feed_12 : decode prog_1_method_2_code 12 = .ok (.iload_n 1, 1) := by decide +kernel
theorem d_Lir_feed_13 : decode prog_1_method_2_code 13 = .ok (.bipush 8, 2) := by decide +kernel
theorem d_Lir_feed_15 : decode prog_1_method_2_code 15 = .ok (.if_icmp .gt 14, 3) := by decide +kernel
theorem d_Lir_feed_18 : decode prog_1_method_2_code 18 = .ok (.iload_n 1, 1) := by decide +kernel
theorem d_Lir_feed_19 : decode prog_1_method_2_code 19 = .ok (.aload_n 0, 1) := by decide +kernel
theorem d_Lir_feed_20 : decode prog_1_method_2_code 20 = .ok (.getfield 10, 3) := by decide +kernel
theorem d_Lir_feed_23 : decode prog_1_method_2_code 23 = .ok (.invokevirtual 41, 3) := by decide +kernel
theorem d_Lir_feed_26 : decode prog_1_method_2_code 26 = .ok (.if_icmp .le 10, 3) := by decide +kernel
theorem d_Lir_feed_29 : decode prog_1_method_2_code 29 = .ok (.aload_n 0, 1) := by decide +kernel
theorem d_Lir_feed_30 : decode prog_1_method_2_code 30 = .ok (.bipush (-6), 2) := by decide +kernel
theorem d_Lir_feed_32 : decode prog_1_method_2_code 32 = .ok (.invokevirtual 37, 3) := by decide +kernel
theorem d_Lir_feed_35 : decode prog_1_method_2_code 35 = .ok (.ireturn, 1) := by decide +kernel
theorem d_Lir_feed_36 : decode prog_1_method_2_code 36 = .ok (.aload_n 0, 1) := by decide +kernel
theorem d_Lir_feed_37 : decode prog_1_method_2_code 37 = .ok (.getfield 10, 3) := by decide +kernel
theorem d_Lir_feed_40 : decode prog_1_method_2_code 40 = .ok (.iload_n 1, 1) := by decide +kernel
theorem d_Lir_feed_41 : decode prog_1_method_2_code 41 = .ok (.lload_n 2, 1) := by decide +kernel
theorem d_Lir_feed_42 : decode prog_1_method_2_code 42 = .ok (.invokevirtual 45, 3) := by decide +kernel
theorem d_Lir_feed_45 : decode prog_1_method_2_code 45 = .ok (.aload_n 0, 1) := by decide +kernel
theorem d_Lir_feed_46 : decode prog_1_method_2_code 46 = .ok (.getfield 10, 3) := by decide +kernel
theorem d_Lir_feed_49 : decode prog_1_method_2_code 49 = .ok (.getfield 49, 3) := by decide +kernel
theorem d_Lir_feed_52 : decode prog_1_method_2_code 52 = .ok (.ireturn, 1) := by decide +kernel
theorem d_Lir_telling_0 : decode prog_1_method_3_code 0 = .ok (.aload_n 0, 1) := by decide +kernel
theorem d_Lir_telling_1 : decode prog_1_method_3_code 1 = .ok (.getfield 19, 3) := by decide +kernel
theorem d_Lir_telling_4 : decode prog_1_method_3_code 4 = .ok (.getfield 53, 3) := by decide +kernel
theorem d_Lir_telling_7 : decode prog_1_method_3_code 7 = .ok (.bipush 30, 2) := by decide +kernel
theorem d_Lir_telling_9 : decode prog_1_method_3_code 9 = .ok (.if_icmp .lt 10, 3) := by decide +kernel
theorem d_Lir_telling_12 : decode prog_1_method_3_code 12 = .ok (.aload_n 0, 1) := by decide +kernel
theorem d_Lir_telling_13 : decode prog_1_method_3_code 13 = .ok (.bipush (-6), 2) := by decide +kernel
theorem d_Lir_telling_15 : decode prog_1_method_3_code 15 = .ok (.invokevirtual 37, 3) := by decide +kernel
theorem d_Lir_telling_18 : decode prog_1_method_3_code 18 = .ok (.ireturn, 1) := by decide +kernel
theorem d_Lir_telling_19 : decode prog_1_method_3_code 19 = .ok (.aload_n 0, 1) := by decide +kernel
theorem d_Lir_telling_20 : decode prog_1_method_3_code 20 = .ok (.getfield 10, 3) := by decide +kernel
theorem d_Lir_telling_23 : decode prog_1_method_3_code 23 = .ok (.invokevirtual 56, 3) := by decide +kernel
theorem d_Lir_telling_26 : decode prog_1_method_3_code 26 = .ok (.istore_n 1, 1) := by decide +kernel
theorem d_Lir_telling_27 : decode prog_1_method_3_code 27 = .ok (.aload_n 0, 1) := by decide +kernel
theorem d_Lir_telling_28 : decode prog_1_method_3_code 28 = .ok (.getfield 10, 3) := by decide +kernel
theorem d_Lir_telling_31 : decode prog_1_method_3_code 31 = .ok (.invokevirtual 60, 3) := by decide +kernel
theorem d_Lir_telling_34 : decode prog_1_method_3_code 34 = .ok (.iload_n 1, 1) := by decide +kernel
theorem d_Lir_telling_35 : decode prog_1_method_3_code 35 = .ok (.ifCond .eq 20, 3) := by decide +kernel
theorem d_Lir_telling_38 : decode prog_1_method_3_code 38 = .ok (.aload_n 0, 1) := by decide +kernel
theorem d_Lir_telling_39 : decode prog_1_method_3_code 39 = .ok (.getfield 19, 3) := by decide +kernel
theorem d_Lir_telling_42 : decode prog_1_method_3_code 42 = .ok (.aload_n 0, 1) := by decide +kernel
theorem d_Lir_telling_43 : decode prog_1_method_3_code 43 = .ok (.getfield 10, 3) := by decide +kernel
theorem d_Lir_telling_46 : decode prog_1_method_3_code 46 = .ok (.invokevirtual 63, 3) := by decide +kernel
theorem d_Lir_telling_49 : decode prog_1_method_3_code 49 = .ok (.invokevirtual 67, 3) := by decide +kernel
theorem d_Lir_telling_52 : decode prog_1_method_3_code 52 = .ok (.goto 13, 3) := by decide +kernel
theorem d_Lir_telling_55 : decode prog_1_method_3_code 55 = .ok (.bipush (-20), 2) := by decide +kernel
theorem d_Lir_telling_57 : decode prog_1_method_3_code 57 = .ok (.aload_n 0, 1) := by decide +kernel
theorem d_Lir_telling_58 : decode prog_1_method_3_code 58 = .ok (.getfield 10, 3) := by decide +kernel
theorem d_Lir_telling_61 : decode prog_1_method_3_code 61 = .ok (.getfield 71, 3) := by decide +kernel
theorem d_Lir_telling_64 : decode prog_1_method_3_code 64 = .ok (.isub, 1) := by decide +kernel
theorem d_Lir_telling_65 : decode prog_1_method_3_code 65 = .ok (.ireturn, 1) := by decide +kernel
theorem d_Lir_tellingOf_0 : decode prog_1_method_4_code 0 = .ok (.aload_n 0, 1) := by decide +kernel
theorem d_Lir_tellingOf_1 : decode prog_1_method_4_code 1 = .ok (.getfield 19, 3) := by decide +kernel
theorem d_Lir_tellingOf_4 : decode prog_1_method_4_code 4 = .ok (.iload_n 1, 1) := by decide +kernel
theorem d_Lir_tellingOf_5 : decode prog_1_method_4_code 5 = .ok (.invokevirtual 74, 3) := by decide +kernel
theorem d_Lir_tellingOf_8 : decode prog_1_method_4_code 8 = .ok (.astore_n 3, 1) := by decide +kernel
theorem d_Lir_tellingOf_9 : decode prog_1_method_4_code 9 = .ok (.aload_n 3, 1) := by decide +kernel
theorem d_Lir_tellingOf_10 : decode prog_1_method_4_code 10 = .ok (.ifnonnull 9, 3) := by decide +kernel
theorem d_Lir_tellingOf_13 : decode prog_1_method_4_code 13 = .ok (.aload_n 0, 1) := by decide +kernel
theorem d_Lir_tellingOf_14 : decode prog_1_method_4_code 14 = .ok (.iconst (-1), 1) := by decide +kernel
theorem d_Lir_tellingOf_15 : decode prog_1_method_4_code 15 = .ok (.invokevirtual 37, 3) := by decide +kernel
theorem d_Lir_tellingOf_18 : decode prog_1_method_4_code 18 = .ok (.ireturn, 1) := by decide +kernel
theorem d_Lir_tellingOf_19 : decode prog_1_method_4_code 19 = .ok (.iload_n 2, 1) := by decide +kernel
theorem d_Lir_tellingOf_20 : decode prog_1_method_4_code 20 = .ok (.tableswitch 78 0 5 #[40, 45, 50, 55, 60, 65], 40) := by decide +kernel
theorem d_Lir_tellingOf_60 : decode prog_1_method_4_code 60 = .ok (.aload_n 3, 1) := by decide +kernel
theorem d_Lir_tellingOf_61 : decode prog_1_method_4_code 61 = .ok (.getfield 78, 3) := by decide +kernel
theorem d_Lir_tellingOf_64 : decode prog_1_method_4_code 64 = .ok (.ireturn, 1) := by decide +kernel
theorem d_Lir_tellingOf_65 : decode prog_1_method_4_code 65 = .ok (.aload_n 3, 1) := by decide +kernel
theorem d_Lir_tellingOf_66 : decode prog_1_method_4_code 66 = .ok (.getfield 83, 3) := by decide +kernel
theorem d_Lir_tellingOf_69 : decode prog_1_method_4_code 69 = .ok (.ireturn, 1) := by decide +kernel
theorem d_Lir_tellingOf_70 : decode prog_1_method_4_code 70 = .ok (.aload_n 3, 1) := by decide +kernel
theorem d_Lir_tellingOf_71 : decode prog_1_method_4_code 71 = .ok (.getfield 86, 3) := by decide +kernel
theorem d_Lir_tellingOf_74 : decode prog_1_method_4_code 74 = .ok (.ireturn, 1) := by decide +kernel
theorem d_Lir_tellingOf_75 : decode prog_1_method_4_code 75 = .ok (.aload_n 3, 1) := by decide +kernel
theorem d_Lir_tellingOf_76 : decode prog_1_method_4_code 76 = .ok (.getfield 89, 3) := by decide +kernel
theorem d_Lir_tellingOf_79 : decode prog_1_method_4_code 79 = .ok (.ireturn, 1) := by decide +kernel
theorem d_Lir_tellingOf_80 : decode prog_1_method_4_code 80 = .ok (.aload_n 3, 1) := by decide +kernel
theorem d_Lir_tellingOf_81 : decode prog_1_method_4_code 81 = .ok (.getfield 92, 3) := by decide +kernel
theorem d_Lir_tellingOf_84 : decode prog_1_method_4_code 84 = .ok (.ireturn, 1) := by decide +kernel
theorem d_Lir_tellingOf_85 : decode prog_1_method_4_code 85 = .ok (.aload_n 3, 1) := by decide +kernel
theorem d_Lir_tellingOf_86 : decode prog_1_method_4_code 86 = .ok (.getfield 95, 3) := by decide +kernel
theorem d_Lir_tellingOf_89 : decode prog_1_method_4_code 89 = .ok (.ifCond .eq 7, 3) := by decide +kernel
theorem d_Lir_tellingOf_92 : decode prog_1_method_4_code 92 = .ok (.iconst 1, 1) := by decide +kernel
theorem d_Lir_tellingOf_93 : decode prog_1_method_4_code 93 = .ok (.goto 4, 3) := by decide +kernel
theorem d_Lir_tellingOf_96 : decode prog_1_method_4_code 96 = .ok (.iconst 0, 1) := by decide +kernel
theorem d_Lir_tellingOf_97 : decode prog_1_method_4_code 97 = .ok (.ireturn, 1) := by decide +kernel
theorem d_Lir_tellingOf_98 : decode prog_1_method_4_code 98 = .ok (.aload_n 0, 1) := by decide +kernel
theorem d_Lir_tellingOf_99 : decode prog_1_method_4_code 99 = .ok (.bipush (-2), 2) := by decide +kernel
theorem d_Lir_tellingOf_101 : decode prog_1_method_4_code 101 = .ok (.invokevirtual 37, 3) := by decide +kernel
theorem d_Lir_tellingOf_104 : decode prog_1_method_4_code 104 = .ok (.ireturn, 1) := by decide +kernel
theorem d_Lir_kind_0 : decode prog_1_method_5_code 0 = .ok (.aload_n 0, 1) := by decide +kernel
theorem d_Lir_kind_1 : decode prog_1_method_5_code 1 = .ok (.getfield 19, 3) := by decide +kernel
theorem d_Lir_kind_4 : decode prog_1_method_5_code 4 = .ok (.iload_n 1, 1) := by decide +kernel
theorem d_Lir_kind_5 : decode prog_1_method_5_code 5 = .ok (.invokevirtual 74, 3) := by decide +kernel
theorem d_Lir_kind_8 : decode prog_1_method_5_code 8 = .ok (.astore_n 2, 1) := by decide +kernel
theorem d_Lir_kind_9 : decode prog_1_method_5_code 9 = .ok (.aload_n 2, 1) := by decide +kernel
theorem d_Lir_kind_10 : decode prog_1_method_5_code 10 = .ok (.ifnonnull 11, 3) := by decide +kernel
theorem d_Lir_kind_13 : decode prog_1_method_5_code 13 = .ok (.aload_n 0, 1) := by decide +kernel
theorem d_Lir_kind_14 : decode prog_1_method_5_code 14 = .ok (.iconst (-1), 1) := by decide +kernel
theorem d_Lir_kind_15 : decode prog_1_method_5_code 15 = .ok (.invokevirtual 37, 3) := by decide +kernel
theorem d_Lir_kind_18 : decode prog_1_method_5_code 18 = .ok (.goto 7, 3) := by decide +kernel
theorem d_Lir_kind_21 : decode prog_1_method_5_code 21 = .ok (.aload_n 2, 1) := by decide +kernel
theorem d_Lir_kind_22 : decode prog_1_method_5_code 22 = .ok (.invokevirtual 98, 3) := by decide +kernel
theorem d_Lir_kind_25 : decode prog_1_method_5_code 25 = .ok (.ireturn, 1) := by decide +kernel
theorem d_Lir_weight_0 : decode prog_1_method_6_code 0 = .ok (.aload_n 0, 1) := by decide +kernel
theorem d_Lir_weight_1 : decode prog_1_method_6_code 1 = .ok (.getfield 19, 3) := by decide +kernel
theorem d_Lir_weight_4 : decode prog_1_method_6_code 4 = .ok (.iload_n 1, 1) := by decide +kernel
theorem d_Lir_weight_5 : decode prog_1_method_6_code 5 = .ok (.invokevirtual 74, 3) := by decide +kernel
theorem d_Lir_weight_8 : decode prog_1_method_6_code 8 = .ok (.astore_n 2, 1) := by decide +kernel
theorem d_Lir_weight_9 : decode prog_1_method_6_code 9 = .ok (.aload_n 2, 1) := by decide +kernel
theorem d_Lir_weight_10 : decode prog_1_method_6_code 10 = .ok (.ifnonnull 11, 3) := by decide +kernel
theorem d_Lir_weight_13 : decode prog_1_method_6_code 13 = .ok (.aload_n 0, 1) := by decide +kernel
theorem d_Lir_weight_14 : decode prog_1_method_6_code 14 = .ok (.iconst (-1), 1) := by decide +kernel
theorem d_Lir_weight_15 : decode prog_1_method_6_code 15 = .ok (.invokevirtual 37, 3) := by decide +kernel
theorem d_Lir_weight_18 : decode prog_1_method_6_code 18 = .ok (.goto 7, 3) := by decide +kernel
theorem d_Lir_weight_21 : decode prog_1_method_6_code 21 = .ok (.aload_n 2, 1) := by decide +kernel
theorem d_Lir_weight_22 : decode prog_1_method_6_code 22 = .ok (.invokevirtual 101, 3) := by decide +kernel
theorem d_Lir_weight_25 : decode prog_1_method_6_code 25 = .ok (.ireturn, 1) := by decide +kernel
theorem d_Lir_law_0 : decode prog_1_method_7_code 0 = .ok (.aload_n 0, 1) := by decide +kernel
theorem d_Lir_law_1 : decode prog_1_method_7_code 1 = .ok (.getfield 19, 3) := by decide +kernel
theorem d_Lir_law_4 : decode prog_1_method_7_code 4 = .ok (.iload_n 1, 1) := by decide +kernel
theorem d_Lir_law_5 : decode prog_1_method_7_code 5 = .ok (.invokevirtual 104, 3) := by decide +kernel
theorem d_Lir_law_8 : decode prog_1_method_7_code 8 = .ok (.astore 4, 2) := by decide +kernel
theorem d_Lir_law_10 : decode prog_1_method_7_code 10 = .ok (.aload 4, 2) := by decide +kernel
theorem d_Lir_law_12 : decode prog_1_method_7_code 12 = .ok (.ifnonnull 9, 3) := by decide +kernel
theorem d_Lir_law_15 : decode prog_1_method_7_code 15 = .ok (.aload_n 0, 1) := by decide +kernel
theorem d_Lir_law_16 : decode prog_1_method_7_code 16 = .ok (.iconst (-1), 1) := by decide +kernel
theorem d_Lir_law_17 : decode prog_1_method_7_code 17 = .ok (.invokevirtual 37, 3) := by decide +kernel
theorem d_Lir_law_20 : decode prog_1_method_7_code 20 = .ok (.ireturn, 1) := by decide +kernel
theorem d_Lir_law_21 : decode prog_1_method_7_code 21 = .ok (.iload_n 2, 1) := by decide +kernel
theorem d_Lir_law_22 : decode prog_1_method_7_code 22 = .ok (.ifCond .lt 9, 3) := by decide +kernel
theorem d_Lir_law_25 : decode prog_1_method_7_code 25 = .ok (.iload_n 2, 1) := by decide +kernel
theorem d_Lir_law_26 : decode prog_1_method_7_code 26 = .ok (.bipush 7, 2) := by decide +kernel
theorem d_Lir_law_28 : decode prog_1_method_7_code 28 = .ok (.if_icmp .lt 10, 3) := by decide +kernel
theorem d_Lir_law_31 : decode prog_1_method_7_code 31 = .ok (.aload_n 0, 1) := by decide +kernel
theorem d_Lir_law_32 : decode prog_1_method_7_code 32 = .ok (.bipush (-2), 2) := by decide +kernel
theorem d_Lir_law_34 : decode prog_1_method_7_code 34 = .ok (.invokevirtual 37, 3) := by decide +kernel
theorem d_Lir_law_37 : decode prog_1_method_7_code 37 = .ok (.ireturn, 1) := by decide +kernel
theorem d_Lir_law_38 : decode prog_1_method_7_code 38 = .ok (.iload_n 2, 1) := by decide +kernel
theorem d_Lir_law_39 : decode prog_1_method_7_code 39 = .ok (.iconst 4, 1) := by decide +kernel
theorem d_Lir_law_40 : decode prog_1_method_7_code 40 = .ok (.if_icmp .ge 9, 3) := by decide +kernel
theorem d_Lir_law_43 : decode prog_1_method_7_code 43 = .ok (.sipush 999, 3) := by decide +kernel
theorem d_Lir_law_46 : decode prog_1_method_7_code 46 = .ok (.goto 6, 3) := by decide +kernel
theorem d_Lir_law_49 : decode prog_1_method_7_code 49 = .ok (.sipush 255, 3) := by decide +kernel
theorem d_Lir_law_52 : decode prog_1_method_7_code 52 = .ok (.istore 5, 2) := by decide +kernel
theorem d_Lir_law_54 : decode prog_1_method_7_code 54 = .ok (.iload_n 3, 1) := by decide +kernel
theorem d_Lir_law_55 : decode prog_1_method_7_code 55 = .ok (.iconst 0, 1) := by decide +kernel
theorem d_Lir_law_56 : decode prog_1_method_7_code 56 = .ok (.iload 5, 2) := by decide +kernel
theorem d_Lir_law_58 : decode prog_1_method_7_code 58 = .ok (.invokestatic 108, 3) := by decide +kernel
theorem d_Lir_law_61 : decode prog_1_method_7_code 61 = .ok (.istore 6, 2) := by decide +kernel
theorem d_Lir_law_63 : decode prog_1_method_7_code 63 = .ok (.iload 6, 2) := by decide +kernel
theorem d_Lir_law_65 : decode prog_1_method_7_code 65 = .ok (.ifCond .eq 12, 3) := by decide +kernel
theorem d_Lir_law_68 : decode prog_1_method_7_code 68 = .ok (.aload_n 0, 1) := by decide +kernel
theorem d_Lir_law_69 : decode prog_1_method_7_code 69 = .ok (.iload 6, 2) := by decide +kernel
theorem d_Lir_law_71 : decode prog_1_method_7_code 71 = .ok (.invokevirtual 37, 3) := by decide +kernel
theorem d_Lir_law_74 : decode prog_1_method_7_code 74 = .ok (.goto 13, 3) := by decide +kernel
theorem d_Lir_law_77 : decode prog_1_method_7_code 77 = .ok (.aload 4, 2) := by decide +kernel
theorem d_Lir_law_79 : decode prog_1_method_7_code 79 = .ok (.getfield 112, 3) := by decide +kernel
theorem d_Lir_law_82 : decode prog_1_method_7_code 82 = .ok (.iload_n 2, 1) := by decide +kernel
theorem d_Lir_law_83 : decode prog_1_method_7_code 83 = .ok (.iload_n 3, 1) := by decide +kernel
theorem d_Lir_law_84 : decode prog_1_method_7_code 84 = .ok (.invokestatic 117, 3) := by decide +kernel
theorem d_Lir_law_87 : decode prog_1_method_7_code 87 = .ok (.ireturn, 1) := by decide +kernel
theorem d_Lir_right_0 : decode prog_1_method_8_code 0 = .ok (.aload_n 0, 1) := by decide +kernel
theorem d_Lir_right_1 : decode prog_1_method_8_code 1 = .ok (.getfield 19, 3) := by decide +kernel
theorem d_Lir_right_4 : decode prog_1_method_8_code 4 = .ok (.getfield 121, 3) := by decide +kernel
theorem d_Lir_right_7 : decode prog_1_method_8_code 7 = .ok (.iload_n 1, 1) := by decide +kernel
theorem d_Lir_right_8 : decode prog_1_method_8_code 8 = .ok (.if_icmp .ne 5, 3) := by decide +kernel
theorem d_Lir_right_11 : decode prog_1_method_8_code 11 = .ok (.iconst 0, 1) := by decide +kernel
theorem d_Lir_right_12 : decode prog_1_method_8_code 12 = .ok (.ireturn, 1) := by decide +kernel
theorem d_Lir_right_13 : decode prog_1_method_8_code 13 = .ok (.aload_n 0, 1) := by decide +kernel
theorem d_Lir_right_14 : decode prog_1_method_8_code 14 = .ok (.getfield 19, 3) := by decide +kernel
theorem d_Lir_right_17 : decode prog_1_method_8_code 17 = .ok (.iload_n 1, 1) := by decide +kernel
theorem d_Lir_right_18 : decode prog_1_method_8_code 18 = .ok (.putfield 121, 3) := by decide +kernel
theorem d_Lir_right_21 : decode prog_1_method_8_code 21 = .ok (.iconst 1, 1) := by decide +kernel
theorem d_Lir_right_22 : decode prog_1_method_8_code 22 = .ok (.ireturn, 1) := by decide +kernel
theorem d_Lir_growth_0 : decode prog_1_method_9_code 0 = .ok (.iload_n 1, 1) := by decide +kernel
theorem d_Lir_growth_1 : decode prog_1_method_9_code 1 = .ok (.invokestatic 124, 3) := by decide +kernel
theorem d_Lir_growth_4 : decode prog_1_method_9_code 4 = .ok (.ifCond .ne 10, 3) := by decide +kernel
theorem d_Lir_growth_7 : decode prog_1_method_9_code 7 = .ok (.aload_n 0, 1) := by decide +kernel
theorem d_Lir_growth_8 : decode prog_1_method_9_code 8 = .ok (.bipush (-2), 2) := by decide +kernel
theorem d_Lir_growth_10 : decode prog_1_method_9_code 10 = .ok (.invokevirtual 37, 3) := by decide +kernel
theorem d_Lir_growth_13 : decode prog_1_method_9_code 13 = .ok (.ireturn, 1) := by decide +kernel
theorem d_Lir_growth_14 : decode prog_1_method_9_code 14 = .ok (.iload_n 2, 1) := by decide +kernel
theorem d_Lir_growth_15 : decode prog_1_method_9_code 15 = .ok (.iconst 0, 1) := by decide +kernel
theorem d_Lir_growth_16 : decode prog_1_method_9_code 16 = .ok (.bipush 50, 2) := by decide +kernel
theorem d_Lir_growth_18 : decode prog_1_method_9_code 18 = .ok (.invokestatic 108, 3) := by decide +kernel
theorem d_Lir_growth_21 : decode prog_1_method_9_code 21 = .ok (.istore_n 3, 1) := by decide +kernel
theorem d_Lir_growth_22 : decode prog_1_method_9_code 22 = .ok (.iload_n 3, 1) := by decide +kernel
theorem d_Lir_growth_23 : decode prog_1_method_9_code 23 = .ok (.ifCond .eq 11, 3) := by decide +kernel
theorem d_Lir_growth_26 : decode prog_1_method_9_code 26 = .ok (.aload_n 0, 1) := by decide +kernel
theorem d_Lir_growth_27 : decode prog_1_method_9_code 27 = .ok (.iload_n 3, 1) := by decide +kernel
theorem d_Lir_growth_28 : decode prog_1_method_9_code 28 = .ok (.invokevirtual 37, 3) := by decide +kernel
theorem d_Lir_growth_31 : decode prog_1_method_9_code 31 = .ok (.goto 15, 3) := by decide +kernel
theorem d_Lir_growth_34 : decode prog_1_method_9_code 34 = .ok (.aload_n 0, 1) := by decide +kernel
theorem d_Lir_growth_35 : decode prog_1_method_9_code 35 = .ok (.getfield 19, 3) := by decide +kernel
theorem d_Lir_growth_38 : decode prog_1_method_9_code 38 = .ok (.getfield 128, 3) := by decide +kernel
theorem d_Lir_growth_41 : decode prog_1_method_9_code 41 = .ok (.iload_n 1, 1) := by decide +kernel
theorem d_Lir_growth_42 : decode prog_1_method_9_code 42 = .ok (.iload_n 2, 1) := by decide +kernel
theorem d_Lir_growth_43 : decode prog_1_method_9_code 43 = .ok (.invokestatic 117, 3) := by decide +kernel
theorem d_Lir_growth_46 : decode prog_1_method_9_code 46 = .ok (.ireturn, 1) := by decide +kernel
theorem d_Lir_put_0 : decode prog_1_method_10_code 0 = .ok (.aload_n 0, 1) := by decide +kernel
theorem d_Lir_put_1 : decode prog_1_method_10_code 1 = .ok (.getfield 19, 3) := by decide +kernel
theorem d_Lir_put_4 : decode prog_1_method_10_code 4 = .ok (.iload_n 1, 1) := by decide +kernel
theorem d_Lir_put_5 : decode prog_1_method_10_code 5 = .ok (.invokevirtual 74, 3) := by decide +kernel
theorem d_Lir_put_8 : decode prog_1_method_10_code 8 = .ok (.astore_n 3, 1) := by decide +kernel
theorem d_Lir_put_9 : decode prog_1_method_10_code 9 = .ok (.aload_n 3, 1) := by decide +kernel
theorem d_Lir_put_10 : decode prog_1_method_10_code 10 = .ok (.ifnonnull 9, 3) := by decide +kernel
theorem d_Lir_put_13 : decode prog_1_method_10_code 13 = .ok (.aload_n 0, 1) := by decide +kernel
theorem d_Lir_put_14 : decode prog_1_method_10_code 14 = .ok (.iconst (-1), 1) := by decide +kernel
theorem d_Lir_put_15 : decode prog_1_method_10_code 15 = .ok (.invokevirtual 37, 3) := by decide +kernel
theorem d_Lir_put_18 : decode prog_1_method_10_code 18 = .ok (.ireturn, 1) := by decide +kernel
theorem d_Lir_put_19 : decode prog_1_method_10_code 19 = .ok (.iload_n 2, 1) := by decide +kernel
theorem d_Lir_put_20 : decode prog_1_method_10_code 20 = .ok (.invokestatic 124, 3) := by decide +kernel
theorem d_Lir_put_23 : decode prog_1_method_10_code 23 = .ok (.ifCond .eq 15, 3) := by decide +kernel
theorem d_Lir_put_26 : decode prog_1_method_10_code 26 = .ok (.aload_n 0, 1) := by decide +kernel
theorem d_Lir_put_27 : decode prog_1_method_10_code 27 = .ok (.getfield 19, 3) := by decide +kernel
theorem d_Lir_put_30 : decode prog_1_method_10_code 30 = .ok (.aload_n 3, 1) := by decide +kernel
theorem d_Lir_put_31 : decode prog_1_method_10_code 31 = .ok (.iload_n 2, 1) := by decide +kernel
theorem d_Lir_put_32 : decode prog_1_method_10_code 32 = .ok (.invokevirtual 131, 3) := by decide +kernel
theorem d_Lir_put_35 : decode prog_1_method_10_code 35 = .ok (.goto 9, 3) := by decide +kernel
theorem d_Lir_put_38 : decode prog_1_method_10_code 38 = .ok (.aload_n 0, 1) := by decide +kernel
theorem d_Lir_put_39 : decode prog_1_method_10_code 39 = .ok (.bipush (-2), 2) := by decide +kernel
theorem d_Lir_put_41 : decode prog_1_method_10_code 41 = .ok (.invokevirtual 37, 3) := by decide +kernel
theorem d_Lir_put_44 : decode prog_1_method_10_code 44 = .ok (.ireturn, 1) := by decide +kernel
theorem d_Lir_fits_0 : decode prog_1_method_11_code 0 = .ok (.aload_n 0, 1) := by decide +kernel
theorem d_Lir_fits_1 : decode prog_1_method_11_code 1 = .ok (.getfield 19, 3) := by decide +kernel
theorem d_Lir_fits_4 : decode prog_1_method_11_code 4 = .ok (.iload_n 1, 1) := by decide +kernel
theorem d_Lir_fits_5 : decode prog_1_method_11_code 5 = .ok (.invokevirtual 74, 3) := by decide +kernel
theorem d_Lir_fits_8 : decode prog_1_method_11_code 8 = .ok (.astore_n 3, 1) := by decide +kernel
theorem d_Lir_fits_9 : decode prog_1_method_11_code 9 = .ok (.aload_n 0, 1) := by decide +kernel
theorem d_Lir_fits_10 : decode prog_1_method_11_code 10 = .ok (.getfield 19, 3) := by decide +kernel
theorem d_Lir_fits_13 : decode prog_1_method_11_code 13 = .ok (.iload_n 2, 1) := by decide +kernel
theorem d_Lir_fits_14 : decode prog_1_method_11_code 14 = .ok (.invokevirtual 104, 3) := by decide +kernel
theorem d_Lir_fits_17 : decode prog_1_method_11_code 17 = .ok (.astore 4, 2) := by decide +kernel
theorem d_Lir_fits_19 : decode prog_1_method_11_code 19 = .ok (.aload_n 3, 1) := by decide +kernel
theorem d_Lir_fits_20 : decode prog_1_method_11_code 20 = .ok (.ifnull 8, 3) := by decide +kernel
theorem d_Lir_fits_23 : decode prog_1_method_11_code 23 = .ok (.aload 4, 2) := by decide +kernel
theorem d_Lir_fits_25 : decode prog_1_method_11_code 25 = .ok (.ifnonnull 9, 3) := by decide +kernel
theorem d_Lir_fits_28 : decode prog_1_method_11_code 28 = .ok (.aload_n 0, 1) := by decide +kernel
theorem d_Lir_fits_29 : decode prog_1_method_11_code 29 = .ok (.iconst (-1), 1) := by decide +kernel
theorem d_Lir_fits_30 : decode prog_1_method_11_code 30 = .ok (.invokevirtual 37, 3) := by decide +kernel
theorem d_Lir_fits_33 : decode prog_1_method_11_code 33 = .ok (.ireturn, 1) := by decide +kernel
theorem d_Lir_fits_34 : decode prog_1_method_11_code 34 = .ok (.aload_n 0, 1) := by decide +kernel
theorem d_Lir_fits_35 : decode prog_1_method_11_code 35 = .ok (.getfield 19, 3) := by decide +kernel
theorem d_Lir_fits_38 : decode prog_1_method_11_code 38 = .ok (.aload_n 3, 1) := by decide +kernel
theorem d_Lir_fits_39 : decode prog_1_method_11_code 39 = .ok (.aload 4, 2) := by decide +kernel
theorem d_Lir_fits_41 : decode prog_1_method_11_code 41 = .ok (.invokevirtual 135, 3) := by decide +kernel
theorem d_Lir_fits_44 : decode prog_1_method_11_code 44 = .ok (.ifCond .ne 7, 3) := by decide +kernel
theorem d_Lir_fits_47 : decode prog_1_method_11_code 47 = .ok (.iconst 1, 1) := by decide +kernel
theorem d_Lir_fits_48 : decode prog_1_method_11_code 48 = .ok (.goto 4, 3) := by decide +kernel
theorem d_Lir_fits_51 : decode prog_1_method_11_code 51 = .ok (.iconst 0, 1) := by decide +kernel
theorem d_Lir_fits_52 : decode prog_1_method_11_code 52 = .ok (.ireturn, 1) := by decide +kernel
theorem d_Lir_share_0 : decode prog_1_method_12_code 0 = .ok (.aload_n 0, 1) := by decide +kernel
theorem d_Lir_share_1 : decode prog_1_method_12_code 1 = .ok (.getfield 19, 3) := by decide +kernel
theorem d_Lir_share_4 : decode prog_1_method_12_code 4 = .ok (.iload_n 1, 1) := by decide +kernel
theorem d_Lir_share_5 : decode prog_1_method_12_code 5 = .ok (.invokevirtual 104, 3) := by decide +kernel
theorem d_Lir_share_8 : decode prog_1_method_12_code 8 = .ok (.astore_n 3, 1) := by decide +kernel
theorem d_Lir_share_9 : decode prog_1_method_12_code 9 = .ok (.aload_n 3, 1) := by decide +kernel
theorem d_Lir_share_10 : decode prog_1_method_12_code 10 = .ok (.ifnonnull 9, 3) := by decide +kernel
theorem d_Lir_share_13 : decode prog_1_method_12_code 13 = .ok (.aload_n 0, 1) := by decide +kernel
theorem d_Lir_share_14 : decode prog_1_method_12_code 14 = .ok (.iconst (-1), 1) := by decide +kernel
theorem d_Lir_share_15 : decode prog_1_method_12_code 15 = .ok (.invokevirtual 139, 3) := by decide +kernel
theorem d_Lir_share_18 : decode prog_1_method_12_code 18 = .ok (.ireturn, 1) := by decide +kernel
theorem d_Lir_share_19 : decode prog_1_method_12_code 19 = .ok (.iload_n 2, 1) := by decide +kernel
theorem d_Lir_share_20 : decode prog_1_method_12_code 20 = .ok (.invokestatic 142, 3) := by decide +kernel
theorem d_Lir_share_23 : decode prog_1_method_12_code 23 = .ok (.ifCond .ne 10, 3) := by decide +kernel
theorem d_Lir_share_26 : decode prog_1_method_12_code 26 = .ok (.aload_n 0, 1) := by decide +kernel
theorem d_Lir_share_27 : decode prog_1_method_12_code 27 = .ok (.bipush (-2), 2) := by decide +kernel
theorem d_Lir_share_29 : decode prog_1_method_12_code 29 = .ok (.invokevirtual 139, 3) := by decide +kernel
theorem d_Lir_share_32 : decode prog_1_method_12_code 32 = .ok (.ireturn, 1) := by decide +kernel
theorem d_Lir_share_33 : decode prog_1_method_12_code 33 = .ok (.iconst 0, 1) := by decide +kernel
theorem d_Lir_share_34 : decode prog_1_method_12_code 34 = .ok (.istore 4, 2) := by decide +kernel
theorem d_Lir_share_36 : decode prog_1_method_12_code 36 = .ok (.iconst 0, 1) := by decide +kernel
theorem d_Lir_share_37 : decode prog_1_method_12_code 37 = .ok (.istore 5, 2) := by decide +kernel
theorem d_Lir_share_39 : decode prog_1_method_12_code 39 = .ok (.aload_n 0, 1) := by decide +kernel
theorem d_Lir_share_40 : decode prog_1_method_12_code 40 = .ok (.getfield 19, 3) := by decide +kernel
theorem d_Lir_share_43 : decode prog_1_method_12_code 43 = .ok (.getfield 145, 3) := by decide +kernel
theorem d_Lir_share_46 : decode prog_1_method_12_code 46 = .ok (.astore 6, 2) := by decide +kernel
theorem d_Lir_share_48 : decode prog_1_method_12_code 48 = .ok (.aload 6, 2) := by decide +kernel
theorem d_Lir_share_50 : decode prog_1_method_12_code 50 = .ok (.arraylength, 1) := by decide +kernel
theorem d_Lir_share_51 : decode prog_1_method_12_code 51 = .ok (.istore 7, 2) := by decide +kernel
theorem d_Lir_share_53 : decode prog_1_method_12_code 53 = .ok (.iconst 0, 1) := by decide +kernel
theorem d_Lir_share_54 : decode prog_1_method_12_code 54 = .ok (.istore 8, 2) := by decide +kernel
theorem d_Lir_share_56 : decode prog_1_method_12_code 56 = .ok (.iload 8, 2) := by decide +kernel
theorem d_Lir_share_58 : decode prog_1_method_12_code 58 = .ok (.iload 7, 2) := by decide +kernel
theorem d_Lir_share_60 : decode prog_1_method_12_code 60 = .ok (.if_icmp .ge 59, 3) := by decide +kernel
theorem d_Lir_share_63 : decode prog_1_method_12_code 63 = .ok (.aload 6, 2) := by decide +kernel
theorem d_Lir_share_65 : decode prog_1_method_12_code 65 = .ok (.iload 8, 2) := by decide +kernel
theorem d_Lir_share_67 : decode prog_1_method_12_code 67 = .ok (.aaload, 1) := by decide +kernel
theorem d_Lir_share_68 : decode prog_1_method_12_code 68 = .ok (.astore 9, 2) := by decide +kernel
theorem d_Lir_share_70 : decode prog_1_method_12_code 70 = .ok (.aload 9, 2) := by decide +kernel
theorem d_Lir_share_72 : decode prog_1_method_12_code 72 = .ok (.ifnull 41, 3) := by decide +kernel
theorem d_Lir_share_75 : decode prog_1_method_12_code 75 = .ok (.aload 9, 2) := by decide +kernel
theorem d_Lir_share_77 : decode prog_1_method_12_code 77 = .ok (.invokevirtual 101, 3) := by decide +kernel
theorem d_Lir_share_80 : decode prog_1_method_12_code 80 = .ok (.istore 10, 2) := by decide +kernel
theorem d_Lir_share_82 : decode prog_1_method_12_code 82 = .ok (.iload 5, 2) := by decide +kernel
theorem d_Lir_share_84 : decode prog_1_method_12_code 84 = .ok (.iload 10, 2) := by decide +kernel
theorem d_Lir_share_86 : decode prog_1_method_12_code 86 = .ok (.iadd, 1) := by decide +kernel
theorem d_Lir_share_87 : decode prog_1_method_12_code 87 = .ok (.istore 5, 2) := by decide +kernel
theorem d_Lir_share_89 : decode prog_1_method_12_code 89 = .ok (.iload 4, 2) := by decide +kernel
theorem d_Lir_share_91 : decode prog_1_method_12_code 91 = .ok (.aload_n 0, 1) := by decide +kernel
theorem d_Lir_share_92 : decode prog_1_method_12_code 92 = .ok (.getfield 19, 3) := by decide +kernel
theorem d_Lir_share_95 : decode prog_1_method_12_code 95 = .ok (.aload 9, 2) := by decide +kernel
theorem d_Lir_share_97 : decode prog_1_method_12_code 97 = .ok (.aload_n 3, 1) := by decide +kernel
theorem d_Lir_share_98 : decode prog_1_method_12_code 98 = .ok (.invokevirtual 135, 3) := by decide +kernel
theorem d_Lir_share_101 : decode prog_1_method_12_code 101 = .ok (.ifCond .ne 8, 3) := by decide +kernel
theorem d_Lir_share_104 : decode prog_1_method_12_code 104 = .ok (.iload 10, 2) := by decide +kernel
theorem d_Lir_share_106 : decode prog_1_method_12_code 106 = .ok (.goto 4, 3) := by decide +kernel
theorem d_Lir_share_109 : decode prog_1_method_12_code 109 = .ok (.iconst 0, 1) := by decide +kernel
theorem d_Lir_share_110 : decode prog_1_method_12_code 110 = .ok (.iadd, 1) := by decide +kernel
theorem d_Lir_share_111 : decode prog_1_method_12_code 111 = .ok (.istore 4, 2) := by decide +kernel
theorem d_Lir_share_113 : decode prog_1_method_12_code 113 = .ok (.iinc 8 1, 3) := by decide +kernel
theorem d_Lir_share_116 : decode prog_1_method_12_code 116 = .ok (.goto (-60), 3) := by decide +kernel
theorem d_Lir_share_119 : decode prog_1_method_12_code 119 = .ok (.iload 5, 2) := by decide +kernel
theorem d_Lir_share_121 : decode prog_1_method_12_code 121 = .ok (.ifCond .ne 12, 3) := by decide +kernel
theorem d_Lir_share_124 : decode prog_1_method_12_code 124 = .ok (.aload_n 0, 1) := by decide +kernel
theorem d_Lir_share_125 : decode prog_1_method_12_code 125 = .ok (.bipush (-3), 2) := by decide +kernel
theorem d_Lir_share_127 : decode prog_1_method_12_code 127 = .ok (.invokevirtual 139, 3) := by decide +kernel
theorem d_Lir_share_130 : decode prog_1_method_12_code 130 = .ok (.goto 11, 3) := by decide +kernel
theorem d_Lir_share_133 : decode prog_1_method_12_code 133 = .ok (.iload 4, 2) := by decide +kernel
theorem d_Lir_share_135 : decode prog_1_method_12_code 135 = .ok (.iload 5, 2) := by decide +kernel
theorem d_Lir_share_137 : decode prog_1_method_12_code 137 = .ok (.iload_n 2, 1) := by decide +kernel
theorem d_Lir_share_138 : decode prog_1_method_12_code 138 = .ok (.invokestatic 149, 3) := by decide +kernel
theorem d_Lir_share_141 : decode prog_1_method_12_code 141 = .ok (.ireturn, 1) := by decide +kernel
theorem d_Lir_only_0 : decode prog_1_method_13_code 0 = .ok (.aload_n 0, 1) := by decide +kernel
theorem d_Lir_only_1 : decode prog_1_method_13_code 1 = .ok (.getfield 19, 3) := by decide +kernel
theorem d_Lir_only_4 : decode prog_1_method_13_code 4 = .ok (.iload_n 1, 1) := by decide +kernel
theorem d_Lir_only_5 : decode prog_1_method_13_code 5 = .ok (.invokevirtual 104, 3) := by decide +kernel
theorem d_Lir_only_8 : decode prog_1_method_13_code 8 = .ok (.ifnonnull 11, 3) := by decide +kernel
theorem d_Lir_only_11 : decode prog_1_method_13_code 11 = .ok (.aload_n 0, 1) := by decide +kernel
theorem d_Lir_only_12 : decode prog_1_method_13_code 12 = .ok (.iconst (-1), 1) := by decide +kernel
theorem d_Lir_only_13 : decode prog_1_method_13_code 13 = .ok (.invokevirtual 37, 3) := by decide +kernel
theorem d_Lir_only_16 : decode prog_1_method_13_code 16 = .ok (.goto 9, 3) := by decide +kernel
theorem d_Lir_only_19 : decode prog_1_method_13_code 19 = .ok (.aload_n 0, 1) := by decide +kernel
theorem d_Lir_only_20 : decode prog_1_method_13_code 20 = .ok (.iload_n 1, 1) := by decide +kernel
theorem d_Lir_only_21 : decode prog_1_method_13_code 21 = .ok (.iconst 0, 1) := by decide +kernel
theorem d_Lir_only_22 : decode prog_1_method_13_code 22 = .ok (.invokevirtual 152, 3) := by decide +kernel
theorem d_Lir_only_25 : decode prog_1_method_13_code 25 = .ok (.ireturn, 1) := by decide +kernel
theorem d_Lir_cover_0 : decode prog_1_method_14_code 0 = .ok (.aload_n 0, 1) := by decide +kernel
theorem d_Lir_cover_1 : decode prog_1_method_14_code 1 = .ok (.invokevirtual 156, 3) := by decide +kernel
theorem d_Lir_cover_4 : decode prog_1_method_14_code 4 = .ok (.bipush 63, 2) := by decide +kernel
theorem d_Lir_cover_6 : decode prog_1_method_14_code 6 = .ok (.istore_n 1, 1) := by decide +kernel
theorem d_Lir_cover_7 : decode prog_1_method_14_code 7 = .ok (.iconst 0, 1) := by decide +kernel
theorem d_Lir_cover_8 : decode prog_1_method_14_code 8 = .ok (.istore_n 2, 1) := by decide +kernel
theorem d_Lir_cover_9 : decode prog_1_method_14_code 9 = .ok (.iload_n 2, 1) := by decide +kernel
theorem d_Lir_cover_10 : decode prog_1_method_14_code 10 = .ok (.bipush 64, 2) := by decide +kernel
theorem d_Lir_cover_12 : decode prog_1_method_14_code 12 = .ok (.if_icmp .ge 30, 3) := by decide +kernel
theorem d_Lir_cover_15 : decode prog_1_method_14_code 15 = .ok (.iload_n 2, 1) := by decide +kernel
theorem d_Lir_cover_16 : decode prog_1_method_14_code 16 = .ok (.invokestatic 159, 3) := by decide +kernel
theorem d_Lir_cover_19 : decode prog_1_method_14_code 19 = .ok (.iload_n 1, 1) := by decide +kernel
theorem d_Lir_cover_20 : decode prog_1_method_14_code 20 = .ok (.invokestatic 159, 3) := by decide +kernel
theorem d_Lir_cover_23 : decode prog_1_method_14_code 23 = .ok (.if_icmp .ge 13, 3) := by decide +kernel
theorem d_Lir_cover_26 : decode prog_1_method_14_code 26 = .ok (.aload_n 0, 1) := by decide +kernel
theorem d_Lir_cover_27 : decode prog_1_method_14_code 27 = .ok (.iload_n 2, 1) := by decide +kernel
theorem d_Lir_cover_28 : decode prog_1_method_14_code 28 = .ok (.invokevirtual 164, 3) := by decide +kernel
theorem d_Lir_cover_31 : decode prog_1_method_14_code 31 = .ok (.ifCond .eq 5, 3) := by decide +kernel
theorem d_Lir_cover_34 : decode prog_1_method_14_code 34 = .ok (.iload_n 2, 1) := by decide +kernel
theorem d_Lir_cover_35 : decode prog_1_method_14_code 35 = .ok (.istore_n 1, 1) := by decide +kernel
theorem d_Lir_cover_36 : decode prog_1_method_14_code 36 = .ok (.iinc 2 1, 3) := by decide +kernel
theorem d_Lir_cover_39 : decode prog_1_method_14_code 39 = .ok (.goto (-30), 3) := by decide +kernel
theorem d_Lir_cover_42 : decode prog_1_method_14_code 42 = .ok (.iload_n 1, 1) := by decide +kernel
theorem d_Lir_cover_43 : decode prog_1_method_14_code 43 = .ok (.ireturn, 1) := by decide +kernel
theorem d_Lir_half_0 : decode prog_1_method_15_code 0 = .ok (.aload_n 0, 1) := by decide +kernel
theorem d_Lir_half_1 : decode prog_1_method_15_code 1 = .ok (.getfield 19, 3) := by decide +kernel
theorem d_Lir_half_4 : decode prog_1_method_15_code 4 = .ok (.iload_n 1, 1) := by decide +kernel
theorem d_Lir_half_5 : decode prog_1_method_15_code 5 = .ok (.invokevirtual 104, 3) := by decide +kernel
theorem d_Lir_half_8 : decode prog_1_method_15_code 8 = .ok (.astore_n 2, 1) := by decide +kernel
theorem d_Lir_half_9 : decode prog_1_method_15_code 9 = .ok (.aload_n 2, 1) := by decide +kernel
theorem d_Lir_half_10 : decode prog_1_method_15_code 10 = .ok (.ifnonnull 9, 3) := by decide +kernel
theorem d_Lir_half_13 : decode prog_1_method_15_code 13 = .ok (.aload_n 0, 1) := by decide +kernel
theorem d_Lir_half_14 : decode prog_1_method_15_code 14 = .ok (.iconst (-1), 1) := by decide +kernel
theorem d_Lir_half_15 : decode prog_1_method_15_code 15 = .ok (.invokevirtual 37, 3) := by decide +kernel
theorem d_Lir_half_18 : decode prog_1_method_15_code 18 = .ok (.ireturn, 1) := by decide +kernel
theorem d_Lir_half_19 : decode prog_1_method_15_code 19 = .ok (.aload_n 0, 1) := by decide +kernel
theorem d_Lir_half_20 : decode prog_1_method_15_code 20 = .ok (.aload_n 2, 1) := by decide +kernel
theorem d_Lir_half_21 : decode prog_1_method_15_code 21 = .ok (.invokevirtual 167, 3) := by decide +kernel
theorem d_Lir_half_24 : decode prog_1_method_15_code 24 = .ok (.bipush 127, 2) := by decide +kernel
theorem d_Lir_half_26 : decode prog_1_method_15_code 26 = .ok (.istore_n 3, 1) := by decide +kernel
theorem d_Lir_half_27 : decode prog_1_method_15_code 27 = .ok (.iconst 0, 1) := by decide +kernel
theorem d_Lir_half_28 : decode prog_1_method_15_code 28 = .ok (.istore 4, 2) := by decide +kernel
theorem d_Lir_half_30 : decode prog_1_method_15_code 30 = .ok (.iload 4, 2) := by decide +kernel
theorem d_Lir_half_32 : decode prog_1_method_15_code 32 = .ok (.sipush 128, 3) := by decide +kernel
theorem d_Lir_half_35 : decode prog_1_method_15_code 35 = .ok (.if_icmp .ge 33, 3) := by decide +kernel
theorem d_Lir_half_38 : decode prog_1_method_15_code 38 = .ok (.iload 4, 2) := by decide +kernel
theorem d_Lir_half_40 : decode prog_1_method_15_code 40 = .ok (.invokestatic 159, 3) := by decide +kernel
theorem d_Lir_half_43 : decode prog_1_method_15_code 43 = .ok (.iload_n 3, 1) := by decide +kernel
theorem d_Lir_half_44 : decode prog_1_method_15_code 44 = .ok (.invokestatic 159, 3) := by decide +kernel
theorem d_Lir_half_47 : decode prog_1_method_15_code 47 = .ok (.if_icmp .ge 15, 3) := by decide +kernel
theorem d_Lir_half_50 : decode prog_1_method_15_code 50 = .ok (.aload_n 0, 1) := by decide +kernel
theorem d_Lir_half_51 : decode prog_1_method_15_code 51 = .ok (.iload 4, 2) := by decide +kernel
theorem d_Lir_half_53 : decode prog_1_method_15_code 53 = .ok (.invokevirtual 171, 3) := by decide +kernel
theorem d_Lir_half_56 : decode prog_1_method_15_code 56 = .ok (.ifCond .eq 6, 3) := by decide +kernel
theorem d_Lir_half_59 : decode prog_1_method_15_code 59 = .ok (.iload 4, 2) := by decide +kernel
theorem d_Lir_half_61 : decode prog_1_method_15_code 61 = .ok (.istore_n 3, 1) := by decide +kernel
theorem d_Lir_half_62 : decode prog_1_method_15_code 62 = .ok (.iinc 4 1, 3) := by decide +kernel
theorem d_Lir_half_65 : decode prog_1_method_15_code 65 = .ok (.goto (-35), 3) := by decide +kernel
theorem d_Lir_half_68 : decode prog_1_method_15_code 68 = .ok (.iload_n 3, 1) := by decide +kernel
theorem d_Lir_half_69 : decode prog_1_method_15_code 69 = .ok (.ireturn, 1) := by decide +kernel
theorem d_Lir_sorts_0 : decode prog_1_method_16_code 0 = .ok (.iload_n 1, 1) := by decide +kernel
theorem d_Lir_sorts_1 : decode prog_1_method_16_code 1 = .ok (.ifCond .eq 15, 3) := by decide +kernel
theorem d_Lir_sorts_4 : decode prog_1_method_16_code 4 = .ok (.iload_n 1, 1) := by decide +kernel
theorem d_Lir_sorts_5 : decode prog_1_method_16_code 5 = .ok (.iconst 1, 1) := by decide +kernel
theorem d_Lir_sorts_6 : decode prog_1_method_16_code 6 = .ok (.if_icmp .eq 10, 3) := by decide +kernel
theorem d_Lir_sorts_9 : decode prog_1_method_16_code 9 = .ok (.aload_n 0, 1) := by decide +kernel
theorem d_Lir_sorts_10 : decode prog_1_method_16_code 10 = .ok (.bipush (-2), 2) := by decide +kernel
theorem d_Lir_sorts_12 : decode prog_1_method_16_code 12 = .ok (.invokevirtual 37, 3) := by decide +kernel
theorem d_Lir_sorts_15 : decode prog_1_method_16_code 15 = .ok (.ireturn, 1) := by decide +kernel
theorem d_Lir_sorts_16 : decode prog_1_method_16_code 16 = .ok (.aload_n 0, 1) := by decide +kernel
theorem d_Lir_sorts_17 : decode prog_1_method_16_code 17 = .ok (.invokevirtual 156, 3) := by decide +kernel
theorem d_Lir_sorts_20 : decode prog_1_method_16_code 20 = .ok (.iconst 0, 1) := by decide +kernel
theorem d_Lir_sorts_21 : decode prog_1_method_16_code 21 = .ok (.istore_n 2, 1) := by decide +kernel
theorem d_Lir_sorts_22 : decode prog_1_method_16_code 22 = .ok (.iconst 0, 1) := by decide +kernel
theorem d_Lir_sorts_23 : decode prog_1_method_16_code 23 = .ok (.istore_n 3, 1) := by decide +kernel
theorem d_Lir_sorts_24 : decode prog_1_method_16_code 24 = .ok (.iconst 0, 1) := by decide +kernel
theorem d_Lir_sorts_25 : decode prog_1_method_16_code 25 = .ok (.istore 4, 2) := by decide +kernel
theorem d_Lir_sorts_27 : decode prog_1_method_16_code 27 = .ok (.iload 4, 2) := by decide +kernel
theorem d_Lir_sorts_29 : decode prog_1_method_16_code 29 = .ok (.aload_n 0, 1) := by decide +kernel
theorem d_Lir_sorts_30 : decode prog_1_method_16_code 30 = .ok (.getfield 19, 3) := by decide +kernel
theorem d_Lir_sorts_33 : decode prog_1_method_16_code 33 = .ok (.getfield 53, 3) := by decide +kernel
theorem d_Lir_sorts_36 : decode prog_1_method_16_code 36 = .ok (.if_icmp .ge 34, 3) := by decide +kernel
theorem d_Lir_sorts_39 : decode prog_1_method_16_code 39 = .ok (.aload_n 0, 1) := by decide +kernel
theorem d_Lir_sorts_40 : decode prog_1_method_16_code 40 = .ok (.iload 4, 2) := by decide +kernel
theorem d_Lir_sorts_42 : decode prog_1_method_16_code 42 = .ok (.invokevirtual 174, 3) := by decide +kernel
theorem d_Lir_sorts_45 : decode prog_1_method_16_code 45 = .ok (.iload 4, 2) := by decide +kernel
theorem d_Lir_sorts_47 : decode prog_1_method_16_code 47 = .ok (.if_icmp .ne 17, 3) := by decide +kernel
theorem d_Lir_sorts_50 : decode prog_1_method_16_code 50 = .ok (.iinc 2 1, 3) := by decide +kernel
theorem d_Lir_sorts_53 : decode prog_1_method_16_code 53 = .ok (.iload_n 3, 1) := by decide +kernel
theorem d_Lir_sorts_54 : decode prog_1_method_16_code 54 = .ok (.aload_n 0, 1) := by decide +kernel
theorem d_Lir_sorts_55 : decode prog_1_method_16_code 55 = .ok (.iload 4, 2) := by decide +kernel
theorem d_Lir_sorts_57 : decode prog_1_method_16_code 57 = .ok (.invokevirtual 177, 3) := by decide +kernel
theorem d_Lir_sorts_60 : decode prog_1_method_16_code 60 = .ok (.invokestatic 180, 3) := by decide +kernel
theorem d_Lir_sorts_63 : decode prog_1_method_16_code 63 = .ok (.istore_n 3, 1) := by decide +kernel
theorem d_Lir_sorts_64 : decode prog_1_method_16_code 64 = .ok (.iinc 4 1, 3) := by decide +kernel
theorem d_Lir_sorts_67 : decode prog_1_method_16_code 67 = .ok (.goto (-40), 3) := by decide +kernel
theorem d_Lir_sorts_70 : decode prog_1_method_16_code 70 = .ok (.iload_n 1, 1) := by decide +kernel
theorem d_Lir_sorts_71 : decode prog_1_method_16_code 71 = .ok (.ifCond .ne 7, 3) := by decide +kernel
theorem d_Lir_sorts_74 : decode prog_1_method_16_code 74 = .ok (.iload_n 2, 1) := by decide +kernel
theorem d_Lir_sorts_75 : decode prog_1_method_16_code 75 = .ok (.goto 4, 3) := by decide +kernel
theorem d_Lir_sorts_78 : decode prog_1_method_16_code 78 = .ok (.iload_n 3, 1) := by decide +kernel
theorem d_Lir_sorts_79 : decode prog_1_method_16_code 79 = .ok (.ireturn, 1) := by decide +kernel
theorem d_Lir_alike_0 : decode prog_1_method_17_code 0 = .ok (.aload_n 0, 1) := by decide +kernel
theorem d_Lir_alike_1 : decode prog_1_method_17_code 1 = .ok (.getfield 19, 3) := by decide +kernel
theorem d_Lir_alike_4 : decode prog_1_method_17_code 4 = .ok (.iload_n 1, 1) := by decide +kernel
theorem d_Lir_alike_5 : decode prog_1_method_17_code 5 = .ok (.invokevirtual 74, 3) := by decide +kernel
theorem d_Lir_alike_8 : decode prog_1_method_17_code 8 = .ok (.ifnonnull 9, 3) := by decide +kernel
theorem d_Lir_alike_11 : decode prog_1_method_17_code 11 = .ok (.aload_n 0, 1) := by decide +kernel
theorem d_Lir_alike_12 : decode prog_1_method_17_code 12 = .ok (.iconst (-1), 1) := by decide +kernel
theorem d_Lir_alike_13 : decode prog_1_method_17_code 13 = .ok (.invokevirtual 37, 3) := by decide +kernel
theorem d_Lir_alike_16 : decode prog_1_method_17_code 16 = .ok (.ireturn, 1) := by decide +kernel
theorem d_Lir_alike_17 : decode prog_1_method_17_code 17 = .ok (.aload_n 0, 1) := by decide +kernel
theorem d_Lir_alike_18 : decode prog_1_method_17_code 18 = .ok (.invokevirtual 156, 3) := by decide +kernel
theorem d_Lir_alike_21 : decode prog_1_method_17_code 21 = .ok (.aload_n 0, 1) := by decide +kernel
theorem d_Lir_alike_22 : decode prog_1_method_17_code 22 = .ok (.iload_n 1, 1) := by decide +kernel
theorem d_Lir_alike_23 : decode prog_1_method_17_code 23 = .ok (.invokevirtual 174, 3) := by decide +kernel
theorem d_Lir_alike_26 : decode prog_1_method_17_code 26 = .ok (.ireturn, 1) := by decide +kernel
theorem d_Lir_together_0 : decode prog_1_method_18_code 0 = .ok (.iload_n 1, 1) := by decide +kernel
theorem d_Lir_together_1 : decode prog_1_method_18_code 1 = .ok (.invokestatic 185, 3) := by decide +kernel
theorem d_Lir_together_4 : decode prog_1_method_18_code 4 = .ok (.ifCond .eq 10, 3) := by decide +kernel
theorem d_Lir_together_7 : decode prog_1_method_18_code 7 = .ok (.iload_n 2, 1) := by decide +kernel
theorem d_Lir_together_8 : decode prog_1_method_18_code 8 = .ok (.invokestatic 185, 3) := by decide +kernel
theorem d_Lir_together_11 : decode prog_1_method_18_code 11 = .ok (.ifCond .ne 9, 3) := by decide +kernel
theorem d_Lir_together_14 : decode prog_1_method_18_code 14 = .ok (.aload_n 0, 1) := by decide +kernel
theorem d_Lir_together_15 : decode prog_1_method_18_code 15 = .ok (.iconst (-1), 1) := by decide +kernel
theorem d_Lir_together_16 : decode prog_1_method_18_code 16 = .ok (.invokevirtual 139, 3) := by decide +kernel
theorem d_Lir_together_19 : decode prog_1_method_18_code 19 = .ok (.ireturn, 1) := by decide +kernel
theorem d_Lir_together_20 : decode prog_1_method_18_code 20 = .ok (.iconst 0, 1) := by decide +kernel
theorem d_Lir_together_21 : decode prog_1_method_18_code 21 = .ok (.istore_n 3, 1) := by decide +kernel
theorem d_Lir_together_22 : decode prog_1_method_18_code 22 = .ok (.iconst 0, 1) := by decide +kernel
theorem d_Lir_together_23 : decode prog_1_method_18_code 23 = .ok (.istore 4, 2) := by decide +kernel
theorem d_Lir_together_25 : decode prog_1_method_18_code 25 = .ok (.iconst 0, 1) := by decide +kernel
theorem d_Lir_together_26 : decode prog_1_method_18_code 26 = .ok (.istore 5, 2) := by decide +kernel
theorem d_Lir_together_28 : decode prog_1_method_18_code 28 = .ok (.iconst 0, 1) := by decide +kernel
theorem d_Lir_together_29 : decode prog_1_method_18_code 29 = .ok (.istore 6, 2) := by decide +kernel
theorem d_Lir_together_31 : decode prog_1_method_18_code 31 = .ok (.aload_n 0, 1) := by decide +kernel
theorem d_Lir_together_32 : decode prog_1_method_18_code 32 = .ok (.getfield 19, 3) := by decide +kernel
theorem d_Lir_together_35 : decode prog_1_method_18_code 35 = .ok (.getfield 145, 3) := by decide +kernel
theorem d_Lir_together_38 : decode prog_1_method_18_code 38 = .ok (.astore 7, 2) := by decide +kernel
theorem d_Lir_together_40 : decode prog_1_method_18_code 40 = .ok (.aload 7, 2) := by decide +kernel
theorem d_Lir_together_42 : decode prog_1_method_18_code 42 = .ok (.arraylength, 1) := by decide +kernel
theorem d_Lir_together_43 : decode prog_1_method_18_code 43 = .ok (.istore 8, 2) := by decide +kernel
theorem d_Lir_together_45 : decode prog_1_method_18_code 45 = .ok (.iconst 0, 1) := by decide +kernel
theorem d_Lir_together_46 : decode prog_1_method_18_code 46 = .ok (.istore 9, 2) := by decide +kernel
theorem d_Lir_together_48 : decode prog_1_method_18_code 48 = .ok (.iload 9, 2) := by decide +kernel
theorem d_Lir_together_50 : decode prog_1_method_18_code 50 = .ok (.iload 8, 2) := by decide +kernel
theorem d_Lir_together_52 : decode prog_1_method_18_code 52 = .ok (.if_icmp .ge 69, 3) := by decide +kernel
theorem d_Lir_together_55 : decode prog_1_method_18_code 55 = .ok (.aload 7, 2) := by decide +kernel
theorem d_Lir_together_57 : decode prog_1_method_18_code 57 = .ok (.iload 9, 2) := by decide +kernel
theorem d_Lir_together_59 : decode prog_1_method_18_code 59 = .ok (.aaload, 1) := by decide +kernel
theorem d_Lir_together_60 : decode prog_1_method_18_code 60 = .ok (.astore 10, 2) := by decide +kernel
theorem d_Lir_together_62 : decode prog_1_method_18_code 62 = .ok (.aload 10, 2) := by decide +kernel
theorem d_Lir_together_64 : decode prog_1_method_18_code 64 = .ok (.ifnull 51, 3) := by decide +kernel
theorem d_Lir_together_67 : decode prog_1_method_18_code 67 = .ok (.aload 10, 2) := by decide +kernel
theorem d_Lir_together_69 : decode prog_1_method_18_code 69 = .ok (.iload_n 2, 1) := by decide +kernel
theorem d_Lir_together_70 : decode prog_1_method_18_code 70 = .ok (.invokevirtual 188, 3) := by decide +kernel
theorem d_Lir_together_73 : decode prog_1_method_18_code 73 = .ok (.ifCond .eq 7, 3) := by decide +kernel
theorem d_Lir_together_76 : decode prog_1_method_18_code 76 = .ok (.iconst 1, 1) := by decide +kernel
theorem d_Lir_together_77 : decode prog_1_method_18_code 77 = .ok (.goto 4, 3) := by decide +kernel
theorem d_Lir_together_80 : decode prog_1_method_18_code 80 = .ok (.iconst 0, 1) := by decide +kernel
theorem d_Lir_together_81 : decode prog_1_method_18_code 81 = .ok (.istore 11, 2) := by decide +kernel
theorem d_Lir_together_83 : decode prog_1_method_18_code 83 = .ok (.aload 10, 2) := by decide +kernel
theorem d_Lir_together_85 : decode prog_1_method_18_code 85 = .ok (.iload_n 1, 1) := by decide +kernel
theorem d_Lir_together_86 : decode prog_1_method_18_code 86 = .ok (.invokevirtual 188, 3) := by decide +kernel
theorem d_Lir_together_89 : decode prog_1_method_18_code 89 = .ok (.ifCond .eq 16, 3) := by decide +kernel
theorem d_Lir_together_92 : decode prog_1_method_18_code 92 = .ok (.iinc 3 1, 3) := by decide +kernel
theorem d_Lir_together_95 : decode prog_1_method_18_code 95 = .ok (.iload 4, 2) := by decide +kernel
theorem d_Lir_together_97 : decode prog_1_method_18_code 97 = .ok (.iload 11, 2) := by decide +kernel
theorem d_Lir_together_99 : decode prog_1_method_18_code 99 = .ok (.iadd, 1) := by decide +kernel
theorem d_Lir_together_100 : decode prog_1_method_18_code 100 = .ok (.istore 4, 2) := by decide +kernel
theorem d_Lir_together_102 : decode prog_1_method_18_code 102 = .ok (.goto 13, 3) := by decide +kernel
theorem d_Lir_together_105 : decode prog_1_method_18_code 105 = .ok (.iinc 5 1, 3) := by decide +kernel
theorem d_Lir_together_108 : decode prog_1_method_18_code 108 = .ok (.iload 6, 2) := by decide +kernel
theorem d_Lir_together_110 : decode prog_1_method_18_code 110 = .ok (.iload 11, 2) := by decide +kernel
theorem d_Lir_together_112 : decode prog_1_method_18_code 112 = .ok (.iadd, 1) := by decide +kernel
theorem d_Lir_together_113 : decode prog_1_method_18_code 113 = .ok (.istore 6, 2) := by decide +kernel
theorem d_Lir_together_115 : decode prog_1_method_18_code 115 = .ok (.iinc 9 1, 3) := by decide +kernel
theorem d_Lir_together_118 : decode prog_1_method_18_code 118 = .ok (.goto (-70), 3) := by decide +kernel
theorem d_Lir_together_121 : decode prog_1_method_18_code 121 = .ok (.iload_n 3, 1) := by decide +kernel
theorem d_Lir_together_122 : decode prog_1_method_18_code 122 = .ok (.ifCond .eq 8, 3) := by decide +kernel
theorem d_Lir_together_125 : decode prog_1_method_18_code 125 = .ok (.iload 5, 2) := by decide +kernel
theorem d_Lir_together_127 : decode prog_1_method_18_code 127 = .ok (.ifCond .ne 10, 3) := by decide +kernel
theorem d_Lir_together_130 : decode prog_1_method_18_code 130 = .ok (.aload_n 0, 1) := by decide +kernel
theorem d_Lir_together_131 : decode prog_1_method_18_code 131 = .ok (.bipush (-3), 2) := by decide +kernel
theorem d_Lir_together_133 : decode prog_1_method_18_code 133 = .ok (.invokevirtual 139, 3) := by decide +kernel
theorem d_Lir_together_136 : decode prog_1_method_18_code 136 = .ok (.ireturn, 1) := by decide +kernel
theorem d_Lir_together_137 : decode prog_1_method_18_code 137 = .ok (.iload 4, 2) := by decide +kernel
theorem d_Lir_together_139 : decode prog_1_method_18_code 139 = .ok (.iload_n 3, 1) := by decide +kernel
theorem d_Lir_together_140 : decode prog_1_method_18_code 140 = .ok (.invokestatic 191, 3) := by decide +kernel
theorem d_Lir_together_143 : decode prog_1_method_18_code 143 = .ok (.iload 6, 2) := by decide +kernel
theorem d_Lir_together_145 : decode prog_1_method_18_code 145 = .ok (.iload 5, 2) := by decide +kernel
theorem d_Lir_together_147 : decode prog_1_method_18_code 147 = .ok (.invokestatic 191, 3) := by decide +kernel
theorem d_Lir_together_150 : decode prog_1_method_18_code 150 = .ok (.isub, 1) := by decide +kernel
theorem d_Lir_together_151 : decode prog_1_method_18_code 151 = .ok (.ireturn, 1) := by decide +kernel
theorem d_Lir_twice_0 : decode prog_1_method_19_code 0 = .ok (.aload_n 0, 1) := by decide +kernel
theorem d_Lir_twice_1 : decode prog_1_method_19_code 1 = .ok (.getfield 19, 3) := by decide +kernel
theorem d_Lir_twice_4 : decode prog_1_method_19_code 4 = .ok (.iload_n 1, 1) := by decide +kernel
theorem d_Lir_twice_5 : decode prog_1_method_19_code 5 = .ok (.invokevirtual 74, 3) := by decide +kernel
theorem d_Lir_twice_8 : decode prog_1_method_19_code 8 = .ok (.astore_n 3, 1) := by decide +kernel
theorem d_Lir_twice_9 : decode prog_1_method_19_code 9 = .ok (.aload_n 0, 1) := by decide +kernel
theorem d_Lir_twice_10 : decode prog_1_method_19_code 10 = .ok (.getfield 19, 3) := by decide +kernel
theorem d_Lir_twice_13 : decode prog_1_method_19_code 13 = .ok (.iload_n 2, 1) := by decide +kernel
theorem d_Lir_twice_14 : decode prog_1_method_19_code 14 = .ok (.invokevirtual 74, 3) := by decide +kernel
theorem d_Lir_twice_17 : decode prog_1_method_19_code 17 = .ok (.astore 4, 2) := by decide +kernel
theorem d_Lir_twice_19 : decode prog_1_method_19_code 19 = .ok (.aload_n 3, 1) := by decide +kernel
theorem d_Lir_twice_20 : decode prog_1_method_19_code 20 = .ok (.ifnull 8, 3) := by decide +kernel
theorem d_Lir_twice_23 : decode prog_1_method_19_code 23 = .ok (.aload 4, 2) := by decide +kernel
theorem d_Lir_twice_25 : decode prog_1_method_19_code 25 = .ok (.ifnonnull 9, 3) := by decide +kernel
theorem d_Lir_twice_28 : decode prog_1_method_19_code 28 = .ok (.aload_n 0, 1) := by decide +kernel
theorem d_Lir_twice_29 : decode prog_1_method_19_code 29 = .ok (.iconst (-1), 1) := by decide +kernel
theorem d_Lir_twice_30 : decode prog_1_method_19_code 30 = .ok (.invokevirtual 37, 3) := by decide +kernel
theorem d_Lir_twice_33 : decode prog_1_method_19_code 33 = .ok (.ireturn, 1) := by decide +kernel
theorem d_Lir_twice_34 : decode prog_1_method_19_code 34 = .ok (.aload 4, 2) := by decide +kernel
theorem d_Lir_twice_36 : decode prog_1_method_19_code 36 = .ok (.getfield 92, 3) := by decide +kernel
theorem d_Lir_twice_39 : decode prog_1_method_19_code 39 = .ok (.aload_n 3, 1) := by decide +kernel
theorem d_Lir_twice_40 : decode prog_1_method_19_code 40 = .ok (.getfield 92, 3) := by decide +kernel
theorem d_Lir_twice_43 : decode prog_1_method_19_code 43 = .ok (.if_icmp .gt 10, 3) := by decide +kernel
theorem d_Lir_twice_46 : decode prog_1_method_19_code 46 = .ok (.aload_n 0, 1) := by decide +kernel
theorem d_Lir_twice_47 : decode prog_1_method_19_code 47 = .ok (.bipush (-3), 2) := by decide +kernel
theorem d_Lir_twice_49 : decode prog_1_method_19_code 49 = .ok (.invokevirtual 37, 3) := by decide +kernel
theorem d_Lir_twice_52 : decode prog_1_method_19_code 52 = .ok (.ireturn, 1) := by decide +kernel
theorem d_Lir_twice_53 : decode prog_1_method_19_code 53 = .ok (.aload_n 0, 1) := by decide +kernel
theorem d_Lir_twice_54 : decode prog_1_method_19_code 54 = .ok (.getfield 19, 3) := by decide +kernel
theorem d_Lir_twice_57 : decode prog_1_method_19_code 57 = .ok (.getfield 194, 3) := by decide +kernel
theorem d_Lir_twice_60 : decode prog_1_method_19_code 60 = .ok (.bipush 10, 2) := by decide +kernel
theorem d_Lir_twice_62 : decode prog_1_method_19_code 62 = .ok (.if_icmp .lt 12, 3) := by decide +kernel
theorem d_Lir_twice_65 : decode prog_1_method_19_code 65 = .ok (.aload_n 0, 1) := by decide +kernel
theorem d_Lir_twice_66 : decode prog_1_method_19_code 66 = .ok (.bipush (-6), 2) := by decide +kernel
theorem d_Lir_twice_68 : decode prog_1_method_19_code 68 = .ok (.invokevirtual 37, 3) := by decide +kernel
theorem d_Lir_twice_71 : decode prog_1_method_19_code 71 = .ok (.goto 13, 3) := by decide +kernel
theorem d_Lir_twice_74 : decode prog_1_method_19_code 74 = .ok (.aload_n 0, 1) := by decide +kernel
theorem d_Lir_twice_75 : decode prog_1_method_19_code 75 = .ok (.getfield 19, 3) := by decide +kernel
theorem d_Lir_twice_78 : decode prog_1_method_19_code 78 = .ok (.aload_n 3, 1) := by decide +kernel
theorem d_Lir_twice_79 : decode prog_1_method_19_code 79 = .ok (.aload 4, 2) := by decide +kernel
theorem d_Lir_twice_81 : decode prog_1_method_19_code 81 = .ok (.invokevirtual 197, 3) := by decide +kernel
theorem d_Lir_twice_84 : decode prog_1_method_19_code 84 = .ok (.ireturn, 1) := by decide +kernel
theorem d_Lir_grows_0 : decode prog_1_method_20_code 0 = .ok (.iload_n 1, 1) := by decide +kernel
theorem d_Lir_grows_1 : decode prog_1_method_20_code 1 = .ok (.invokestatic 124, 3) := by decide +kernel
theorem d_Lir_grows_4 : decode prog_1_method_20_code 4 = .ok (.ifCond .eq 10, 3) := by decide +kernel
theorem d_Lir_grows_7 : decode prog_1_method_20_code 7 = .ok (.iload_n 2, 1) := by decide +kernel
theorem d_Lir_grows_8 : decode prog_1_method_20_code 8 = .ok (.invokestatic 142, 3) := by decide +kernel
theorem d_Lir_grows_11 : decode prog_1_method_20_code 11 = .ok (.ifCond .ne 10, 3) := by decide +kernel
theorem d_Lir_grows_14 : decode prog_1_method_20_code 14 = .ok (.aload_n 0, 1) := by decide +kernel
theorem d_Lir_grows_15 : decode prog_1_method_20_code 15 = .ok (.bipush (-2), 2) := by decide +kernel
theorem d_Lir_grows_17 : decode prog_1_method_20_code 17 = .ok (.invokevirtual 139, 3) := by decide +kernel
theorem d_Lir_grows_20 : decode prog_1_method_20_code 20 = .ok (.ireturn, 1) := by decide +kernel
theorem d_Lir_grows_21 : decode prog_1_method_20_code 21 = .ok (.iconst 0, 1) := by decide +kernel
theorem d_Lir_grows_22 : decode prog_1_method_20_code 22 = .ok (.istore_n 3, 1) := by decide +kernel
theorem d_Lir_grows_23 : decode prog_1_method_20_code 23 = .ok (.iconst 0, 1) := by decide +kernel
theorem d_Lir_grows_24 : decode prog_1_method_20_code 24 = .ok (.istore 4, 2) := by decide +kernel
theorem d_Lir_grows_26 : decode prog_1_method_20_code 26 = .ok (.iconst 0, 1) := by decide +kernel
theorem d_Lir_grows_27 : decode prog_1_method_20_code 27 = .ok (.istore 5, 2) := by decide +kernel
theorem d_Lir_grows_29 : decode prog_1_method_20_code 29 = .ok (.iload 5, 2) := by decide +kernel
theorem d_Lir_grows_31 : decode prog_1_method_20_code 31 = .ok (.aload_n 0, 1) := by decide +kernel
theorem d_Lir_grows_32 : decode prog_1_method_20_code 32 = .ok (.getfield 19, 3) := by decide +kernel
theorem d_Lir_grows_35 : decode prog_1_method_20_code 35 = .ok (.getfield 194, 3) := by decide +kernel
theorem d_Lir_grows_38 : decode prog_1_method_20_code 38 = .ok (.if_icmp .ge 79, 3) := by decide +kernel
theorem d_Lir_grows_41 : decode prog_1_method_20_code 41 = .ok (.aload_n 0, 1) := by decide +kernel
theorem d_Lir_grows_42 : decode prog_1_method_20_code 42 = .ok (.getfield 19, 3) := by decide +kernel
theorem d_Lir_grows_45 : decode prog_1_method_20_code 45 = .ok (.iload 5, 2) := by decide +kernel
theorem d_Lir_grows_47 : decode prog_1_method_20_code 47 = .ok (.invokevirtual 201, 3) := by decide +kernel
theorem d_Lir_grows_50 : decode prog_1_method_20_code 50 = .ok (.astore 6, 2) := by decide +kernel
theorem d_Lir_grows_52 : decode prog_1_method_20_code 52 = .ok (.aload_n 0, 1) := by decide +kernel
theorem d_Lir_grows_53 : decode prog_1_method_20_code 53 = .ok (.getfield 19, 3) := by decide +kernel
theorem d_Lir_grows_56 : decode prog_1_method_20_code 56 = .ok (.iload 5, 2) := by decide +kernel
theorem d_Lir_grows_58 : decode prog_1_method_20_code 58 = .ok (.invokevirtual 204, 3) := by decide +kernel
theorem d_Lir_grows_61 : decode prog_1_method_20_code 61 = .ok (.astore 7, 2) := by decide +kernel
theorem d_Lir_grows_63 : decode prog_1_method_20_code 63 = .ok (.aload 6, 2) := by decide +kernel
theorem d_Lir_grows_65 : decode prog_1_method_20_code 65 = .ok (.ifnull 46, 3) := by decide +kernel
theorem d_Lir_grows_68 : decode prog_1_method_20_code 68 = .ok (.aload 7, 2) := by decide +kernel
theorem d_Lir_grows_70 : decode prog_1_method_20_code 70 = .ok (.ifnull 41, 3) := by decide +kernel
theorem d_Lir_grows_73 : decode prog_1_method_20_code 73 = .ok (.aload 6, 2) := by decide +kernel
theorem d_Lir_grows_75 : decode prog_1_method_20_code 75 = .ok (.iload_n 1, 1) := by decide +kernel
theorem d_Lir_grows_76 : decode prog_1_method_20_code 76 = .ok (.invokevirtual 207, 3) := by decide +kernel
theorem d_Lir_grows_79 : decode prog_1_method_20_code 79 = .ok (.ifCond .ne 32, 3) := by decide +kernel
theorem d_Lir_grows_82 : decode prog_1_method_20_code 82 = .ok (.aload 7, 2) := by decide +kernel
theorem d_Lir_grows_84 : decode prog_1_method_20_code 84 = .ok (.iload_n 1, 1) := by decide +kernel
theorem d_Lir_grows_85 : decode prog_1_method_20_code 85 = .ok (.invokevirtual 207, 3) := by decide +kernel
theorem d_Lir_grows_88 : decode prog_1_method_20_code 88 = .ok (.ifCond .ne 23, 3) := by decide +kernel
theorem d_Lir_grows_91 : decode prog_1_method_20_code 91 = .ok (.iload_n 3, 1) := by decide +kernel
theorem d_Lir_grows_92 : decode prog_1_method_20_code 92 = .ok (.aload 6, 2) := by decide +kernel
theorem d_Lir_grows_94 : decode prog_1_method_20_code 94 = .ok (.iload_n 1, 1) := by decide +kernel
theorem d_Lir_grows_95 : decode prog_1_method_20_code 95 = .ok (.invokevirtual 210, 3) := by decide +kernel
theorem d_Lir_grows_98 : decode prog_1_method_20_code 98 = .ok (.iadd, 1) := by decide +kernel
theorem d_Lir_grows_99 : decode prog_1_method_20_code 99 = .ok (.istore_n 3, 1) := by decide +kernel
theorem d_Lir_grows_100 : decode prog_1_method_20_code 100 = .ok (.iload 4, 2) := by decide +kernel
theorem d_Lir_grows_102 : decode prog_1_method_20_code 102 = .ok (.aload 7, 2) := by decide +kernel
theorem d_Lir_grows_104 : decode prog_1_method_20_code 104 = .ok (.iload_n 1, 1) := by decide +kernel
theorem d_Lir_grows_105 : decode prog_1_method_20_code 105 = .ok (.invokevirtual 210, 3) := by decide +kernel
theorem d_Lir_grows_108 : decode prog_1_method_20_code 108 = .ok (.iadd, 1) := by decide +kernel
theorem d_Lir_grows_109 : decode prog_1_method_20_code 109 = .ok (.istore 4, 2) := by decide +kernel
theorem d_Lir_grows_111 : decode prog_1_method_20_code 111 = .ok (.iinc 5 1, 3) := by decide +kernel
theorem d_Lir_grows_114 : decode prog_1_method_20_code 114 = .ok (.goto (-85), 3) := by decide +kernel
theorem d_Lir_grows_117 : decode prog_1_method_20_code 117 = .ok (.iload_n 3, 1) := by decide +kernel
theorem d_Lir_grows_118 : decode prog_1_method_20_code 118 = .ok (.ifCond .ne 12, 3) := by decide +kernel
theorem d_Lir_grows_121 : decode prog_1_method_20_code 121 = .ok (.aload_n 0, 1) := by decide +kernel
theorem d_Lir_grows_122 : decode prog_1_method_20_code 122 = .ok (.bipush (-3), 2) := by decide +kernel
theorem d_Lir_grows_124 : decode prog_1_method_20_code 124 = .ok (.invokevirtual 139, 3) := by decide +kernel
theorem d_Lir_grows_127 : decode prog_1_method_20_code 127 = .ok (.goto 10, 3) := by decide +kernel
theorem d_Lir_grows_130 : decode prog_1_method_20_code 130 = .ok (.iload 4, 2) := by decide +kernel
theorem d_Lir_grows_132 : decode prog_1_method_20_code 132 = .ok (.iload_n 3, 1) := by decide +kernel
theorem d_Lir_grows_133 : decode prog_1_method_20_code 133 = .ok (.iload_n 2, 1) := by decide +kernel
theorem d_Lir_grows_134 : decode prog_1_method_20_code 134 = .ok (.invokestatic 149, 3) := by decide +kernel
theorem d_Lir_grows_137 : decode prog_1_method_20_code 137 = .ok (.ireturn, 1) := by decide +kernel
theorem d_Lir_people_0 : decode prog_1_method_21_code 0 = .ok (.iload_n 1, 1) := by decide +kernel
theorem d_Lir_people_1 : decode prog_1_method_21_code 1 = .ok (.ifCond .lt 9, 3) := by decide +kernel
theorem d_Lir_people_4 : decode prog_1_method_21_code 4 = .ok (.iload_n 1, 1) := by decide +kernel
theorem d_Lir_people_5 : decode prog_1_method_21_code 5 = .ok (.bipush 10, 2) := by decide +kernel
theorem d_Lir_people_7 : decode prog_1_method_21_code 7 = .ok (.if_icmp .lt 9, 3) := by decide +kernel
theorem d_Lir_people_10 : decode prog_1_method_21_code 10 = .ok (.aload_n 0, 1) := by decide +kernel
theorem d_Lir_people_11 : decode prog_1_method_21_code 11 = .ok (.iconst (-1), 1) := by decide +kernel
theorem d_Lir_people_12 : decode prog_1_method_21_code 12 = .ok (.invokevirtual 37, 3) := by decide +kernel
theorem d_Lir_people_15 : decode prog_1_method_21_code 15 = .ok (.ireturn, 1) := by decide +kernel
theorem d_Lir_people_16 : decode prog_1_method_21_code 16 = .ok (.iload_n 2, 1) := by decide +kernel
theorem d_Lir_people_17 : decode prog_1_method_21_code 17 = .ok (.iconst 0, 1) := by decide +kernel
theorem d_Lir_people_18 : decode prog_1_method_21_code 18 = .ok (.sipush 999, 3) := by decide +kernel
theorem d_Lir_people_21 : decode prog_1_method_21_code 21 = .ok (.invokestatic 108, 3) := by decide +kernel
theorem d_Lir_people_24 : decode prog_1_method_21_code 24 = .ok (.istore_n 3, 1) := by decide +kernel
theorem d_Lir_people_25 : decode prog_1_method_21_code 25 = .ok (.iload_n 3, 1) := by decide +kernel
theorem d_Lir_people_26 : decode prog_1_method_21_code 26 = .ok (.ifCond .eq 11, 3) := by decide +kernel
theorem d_Lir_people_29 : decode prog_1_method_21_code 29 = .ok (.aload_n 0, 1) := by decide +kernel
theorem d_Lir_people_30 : decode prog_1_method_21_code 30 = .ok (.iload_n 3, 1) := by decide +kernel
theorem d_Lir_people_31 : decode prog_1_method_21_code 31 = .ok (.invokevirtual 37, 3) := by decide +kernel
theorem d_Lir_people_34 : decode prog_1_method_21_code 34 = .ok (.goto 15, 3) := by decide +kernel
theorem d_Lir_people_37 : decode prog_1_method_21_code 37 = .ok (.aload_n 0, 1) := by decide +kernel
theorem d_Lir_people_38 : decode prog_1_method_21_code 38 = .ok (.getfield 19, 3) := by decide +kernel
theorem d_Lir_people_41 : decode prog_1_method_21_code 41 = .ok (.getfield 213, 3) := by decide +kernel
theorem d_Lir_people_44 : decode prog_1_method_21_code 44 = .ok (.iload_n 1, 1) := by decide +kernel
theorem d_Lir_people_45 : decode prog_1_method_21_code 45 = .ok (.iload_n 2, 1) := by decide +kernel
theorem d_Lir_people_46 : decode prog_1_method_21_code 46 = .ok (.invokestatic 117, 3) := by decide +kernel
theorem d_Lir_people_49 : decode prog_1_method_21_code 49 = .ok (.ireturn, 1) := by decide +kernel
theorem d_Lir_strokes_0 : decode prog_1_method_22_code 0 = .ok (.iload_n 1, 1) := by decide +kernel
theorem d_Lir_strokes_1 : decode prog_1_method_22_code 1 = .ok (.iconst 0, 1) := by decide +kernel
theorem d_Lir_strokes_2 : decode prog_1_method_22_code 2 = .ok (.bipush 99, 2) := by decide +kernel
theorem d_Lir_strokes_4 : decode prog_1_method_22_code 4 = .ok (.invokestatic 108, 3) := by decide +kernel
theorem d_Lir_strokes_7 : decode prog_1_method_22_code 7 = .ok (.istore_n 2, 1) := by decide +kernel
theorem d_Lir_strokes_8 : decode prog_1_method_22_code 8 = .ok (.iload_n 2, 1) := by decide +kernel
theorem d_Lir_strokes_9 : decode prog_1_method_22_code 9 = .ok (.ifCond .eq 9, 3) := by decide +kernel
theorem d_Lir_strokes_12 : decode prog_1_method_22_code 12 = .ok (.aload_n 0, 1) := by decide +kernel
theorem d_Lir_strokes_13 : decode prog_1_method_22_code 13 = .ok (.iload_n 2, 1) := by decide +kernel
theorem d_Lir_strokes_14 : decode prog_1_method_22_code 14 = .ok (.invokevirtual 37, 3) := by decide +kernel
theorem d_Lir_strokes_17 : decode prog_1_method_22_code 17 = .ok (.ireturn, 1) := by decide +kernel
theorem d_Lir_strokes_18 : decode prog_1_method_22_code 18 = .ok (.aload_n 0, 1) := by decide +kernel
theorem d_Lir_strokes_19 : decode prog_1_method_22_code 19 = .ok (.getfield 19, 3) := by decide +kernel
theorem d_Lir_strokes_22 : decode prog_1_method_22_code 22 = .ok (.getfield 216, 3) := by decide +kernel
theorem d_Lir_strokes_25 : decode prog_1_method_22_code 25 = .ok (.istore_n 3, 1) := by decide +kernel
theorem d_Lir_strokes_26 : decode prog_1_method_22_code 26 = .ok (.aload_n 0, 1) := by decide +kernel
theorem d_Lir_strokes_27 : decode prog_1_method_22_code 27 = .ok (.getfield 19, 3) := by decide +kernel
theorem d_Lir_strokes_30 : decode prog_1_method_22_code 30 = .ok (.iload_n 1, 1) := by decide +kernel
theorem d_Lir_strokes_31 : decode prog_1_method_22_code 31 = .ok (.putfield 216, 3) := by decide +kernel
theorem d_Lir_strokes_34 : decode prog_1_method_22_code 34 = .ok (.iload_n 3, 1) := by decide +kernel
theorem d_Lir_strokes_35 : decode prog_1_method_22_code 35 = .ok (.ireturn, 1) := by decide +kernel
theorem d_Lir_reach_0 : decode prog_1_method_23_code 0 = .ok (.aload_n 0, 1) := by decide +kernel
theorem d_Lir_reach_1 : decode prog_1_method_23_code 1 = .ok (.getfield 19, 3) := by decide +kernel
theorem d_Lir_reach_4 : decode prog_1_method_23_code 4 = .ok (.iload_n 1, 1) := by decide +kernel
theorem d_Lir_reach_5 : decode prog_1_method_23_code 5 = .ok (.invokevirtual 104, 3) := by decide +kernel
theorem d_Lir_reach_8 : decode prog_1_method_23_code 8 = .ok (.astore_n 3, 1) := by decide +kernel
theorem d_Lir_reach_9 : decode prog_1_method_23_code 9 = .ok (.aload_n 3, 1) := by decide +kernel
theorem d_Lir_reach_10 : decode prog_1_method_23_code 10 = .ok (.ifnonnull 9, 3) := by decide +kernel
theorem d_Lir_reach_13 : decode prog_1_method_23_code 13 = .ok (.aload_n 0, 1) := by decide +kernel
theorem d_Lir_reach_14 : decode prog_1_method_23_code 14 = .ok (.iconst (-1), 1) := by decide +kernel
theorem d_Lir_reach_15 : decode prog_1_method_23_code 15 = .ok (.invokevirtual 37, 3) := by decide +kernel
theorem d_Lir_reach_18 : decode prog_1_method_23_code 18 = .ok (.ireturn, 1) := by decide +kernel
theorem d_Lir_reach_19 : decode prog_1_method_23_code 19 = .ok (.iload_n 2, 1) := by decide +kernel
theorem d_Lir_reach_20 : decode prog_1_method_23_code 20 = .ok (.iconst 0, 1) := by decide +kernel
theorem d_Lir_reach_21 : decode prog_1_method_23_code 21 = .ok (.bipush 10, 2) := by decide +kernel
theorem d_Lir_reach_23 : decode prog_1_method_23_code 23 = .ok (.invokestatic 108, 3) := by decide +kernel
theorem d_Lir_reach_26 : decode prog_1_method_23_code 26 = .ok (.istore 4, 2) := by decide +kernel
theorem d_Lir_reach_28 : decode prog_1_method_23_code 28 = .ok (.iload 4, 2) := by decide +kernel
theorem d_Lir_reach_30 : decode prog_1_method_23_code 30 = .ok (.ifCond .eq 10, 3) := by decide +kernel
theorem d_Lir_reach_33 : decode prog_1_method_23_code 33 = .ok (.aload_n 0, 1) := by decide +kernel
theorem d_Lir_reach_34 : decode prog_1_method_23_code 34 = .ok (.iload 4, 2) := by decide +kernel
theorem d_Lir_reach_36 : decode prog_1_method_23_code 36 = .ok (.invokevirtual 37, 3) := by decide +kernel
theorem d_Lir_reach_39 : decode prog_1_method_23_code 39 = .ok (.ireturn, 1) := by decide +kernel
theorem d_Lir_reach_40 : decode prog_1_method_23_code 40 = .ok (.aload_n 3, 1) := by decide +kernel
theorem d_Lir_reach_41 : decode prog_1_method_23_code 41 = .ok (.getfield 219, 3) := by decide +kernel
theorem d_Lir_reach_44 : decode prog_1_method_23_code 44 = .ok (.istore 5, 2) := by decide +kernel
theorem d_Lir_reach_46 : decode prog_1_method_23_code 46 = .ok (.aload_n 3, 1) := by decide +kernel
theorem d_Lir_reach_47 : decode prog_1_method_23_code 47 = .ok (.iload_n 2, 1) := by decide +kernel
theorem d_Lir_reach_48 : decode prog_1_method_23_code 48 = .ok (.putfield 219, 3) := by decide +kernel
theorem d_Lir_reach_51 : decode prog_1_method_23_code 51 = .ok (.iload 5, 2) := by decide +kernel
theorem d_Lir_reach_53 : decode prog_1_method_23_code 53 = .ok (.ireturn, 1) := by decide +kernel
theorem d_Lir_should_0 : decode prog_1_method_24_code 0 = .ok (.aload_n 0, 1) := by decide +kernel
theorem d_Lir_should_1 : decode prog_1_method_24_code 1 = .ok (.getfield 19, 3) := by decide +kernel
theorem d_Lir_should_4 : decode prog_1_method_24_code 4 = .ok (.iload_n 1, 1) := by decide +kernel
theorem d_Lir_should_5 : decode prog_1_method_24_code 5 = .ok (.invokevirtual 104, 3) := by decide +kernel
theorem d_Lir_should_8 : decode prog_1_method_24_code 8 = .ok (.astore_n 2, 1) := by decide +kernel
theorem d_Lir_should_9 : decode prog_1_method_24_code 9 = .ok (.aload_n 2, 1) := by decide +kernel
theorem d_Lir_should_10 : decode prog_1_method_24_code 10 = .ok (.ifnonnull 11, 3) := by decide +kernel
theorem d_Lir_should_13 : decode prog_1_method_24_code 13 = .ok (.aload_n 0, 1) := by decide +kernel
theorem d_Lir_should_14 : decode prog_1_method_24_code 14 = .ok (.iconst (-1), 1) := by decide +kernel
theorem d_Lir_should_15 : decode prog_1_method_24_code 15 = .ok (.invokevirtual 37, 3) := by decide +kernel
theorem d_Lir_should_18 : decode prog_1_method_24_code 18 = .ok (.goto 11, 3) := by decide +kernel
theorem d_Lir_should_21 : decode prog_1_method_24_code 21 = .ok (.aload_n 0, 1) := by decide +kernel
theorem d_Lir_should_22 : decode prog_1_method_24_code 22 = .ok (.getfield 19, 3) := by decide +kernel
theorem d_Lir_should_25 : decode prog_1_method_24_code 25 = .ok (.aload_n 2, 1) := by decide +kernel
theorem d_Lir_should_26 : decode prog_1_method_24_code 26 = .ok (.invokevirtual 222, 3) := by decide +kernel
theorem d_Lir_should_29 : decode prog_1_method_24_code 29 = .ok (.ireturn, 1) := by decide +kernel
theorem d_Lir_seen_0 : decode prog_1_method_25_code 0 = .ok (.aload_n 0, 1) := by decide +kernel
theorem d_Lir_seen_1 : decode prog_1_method_25_code 1 = .ok (.getfield 19, 3) := by decide +kernel
theorem d_Lir_seen_4 : decode prog_1_method_25_code 4 = .ok (.iload_n 1, 1) := by decide +kernel
theorem d_Lir_seen_5 : decode prog_1_method_25_code 5 = .ok (.invokevirtual 104, 3) := by decide +kernel
theorem d_Lir_seen_8 : decode prog_1_method_25_code 8 = .ok (.astore_n 2, 1) := by decide +kernel
theorem d_Lir_seen_9 : decode prog_1_method_25_code 9 = .ok (.aload_n 2, 1) := by decide +kernel
theorem d_Lir_seen_10 : decode prog_1_method_25_code 10 = .ok (.ifnonnull 11, 3) := by decide +kernel
theorem d_Lir_seen_13 : decode prog_1_method_25_code 13 = .ok (.aload_n 0, 1) := by decide +kernel
theorem d_Lir_seen_14 : decode prog_1_method_25_code 14 = .ok (.iconst (-1), 1) := by decide +kernel
theorem d_Lir_seen_15 : decode prog_1_method_25_code 15 = .ok (.invokevirtual 37, 3) := by decide +kernel
theorem d_Lir_seen_18 : decode prog_1_method_25_code 18 = .ok (.goto 11, 3) := by decide +kernel
theorem d_Lir_seen_21 : decode prog_1_method_25_code 21 = .ok (.aload_n 0, 1) := by decide +kernel
theorem d_Lir_seen_22 : decode prog_1_method_25_code 22 = .ok (.getfield 19, 3) := by decide +kernel
theorem d_Lir_seen_25 : decode prog_1_method_25_code 25 = .ok (.aload_n 2, 1) := by decide +kernel
theorem d_Lir_seen_26 : decode prog_1_method_25_code 26 = .ok (.invokevirtual 226, 3) := by decide +kernel
theorem d_Lir_seen_29 : decode prog_1_method_25_code 29 = .ok (.ireturn, 1) := by decide +kernel
theorem d_Lir_beyond_0 : decode prog_1_method_26_code 0 = .ok (.aload_n 0, 1) := by decide +kernel
theorem d_Lir_beyond_1 : decode prog_1_method_26_code 1 = .ok (.getfield 19, 3) := by decide +kernel
theorem d_Lir_beyond_4 : decode prog_1_method_26_code 4 = .ok (.iload_n 1, 1) := by decide +kernel
theorem d_Lir_beyond_5 : decode prog_1_method_26_code 5 = .ok (.invokevirtual 104, 3) := by decide +kernel
theorem d_Lir_beyond_8 : decode prog_1_method_26_code 8 = .ok (.astore_n 3, 1) := by decide +kernel
theorem d_Lir_beyond_9 : decode prog_1_method_26_code 9 = .ok (.aload_n 3, 1) := by decide +kernel
theorem d_Lir_beyond_10 : decode prog_1_method_26_code 10 = .ok (.ifnonnull 9, 3) := by decide +kernel
theorem d_Lir_beyond_13 : decode prog_1_method_26_code 13 = .ok (.aload_n 0, 1) := by decide +kernel
theorem d_Lir_beyond_14 : decode prog_1_method_26_code 14 = .ok (.iconst (-1), 1) := by decide +kernel
theorem d_Lir_beyond_15 : decode prog_1_method_26_code 15 = .ok (.invokevirtual 139, 3) := by decide +kernel
theorem d_Lir_beyond_18 : decode prog_1_method_26_code 18 = .ok (.ireturn, 1) := by decide +kernel
theorem d_Lir_beyond_19 : decode prog_1_method_26_code 19 = .ok (.iload_n 2, 1) := by decide +kernel
theorem d_Lir_beyond_20 : decode prog_1_method_26_code 20 = .ok (.iconst 1, 1) := by decide +kernel
theorem d_Lir_beyond_21 : decode prog_1_method_26_code 21 = .ok (.sipush 999, 3) := by decide +kernel
theorem d_Lir_beyond_24 : decode prog_1_method_26_code 24 = .ok (.invokestatic 108, 3) := by decide +kernel
theorem d_Lir_beyond_27 : decode prog_1_method_26_code 27 = .ok (.istore 4, 2) := by decide +kernel
theorem d_Lir_beyond_29 : decode prog_1_method_26_code 29 = .ok (.iload 4, 2) := by decide +kernel
theorem d_Lir_beyond_31 : decode prog_1_method_26_code 31 = .ok (.ifCond .eq 10, 3) := by decide +kernel
theorem d_Lir_beyond_34 : decode prog_1_method_26_code 34 = .ok (.aload_n 0, 1) := by decide +kernel
theorem d_Lir_beyond_35 : decode prog_1_method_26_code 35 = .ok (.iload 4, 2) := by decide +kernel
theorem d_Lir_beyond_37 : decode prog_1_method_26_code 37 = .ok (.invokevirtual 139, 3) := by decide +kernel
theorem d_Lir_beyond_40 : decode prog_1_method_26_code 40 = .ok (.ireturn, 1) := by decide +kernel
theorem d_Lir_beyond_41 : decode prog_1_method_26_code 41 = .ok (.aload_n 0, 1) := by decide +kernel
theorem d_Lir_beyond_42 : decode prog_1_method_26_code 42 = .ok (.getfield 19, 3) := by decide +kernel
theorem d_Lir_beyond_45 : decode prog_1_method_26_code 45 = .ok (.aload_n 3, 1) := by decide +kernel
theorem d_Lir_beyond_46 : decode prog_1_method_26_code 46 = .ok (.invokevirtual 226, 3) := by decide +kernel
theorem d_Lir_beyond_49 : decode prog_1_method_26_code 49 = .ok (.iload_n 2, 1) := by decide +kernel
theorem d_Lir_beyond_50 : decode prog_1_method_26_code 50 = .ok (.imul, 1) := by decide +kernel
theorem d_Lir_beyond_51 : decode prog_1_method_26_code 51 = .ok (.aload_n 0, 1) := by decide +kernel
theorem d_Lir_beyond_52 : decode prog_1_method_26_code 52 = .ok (.getfield 19, 3) := by decide +kernel
theorem d_Lir_beyond_55 : decode prog_1_method_26_code 55 = .ok (.aload_n 3, 1) := by decide +kernel
theorem d_Lir_beyond_56 : decode prog_1_method_26_code 56 = .ok (.invokevirtual 222, 3) := by decide +kernel
theorem d_Lir_beyond_59 : decode prog_1_method_26_code 59 = .ok (.isub, 1) := by decide +kernel
theorem d_Lir_beyond_60 : decode prog_1_method_26_code 60 = .ok (.ireturn, 1) := by decide +kernel
theorem d_Lir_leads_0 : decode prog_1_method_27_code 0 = .ok (.aload_n 0, 1) := by decide +kernel
theorem d_Lir_leads_1 : decode prog_1_method_27_code 1 = .ok (.getfield 19, 3) := by decide +kernel
theorem d_Lir_leads_4 : decode prog_1_method_27_code 4 = .ok (.invokevirtual 229, 3) := by decide +kernel
theorem d_Lir_leads_7 : decode prog_1_method_27_code 7 = .ok (.istore_n 1, 1) := by decide +kernel
theorem d_Lir_leads_8 : decode prog_1_method_27_code 8 = .ok (.aload_n 0, 1) := by decide +kernel
theorem d_Lir_leads_9 : decode prog_1_method_27_code 9 = .ok (.getfield 19, 3) := by decide +kernel
theorem d_Lir_leads_12 : decode prog_1_method_27_code 12 = .ok (.getfield 53, 3) := by decide +kernel
theorem d_Lir_leads_15 : decode prog_1_method_27_code 15 = .ok (.iload_n 1, 1) := by decide +kernel
theorem d_Lir_leads_16 : decode prog_1_method_27_code 16 = .ok (.isub, 1) := by decide +kernel
theorem d_Lir_leads_17 : decode prog_1_method_27_code 17 = .ok (.istore_n 2, 1) := by decide +kernel
theorem d_Lir_leads_18 : decode prog_1_method_27_code 18 = .ok (.iload_n 1, 1) := by decide +kernel
theorem d_Lir_leads_19 : decode prog_1_method_27_code 19 = .ok (.ifCond .eq 7, 3) := by decide +kernel
theorem d_Lir_leads_22 : decode prog_1_method_27_code 22 = .ok (.iload_n 2, 1) := by decide +kernel
theorem d_Lir_leads_23 : decode prog_1_method_27_code 23 = .ok (.ifCond .ne 6, 3) := by decide +kernel
theorem d_Lir_leads_26 : decode prog_1_method_27_code 26 = .ok (.bipush (-9), 2) := by decide +kernel
theorem d_Lir_leads_28 : decode prog_1_method_27_code 28 = .ok (.ireturn, 1) := by decide +kernel
theorem d_Lir_leads_29 : decode prog_1_method_27_code 29 = .ok (.bipush (-9), 2) := by decide +kernel
theorem d_Lir_leads_31 : decode prog_1_method_27_code 31 = .ok (.istore_n 3, 1) := by decide +kernel
theorem d_Lir_leads_32 : decode prog_1_method_27_code 32 = .ok (.iconst 0, 1) := by decide +kernel
theorem d_Lir_leads_33 : decode prog_1_method_27_code 33 = .ok (.istore 4, 2) := by decide +kernel
theorem d_Lir_leads_35 : decode prog_1_method_27_code 35 = .ok (.iconst 0, 1) := by decide +kernel
theorem d_Lir_leads_36 : decode prog_1_method_27_code 36 = .ok (.istore 5, 2) := by decide +kernel
theorem d_Lir_leads_38 : decode prog_1_method_27_code 38 = .ok (.iload 5, 2) := by decide +kernel
theorem d_Lir_leads_40 : decode prog_1_method_27_code 40 = .ok (.bipush 6, 2) := by decide +kernel
theorem d_Lir_leads_42 : decode prog_1_method_27_code 42 = .ok (.if_icmp .ge 85, 3) := by decide +kernel
theorem d_Lir_leads_45 : decode prog_1_method_27_code 45 = .ok (.aload_n 0, 1) := by decide +kernel
theorem d_Lir_leads_46 : decode prog_1_method_27_code 46 = .ok (.getfield 19, 3) := by decide +kernel
theorem d_Lir_leads_49 : decode prog_1_method_27_code 49 = .ok (.iload 5, 2) := by decide +kernel
theorem d_Lir_leads_51 : decode prog_1_method_27_code 51 = .ok (.invokevirtual 104, 3) := by decide +kernel
theorem d_Lir_leads_54 : decode prog_1_method_27_code 54 = .ok (.astore 6, 2) := by decide +kernel
theorem d_Lir_leads_56 : decode prog_1_method_27_code 56 = .ok (.aload 6, 2) := by decide +kernel
theorem d_Lir_leads_58 : decode prog_1_method_27_code 58 = .ok (.ifnull 63, 3) := by decide +kernel
theorem d_Lir_leads_61 : decode prog_1_method_27_code 61 = .ok (.aload_n 0, 1) := by decide +kernel
theorem d_Lir_leads_62 : decode prog_1_method_27_code 62 = .ok (.getfield 19, 3) := by decide +kernel
theorem d_Lir_leads_65 : decode prog_1_method_27_code 65 = .ok (.aload 6, 2) := by decide +kernel
theorem d_Lir_leads_67 : decode prog_1_method_27_code 67 = .ok (.invokevirtual 226, 3) := by decide +kernel
theorem d_Lir_leads_70 : decode prog_1_method_27_code 70 = .ok (.istore 7, 2) := by decide +kernel
theorem d_Lir_leads_72 : decode prog_1_method_27_code 72 = .ok (.aload_n 0, 1) := by decide +kernel
theorem d_Lir_leads_73 : decode prog_1_method_27_code 73 = .ok (.getfield 19, 3) := by decide +kernel
theorem d_Lir_leads_76 : decode prog_1_method_27_code 76 = .ok (.aload 6, 2) := by decide +kernel
theorem d_Lir_leads_78 : decode prog_1_method_27_code 78 = .ok (.invokevirtual 232, 3) := by decide +kernel
theorem d_Lir_leads_81 : decode prog_1_method_27_code 81 = .ok (.istore 8, 2) := by decide +kernel
theorem d_Lir_leads_83 : decode prog_1_method_27_code 83 = .ok (.iload 8, 2) := by decide +kernel
theorem d_Lir_leads_85 : decode prog_1_method_27_code 85 = .ok (.iload_n 1, 1) := by decide +kernel
theorem d_Lir_leads_86 : decode prog_1_method_27_code 86 = .ok (.invokestatic 191, 3) := by decide +kernel
theorem d_Lir_leads_89 : decode prog_1_method_27_code 89 = .ok (.iload 7, 2) := by decide +kernel
theorem d_Lir_leads_91 : decode prog_1_method_27_code 91 = .ok (.iload 8, 2) := by decide +kernel
theorem d_Lir_leads_93 : decode prog_1_method_27_code 93 = .ok (.isub, 1) := by decide +kernel
theorem d_Lir_leads_94 : decode prog_1_method_27_code 94 = .ok (.iload_n 2, 1) := by decide +kernel
theorem d_Lir_leads_95 : decode prog_1_method_27_code 95 = .ok (.invokestatic 191, 3) := by decide +kernel
theorem d_Lir_leads_98 : decode prog_1_method_27_code 98 = .ok (.isub, 1) := by decide +kernel
theorem d_Lir_leads_99 : decode prog_1_method_27_code 99 = .ok (.istore 9, 2) := by decide +kernel
theorem d_Lir_leads_101 : decode prog_1_method_27_code 101 = .ok (.iload_n 3, 1) := by decide +kernel
theorem d_Lir_leads_102 : decode prog_1_method_27_code 102 = .ok (.bipush (-9), 2) := by decide +kernel
theorem d_Lir_leads_104 : decode prog_1_method_27_code 104 = .ok (.if_icmp .eq 10, 3) := by decide +kernel
theorem d_Lir_leads_107 : decode prog_1_method_27_code 107 = .ok (.iload 9, 2) := by decide +kernel
theorem d_Lir_leads_109 : decode prog_1_method_27_code 109 = .ok (.iload 4, 2) := by decide +kernel
theorem d_Lir_leads_111 : decode prog_1_method_27_code 111 = .ok (.if_icmp .le 10, 3) := by decide +kernel
theorem d_Lir_leads_114 : decode prog_1_method_27_code 114 = .ok (.iload 5, 2) := by decide +kernel
theorem d_Lir_leads_116 : decode prog_1_method_27_code 116 = .ok (.istore_n 3, 1) := by decide +kernel
theorem d_Lir_leads_117 : decode prog_1_method_27_code 117 = .ok (.iload 9, 2) := by decide +kernel
theorem d_Lir_leads_119 : decode prog_1_method_27_code 119 = .ok (.istore 4, 2) := by decide +kernel
theorem d_Lir_leads_121 : decode prog_1_method_27_code 121 = .ok (.iinc 5 1, 3) := by decide +kernel
theorem d_Lir_leads_124 : decode prog_1_method_27_code 124 = .ok (.goto (-86), 3) := by decide +kernel
theorem d_Lir_leads_127 : decode prog_1_method_27_code 127 = .ok (.iload_n 3, 1) := by decide +kernel
theorem d_Lir_leads_128 : decode prog_1_method_27_code 128 = .ok (.ireturn, 1) := by decide +kernel
theorem d_Lir_pictures_0 : decode prog_1_method_28_code 0 = .ok (.aload_n 0, 1) := by decide +kernel
theorem d_Lir_pictures_1 : decode prog_1_method_28_code 1 = .ok (.getfield 19, 3) := by decide +kernel
theorem d_Lir_pictures_4 : decode prog_1_method_28_code 4 = .ok (.iload_n 1, 1) := by decide +kernel
theorem d_Lir_pictures_5 : decode prog_1_method_28_code 5 = .ok (.invokevirtual 104, 3) := by decide +kernel
theorem d_Lir_pictures_8 : decode prog_1_method_28_code 8 = .ok (.ifnonnull 11, 3) := by decide +kernel
theorem d_Lir_pictures_11 : decode prog_1_method_28_code 11 = .ok (.aload_n 0, 1) := by decide +kernel
theorem d_Lir_pictures_12 : decode prog_1_method_28_code 12 = .ok (.iconst (-1), 1) := by decide +kernel
theorem d_Lir_pictures_13 : decode prog_1_method_28_code 13 = .ok (.invokevirtual 37, 3) := by decide +kernel
theorem d_Lir_pictures_16 : decode prog_1_method_28_code 16 = .ok (.goto 11, 3) := by decide +kernel
theorem d_Lir_pictures_19 : decode prog_1_method_28_code 19 = .ok (.aload_n 0, 1) := by decide +kernel
theorem d_Lir_pictures_20 : decode prog_1_method_28_code 20 = .ok (.iload_n 1, 1) := by decide +kernel
theorem d_Lir_pictures_21 : decode prog_1_method_28_code 21 = .ok (.sipush 128, 3) := by decide +kernel
theorem d_Lir_pictures_24 : decode prog_1_method_28_code 24 = .ok (.invokevirtual 152, 3) := by decide +kernel
theorem d_Lir_pictures_27 : decode prog_1_method_28_code 27 = .ok (.ireturn, 1) := by decide +kernel
theorem d_Lir_bench_0 : decode prog_1_method_29_code 0 = .ok (.iload_n 3, 1) := by decide +kernel
theorem d_Lir_bench_1 : decode prog_1_method_29_code 1 = .ok (.ifCond .lt 22, 3) := by decide +kernel
theorem d_Lir_bench_4 : decode prog_1_method_29_code 4 = .ok (.iload_n 3, 1) := by decide +kernel
theorem d_Lir_bench_5 : decode prog_1_method_29_code 5 = .ok (.bipush 7, 2) := by decide +kernel
theorem d_Lir_bench_7 : decode prog_1_method_29_code 7 = .ok (.if_icmp .gt 16, 3) := by decide +kernel
theorem d_Lir_bench_10 : decode prog_1_method_29_code 10 = .ok (.iload 4, 2) := by decide +kernel
theorem d_Lir_bench_12 : decode prog_1_method_29_code 12 = .ok (.ifCond .lt 11, 3) := by decide +kernel
theorem d_Lir_bench_15 : decode prog_1_method_29_code 15 = .ok (.iload 4, 2) := by decide +kernel
theorem d_Lir_bench_17 : decode prog_1_method_29_code 17 = .ok (.sipush 255, 3) := by decide +kernel
theorem d_Lir_bench_20 : decode prog_1_method_29_code 20 = .ok (.if_icmp .le 9, 3) := by decide +kernel
theorem d_Lir_bench_23 : decode prog_1_method_29_code 23 = .ok (.aload_n 0, 1) := by decide +kernel
theorem d_Lir_bench_24 : decode prog_1_method_29_code 24 = .ok (.iconst (-1), 1) := by decide +kernel
theorem d_Lir_bench_25 : decode prog_1_method_29_code 25 = .ok (.invokevirtual 37, 3) := by decide +kernel
theorem d_Lir_bench_28 : decode prog_1_method_29_code 28 = .ok (.ireturn, 1) := by decide +kernel
theorem d_Lir_bench_29 : decode prog_1_method_29_code 29 = .ok (.iload_n 1, 1) := by decide +kernel
theorem d_Lir_bench_30 : decode prog_1_method_29_code 30 = .ok (.ifCond .lt 7, 3) := by decide +kernel
theorem d_Lir_bench_33 : decode prog_1_method_29_code 33 = .ok (.iload_n 2, 1) := by decide +kernel
theorem d_Lir_bench_34 : decode prog_1_method_29_code 34 = .ok (.ifCond .ge 10, 3) := by decide +kernel
theorem d_Lir_bench_37 : decode prog_1_method_29_code 37 = .ok (.aload_n 0, 1) := by decide +kernel
theorem d_Lir_bench_38 : decode prog_1_method_29_code 38 = .ok (.bipush (-4), 2) := by decide +kernel
theorem d_Lir_bench_40 : decode prog_1_method_29_code 40 = .ok (.invokevirtual 37, 3) := by decide +kernel
theorem d_Lir_bench_43 : decode prog_1_method_29_code 43 = .ok (.ireturn, 1) := by decide +kernel
theorem d_Lir_bench_44 : decode prog_1_method_29_code 44 = .ok (.iload_n 1, 1) := by decide +kernel
theorem d_Lir_bench_45 : decode prog_1_method_29_code 45 = .ok (.sipush 999, 3) := by decide +kernel
theorem d_Lir_bench_48 : decode prog_1_method_29_code 48 = .ok (.if_icmp .gt 10, 3) := by decide +kernel
theorem d_Lir_bench_51 : decode prog_1_method_29_code 51 = .ok (.iload_n 2, 1) := by decide +kernel
theorem d_Lir_bench_52 : decode prog_1_method_29_code 52 = .ok (.sipush 999, 3) := by decide +kernel
theorem d_Lir_bench_55 : decode prog_1_method_29_code 55 = .ok (.if_icmp .le 10, 3) := by decide +kernel
theorem d_Lir_bench_58 : decode prog_1_method_29_code 58 = .ok (.aload_n 0, 1) := by decide +kernel
theorem d_Lir_bench_59 : decode prog_1_method_29_code 59 = .ok (.bipush (-6), 2) := by decide +kernel
theorem d_Lir_bench_61 : decode prog_1_method_29_code 61 = .ok (.invokevirtual 37, 3) := by decide +kernel
theorem d_Lir_bench_64 : decode prog_1_method_29_code 64 = .ok (.ireturn, 1) := by decide +kernel
theorem d_Lir_bench_65 : decode prog_1_method_29_code 65 = .ok (.aload_n 0, 1) := by decide +kernel
theorem d_Lir_bench_66 : decode prog_1_method_29_code 66 = .ok (.getfield 19, 3) := by decide +kernel
theorem d_Lir_bench_69 : decode prog_1_method_29_code 69 = .ok (.getfield 235, 3) := by decide +kernel
theorem d_Lir_bench_72 : decode prog_1_method_29_code 72 = .ok (.iload_n 1, 1) := by decide +kernel
theorem d_Lir_bench_73 : decode prog_1_method_29_code 73 = .ok (.iload_n 2, 1) := by decide +kernel
theorem d_Lir_bench_74 : decode prog_1_method_29_code 74 = .ok (.iload_n 3, 1) := by decide +kernel
theorem d_Lir_bench_75 : decode prog_1_method_29_code 75 = .ok (.iload 4, 2) := by decide +kernel
theorem d_Lir_bench_77 : decode prog_1_method_29_code 77 = .ok (.invokevirtual 239, 3) := by decide +kernel
theorem d_Lir_bench_80 : decode prog_1_method_29_code 80 = .ok (.iconst 1, 1) := by decide +kernel
theorem d_Lir_bench_81 : decode prog_1_method_29_code 81 = .ok (.ireturn, 1) := by decide +kernel
theorem d_Lir_lines_0 : decode prog_1_method_30_code 0 = .ok (.aload_n 0, 1) := by decide +kernel
theorem d_Lir_lines_1 : decode prog_1_method_30_code 1 = .ok (.getfield 19, 3) := by decide +kernel
theorem d_Lir_lines_4 : decode prog_1_method_30_code 4 = .ok (.iload_n 1, 1) := by decide +kernel
theorem d_Lir_lines_5 : decode prog_1_method_30_code 5 = .ok (.invokevirtual 74, 3) := by decide +kernel
theorem d_Lir_lines_8 : decode prog_1_method_30_code 8 = .ok (.astore_n 2, 1) := by decide +kernel
theorem d_Lir_lines_9 : decode prog_1_method_30_code 9 = .ok (.aload_n 2, 1) := by decide +kernel
theorem d_Lir_lines_10 : decode prog_1_method_30_code 10 = .ok (.ifnonnull 9, 3) := by decide +kernel
theorem d_Lir_lines_13 : decode prog_1_method_30_code 13 = .ok (.aload_n 0, 1) := by decide +kernel
theorem d_Lir_lines_14 : decode prog_1_method_30_code 14 = .ok (.iconst (-1), 1) := by decide +kernel
theorem d_Lir_lines_15 : decode prog_1_method_30_code 15 = .ok (.invokevirtual 37, 3) := by decide +kernel
theorem d_Lir_lines_18 : decode prog_1_method_30_code 18 = .ok (.ireturn, 1) := by decide +kernel
theorem d_Lir_lines_19 : decode prog_1_method_30_code 19 = .ok (.bipush 11, 2) := by decide +kernel
theorem d_Lir_lines_21 : decode prog_1_method_30_code 21 = .ok (.aload_n 0, 1) := by decide +kernel
theorem d_Lir_lines_22 : decode prog_1_method_30_code 22 = .ok (.getfield 19, 3) := by decide +kernel
theorem d_Lir_lines_25 : decode prog_1_method_30_code 25 = .ok (.getfield 235, 3) := by decide +kernel
theorem d_Lir_lines_28 : decode prog_1_method_30_code 28 = .ok (.aload_n 2, 1) := by decide +kernel
theorem d_Lir_lines_29 : decode prog_1_method_30_code 29 = .ok (.invokevirtual 245, 3) := by decide +kernel
theorem d_Lir_lines_32 : decode prog_1_method_30_code 32 = .ok (.invokestatic 159, 3) := by decide +kernel
theorem d_Lir_lines_35 : decode prog_1_method_30_code 35 = .ok (.isub, 1) := by decide +kernel
theorem d_Lir_lines_36 : decode prog_1_method_30_code 36 = .ok (.ireturn, 1) := by decide +kernel
theorem d_Lir_misses_0 : decode prog_1_method_31_code 0 = .ok (.aload_n 0, 1) := by decide +kernel
theorem d_Lir_misses_1 : decode prog_1_method_31_code 1 = .ok (.getfield 19, 3) := by decide +kernel
theorem d_Lir_misses_4 : decode prog_1_method_31_code 4 = .ok (.iload_n 1, 1) := by decide +kernel
theorem d_Lir_misses_5 : decode prog_1_method_31_code 5 = .ok (.invokevirtual 74, 3) := by decide +kernel
theorem d_Lir_misses_8 : decode prog_1_method_31_code 8 = .ok (.astore_n 2, 1) := by decide +kernel
theorem d_Lir_misses_9 : decode prog_1_method_31_code 9 = .ok (.aload_n 2, 1) := by decide +kernel
theorem d_Lir_misses_10 : decode prog_1_method_31_code 10 = .ok (.ifnonnull 9, 3) := by decide +kernel
theorem d_Lir_misses_13 : decode prog_1_method_31_code 13 = .ok (.aload_n 0, 1) := by decide +kernel
theorem d_Lir_misses_14 : decode prog_1_method_31_code 14 = .ok (.iconst (-1), 1) := by decide +kernel
theorem d_Lir_misses_15 : decode prog_1_method_31_code 15 = .ok (.invokevirtual 37, 3) := by decide +kernel
theorem d_Lir_misses_18 : decode prog_1_method_31_code 18 = .ok (.ireturn, 1) := by decide +kernel
theorem d_Lir_misses_19 : decode prog_1_method_31_code 19 = .ok (.aload_n 0, 1) := by decide +kernel
theorem d_Lir_misses_20 : decode prog_1_method_31_code 20 = .ok (.getfield 19, 3) := by decide +kernel
theorem d_Lir_misses_23 : decode prog_1_method_31_code 23 = .ok (.getfield 235, 3) := by decide +kernel
theorem d_Lir_misses_26 : decode prog_1_method_31_code 26 = .ok (.aload_n 2, 1) := by decide +kernel
theorem d_Lir_misses_27 : decode prog_1_method_31_code 27 = .ok (.invokevirtual 245, 3) := by decide +kernel
theorem d_Lir_misses_30 : decode prog_1_method_31_code 30 = .ok (.istore_n 3, 1) := by decide +kernel
theorem d_Lir_misses_31 : decode prog_1_method_31_code 31 = .ok (.iconst 0, 1) := by decide +kernel
theorem d_Lir_misses_32 : decode prog_1_method_31_code 32 = .ok (.istore 4, 2) := by decide +kernel
theorem d_Lir_misses_34 : decode prog_1_method_31_code 34 = .ok (.iload 4, 2) := by decide +kernel
theorem d_Lir_misses_36 : decode prog_1_method_31_code 36 = .ok (.bipush 11, 2) := by decide +kernel
theorem d_Lir_misses_38 : decode prog_1_method_31_code 38 = .ok (.if_icmp .ge 21, 3) := by decide +kernel
theorem d_Lir_misses_41 : decode prog_1_method_31_code 41 = .ok (.iload_n 3, 1) := by decide +kernel
theorem d_Lir_misses_42 : decode prog_1_method_31_code 42 = .ok (.iload 4, 2) := by decide +kernel
theorem d_Lir_misses_44 : decode prog_1_method_31_code 44 = .ok (.invokestatic 248, 3) := by decide +kernel
theorem d_Lir_misses_47 : decode prog_1_method_31_code 47 = .ok (.ifCond .eq 6, 3) := by decide +kernel
theorem d_Lir_misses_50 : decode prog_1_method_31_code 50 = .ok (.iload 4, 2) := by decide +kernel
theorem d_Lir_misses_52 : decode prog_1_method_31_code 52 = .ok (.ireturn, 1) := by decide +kernel
theorem d_Lir_misses_53 : decode prog_1_method_31_code 53 = .ok (.iinc 4 1, 3) := by decide +kernel
theorem d_Lir_misses_56 : decode prog_1_method_31_code 56 = .ok (.goto (-22), 3) := by decide +kernel
theorem d_Lir_misses_59 : decode prog_1_method_31_code 59 = .ok (.bipush (-9), 2) := by decide +kernel
theorem d_Lir_misses_61 : decode prog_1_method_31_code 61 = .ok (.ireturn, 1) := by decide +kernel
theorem d_Lir_barred_0 : decode prog_1_method_32_code 0 = .ok (.iload_n 1, 1) := by decide +kernel
theorem d_Lir_barred_1 : decode prog_1_method_32_code 1 = .ok (.ifCond .lt 10, 3) := by decide +kernel
theorem d_Lir_barred_4 : decode prog_1_method_32_code 4 = .ok (.iload_n 1, 1) := by decide +kernel
theorem d_Lir_barred_5 : decode prog_1_method_32_code 5 = .ok (.sipush 255, 3) := by decide +kernel
theorem d_Lir_barred_8 : decode prog_1_method_32_code 8 = .ok (.if_icmp .le 9, 3) := by decide +kernel
theorem d_Lir_barred_11 : decode prog_1_method_32_code 11 = .ok (.aload_n 0, 1) := by decide +kernel
theorem d_Lir_barred_12 : decode prog_1_method_32_code 12 = .ok (.iconst (-1), 1) := by decide +kernel
theorem d_Lir_barred_13 : decode prog_1_method_32_code 13 = .ok (.invokevirtual 37, 3) := by decide +kernel
theorem d_Lir_barred_16 : decode prog_1_method_32_code 16 = .ok (.ireturn, 1) := by decide +kernel
theorem d_Lir_barred_17 : decode prog_1_method_32_code 17 = .ok (.iconst 0, 1) := by decide +kernel
theorem d_Lir_barred_18 : decode prog_1_method_32_code 18 = .ok (.istore_n 2, 1) := by decide +kernel
theorem d_Lir_barred_19 : decode prog_1_method_32_code 19 = .ok (.iconst 0, 1) := by decide +kernel
theorem d_Lir_barred_20 : decode prog_1_method_32_code 20 = .ok (.istore_n 3, 1) := by decide +kernel
theorem d_Lir_barred_21 : decode prog_1_method_32_code 21 = .ok (.iload_n 3, 1) := by decide +kernel
theorem d_Lir_barred_22 : decode prog_1_method_32_code 22 = .ok (.bipush 6, 2) := by decide +kernel
theorem d_Lir_barred_24 : decode prog_1_method_32_code 24 = .ok (.if_icmp .ge 44, 3) := by decide +kernel
theorem d_Lir_barred_27 : decode prog_1_method_32_code 27 = .ok (.aload_n 0, 1) := by decide +kernel
theorem d_Lir_barred_28 : decode prog_1_method_32_code 28 = .ok (.getfield 19, 3) := by decide +kernel
theorem d_Lir_barred_31 : decode prog_1_method_32_code 31 = .ok (.iload_n 3, 1) := by decide +kernel
theorem d_Lir_barred_32 : decode prog_1_method_32_code 32 = .ok (.invokevirtual 104, 3) := by decide +kernel
theorem d_Lir_barred_35 : decode prog_1_method_32_code 35 = .ok (.astore 4, 2) := by decide +kernel
theorem d_Lir_barred_37 : decode prog_1_method_32_code 37 = .ok (.aload 4, 2) := by decide +kernel
theorem d_Lir_barred_39 : decode prog_1_method_32_code 39 = .ok (.ifnull 23, 3) := by decide +kernel
theorem d_Lir_barred_42 : decode prog_1_method_32_code 42 = .ok (.iload_n 1, 1) := by decide +kernel
theorem d_Lir_barred_43 : decode prog_1_method_32_code 43 = .ok (.aload 4, 2) := by decide +kernel
theorem d_Lir_barred_45 : decode prog_1_method_32_code 45 = .ok (.getfield 112, 3) := by decide +kernel
theorem d_Lir_barred_48 : decode prog_1_method_32_code 48 = .ok (.iconst 4, 1) := by decide +kernel
theorem d_Lir_barred_49 : decode prog_1_method_32_code 49 = .ok (.iaload, 1) := by decide +kernel
theorem d_Lir_barred_50 : decode prog_1_method_32_code 50 = .ok (.iconst (-1), 1) := by decide +kernel
theorem d_Lir_barred_51 : decode prog_1_method_32_code 51 = .ok (.ixor, 1) := by decide +kernel
theorem d_Lir_barred_52 : decode prog_1_method_32_code 52 = .ok (.iand, 1) := by decide +kernel
theorem d_Lir_barred_53 : decode prog_1_method_32_code 53 = .ok (.ifCond .eq 9, 3) := by decide +kernel
theorem d_Lir_barred_56 : decode prog_1_method_32_code 56 = .ok (.iload_n 2, 1) := by decide +kernel
theorem d_Lir_barred_57 : decode prog_1_method_32_code 57 = .ok (.iconst 1, 1) := by decide +kernel
theorem d_Lir_barred_58 : decode prog_1_method_32_code 58 = .ok (.iload_n 3, 1) := by decide +kernel
theorem d_Lir_barred_59 : decode prog_1_method_32_code 59 = .ok (.ishl, 1) := by decide +kernel
theorem d_Lir_barred_60 : decode prog_1_method_32_code 60 = .ok (.ior, 1) := by decide +kernel
theorem d_Lir_barred_61 : decode prog_1_method_32_code 61 = .ok (.istore_n 2, 1) := by decide +kernel
theorem d_Lir_barred_62 : decode prog_1_method_32_code 62 = .ok (.iinc 3 1, 3) := by decide +kernel
theorem d_Lir_barred_65 : decode prog_1_method_32_code 65 = .ok (.goto (-44), 3) := by decide +kernel
theorem d_Lir_barred_68 : decode prog_1_method_32_code 68 = .ok (.iload_n 2, 1) := by decide +kernel
theorem d_Lir_barred_69 : decode prog_1_method_32_code 69 = .ok (.ireturn, 1) := by decide +kernel
theorem d_Lir_glasses_0 : decode prog_1_method_33_code 0 = .ok (.aload_n 0, 1) := by decide +kernel
theorem d_Lir_glasses_1 : decode prog_1_method_33_code 1 = .ok (.getfield 19, 3) := by decide +kernel
theorem d_Lir_glasses_4 : decode prog_1_method_33_code 4 = .ok (.iload_n 1, 1) := by decide +kernel
theorem d_Lir_glasses_5 : decode prog_1_method_33_code 5 = .ok (.invokevirtual 104, 3) := by decide +kernel
theorem d_Lir_glasses_8 : decode prog_1_method_33_code 8 = .ok (.astore_n 3, 1) := by decide +kernel
theorem d_Lir_glasses_9 : decode prog_1_method_33_code 9 = .ok (.aload_n 3, 1) := by decide +kernel
theorem d_Lir_glasses_10 : decode prog_1_method_33_code 10 = .ok (.ifnonnull 9, 3) := by decide +kernel
theorem d_Lir_glasses_13 : decode prog_1_method_33_code 13 = .ok (.aload_n 0, 1) := by decide +kernel
theorem d_Lir_glasses_14 : decode prog_1_method_33_code 14 = .ok (.iconst (-1), 1) := by decide +kernel
theorem d_Lir_glasses_15 : decode prog_1_method_33_code 15 = .ok (.invokevirtual 37, 3) := by decide +kernel
theorem d_Lir_glasses_18 : decode prog_1_method_33_code 18 = .ok (.ireturn, 1) := by decide +kernel
theorem d_Lir_glasses_19 : decode prog_1_method_33_code 19 = .ok (.iload_n 2, 1) := by decide +kernel
theorem d_Lir_glasses_20 : decode prog_1_method_33_code 20 = .ok (.iconst 1, 1) := by decide +kernel
theorem d_Lir_glasses_21 : decode prog_1_method_33_code 21 = .ok (.iconst 5, 1) := by decide +kernel
theorem d_Lir_glasses_22 : decode prog_1_method_33_code 22 = .ok (.invokestatic 108, 3) := by decide +kernel
theorem d_Lir_glasses_25 : decode prog_1_method_33_code 25 = .ok (.istore 4, 2) := by decide +kernel
theorem d_Lir_glasses_27 : decode prog_1_method_33_code 27 = .ok (.iload 4, 2) := by decide +kernel
theorem d_Lir_glasses_29 : decode prog_1_method_33_code 29 = .ok (.ifCond .eq 10, 3) := by decide +kernel
theorem d_Lir_glasses_32 : decode prog_1_method_33_code 32 = .ok (.aload_n 0, 1) := by decide +kernel
theorem d_Lir_glasses_33 : decode prog_1_method_33_code 33 = .ok (.iload 4, 2) := by decide +kernel
theorem d_Lir_glasses_35 : decode prog_1_method_33_code 35 = .ok (.invokevirtual 37, 3) := by decide +kernel
theorem d_Lir_glasses_38 : decode prog_1_method_33_code 38 = .ok (.ireturn, 1) := by decide +kernel
theorem d_Lir_glasses_39 : decode prog_1_method_33_code 39 = .ok (.iconst 0, 1) := by decide +kernel
theorem d_Lir_glasses_40 : decode prog_1_method_33_code 40 = .ok (.istore 5, 2) := by decide +kernel
theorem d_Lir_glasses_42 : decode prog_1_method_33_code 42 = .ok (.iconst 0, 1) := by decide +kernel
theorem d_Lir_glasses_43 : decode prog_1_method_33_code 43 = .ok (.istore 6, 2) := by decide +kernel
theorem d_Lir_glasses_45 : decode prog_1_method_33_code 45 = .ok (.iload 6, 2) := by decide +kernel
theorem d_Lir_glasses_47 : decode prog_1_method_33_code 47 = .ok (.iload_n 2, 1) := by decide +kernel
theorem d_Lir_glasses_48 : decode prog_1_method_33_code 48 = .ok (.if_icmp .ge 38, 3) := by decide +kernel
theorem d_Lir_glasses_51 : decode prog_1_method_33_code 51 = .ok (.aload_n 0, 1) := by decide +kernel
theorem d_Lir_glasses_52 : decode prog_1_method_33_code 52 = .ok (.getfield 19, 3) := by decide +kernel
theorem d_Lir_glasses_55 : decode prog_1_method_33_code 55 = .ok (.aload_n 3, 1) := by decide +kernel
theorem d_Lir_glasses_56 : decode prog_1_method_33_code 56 = .ok (.getfield 219, 3) := by decide +kernel
theorem d_Lir_glasses_59 : decode prog_1_method_33_code 59 = .ok (.iload 5, 2) := by decide +kernel
theorem d_Lir_glasses_61 : decode prog_1_method_33_code 61 = .ok (.invokevirtual 252, 3) := by decide +kernel
theorem d_Lir_glasses_64 : decode prog_1_method_33_code 64 = .ok (.istore 7, 2) := by decide +kernel
theorem d_Lir_glasses_66 : decode prog_1_method_33_code 66 = .ok (.iload 7, 2) := by decide +kernel
theorem d_Lir_glasses_68 : decode prog_1_method_33_code 68 = .ok (.ifCond .lt 12, 3) := by decide +kernel
theorem d_Lir_glasses_71 : decode prog_1_method_33_code 71 = .ok (.iload 5, 2) := by decide +kernel
theorem d_Lir_glasses_73 : decode prog_1_method_33_code 73 = .ok (.iconst 1, 1) := by decide +kernel
theorem d_Lir_glasses_74 : decode prog_1_method_33_code 74 = .ok (.iload 7, 2) := by decide +kernel
theorem d_Lir_glasses_76 : decode prog_1_method_33_code 76 = .ok (.ishl, 1) := by decide +kernel
theorem d_Lir_glasses_77 : decode prog_1_method_33_code 77 = .ok (.ior, 1) := by decide +kernel
theorem d_Lir_glasses_78 : decode prog_1_method_33_code 78 = .ok (.istore 5, 2) := by decide +kernel
theorem d_Lir_glasses_80 : decode prog_1_method_33_code 80 = .ok (.iinc 6 1, 3) := by decide +kernel
theorem d_Lir_glasses_83 : decode prog_1_method_33_code 83 = .ok (.goto (-38), 3) := by decide +kernel
theorem d_Lir_glasses_86 : decode prog_1_method_33_code 86 = .ok (.iload 5, 2) := by decide +kernel
theorem d_Lir_glasses_88 : decode prog_1_method_33_code 88 = .ok (.ireturn, 1) := by decide +kernel
theorem d_Lir_image_0 : decode prog_1_method_34_code 0 = .ok (.aload_n 0, 1) := by decide +kernel
theorem d_Lir_image_1 : decode prog_1_method_34_code 1 = .ok (.getfield 23, 3) := by decide +kernel
theorem d_Lir_image_4 : decode prog_1_method_34_code 4 = .ok (.aload_n 0, 1) := by decide +kernel
theorem d_Lir_image_5 : decode prog_1_method_34_code 5 = .ok (.getfield 19, 3) := by decide +kernel
theorem d_Lir_image_8 : decode prog_1_method_34_code 8 = .ok (.invokevirtual 255, 3) := by decide +kernel
theorem d_Lir_image_11 : decode prog_1_method_34_code 11 = .ok (.aload_n 0, 1) := by decide +kernel
theorem d_Lir_image_12 : decode prog_1_method_34_code 12 = .ok (.iconst 1, 1) := by decide +kernel
theorem d_Lir_image_13 : decode prog_1_method_34_code 13 = .ok (.putfield 33, 3) := by decide +kernel
theorem d_Lir_image_16 : decode prog_1_method_34_code 16 = .ok (.aload_n 0, 1) := by decide +kernel
theorem d_Lir_image_17 : decode prog_1_method_34_code 17 = .ok (.getfield 19, 3) := by decide +kernel
theorem d_Lir_image_20 : decode prog_1_method_34_code 20 = .ok (.getfield 53, 3) := by decide +kernel
theorem d_Lir_image_23 : decode prog_1_method_34_code 23 = .ok (.ireturn, 1) := by decide +kernel
theorem d_Lir_on_0 : decode prog_1_method_35_code 0 = .ok (.aload_n 0, 1) := by decide +kernel
theorem d_Lir_on_1 : decode prog_1_method_35_code 1 = .ok (.getfield 33, 3) := by decide +kernel
theorem d_Lir_on_4 : decode prog_1_method_35_code 4 = .ok (.ifCond .ne 10, 3) := by decide +kernel
theorem d_Lir_on_7 : decode prog_1_method_35_code 7 = .ok (.aload_n 0, 1) := by decide +kernel
theorem d_Lir_on_8 : decode prog_1_method_35_code 8 = .ok (.bipush (-3), 2) := by decide +kernel
theorem d_Lir_on_10 : decode prog_1_method_35_code 10 = .ok (.invokevirtual 37, 3) := by decide +kernel
theorem d_Lir_on_13 : decode prog_1_method_35_code 13 = .ok (.ireturn, 1) := by decide +kernel
theorem d_Lir_on_14 : decode prog_1_method_35_code 14 = .ok (.aload_n 0, 1) := by decide +kernel
theorem d_Lir_on_15 : decode prog_1_method_35_code 15 = .ok (.getfield 19, 3) := by decide +kernel
theorem d_Lir_on_18 : decode prog_1_method_35_code 18 = .ok (.aload_n 0, 1) := by decide +kernel
theorem d_Lir_on_19 : decode prog_1_method_35_code 19 = .ok (.getfield 23, 3) := by decide +kernel
theorem d_Lir_on_22 : decode prog_1_method_35_code 22 = .ok (.invokevirtual 255, 3) := by decide +kernel
theorem d_Lir_on_25 : decode prog_1_method_35_code 25 = .ok (.aload_n 0, 1) := by decide +kernel
theorem d_Lir_on_26 : decode prog_1_method_35_code 26 = .ok (.getfield 19, 3) := by decide +kernel
theorem d_Lir_on_29 : decode prog_1_method_35_code 29 = .ok (.getfield 53, 3) := by decide +kernel
theorem d_Lir_on_32 : decode prog_1_method_35_code 32 = .ok (.ireturn, 1) := by decide +kernel
theorem d_Lir_count_0 : decode prog_1_method_36_code 0 = .ok (.iload_n 1, 1) := by decide +kernel
theorem d_Lir_count_1 : decode prog_1_method_36_code 1 = .ok (.tableswitch 87 0 5 #[39, 47, 55, 63, 71, 79], 39) := by decide +kernel
theorem d_Lir_count_40 : decode prog_1_method_36_code 40 = .ok (.aload_n 0, 1) := by decide +kernel
theorem d_Lir_count_41 : decode prog_1_method_36_code 41 = .ok (.getfield 19, 3) := by decide +kernel
theorem d_Lir_count_44 : decode prog_1_method_36_code 44 = .ok (.getfield 53, 3) := by decide +kernel
theorem d_Lir_count_47 : decode prog_1_method_36_code 47 = .ok (.ireturn, 1) := by decide +kernel
theorem d_Lir_count_48 : decode prog_1_method_36_code 48 = .ok (.aload_n 0, 1) := by decide +kernel
theorem d_Lir_count_49 : decode prog_1_method_36_code 49 = .ok (.getfield 19, 3) := by decide +kernel
theorem d_Lir_count_52 : decode prog_1_method_36_code 52 = .ok (.invokevirtual 229, 3) := by decide +kernel
theorem d_Lir_count_55 : decode prog_1_method_36_code 55 = .ok (.ireturn, 1) := by decide +kernel
theorem d_Lir_count_56 : decode prog_1_method_36_code 56 = .ok (.aload_n 0, 1) := by decide +kernel
theorem d_Lir_count_57 : decode prog_1_method_36_code 57 = .ok (.getfield 19, 3) := by decide +kernel
theorem d_Lir_count_60 : decode prog_1_method_36_code 60 = .ok (.getfield 194, 3) := by decide +kernel
theorem d_Lir_count_63 : decode prog_1_method_36_code 63 = .ok (.ireturn, 1) := by decide +kernel
theorem d_Lir_count_64 : decode prog_1_method_36_code 64 = .ok (.aload_n 0, 1) := by decide +kernel
theorem d_Lir_count_65 : decode prog_1_method_36_code 65 = .ok (.getfield 19, 3) := by decide +kernel
theorem d_Lir_count_68 : decode prog_1_method_36_code 68 = .ok (.invokevirtual 259, 3) := by decide +kernel
theorem d_Lir_count_71 : decode prog_1_method_36_code 71 = .ok (.ireturn, 1) := by decide +kernel
theorem d_Lir_count_72 : decode prog_1_method_36_code 72 = .ok (.aload_n 0, 1) := by decide +kernel
theorem d_Lir_count_73 : decode prog_1_method_36_code 73 = .ok (.getfield 19, 3) := by decide +kernel
theorem d_Lir_count_76 : decode prog_1_method_36_code 76 = .ok (.invokevirtual 262, 3) := by decide +kernel
theorem d_Lir_count_79 : decode prog_1_method_36_code 79 = .ok (.ireturn, 1) := by decide +kernel
theorem d_Lir_count_80 : decode prog_1_method_36_code 80 = .ok (.aload_n 0, 1) := by decide +kernel
theorem d_Lir_count_81 : decode prog_1_method_36_code 81 = .ok (.getfield 10, 3) := by decide +kernel
theorem d_Lir_count_84 : decode prog_1_method_36_code 84 = .ok (.getfield 49, 3) := by decide +kernel
theorem d_Lir_count_87 : decode prog_1_method_36_code 87 = .ok (.ireturn, 1) := by decide +kernel
theorem d_Lir_count_88 : decode prog_1_method_36_code 88 = .ok (.aload_n 0, 1) := by decide +kernel
theorem d_Lir_count_89 : decode prog_1_method_36_code 89 = .ok (.iload_n 1, 1) := by decide +kernel
theorem d_Lir_count_90 : decode prog_1_method_36_code 90 = .ok (.invokevirtual 265, 3) := by decide +kernel
theorem d_Lir_count_93 : decode prog_1_method_36_code 93 = .ok (.ireturn, 1) := by decide +kernel
theorem d_Lir_refuse_0 : decode prog_1_method_37_code 0 = .ok (.iload_n 1, 1) := by decide +kernel
theorem d_Lir_refuse_1 : decode prog_1_method_37_code 1 = .ok (.ineg, 1) := by decide +kernel
theorem d_Lir_refuse_2 : decode prog_1_method_37_code 2 = .ok (.istore_n 2, 1) := by decide +kernel
theorem d_Lir_refuse_3 : decode prog_1_method_37_code 3 = .ok (.iload_n 2, 1) := by decide +kernel
theorem d_Lir_refuse_4 : decode prog_1_method_37_code 4 = .ok (.ifCond .lt 22, 3) := by decide +kernel
theorem d_Lir_refuse_7 : decode prog_1_method_37_code 7 = .ok (.iload_n 2, 1) := by decide +kernel
theorem d_Lir_refuse_8 : decode prog_1_method_37_code 8 = .ok (.aload_n 0, 1) := by decide +kernel
theorem d_Lir_refuse_9 : decode prog_1_method_37_code 9 = .ok (.getfield 26, 3) := by decide +kernel
theorem d_Lir_refuse_12 : decode prog_1_method_37_code 12 = .ok (.arraylength, 1) := by decide +kernel
theorem d_Lir_refuse_13 : decode prog_1_method_37_code 13 = .ok (.if_icmp .ge 13, 3) := by decide +kernel
theorem d_Lir_refuse_16 : decode prog_1_method_37_code 16 = .ok (.aload_n 0, 1) := by decide +kernel
theorem d_Lir_refuse_17 : decode prog_1_method_37_code 17 = .ok (.getfield 26, 3) := by decide +kernel
theorem d_Lir_refuse_20 : decode prog_1_method_37_code 20 = .ok (.iload_n 2, 1) := by decide +kernel
theorem d_Lir_refuse_21 : decode prog_1_method_37_code 21 = .ok (.dup2, 1) := by decide +kernel
theorem d_Lir_refuse_22 : decode prog_1_method_37_code 22 = .ok (.iaload, 1) := by decide +kernel
theorem d_Lir_refuse_23 : decode prog_1_method_37_code 23 = .ok (.iconst 1, 1) := by decide +kernel
theorem d_Lir_refuse_24 : decode prog_1_method_37_code 24 = .ok (.iadd, 1) := by decide +kernel
theorem d_Lir_refuse_25 : decode prog_1_method_37_code 25 = .ok (.iastore, 1) := by decide +kernel
theorem d_Lir_refuse_26 : decode prog_1_method_37_code 26 = .ok (.iload_n 1, 1) := by decide +kernel
theorem d_Lir_refuse_27 : decode prog_1_method_37_code 27 = .ok (.ireturn, 1) := by decide +kernel
theorem d_Lir_refuseAsTold_0 : decode prog_1_method_38_code 0 = .ok (.ldc_w 268, 3) := by decide +kernel
theorem d_Lir_refuseAsTold_3 : decode prog_1_method_38_code 3 = .ok (.aload_n 0, 1) := by decide +kernel
theorem d_Lir_refuseAsTold_4 : decode prog_1_method_38_code 4 = .ok (.iload_n 1, 1) := by decide +kernel
theorem d_Lir_refuseAsTold_5 : decode prog_1_method_38_code 5 = .ok (.invokevirtual 37, 3) := by decide +kernel
theorem d_Lir_refuseAsTold_8 : decode prog_1_method_38_code 8 = .ok (.isub, 1) := by decide +kernel
theorem d_Lir_refuseAsTold_9 : decode prog_1_method_38_code 9 = .ok (.ireturn, 1) := by decide +kernel
theorem d_Lir_refusalsCounted_0 : decode prog_1_method_39_code 0 = .ok (.iload_n 1, 1) := by decide +kernel
theorem d_Lir_refusalsCounted_1 : decode prog_1_method_39_code 1 = .ok (.bipush 11, 2) := by decide +kernel
theorem d_Lir_refusalsCounted_3 : decode prog_1_method_39_code 3 = .ok (.if_icmp .lt 9, 3) := by decide +kernel
theorem d_Lir_refusalsCounted_6 : decode prog_1_method_39_code 6 = .ok (.iload_n 1, 1) := by decide +kernel
theorem d_Lir_refusalsCounted_7 : decode prog_1_method_39_code 7 = .ok (.bipush 17, 2) := by decide +kernel
theorem d_Lir_refusalsCounted_9 : decode prog_1_method_39_code 9 = .ok (.if_icmp .lt 6, 3) := by decide +kernel
theorem d_Lir_refusalsCounted_12 : decode prog_1_method_39_code 12 = .ok (.bipush (-9), 2) := by decide +kernel
theorem d_Lir_refusalsCounted_14 : decode prog_1_method_39_code 14 = .ok (.ireturn, 1) := by decide +kernel
theorem d_Lir_refusalsCounted_15 : decode prog_1_method_39_code 15 = .ok (.aload_n 0, 1) := by decide +kernel
theorem d_Lir_refusalsCounted_16 : decode prog_1_method_39_code 16 = .ok (.getfield 26, 3) := by decide +kernel
theorem d_Lir_refusalsCounted_19 : decode prog_1_method_39_code 19 = .ok (.iload_n 1, 1) := by decide +kernel
theorem d_Lir_refusalsCounted_20 : decode prog_1_method_39_code 20 = .ok (.bipush 11, 2) := by decide +kernel
theorem d_Lir_refusalsCounted_22 : decode prog_1_method_39_code 22 = .ok (.isub, 1) := by decide +kernel
theorem d_Lir_refusalsCounted_23 : decode prog_1_method_39_code 23 = .ok (.iconst 1, 1) := by decide +kernel
theorem d_Lir_refusalsCounted_24 : decode prog_1_method_39_code 24 = .ok (.iadd, 1) := by decide +kernel
theorem d_Lir_refusalsCounted_25 : decode prog_1_method_39_code 25 = .ok (.iaload, 1) := by decide +kernel
theorem d_Lir_refusalsCounted_26 : decode prog_1_method_39_code 26 = .ok (.ireturn, 1) := by decide +kernel
theorem d_Lir_outside_0 : decode prog_1_method_40_code 0 = .ok (.iload_n 0, 1) := by decide +kernel
theorem d_Lir_outside_1 : decode prog_1_method_40_code 1 = .ok (.iload_n 1, 1) := by decide +kernel
theorem d_Lir_outside_2 : decode prog_1_method_40_code 2 = .ok (.if_icmp .ge 6, 3) := by decide +kernel
theorem d_Lir_outside_5 : decode prog_1_method_40_code 5 = .ok (.bipush (-4), 2) := by decide +kernel
theorem d_Lir_outside_7 : decode prog_1_method_40_code 7 = .ok (.ireturn, 1) := by decide +kernel
theorem d_Lir_outside_8 : decode prog_1_method_40_code 8 = .ok (.iload_n 0, 1) := by decide +kernel
theorem d_Lir_outside_9 : decode prog_1_method_40_code 9 = .ok (.iload_n 2, 1) := by decide +kernel
theorem d_Lir_outside_10 : decode prog_1_method_40_code 10 = .ok (.if_icmp .le 8, 3) := by decide +kernel
theorem d_Lir_outside_13 : decode prog_1_method_40_code 13 = .ok (.bipush (-6), 2) := by decide +kernel
theorem d_Lir_outside_15 : decode prog_1_method_40_code 15 = .ok (.goto 4, 3) := by decide +kernel
theorem d_Lir_outside_18 : decode prog_1_method_40_code 18 = .ok (.iconst 0, 1) := by decide +kernel
theorem d_Lir_outside_19 : decode prog_1_method_40_code 19 = .ok (.ireturn, 1) := by decide +kernel
theorem d_Lir_isSizeOrSeconds_0 : decode prog_1_method_41_code 0 = .ok (.iload_n 0, 1) := by decide +kernel
theorem d_Lir_isSizeOrSeconds_1 : decode prog_1_method_41_code 1 = .ok (.ifCond .eq 8, 3) := by decide +kernel
theorem d_Lir_isSizeOrSeconds_4 : decode prog_1_method_41_code 4 = .ok (.iload_n 0, 1) := by decide +kernel
theorem d_Lir_isSizeOrSeconds_5 : decode prog_1_method_41_code 5 = .ok (.iconst 1, 1) := by decide +kernel
theorem d_Lir_isSizeOrSeconds_6 : decode prog_1_method_41_code 6 = .ok (.if_icmp .ne 7, 3) := by decide +kernel
theorem d_Lir_isSizeOrSeconds_9 : decode prog_1_method_41_code 9 = .ok (.iconst 1, 1) := by decide +kernel
theorem d_Lir_isSizeOrSeconds_10 : decode prog_1_method_41_code 10 = .ok (.goto 4, 3) := by decide +kernel
theorem d_Lir_isSizeOrSeconds_13 : decode prog_1_method_41_code 13 = .ok (.iconst 0, 1) := by decide +kernel
theorem d_Lir_isSizeOrSeconds_14 : decode prog_1_method_41_code 14 = .ok (.ireturn, 1) := by decide +kernel
theorem d_Lir_isPart_0 : decode prog_1_method_42_code 0 = .ok (.iload_n 0, 1) := by decide +kernel
theorem d_Lir_isPart_1 : decode prog_1_method_42_code 1 = .ok (.ifCond .eq 8, 3) := by decide +kernel
theorem d_Lir_isPart_4 : decode prog_1_method_42_code 4 = .ok (.iload_n 0, 1) := by decide +kernel
theorem d_Lir_isPart_5 : decode prog_1_method_42_code 5 = .ok (.iconst 1, 1) := by decide +kernel
theorem d_Lir_isPart_6 : decode prog_1_method_42_code 6 = .ok (.if_icmp .ne 7, 3) := by decide +kernel
theorem d_Lir_isPart_9 : decode prog_1_method_42_code 9 = .ok (.iconst 1, 1) := by decide +kernel
theorem d_Lir_isPart_10 : decode prog_1_method_42_code 10 = .ok (.goto 4, 3) := by decide +kernel
theorem d_Lir_isPart_13 : decode prog_1_method_42_code 13 = .ok (.iconst 0, 1) := by decide +kernel
theorem d_Lir_isPart_14 : decode prog_1_method_42_code 14 = .ok (.ireturn, 1) := by decide +kernel
theorem d_Lir_isMark_0 : decode prog_1_method_43_code 0 = .ok (.iload_n 0, 1) := by decide +kernel
theorem d_Lir_isMark_1 : decode prog_1_method_43_code 1 = .ok (.ifCond .lt 13, 3) := by decide +kernel
theorem d_Lir_isMark_4 : decode prog_1_method_43_code 4 = .ok (.iload_n 0, 1) := by decide +kernel
theorem d_Lir_isMark_5 : decode prog_1_method_43_code 5 = .ok (.bipush 8, 2) := by decide +kernel
theorem d_Lir_isMark_7 : decode prog_1_method_43_code 7 = .ok (.if_icmp .ge 7, 3) := by decide +kernel
theorem d_Lir_isMark_10 : decode prog_1_method_43_code 10 = .ok (.iconst 1, 1) := by decide +kernel
theorem d_Lir_isMark_11 : decode prog_1_method_43_code 11 = .ok (.goto 4, 3) := by decide +kernel
theorem d_Lir_isMark_14 : decode prog_1_method_43_code 14 = .ok (.iconst 0, 1) := by decide +kernel
theorem d_Lir_isMark_15 : decode prog_1_method_43_code 15 = .ok (.ireturn, 1) := by decide +kernel
theorem d_Lir_hasBit_0 : decode prog_1_method_44_code 0 = .ok (.iload_n 0, 1) := by decide +kernel
theorem d_Lir_hasBit_1 : decode prog_1_method_44_code 1 = .ok (.iload_n 1, 1) := by decide +kernel
theorem d_Lir_hasBit_2 : decode prog_1_method_44_code 2 = .ok (.ishr, 1) := by decide +kernel
theorem d_Lir_hasBit_3 : decode prog_1_method_44_code 3 = .ok (.iconst 1, 1) := by decide +kernel
theorem d_Lir_hasBit_4 : decode prog_1_method_44_code 4 = .ok (.iand, 1) := by decide +kernel
theorem d_Lir_hasBit_5 : decode prog_1_method_44_code 5 = .ok (.ifCond .eq 7, 3) := by decide +kernel
theorem d_Lir_hasBit_8 : decode prog_1_method_44_code 8 = .ok (.iconst 1, 1) := by decide +kernel
theorem d_Lir_hasBit_9 : decode prog_1_method_44_code 9 = .ok (.goto 4, 3) := by decide +kernel
theorem d_Lir_hasBit_12 : decode prog_1_method_44_code 12 = .ok (.iconst 0, 1) := by decide +kernel
theorem d_Lir_hasBit_13 : decode prog_1_method_44_code 13 = .ok (.ireturn, 1) := by decide +kernel
theorem d_Lir_exchange_0 : decode prog_1_method_45_code 0 = .ok (.iload_n 1, 1) := by decide +kernel
theorem d_Lir_exchange_1 : decode prog_1_method_45_code 1 = .ok (.ifCond .lt 9, 3) := by decide +kernel
theorem d_Lir_exchange_4 : decode prog_1_method_45_code 4 = .ok (.iload_n 1, 1) := by decide +kernel
theorem d_Lir_exchange_5 : decode prog_1_method_45_code 5 = .ok (.aload_n 0, 1) := by decide +kernel
theorem d_Lir_exchange_6 : decode prog_1_method_45_code 6 = .ok (.arraylength, 1) := by decide +kernel
theorem d_Lir_exchange_7 : decode prog_1_method_45_code 7 = .ok (.if_icmp .lt 6, 3) := by decide +kernel
theorem d_Lir_exchange_10 : decode prog_1_method_45_code 10 = .ok (.bipush (-9), 2) := by decide +kernel
theorem d_Lir_exchange_12 : decode prog_1_method_45_code 12 = .ok (.ireturn, 1) := by decide +kernel
theorem d_Lir_exchange_13 : decode prog_1_method_45_code 13 = .ok (.aload_n 0, 1) := by decide +kernel
theorem d_Lir_exchange_14 : decode prog_1_method_45_code 14 = .ok (.iload_n 1, 1) := by decide +kernel
theorem d_Lir_exchange_15 : decode prog_1_method_45_code 15 = .ok (.iaload, 1) := by decide +kernel
theorem d_Lir_exchange_16 : decode prog_1_method_45_code 16 = .ok (.istore_n 3, 1) := by decide +kernel
theorem d_Lir_exchange_17 : decode prog_1_method_45_code 17 = .ok (.aload_n 0, 1) := by decide +kernel
theorem d_Lir_exchange_18 : decode prog_1_method_45_code 18 = .ok (.iload_n 1, 1) := by decide +kernel
theorem d_Lir_exchange_19 : decode prog_1_method_45_code 19 = .ok (.iload_n 2, 1) := by decide +kernel
theorem d_Lir_exchange_20 : decode prog_1_method_45_code 20 = .ok (.iastore, 1) := by decide +kernel
theorem d_Lir_exchange_21 : decode prog_1_method_45_code 21 = .ok (.iload_n 3, 1) := by decide +kernel
theorem d_Lir_exchange_22 : decode prog_1_method_45_code 22 = .ok (.ireturn, 1) := by decide +kernel
theorem d_Lir_hundredths_0 : decode prog_1_method_46_code 0 = .ok (.iload_n 1, 1) := by decide +kernel
theorem d_Lir_hundredths_1 : decode prog_1_method_46_code 1 = .ok (.iconst 1, 1) := by decide +kernel
theorem d_Lir_hundredths_2 : decode prog_1_method_46_code 2 = .ok (.if_icmp .ge 7, 3) := by decide +kernel
theorem d_Lir_hundredths_5 : decode prog_1_method_46_code 5 = .ok (.iconst 0, 1) := by decide +kernel
theorem d_Lir_hundredths_6 : decode prog_1_method_46_code 6 = .ok (.goto 9, 3) := by decide +kernel
theorem d_Lir_hundredths_9 : decode prog_1_method_46_code 9 = .ok (.bipush 100, 2) := by decide +kernel
theorem d_Lir_hundredths_11 : decode prog_1_method_46_code 11 = .ok (.iload_n 0, 1) := by decide +kernel
theorem d_Lir_hundredths_12 : decode prog_1_method_46_code 12 = .ok (.imul, 1) := by decide +kernel
theorem d_Lir_hundredths_13 : decode prog_1_method_46_code 13 = .ok (.iload_n 1, 1) := by decide +kernel
theorem d_Lir_hundredths_14 : decode prog_1_method_46_code 14 = .ok (.idiv, 1) := by decide +kernel
theorem d_Lir_hundredths_15 : decode prog_1_method_46_code 15 = .ok (.ireturn, 1) := by decide +kernel
theorem d_Lir_leastTerms_0 : decode prog_1_method_47_code 0 = .ok (.iload_n 0, 1) := by decide +kernel
theorem d_Lir_leastTerms_1 : decode prog_1_method_47_code 1 = .ok (.iload_n 1, 1) := by decide +kernel
theorem d_Lir_leastTerms_2 : decode prog_1_method_47_code 2 = .ok (.invokestatic 269, 3) := by decide +kernel
theorem d_Lir_leastTerms_5 : decode prog_1_method_47_code 5 = .ok (.istore_n 3, 1) := by decide +kernel
theorem d_Lir_leastTerms_6 : decode prog_1_method_47_code 6 = .ok (.iload_n 3, 1) := by decide +kernel
theorem d_Lir_leastTerms_7 : decode prog_1_method_47_code 7 = .ok (.iconst 1, 1) := by decide +kernel
theorem d_Lir_leastTerms_8 : decode prog_1_method_47_code 8 = .ok (.if_icmp .ge 5, 3) := by decide +kernel
theorem d_Lir_leastTerms_11 : decode prog_1_method_47_code 11 = .ok (.iconst 0, 1) := by decide +kernel
theorem d_Lir_leastTerms_12 : decode prog_1_method_47_code 12 = .ok (.ireturn, 1) := by decide +kernel
theorem d_Lir_leastTerms_13 : decode prog_1_method_47_code 13 = .ok (.iload_n 2, 1) := by decide +kernel
theorem d_Lir_leastTerms_14 : decode prog_1_method_47_code 14 = .ok (.ifCond .ne 7, 3) := by decide +kernel
theorem d_Lir_leastTerms_17 : decode prog_1_method_47_code 17 = .ok (.iload_n 0, 1) := by decide +kernel
theorem d_Lir_leastTerms_18 : decode prog_1_method_47_code 18 = .ok (.goto 4, 3) := by decide +kernel
theorem d_Lir_leastTerms_21 : decode prog_1_method_47_code 21 = .ok (.iload_n 1, 1) := by decide +kernel
theorem d_Lir_leastTerms_22 : decode prog_1_method_47_code 22 = .ok (.iload_n 3, 1) := by decide +kernel
theorem d_Lir_leastTerms_23 : decode prog_1_method_47_code 23 = .ok (.idiv, 1) := by decide +kernel
theorem d_Lir_leastTerms_24 : decode prog_1_method_47_code 24 = .ok (.ireturn, 1) := by decide +kernel
theorem d_Lir_greatestCommon_0 : decode prog_1_method_48_code 0 = .ok (.iload_n 0, 1) := by decide +kernel
theorem d_Lir_greatestCommon_1 : decode prog_1_method_48_code 1 = .ok (.istore_n 2, 1) := by decide +kernel
theorem d_Lir_greatestCommon_2 : decode prog_1_method_48_code 2 = .ok (.iload_n 1, 1) := by decide +kernel
theorem d_Lir_greatestCommon_3 : decode prog_1_method_48_code 3 = .ok (.istore_n 3, 1) := by decide +kernel
theorem d_Lir_greatestCommon_4 : decode prog_1_method_48_code 4 = .ok (.iconst 0, 1) := by decide +kernel
theorem d_Lir_greatestCommon_5 : decode prog_1_method_48_code 5 = .ok (.istore 4, 2) := by decide +kernel
theorem d_Lir_greatestCommon_7 : decode prog_1_method_48_code 7 = .ok (.iload 4, 2) := by decide +kernel
theorem d_Lir_greatestCommon_9 : decode prog_1_method_48_code 9 = .ok (.bipush 64, 2) := by decide +kernel
theorem d_Lir_greatestCommon_11 : decode prog_1_method_48_code 11 = .ok (.if_icmp .ge 23, 3) := by decide +kernel
theorem d_Lir_greatestCommon_14 : decode prog_1_method_48_code 14 = .ok (.iload_n 3, 1) := by decide +kernel
theorem d_Lir_greatestCommon_15 : decode prog_1_method_48_code 15 = .ok (.ifCond .eq 19, 3) := by decide +kernel
theorem d_Lir_greatestCommon_18 : decode prog_1_method_48_code 18 = .ok (.iload_n 2, 1) := by decide +kernel
theorem d_Lir_greatestCommon_19 : decode prog_1_method_48_code 19 = .ok (.iload_n 3, 1) := by decide +kernel
theorem d_Lir_greatestCommon_20 : decode prog_1_method_48_code 20 = .ok (.irem, 1) := by decide +kernel
theorem d_Lir_greatestCommon_21 : decode prog_1_method_48_code 21 = .ok (.istore 5, 2) := by decide +kernel
theorem d_Lir_greatestCommon_23 : decode prog_1_method_48_code 23 = .ok (.iload_n 3, 1) := by decide +kernel
theorem d_Lir_greatestCommon_24 : decode prog_1_method_48_code 24 = .ok (.istore_n 2, 1) := by decide +kernel
theorem d_Lir_greatestCommon_25 : decode prog_1_method_48_code 25 = .ok (.iload 5, 2) := by decide +kernel
theorem d_Lir_greatestCommon_27 : decode prog_1_method_48_code 27 = .ok (.istore_n 3, 1) := by decide +kernel
theorem d_Lir_greatestCommon_28 : decode prog_1_method_48_code 28 = .ok (.iinc 4 1, 3) := by decide +kernel
theorem d_Lir_greatestCommon_31 : decode prog_1_method_48_code 31 = .ok (.goto (-24), 3) := by decide +kernel
theorem d_Lir_greatestCommon_34 : decode prog_1_method_48_code 34 = .ok (.iload_n 2, 1) := by decide +kernel
theorem d_Lir_greatestCommon_35 : decode prog_1_method_48_code 35 = .ok (.ireturn, 1) := by decide +kernel
theorem d_Lir_copyRow_0 : decode prog_1_method_49_code 0 = .ok (.aload_n 0, 1) := by decide +kernel
theorem d_Lir_copyRow_1 : decode prog_1_method_49_code 1 = .ok (.iconst 0, 1) := by decide +kernel
theorem d_Lir_copyRow_2 : decode prog_1_method_49_code 2 = .ok (.aload_n 1, 1) := by decide +kernel
theorem d_Lir_copyRow_3 : decode prog_1_method_49_code 3 = .ok (.iconst 0, 1) := by decide +kernel
theorem d_Lir_copyRow_4 : decode prog_1_method_49_code 4 = .ok (.aload_n 0, 1) := by decide +kernel
theorem d_Lir_copyRow_5 : decode prog_1_method_49_code 5 = .ok (.arraylength, 1) := by decide +kernel
theorem d_Lir_copyRow_6 : decode prog_1_method_49_code 6 = .ok (.aload_n 1, 1) := by decide +kernel
theorem d_Lir_copyRow_7 : decode prog_1_method_49_code 7 = .ok (.arraylength, 1) := by decide +kernel
theorem d_Lir_copyRow_8 : decode prog_1_method_49_code 8 = .ok (.invokestatic 272, 3) := by decide +kernel
theorem d_Lir_copyRow_11 : decode prog_1_method_49_code 11 = .ok (.invokestatic 275, 3) := by decide +kernel
theorem d_Lir_copyRow_14 : decode prog_1_method_49_code 14 = .ok (.return_, 1) := by decide +kernel
theorem d_Lir_howManyFitOnly_0 : decode prog_1_method_50_code 0 = .ok (.iconst 0, 1) := by decide +kernel
theorem d_Lir_howManyFitOnly_1 : decode prog_1_method_50_code 1 = .ok (.istore_n 3, 1) := by decide +kernel
theorem d_Lir_howManyFitOnly_2 : decode prog_1_method_50_code 2 = .ok (.aload_n 0, 1) := by decide +kernel
theorem d_Lir_howManyFitOnly_3 : decode prog_1_method_50_code 3 = .ok (.getfield 19, 3) := by decide +kernel
theorem d_Lir_howManyFitOnly_6 : decode prog_1_method_50_code 6 = .ok (.getfield 145, 3) := by decide +kernel
theorem d_Lir_howManyFitOnly_9 : decode prog_1_method_50_code 9 = .ok (.astore 4, 2) := by decide +kernel
theorem d_Lir_howManyFitOnly_11 : decode prog_1_method_50_code 11 = .ok (.aload 4, 2) := by decide +kernel
theorem d_Lir_howManyFitOnly_13 : decode prog_1_method_50_code 13 = .ok (.arraylength, 1) := by decide +kernel
theorem d_Lir_howManyFitOnly_14 : decode prog_1_method_50_code 14 = .ok (.istore 5, 2) := by decide +kernel
theorem d_Lir_howManyFitOnly_16 : decode prog_1_method_50_code 16 = .ok (.iconst 0, 1) := by decide +kernel
theorem d_Lir_howManyFitOnly_17 : decode prog_1_method_50_code 17 = .ok (.istore 6, 2) := by decide +kernel
theorem d_Lir_howManyFitOnly_19 : decode prog_1_method_50_code 19 = .ok (.iload 6, 2) := by decide +kernel
theorem d_Lir_howManyFitOnly_21 : decode prog_1_method_50_code 21 = .ok (.iload 5, 2) := by decide +kernel
theorem d_Lir_howManyFitOnly_23 : decode prog_1_method_50_code 23 = .ok (.if_icmp .ge 50, 3) := by decide +kernel
theorem d_Lir_howManyFitOnly_26 : decode prog_1_method_50_code 26 = .ok (.aload 4, 2) := by decide +kernel
theorem d_Lir_howManyFitOnly_28 : decode prog_1_method_50_code 28 = .ok (.iload 6, 2) := by decide +kernel
theorem d_Lir_howManyFitOnly_30 : decode prog_1_method_50_code 30 = .ok (.aaload, 1) := by decide +kernel
theorem d_Lir_howManyFitOnly_31 : decode prog_1_method_50_code 31 = .ok (.astore 7, 2) := by decide +kernel
theorem d_Lir_howManyFitOnly_33 : decode prog_1_method_50_code 33 = .ok (.aload 7, 2) := by decide +kernel
theorem d_Lir_howManyFitOnly_35 : decode prog_1_method_50_code 35 = .ok (.ifnull 32, 3) := by decide +kernel
theorem d_Lir_howManyFitOnly_38 : decode prog_1_method_50_code 38 = .ok (.aload 7, 2) := by decide +kernel
theorem d_Lir_howManyFitOnly_40 : decode prog_1_method_50_code 40 = .ok (.getfield 89, 3) := by decide +kernel
theorem d_Lir_howManyFitOnly_43 : decode prog_1_method_50_code 43 = .ok (.iload_n 2, 1) := by decide +kernel
theorem d_Lir_howManyFitOnly_44 : decode prog_1_method_50_code 44 = .ok (.iand, 1) := by decide +kernel
theorem d_Lir_howManyFitOnly_45 : decode prog_1_method_50_code 45 = .ok (.iload_n 2, 1) := by decide +kernel
theorem d_Lir_howManyFitOnly_46 : decode prog_1_method_50_code 46 = .ok (.if_icmp .ne 21, 3) := by decide +kernel
theorem d_Lir_howManyFitOnly_49 : decode prog_1_method_50_code 49 = .ok (.aload_n 0, 1) := by decide +kernel
theorem d_Lir_howManyFitOnly_50 : decode prog_1_method_50_code 50 = .ok (.getfield 19, 3) := by decide +kernel
theorem d_Lir_howManyFitOnly_53 : decode prog_1_method_50_code 53 = .ok (.aload 7, 2) := by decide +kernel
theorem d_Lir_howManyFitOnly_55 : decode prog_1_method_50_code 55 = .ok (.invokevirtual 281, 3) := by decide +kernel
theorem d_Lir_howManyFitOnly_58 : decode prog_1_method_50_code 58 = .ok (.iconst 1, 1) := by decide +kernel
theorem d_Lir_howManyFitOnly_59 : decode prog_1_method_50_code 59 = .ok (.iload_n 1, 1) := by decide +kernel
theorem d_Lir_howManyFitOnly_60 : decode prog_1_method_50_code 60 = .ok (.ishl, 1) := by decide +kernel
theorem d_Lir_howManyFitOnly_61 : decode prog_1_method_50_code 61 = .ok (.if_icmp .ne 6, 3) := by decide +kernel
theorem d_Lir_howManyFitOnly_64 : decode prog_1_method_50_code 64 = .ok (.iinc 3 1, 3) := by decide +kernel
theorem d_Lir_howManyFitOnly_67 : decode prog_1_method_50_code 67 = .ok (.iinc 6 1, 3) := by decide +kernel
theorem d_Lir_howManyFitOnly_70 : decode prog_1_method_50_code 70 = .ok (.goto (-51), 3) := by decide +kernel
theorem d_Lir_howManyFitOnly_73 : decode prog_1_method_50_code 73 = .ok (.iload_n 3, 1) := by decide +kernel
theorem d_Lir_howManyFitOnly_74 : decode prog_1_method_50_code 74 = .ok (.ireturn, 1) := by decide +kernel
theorem d_Lir_noteLaws_0 : decode prog_1_method_51_code 0 = .ok (.iconst 0, 1) := by decide +kernel
theorem d_Lir_noteLaws_1 : decode prog_1_method_51_code 1 = .ok (.istore_n 1, 1) := by decide +kernel
theorem d_Lir_noteLaws_2 : decode prog_1_method_51_code 2 = .ok (.iload_n 1, 1) := by decide +kernel
theorem d_Lir_noteLaws_3 : decode prog_1_method_51_code 3 = .ok (.aload_n 0, 1) := by decide +kernel
theorem d_Lir_noteLaws_4 : decode prog_1_method_51_code 4 = .ok (.getfield 19, 3) := by decide +kernel
theorem d_Lir_noteLaws_7 : decode prog_1_method_51_code 7 = .ok (.getfield 53, 3) := by decide +kernel
theorem d_Lir_noteLaws_10 : decode prog_1_method_51_code 10 = .ok (.if_icmp .ge 49, 3) := by decide +kernel
theorem d_Lir_noteLaws_13 : decode prog_1_method_51_code 13 = .ok (.iload_n 1, 1) := by decide +kernel
theorem d_Lir_noteLaws_14 : decode prog_1_method_51_code 14 = .ok (.aload_n 0, 1) := by decide +kernel
theorem d_Lir_noteLaws_15 : decode prog_1_method_51_code 15 = .ok (.getfield 30, 3) := by decide +kernel
theorem d_Lir_noteLaws_18 : decode prog_1_method_51_code 18 = .ok (.arraylength, 1) := by decide +kernel
theorem d_Lir_noteLaws_19 : decode prog_1_method_51_code 19 = .ok (.if_icmp .ge 40, 3) := by decide +kernel
theorem d_Lir_noteLaws_22 : decode prog_1_method_51_code 22 = .ok (.aload_n 0, 1) := by decide +kernel
theorem d_Lir_noteLaws_23 : decode prog_1_method_51_code 23 = .ok (.getfield 19, 3) := by decide +kernel
theorem d_Lir_noteLaws_26 : decode prog_1_method_51_code 26 = .ok (.iload_n 1, 1) := by decide +kernel
theorem d_Lir_noteLaws_27 : decode prog_1_method_51_code 27 = .ok (.invokevirtual 74, 3) := by decide +kernel
theorem d_Lir_noteLaws_30 : decode prog_1_method_51_code 30 = .ok (.astore_n 2, 1) := by decide +kernel
theorem d_Lir_noteLaws_31 : decode prog_1_method_51_code 31 = .ok (.aload_n 0, 1) := by decide +kernel
theorem d_Lir_noteLaws_32 : decode prog_1_method_51_code 32 = .ok (.getfield 30, 3) := by decide +kernel
theorem d_Lir_noteLaws_35 : decode prog_1_method_51_code 35 = .ok (.iload_n 1, 1) := by decide +kernel
theorem d_Lir_noteLaws_36 : decode prog_1_method_51_code 36 = .ok (.aload_n 2, 1) := by decide +kernel
theorem d_Lir_noteLaws_37 : decode prog_1_method_51_code 37 = .ok (.ifnonnull 7, 3) := by decide +kernel
theorem d_Lir_noteLaws_40 : decode prog_1_method_51_code 40 = .ok (.iconst 0, 1) := by decide +kernel
theorem d_Lir_noteLaws_41 : decode prog_1_method_51_code 41 = .ok (.goto 11, 3) := by decide +kernel
theorem d_Lir_noteLaws_44 : decode prog_1_method_51_code 44 = .ok (.aload_n 0, 1) := by decide +kernel
theorem d_Lir_noteLaws_45 : decode prog_1_method_51_code 45 = .ok (.getfield 19, 3) := by decide +kernel
theorem d_Lir_noteLaws_48 : decode prog_1_method_51_code 48 = .ok (.aload_n 2, 1) := by decide +kernel
theorem d_Lir_noteLaws_49 : decode prog_1_method_51_code 49 = .ok (.invokevirtual 281, 3) := by decide +kernel
theorem d_Lir_noteLaws_52 : decode prog_1_method_51_code 52 = .ok (.iastore, 1) := by decide +kernel
theorem d_Lir_noteLaws_53 : decode prog_1_method_51_code 53 = .ok (.iinc 1 1, 3) := by decide +kernel
theorem d_Lir_noteLaws_56 : decode prog_1_method_51_code 56 = .ok (.goto (-54), 3) := by decide +kernel
theorem d_Lir_noteLaws_59 : decode prog_1_method_51_code 59 = .ok (.return_, 1) := by decide +kernel
theorem d_Lir_noteBroken_0 : decode prog_1_method_52_code 0 = .ok (.iconst 0, 1) := by decide +kernel
theorem d_Lir_noteBroken_1 : decode prog_1_method_52_code 1 = .ok (.istore_n 2, 1) := by decide +kernel
theorem d_Lir_noteBroken_2 : decode prog_1_method_52_code 2 = .ok (.iload_n 2, 1) := by decide +kernel
theorem d_Lir_noteBroken_3 : decode prog_1_method_52_code 3 = .ok (.aload_n 0, 1) := by decide +kernel
theorem d_Lir_noteBroken_4 : decode prog_1_method_52_code 4 = .ok (.getfield 19, 3) := by decide +kernel
theorem d_Lir_noteBroken_7 : decode prog_1_method_52_code 7 = .ok (.getfield 53, 3) := by decide +kernel
theorem d_Lir_noteBroken_10 : decode prog_1_method_52_code 10 = .ok (.if_icmp .ge 50, 3) := by decide +kernel
theorem d_Lir_noteBroken_13 : decode prog_1_method_52_code 13 = .ok (.iload_n 2, 1) := by decide +kernel
theorem d_Lir_noteBroken_14 : decode prog_1_method_52_code 14 = .ok (.aload_n 0, 1) := by decide +kernel
theorem d_Lir_noteBroken_15 : decode prog_1_method_52_code 15 = .ok (.getfield 30, 3) := by decide +kernel
theorem d_Lir_noteBroken_18 : decode prog_1_method_52_code 18 = .ok (.arraylength, 1) := by decide +kernel
theorem d_Lir_noteBroken_19 : decode prog_1_method_52_code 19 = .ok (.if_icmp .ge 41, 3) := by decide +kernel
theorem d_Lir_noteBroken_22 : decode prog_1_method_52_code 22 = .ok (.aload_n 0, 1) := by decide +kernel
theorem d_Lir_noteBroken_23 : decode prog_1_method_52_code 23 = .ok (.getfield 19, 3) := by decide +kernel
theorem d_Lir_noteBroken_26 : decode prog_1_method_52_code 26 = .ok (.iload_n 2, 1) := by decide +kernel
theorem d_Lir_noteBroken_27 : decode prog_1_method_52_code 27 = .ok (.invokevirtual 74, 3) := by decide +kernel
theorem d_Lir_noteBroken_30 : decode prog_1_method_52_code 30 = .ok (.astore_n 3, 1) := by decide +kernel
theorem d_Lir_noteBroken_31 : decode prog_1_method_52_code 31 = .ok (.aload_n 0, 1) := by decide +kernel
theorem d_Lir_noteBroken_32 : decode prog_1_method_52_code 32 = .ok (.getfield 30, 3) := by decide +kernel
theorem d_Lir_noteBroken_35 : decode prog_1_method_52_code 35 = .ok (.iload_n 2, 1) := by decide +kernel
theorem d_Lir_noteBroken_36 : decode prog_1_method_52_code 36 = .ok (.aload_n 3, 1) := by decide +kernel
theorem d_Lir_noteBroken_37 : decode prog_1_method_52_code 37 = .ok (.ifnonnull 7, 3) := by decide +kernel
theorem d_Lir_noteBroken_40 : decode prog_1_method_52_code 40 = .ok (.iconst 0, 1) := by decide +kernel
theorem d_Lir_noteBroken_41 : decode prog_1_method_52_code 41 = .ok (.goto 12, 3) := by decide +kernel
theorem d_Lir_noteBroken_44 : decode prog_1_method_52_code 44 = .ok (.aload_n 0, 1) := by decide +kernel
theorem d_Lir_noteBroken_45 : decode prog_1_method_52_code 45 = .ok (.getfield 19, 3) := by decide +kernel
theorem d_Lir_noteBroken_48 : decode prog_1_method_52_code 48 = .ok (.aload_n 3, 1) := by decide +kernel
theorem d_Lir_noteBroken_49 : decode prog_1_method_52_code 49 = .ok (.aload_n 1, 1) := by decide +kernel
theorem d_Lir_noteBroken_50 : decode prog_1_method_52_code 50 = .ok (.invokevirtual 135, 3) := by decide +kernel
theorem d_Lir_noteBroken_53 : decode prog_1_method_52_code 53 = .ok (.iastore, 1) := by decide +kernel
theorem d_Lir_noteBroken_54 : decode prog_1_method_52_code 54 = .ok (.iinc 2 1, 3) := by decide +kernel
theorem d_Lir_noteBroken_57 : decode prog_1_method_52_code 57 = .ok (.goto (-55), 3) := by decide +kernel
theorem d_Lir_noteBroken_60 : decode prog_1_method_52_code 60 = .ok (.return_, 1) := by decide +kernel
theorem d_Lir_coversAll_0 : decode prog_1_method_53_code 0 = .ok (.iconst 0, 1) := by decide +kernel
theorem d_Lir_coversAll_1 : decode prog_1_method_53_code 1 = .ok (.istore_n 2, 1) := by decide +kernel
theorem d_Lir_coversAll_2 : decode prog_1_method_53_code 2 = .ok (.iload_n 2, 1) := by decide +kernel
theorem d_Lir_coversAll_3 : decode prog_1_method_53_code 3 = .ok (.aload_n 0, 1) := by decide +kernel
theorem d_Lir_coversAll_4 : decode prog_1_method_53_code 4 = .ok (.getfield 19, 3) := by decide +kernel
theorem d_Lir_coversAll_7 : decode prog_1_method_53_code 7 = .ok (.getfield 53, 3) := by decide +kernel
theorem d_Lir_coversAll_10 : decode prog_1_method_53_code 10 = .ok (.if_icmp .ge 40, 3) := by decide +kernel
theorem d_Lir_coversAll_13 : decode prog_1_method_53_code 13 = .ok (.iload_n 2, 1) := by decide +kernel
theorem d_Lir_coversAll_14 : decode prog_1_method_53_code 14 = .ok (.aload_n 0, 1) := by decide +kernel
theorem d_Lir_coversAll_15 : decode prog_1_method_53_code 15 = .ok (.getfield 30, 3) := by decide +kernel
theorem d_Lir_coversAll_18 : decode prog_1_method_53_code 18 = .ok (.arraylength, 1) := by decide +kernel
theorem d_Lir_coversAll_19 : decode prog_1_method_53_code 19 = .ok (.if_icmp .ge 31, 3) := by decide +kernel
theorem d_Lir_coversAll_22 : decode prog_1_method_53_code 22 = .ok (.aload_n 0, 1) := by decide +kernel
theorem d_Lir_coversAll_23 : decode prog_1_method_53_code 23 = .ok (.getfield 30, 3) := by decide +kernel
theorem d_Lir_coversAll_26 : decode prog_1_method_53_code 26 = .ok (.iload_n 2, 1) := by decide +kernel
theorem d_Lir_coversAll_27 : decode prog_1_method_53_code 27 = .ok (.iaload, 1) := by decide +kernel
theorem d_Lir_coversAll_28 : decode prog_1_method_53_code 28 = .ok (.ifCond .eq 16, 3) := by decide +kernel
theorem d_Lir_coversAll_31 : decode prog_1_method_53_code 31 = .ok (.aload_n 0, 1) := by decide +kernel
theorem d_Lir_coversAll_32 : decode prog_1_method_53_code 32 = .ok (.getfield 30, 3) := by decide +kernel
theorem d_Lir_coversAll_35 : decode prog_1_method_53_code 35 = .ok (.iload_n 2, 1) := by decide +kernel
theorem d_Lir_coversAll_36 : decode prog_1_method_53_code 36 = .ok (.iaload, 1) := by decide +kernel
theorem d_Lir_coversAll_37 : decode prog_1_method_53_code 37 = .ok (.iload_n 1, 1) := by decide +kernel
theorem d_Lir_coversAll_38 : decode prog_1_method_53_code 38 = .ok (.iand, 1) := by decide +kernel
theorem d_Lir_coversAll_39 : decode prog_1_method_53_code 39 = .ok (.ifCond .ne 5, 3) := by decide +kernel
theorem d_Lir_coversAll_42 : decode prog_1_method_53_code 42 = .ok (.iconst 0, 1) := by decide +kernel
theorem d_Lir_coversAll_43 : decode prog_1_method_53_code 43 = .ok (.ireturn, 1) := by decide +kernel
theorem d_Lir_coversAll_44 : decode prog_1_method_53_code 44 = .ok (.iinc 2 1, 3) := by decide +kernel
theorem d_Lir_coversAll_47 : decode prog_1_method_53_code 47 = .ok (.goto (-45), 3) := by decide +kernel
theorem d_Lir_coversAll_50 : decode prog_1_method_53_code 50 = .ok (.iconst 1, 1) := by decide +kernel
theorem d_Lir_coversAll_51 : decode prog_1_method_53_code 51 = .ok (.ireturn, 1) := by decide +kernel
theorem d_Lir_halfFitsWithout_0 : decode prog_1_method_54_code 0 = .ok (.iconst 0, 1) := by decide +kernel
theorem d_Lir_halfFitsWithout_1 : decode prog_1_method_54_code 1 = .ok (.istore_n 2, 1) := by decide +kernel
theorem d_Lir_halfFitsWithout_2 : decode prog_1_method_54_code 2 = .ok (.iconst 0, 1) := by decide +kernel
theorem d_Lir_halfFitsWithout_3 : decode prog_1_method_54_code 3 = .ok (.istore_n 3, 1) := by decide +kernel
theorem d_Lir_halfFitsWithout_4 : decode prog_1_method_54_code 4 = .ok (.iload_n 3, 1) := by decide +kernel
theorem d_Lir_halfFitsWithout_5 : decode prog_1_method_54_code 5 = .ok (.aload_n 0, 1) := by decide +kernel
theorem d_Lir_halfFitsWithout_6 : decode prog_1_method_54_code 6 = .ok (.getfield 19, 3) := by decide +kernel
theorem d_Lir_halfFitsWithout_9 : decode prog_1_method_54_code 9 = .ok (.getfield 53, 3) := by decide +kernel
theorem d_Lir_halfFitsWithout_12 : decode prog_1_method_54_code 12 = .ok (.if_icmp .ge 34, 3) := by decide +kernel
theorem d_Lir_halfFitsWithout_15 : decode prog_1_method_54_code 15 = .ok (.iload_n 3, 1) := by decide +kernel
theorem d_Lir_halfFitsWithout_16 : decode prog_1_method_54_code 16 = .ok (.aload_n 0, 1) := by decide +kernel
theorem d_Lir_halfFitsWithout_17 : decode prog_1_method_54_code 17 = .ok (.getfield 30, 3) := by decide +kernel
theorem d_Lir_halfFitsWithout_20 : decode prog_1_method_54_code 20 = .ok (.arraylength, 1) := by decide +kernel
theorem d_Lir_halfFitsWithout_21 : decode prog_1_method_54_code 21 = .ok (.if_icmp .ge 25, 3) := by decide +kernel
theorem d_Lir_halfFitsWithout_24 : decode prog_1_method_54_code 24 = .ok (.aload_n 0, 1) := by decide +kernel
theorem d_Lir_halfFitsWithout_25 : decode prog_1_method_54_code 25 = .ok (.getfield 30, 3) := by decide +kernel
theorem d_Lir_halfFitsWithout_28 : decode prog_1_method_54_code 28 = .ok (.iload_n 3, 1) := by decide +kernel
theorem d_Lir_halfFitsWithout_29 : decode prog_1_method_54_code 29 = .ok (.iaload, 1) := by decide +kernel
theorem d_Lir_halfFitsWithout_30 : decode prog_1_method_54_code 30 = .ok (.iload_n 1, 1) := by decide +kernel
theorem d_Lir_halfFitsWithout_31 : decode prog_1_method_54_code 31 = .ok (.iconst (-1), 1) := by decide +kernel
theorem d_Lir_halfFitsWithout_32 : decode prog_1_method_54_code 32 = .ok (.ixor, 1) := by decide +kernel
theorem d_Lir_halfFitsWithout_33 : decode prog_1_method_54_code 33 = .ok (.iand, 1) := by decide +kernel
theorem d_Lir_halfFitsWithout_34 : decode prog_1_method_54_code 34 = .ok (.ifCond .ne 6, 3) := by decide +kernel
theorem d_Lir_halfFitsWithout_37 : decode prog_1_method_54_code 37 = .ok (.iinc 2 1, 3) := by decide +kernel
theorem d_Lir_halfFitsWithout_40 : decode prog_1_method_54_code 40 = .ok (.iinc 3 1, 3) := by decide +kernel
theorem d_Lir_halfFitsWithout_43 : decode prog_1_method_54_code 43 = .ok (.goto (-39), 3) := by decide +kernel
theorem d_Lir_halfFitsWithout_46 : decode prog_1_method_54_code 46 = .ok (.iconst 2, 1) := by decide +kernel
theorem d_Lir_halfFitsWithout_47 : decode prog_1_method_54_code 47 = .ok (.iload_n 2, 1) := by decide +kernel
theorem d_Lir_halfFitsWithout_48 : decode prog_1_method_54_code 48 = .ok (.imul, 1) := by decide +kernel
theorem d_Lir_halfFitsWithout_49 : decode prog_1_method_54_code 49 = .ok (.aload_n 0, 1) := by decide +kernel
theorem d_Lir_halfFitsWithout_50 : decode prog_1_method_54_code 50 = .ok (.getfield 19, 3) := by decide +kernel
theorem d_Lir_halfFitsWithout_53 : decode prog_1_method_54_code 53 = .ok (.getfield 53, 3) := by decide +kernel
theorem d_Lir_halfFitsWithout_56 : decode prog_1_method_54_code 56 = .ok (.if_icmp .lt 7, 3) := by decide +kernel
theorem d_Lir_halfFitsWithout_59 : decode prog_1_method_54_code 59 = .ok (.iconst 1, 1) := by decide +kernel
theorem d_Lir_halfFitsWithout_60 : decode prog_1_method_54_code 60 = .ok (.goto 4, 3) := by decide +kernel
theorem d_Lir_halfFitsWithout_63 : decode prog_1_method_54_code 63 = .ok (.iconst 0, 1) := by decide +kernel
theorem d_Lir_halfFitsWithout_64 : decode prog_1_method_54_code 64 = .ok (.ireturn, 1) := by decide +kernel
theorem d_Lir_firstNotedLike_0 : decode prog_1_method_55_code 0 = .ok (.iconst 0, 1) := by decide +kernel
theorem d_Lir_firstNotedLike_1 : decode prog_1_method_55_code 1 = .ok (.istore_n 2, 1) := by decide +kernel
theorem d_Lir_firstNotedLike_2 : decode prog_1_method_55_code 2 = .ok (.iload_n 2, 1) := by decide +kernel
theorem d_Lir_firstNotedLike_3 : decode prog_1_method_55_code 3 = .ok (.iload_n 1, 1) := by decide +kernel
theorem d_Lir_firstNotedLike_4 : decode prog_1_method_55_code 4 = .ok (.if_icmp .ge 35, 3) := by decide +kernel
theorem d_Lir_firstNotedLike_7 : decode prog_1_method_55_code 7 = .ok (.iload_n 1, 1) := by decide +kernel
theorem d_Lir_firstNotedLike_8 : decode prog_1_method_55_code 8 = .ok (.aload_n 0, 1) := by decide +kernel
theorem d_Lir_firstNotedLike_9 : decode prog_1_method_55_code 9 = .ok (.getfield 30, 3) := by decide +kernel
theorem d_Lir_firstNotedLike_12 : decode prog_1_method_55_code 12 = .ok (.arraylength, 1) := by decide +kernel
theorem d_Lir_firstNotedLike_13 : decode prog_1_method_55_code 13 = .ok (.if_icmp .ge 26, 3) := by decide +kernel
theorem d_Lir_firstNotedLike_16 : decode prog_1_method_55_code 16 = .ok (.aload_n 0, 1) := by decide +kernel
theorem d_Lir_firstNotedLike_17 : decode prog_1_method_55_code 17 = .ok (.getfield 30, 3) := by decide +kernel
theorem d_Lir_firstNotedLike_20 : decode prog_1_method_55_code 20 = .ok (.iload_n 2, 1) := by decide +kernel
theorem d_Lir_firstNotedLike_21 : decode prog_1_method_55_code 21 = .ok (.iaload, 1) := by decide +kernel
theorem d_Lir_firstNotedLike_22 : decode prog_1_method_55_code 22 = .ok (.aload_n 0, 1) := by decide +kernel
theorem d_Lir_firstNotedLike_23 : decode prog_1_method_55_code 23 = .ok (.getfield 30, 3) := by decide +kernel
theorem d_Lir_firstNotedLike_26 : decode prog_1_method_55_code 26 = .ok (.iload_n 1, 1) := by decide +kernel
theorem d_Lir_firstNotedLike_27 : decode prog_1_method_55_code 27 = .ok (.iaload, 1) := by decide +kernel
theorem d_Lir_firstNotedLike_28 : decode prog_1_method_55_code 28 = .ok (.if_icmp .ne 5, 3) := by decide +kernel
theorem d_Lir_firstNotedLike_31 : decode prog_1_method_55_code 31 = .ok (.iload_n 2, 1) := by decide +kernel
theorem d_Lir_firstNotedLike_32 : decode prog_1_method_55_code 32 = .ok (.ireturn, 1) := by decide +kernel
theorem d_Lir_firstNotedLike_33 : decode prog_1_method_55_code 33 = .ok (.iinc 2 1, 3) := by decide +kernel
theorem d_Lir_firstNotedLike_36 : decode prog_1_method_55_code 36 = .ok (.goto (-34), 3) := by decide +kernel
theorem d_Lir_firstNotedLike_39 : decode prog_1_method_55_code 39 = .ok (.iload_n 1, 1) := by decide +kernel
theorem d_Lir_firstNotedLike_40 : decode prog_1_method_55_code 40 = .ok (.ireturn, 1) := by decide +kernel
theorem d_Lir_howManyNotedLike_0 : decode prog_1_method_56_code 0 = .ok (.iconst 0, 1) := by decide +kernel
theorem d_Lir_howManyNotedLike_1 : decode prog_1_method_56_code 1 = .ok (.istore_n 2, 1) := by decide +kernel
theorem d_Lir_howManyNotedLike_2 : decode prog_1_method_56_code 2 = .ok (.iconst 0, 1) := by decide +kernel
theorem d_Lir_howManyNotedLike_3 : decode prog_1_method_56_code 3 = .ok (.istore_n 3, 1) := by decide +kernel
theorem d_Lir_howManyNotedLike_4 : decode prog_1_method_56_code 4 = .ok (.iload_n 3, 1) := by decide +kernel
theorem d_Lir_howManyNotedLike_5 : decode prog_1_method_56_code 5 = .ok (.aload_n 0, 1) := by decide +kernel
theorem d_Lir_howManyNotedLike_6 : decode prog_1_method_56_code 6 = .ok (.getfield 19, 3) := by decide +kernel
theorem d_Lir_howManyNotedLike_9 : decode prog_1_method_56_code 9 = .ok (.getfield 53, 3) := by decide +kernel
theorem d_Lir_howManyNotedLike_12 : decode prog_1_method_56_code 12 = .ok (.if_icmp .ge 49, 3) := by decide +kernel
theorem d_Lir_howManyNotedLike_15 : decode prog_1_method_56_code 15 = .ok (.iload_n 3, 1) := by decide +kernel
theorem d_Lir_howManyNotedLike_16 : decode prog_1_method_56_code 16 = .ok (.aload_n 0, 1) := by decide +kernel
theorem d_Lir_howManyNotedLike_17 : decode prog_1_method_56_code 17 = .ok (.getfield 30, 3) := by decide +kernel
theorem d_Lir_howManyNotedLike_20 : decode prog_1_method_56_code 20 = .ok (.arraylength, 1) := by decide +kernel
theorem d_Lir_howManyNotedLike_21 : decode prog_1_method_56_code 21 = .ok (.if_icmp .ge 40, 3) := by decide +kernel
theorem d_Lir_howManyNotedLike_24 : decode prog_1_method_56_code 24 = .ok (.iload_n 1, 1) := by decide +kernel
theorem d_Lir_howManyNotedLike_25 : decode prog_1_method_56_code 25 = .ok (.ifCond .lt 30, 3) := by decide +kernel
theorem d_Lir_howManyNotedLike_28 : decode prog_1_method_56_code 28 = .ok (.iload_n 1, 1) := by decide +kernel
theorem d_Lir_howManyNotedLike_29 : decode prog_1_method_56_code 29 = .ok (.aload_n 0, 1) := by decide +kernel
theorem d_Lir_howManyNotedLike_30 : decode prog_1_method_56_code 30 = .ok (.getfield 30, 3) := by decide +kernel
theorem d_Lir_howManyNotedLike_33 : decode prog_1_method_56_code 33 = .ok (.arraylength, 1) := by decide +kernel
theorem d_Lir_howManyNotedLike_34 : decode prog_1_method_56_code 34 = .ok (.if_icmp .ge 21, 3) := by decide +kernel
theorem d_Lir_howManyNotedLike_37 : decode prog_1_method_56_code 37 = .ok (.aload_n 0, 1) := by decide +kernel
theorem d_Lir_howManyNotedLike_38 : decode prog_1_method_56_code 38 = .ok (.getfield 30, 3) := by decide +kernel
theorem d_Lir_howManyNotedLike_41 : decode prog_1_method_56_code 41 = .ok (.iload_n 3, 1) := by decide +kernel
theorem d_Lir_howManyNotedLike_42 : decode prog_1_method_56_code 42 = .ok (.iaload, 1) := by decide +kernel
theorem d_Lir_howManyNotedLike_43 : decode prog_1_method_56_code 43 = .ok (.aload_n 0, 1) := by decide +kernel
theorem d_Lir_howManyNotedLike_44 : decode prog_1_method_56_code 44 = .ok (.getfield 30, 3) := by decide +kernel
theorem d_Lir_howManyNotedLike_47 : decode prog_1_method_56_code 47 = .ok (.iload_n 1, 1) := by decide +kernel
theorem d_Lir_howManyNotedLike_48 : decode prog_1_method_56_code 48 = .ok (.iaload, 1) := by decide +kernel
theorem d_Lir_howManyNotedLike_49 : decode prog_1_method_56_code 49 = .ok (.if_icmp .ne 6, 3) := by decide +kernel
theorem d_Lir_howManyNotedLike_52 : decode prog_1_method_56_code 52 = .ok (.iinc 2 1, 3) := by decide +kernel
theorem d_Lir_howManyNotedLike_55 : decode prog_1_method_56_code 55 = .ok (.iinc 3 1, 3) := by decide +kernel
theorem d_Lir_howManyNotedLike_58 : decode prog_1_method_56_code 58 = .ok (.goto (-54), 3) := by decide +kernel
theorem d_Lir_howManyNotedLike_61 : decode prog_1_method_56_code 61 = .ok (.iload_n 2, 1) := by decide +kernel
theorem d_Lir_howManyNotedLike_62 : decode prog_1_method_56_code 62 = .ok (.ireturn, 1) := by decide +kernel
end
section
theorem d_Int_bitCount_0 : decode prog_15_method_49_code 0 = .ok (.iload_n 0, 1) := by decide +kernel
theorem d_Int_bitCount_1 : decode prog_15_method_49_code 1 = .ok (.iload_n 0, 1) := by decide +kernel
theorem d_Int_bitCount_2 : decode prog_15_method_49_code 2 = .ok (.iconst 1, 1) := by decide +kernel
theorem d_Int_bitCount_3 : decode prog_15_method_49_code 3 = .ok (.iushr, 1) := by decide +kernel
theorem d_Int_bitCount_4 : decode prog_15_method_49_code 4 = .ok (.ldc_w 265, 3) := by decide +kernel
theorem d_Int_bitCount_7 : decode prog_15_method_49_code 7 = .ok (.iand, 1) := by decide +kernel
theorem d_Int_bitCount_8 : decode prog_15_method_49_code 8 = .ok (.isub, 1) := by decide +kernel
theorem d_Int_bitCount_9 : decode prog_15_method_49_code 9 = .ok (.istore_n 0, 1) := by decide +kernel
theorem d_Int_bitCount_10 : decode prog_15_method_49_code 10 = .ok (.iload_n 0, 1) := by decide +kernel
theorem d_Int_bitCount_11 : decode prog_15_method_49_code 11 = .ok (.ldc_w 266, 3) := by decide +kernel
theorem d_Int_bitCount_14 : decode prog_15_method_49_code 14 = .ok (.iand, 1) := by decide +kernel
theorem d_Int_bitCount_15 : decode prog_15_method_49_code 15 = .ok (.iload_n 0, 1) := by decide +kernel
theorem d_Int_bitCount_16 : decode prog_15_method_49_code 16 = .ok (.iconst 2, 1) := by decide +kernel
theorem d_Int_bitCount_17 : decode prog_15_method_49_code 17 = .ok (.iushr, 1) := by decide +kernel
theorem d_Int_bitCount_18 : decode prog_15_method_49_code 18 = .ok (.ldc_w 266, 3) := by decide +kernel
theorem d_Int_bitCount_21 : decode prog_15_method_49_code 21 = .ok (.iand, 1) := by decide +kernel
theorem d_Int_bitCount_22 : decode prog_15_method_49_code 22 = .ok (.iadd, 1) := by decide +kernel
theorem d_Int_bitCount_23 : decode prog_15_method_49_code 23 = .ok (.istore_n 0, 1) := by decide +kernel
theorem d_Int_bitCount_24 : decode prog_15_method_49_code 24 = .ok (.iload_n 0, 1) := by decide +kernel
theorem d_Int_bitCount_25 : decode prog_15_method_49_code 25 = .ok (.iload_n 0, 1) := by decide +kernel
theorem d_Int_bitCount_26 : decode prog_15_method_49_code 26 = .ok (.iconst 4, 1) := by decide +kernel
theorem d_Int_bitCount_27 : decode prog_15_method_49_code 27 = .ok (.iushr, 1) := by decide +kernel
theorem d_Int_bitCount_28 : decode prog_15_method_49_code 28 = .ok (.iadd, 1) := by decide +kernel
theorem d_Int_bitCount_29 : decode prog_15_method_49_code 29 = .ok (.ldc_w 267, 3) := by decide +kernel
theorem d_Int_bitCount_32 : decode prog_15_method_49_code 32 = .ok (.iand, 1) := by decide +kernel
theorem d_Int_bitCount_33 : decode prog_15_method_49_code 33 = .ok (.istore_n 0, 1) := by decide +kernel
theorem d_Int_bitCount_34 : decode prog_15_method_49_code 34 = .ok (.iload_n 0, 1) := by decide +kernel
theorem d_Int_bitCount_35 : decode prog_15_method_49_code 35 = .ok (.iload_n 0, 1) := by decide +kernel
theorem d_Int_bitCount_36 : decode prog_15_method_49_code 36 = .ok (.bipush 8, 2) := by decide +kernel
theorem d_Int_bitCount_38 : decode prog_15_method_49_code 38 = .ok (.iushr, 1) := by decide +kernel
theorem d_Int_bitCount_39 : decode prog_15_method_49_code 39 = .ok (.iadd, 1) := by decide +kernel
theorem d_Int_bitCount_40 : decode prog_15_method_49_code 40 = .ok (.istore_n 0, 1) := by decide +kernel
theorem d_Int_bitCount_41 : decode prog_15_method_49_code 41 = .ok (.iload_n 0, 1) := by decide +kernel
theorem d_Int_bitCount_42 : decode prog_15_method_49_code 42 = .ok (.iload_n 0, 1) := by decide +kernel
theorem d_Int_bitCount_43 : decode prog_15_method_49_code 43 = .ok (.bipush 16, 2) := by decide +kernel
theorem d_Int_bitCount_45 : decode prog_15_method_49_code 45 = .ok (.iushr, 1) := by decide +kernel
theorem d_Int_bitCount_46 : decode prog_15_method_49_code 46 = .ok (.iadd, 1) := by decide +kernel
theorem d_Int_bitCount_47 : decode prog_15_method_49_code 47 = .ok (.istore_n 0, 1) := by decide +kernel
theorem d_Int_bitCount_48 : decode prog_15_method_49_code 48 = .ok (.iload_n 0, 1) := by decide +kernel
theorem d_Int_bitCount_49 : decode prog_15_method_49_code 49 = .ok (.bipush 63, 2) := by decide +kernel
theorem d_Int_bitCount_51 : decode prog_15_method_49_code 51 = .ok (.iand, 1) := by decide +kernel
theorem d_Int_bitCount_52 : decode prog_15_method_49_code 52 = .ok (.ireturn, 1) := by decide +kernel
theorem d_Mat_max_0 : decode prog_16_method_65_code 0 = .ok (.iload_n 0, 1) := by decide +kernel
theorem d_Mat_max_1 : decode prog_16_method_65_code 1 = .ok (.iload_n 1, 1) := by decide +kernel
theorem d_Mat_max_2 : decode prog_16_method_65_code 2 = .ok (.if_icmp .lt 7, 3) := by decide +kernel
theorem d_Mat_max_5 : decode prog_16_method_65_code 5 = .ok (.iload_n 0, 1) := by decide +kernel
theorem d_Mat_max_6 : decode prog_16_method_65_code 6 = .ok (.goto 4, 3) := by decide +kernel
theorem d_Mat_max_9 : decode prog_16_method_65_code 9 = .ok (.iload_n 1, 1) := by decide +kernel
theorem d_Mat_max_10 : decode prog_16_method_65_code 10 = .ok (.ireturn, 1) := by decide +kernel
theorem d_Mat_min_0 : decode prog_16_method_69_code 0 = .ok (.iload_n 0, 1) := by decide +kernel
theorem d_Mat_min_1 : decode prog_16_method_69_code 1 = .ok (.iload_n 1, 1) := by decide +kernel
theorem d_Mat_min_2 : decode prog_16_method_69_code 2 = .ok (.if_icmp .gt 7, 3) := by decide +kernel
theorem d_Mat_min_5 : decode prog_16_method_69_code 5 = .ok (.iload_n 0, 1) := by decide +kernel
theorem d_Mat_min_6 : decode prog_16_method_69_code 6 = .ok (.goto 4, 3) := by decide +kernel
theorem d_Mat_min_9 : decode prog_16_method_69_code 9 = .ok (.iload_n 1, 1) := by decide +kernel
theorem d_Mat_min_10 : decode prog_16_method_69_code 10 = .ok (.ireturn, 1) := by decide +kernel
theorem d_Str_length_0 : decode prog_17_method_54_code 0 = .ok (.aload_n 0, 1) := by decide +kernel
theorem d_Str_length_1 : decode prog_17_method_54_code 1 = .ok (.getfield 9, 3) := by decide +kernel
theorem d_Str_length_4 : decode prog_17_method_54_code 4 = .ok (.arraylength, 1) := by decide +kernel
theorem d_Str_length_5 : decode prog_17_method_54_code 5 = .ok (.aload_n 0, 1) := by decide +kernel
theorem d_Str_length_6 : decode prog_17_method_54_code 6 = .ok (.invokevirtual 335, 3) := by decide +kernel
theorem d_Str_length_9 : decode prog_17_method_54_code 9 = .ok (.ishr, 1) := by decide +kernel
theorem d_Str_length_10 : decode prog_17_method_54_code 10 = .ok (.ireturn, 1) := by decide +kernel
theorem d_Str_charAt_0 : decode prog_17_method_56_code 0 = .ok (.aload_n 0, 1) := by decide +kernel
theorem d_Str_charAt_1 : decode prog_17_method_56_code 1 = .ok (.invokevirtual 492, 3) := by decide +kernel
theorem d_Str_charAt_4 : decode prog_17_method_56_code 4 = .ok (.ifCond .eq 12, 3) := by decide +kernel
theorem d_Str_charAt_7 : decode prog_17_method_56_code 7 = .ok (.aload_n 0, 1) := by decide +kernel
theorem d_Str_charAt_8 : decode prog_17_method_56_code 8 = .ok (.getfield 9, 3) := by decide +kernel
theorem d_Str_charAt_11 : decode prog_17_method_56_code 11 = .ok (.iload_n 1, 1) := by decide +kernel
theorem d_Str_charAt_12 : decode prog_17_method_56_code 12 = .ok (.invokestatic 495, 3) := by decide +kernel
theorem d_Str_charAt_15 : decode prog_17_method_56_code 15 = .ok (.ireturn, 1) := by decide +kernel
theorem d_Str_charAt_16 : decode prog_17_method_56_code 16 = .ok (.aload_n 0, 1) := by decide +kernel
theorem d_Str_charAt_17 : decode prog_17_method_56_code 17 = .ok (.getfield 9, 3) := by decide +kernel
theorem d_Str_charAt_20 : decode prog_17_method_56_code 20 = .ok (.iload_n 1, 1) := by decide +kernel
theorem d_Str_charAt_21 : decode prog_17_method_56_code 21 = .ok (.invokestatic 498, 3) := by decide +kernel
theorem d_Str_charAt_24 : decode prog_17_method_56_code 24 = .ok (.ireturn, 1) := by decide +kernel
theorem d_Str_coder_0 : decode prog_17_method_152_code 0 = .ok (.getstatic 38, 3) := by decide +kernel
theorem d_Str_coder_3 : decode prog_17_method_152_code 3 = .ok (.ifCond .eq 10, 3) := by decide +kernel
theorem d_Str_coder_6 : decode prog_17_method_152_code 6 = .ok (.aload_n 0, 1) := by decide +kernel
theorem d_Str_coder_7 : decode prog_17_method_152_code 7 = .ok (.getfield 15, 3) := by decide +kernel
theorem d_Str_coder_10 : decode prog_17_method_152_code 10 = .ok (.goto 4, 3) := by decide +kernel
theorem d_Str_coder_13 : decode prog_17_method_152_code 13 = .ok (.iconst 1, 1) := by decide +kernel
theorem d_Str_coder_14 : decode prog_17_method_152_code 14 = .ok (.ireturn, 1) := by decide +kernel
theorem d_Str_isLatin1_0 : decode prog_17_method_154_code 0 = .ok (.getstatic 38, 3) := by decide +kernel
theorem d_Str_isLatin1_3 : decode prog_17_method_154_code 3 = .ok (.ifCond .eq 14, 3) := by decide +kernel
theorem d_Str_isLatin1_6 : decode prog_17_method_154_code 6 = .ok (.aload_n 0, 1) := by decide +kernel
theorem d_Str_isLatin1_7 : decode prog_17_method_154_code 7 = .ok (.getfield 15, 3) := by decide +kernel
theorem d_Str_isLatin1_10 : decode prog_17_method_154_code 10 = .ok (.ifCond .ne 7, 3) := by decide +kernel
theorem d_Str_isLatin1_13 : decode prog_17_method_154_code 13 = .ok (.iconst 1, 1) := by decide +kernel
theorem d_Str_isLatin1_14 : decode prog_17_method_154_code 14 = .ok (.goto 4, 3) := by decide +kernel
theorem d_Str_isLatin1_17 : decode prog_17_method_154_code 17 = .ok (.iconst 0, 1) := by decide +kernel
theorem d_Str_isLatin1_18 : decode prog_17_method_154_code 18 = .ok (.ireturn, 1) := by decide +kernel
theorem d_Str_checkIndex_0 : decode prog_17_method_155_code 0 = .ok (.iload_n 0, 1) := by decide +kernel
theorem d_Str_checkIndex_1 : decode prog_17_method_155_code 1 = .ok (.iload_n 1, 1) := by decide +kernel
theorem d_Str_checkIndex_2 : decode prog_17_method_155_code 2 = .ok (.getstatic 1053, 3) := by decide +kernel
theorem d_Str_checkIndex_5 : decode prog_17_method_155_code 5 = .ok (.invokestatic 1059, 3) := by decide +kernel
theorem d_Str_checkIndex_8 : decode prog_17_method_155_code 8 = .ok (.pop, 1) := by decide +kernel
theorem d_Str_checkIndex_9 : decode prog_17_method_155_code 9 = .ok (.return_, 1) := by decide +kernel
theorem d_SLa_charAt_0 : decode prog_18_method_2_code 0 = .ok (.iload_n 1, 1) := by decide +kernel
theorem d_SLa_charAt_1 : decode prog_18_method_2_code 1 = .ok (.aload_n 0, 1) := by decide +kernel
theorem d_SLa_charAt_2 : decode prog_18_method_2_code 2 = .ok (.arraylength, 1) := by decide +kernel
theorem d_SLa_charAt_3 : decode prog_18_method_2_code 3 = .ok (.invokestatic 9, 3) := by decide +kernel
theorem d_SLa_charAt_6 : decode prog_18_method_2_code 6 = .ok (.aload_n 0, 1) := by decide +kernel
theorem d_SLa_charAt_7 : decode prog_18_method_2_code 7 = .ok (.iload_n 1, 1) := by decide +kernel
theorem d_SLa_charAt_8 : decode prog_18_method_2_code 8 = .ok (.baload, 1) := by decide +kernel
theorem d_SLa_charAt_9 : decode prog_18_method_2_code 9 = .ok (.sipush 255, 3) := by decide +kernel
theorem d_SLa_charAt_12 : decode prog_18_method_2_code 12 = .ok (.iand, 1) := by decide +kernel
theorem d_SLa_charAt_13 : decode prog_18_method_2_code 13 = .ok (.i2c, 1) := by decide +kernel
theorem d_SLa_charAt_14 : decode prog_18_method_2_code 14 = .ok (.ireturn, 1) := by decide +kernel
theorem d_SUt_getChar_0 : decode prog_19_method_5_code 0 = .ok (.getstatic 44, 3) := by decide +kernel
theorem d_SUt_getChar_3 : decode prog_19_method_5_code 3 = .ok (.ifCond .ne 25, 3) := by decide +kernel
theorem d_SUt_getChar_6 : decode prog_19_method_5_code 6 = .ok (.iload_n 1, 1) := by decide +kernel
theorem d_SUt_getChar_7 : decode prog_19_method_5_code 7 = .ok (.ifCond .lt 11, 3) := by decide +kernel
theorem d_SUt_getChar_10 : decode prog_19_method_5_code 10 = .ok (.iload_n 1, 1) := by decide +kernel
theorem d_SUt_getChar_11 : decode prog_19_method_5_code 11 = .ok (.aload_n 0, 1) := by decide +kernel
theorem d_SUt_getChar_12 : decode prog_19_method_5_code 12 = .ok (.invokestatic 48, 3) := by decide +kernel
theorem d_SUt_getChar_15 : decode prog_19_method_5_code 15 = .ok (.if_icmp .lt 13, 3) := by decide +kernel
theorem d_SUt_getChar_18 : decode prog_19_method_5_code 18 = .ok (.new 52, 3) := by decide +kernel
theorem d_SUt_getChar_21 : decode prog_19_method_5_code 21 = .ok (.dup, 1) := by decide +kernel
theorem d_SUt_getChar_22 : decode prog_19_method_5_code 22 = .ok (.ldc 54, 2) := by decide +kernel
theorem d_SUt_getChar_24 : decode prog_19_method_5_code 24 = .ok (.invokespecial 56, 3) := by decide +kernel
theorem d_SUt_getChar_27 : decode prog_19_method_5_code 27 = .ok (.athrow, 1) := by decide +kernel
theorem d_SUt_getChar_28 : decode prog_19_method_5_code 28 = .ok (.iload_n 1, 1) := by decide +kernel
theorem d_SUt_getChar_29 : decode prog_19_method_5_code 29 = .ok (.iconst 1, 1) := by decide +kernel
theorem d_SUt_getChar_30 : decode prog_19_method_5_code 30 = .ok (.ishl, 1) := by decide +kernel
theorem d_SUt_getChar_31 : decode prog_19_method_5_code 31 = .ok (.istore_n 1, 1) := by decide +kernel
theorem d_SUt_getChar_32 : decode prog_19_method_5_code 32 = .ok (.aload_n 0, 1) := by decide +kernel
theorem d_SUt_getChar_33 : decode prog_19_method_5_code 33 = .ok (.iload_n 1, 1) := by decide +kernel
theorem d_SUt_getChar_34 : decode prog_19_method_5_code 34 = .ok (.iinc 1 1, 3) := by decide +kernel
theorem d_SUt_getChar_37 : decode prog_19_method_5_code 37 = .ok (.baload, 1) := by decide +kernel
theorem d_SUt_getChar_38 : decode prog_19_method_5_code 38 = .ok (.sipush 255, 3) := by decide +kernel
theorem d_SUt_getChar_41 : decode prog_19_method_5_code 41 = .ok (.iand, 1) := by decide +kernel
theorem d_SUt_getChar_42 : decode prog_19_method_5_code 42 = .ok (.getstatic 59, 3) := by decide +kernel
theorem d_SUt_getChar_45 : decode prog_19_method_5_code 45 = .ok (.ishl, 1) := by decide +kernel
theorem d_SUt_getChar_46 : decode prog_19_method_5_code 46 = .ok (.aload_n 0, 1) := by decide +kernel
theorem d_SUt_getChar_47 : decode prog_19_method_5_code 47 = .ok (.iload_n 1, 1) := by decide +kernel
theorem d_SUt_getChar_48 : decode prog_19_method_5_code 48 = .ok (.baload, 1) := by decide +kernel
theorem d_SUt_getChar_49 : decode prog_19_method_5_code 49 = .ok (.sipush 255, 3) := by decide +kernel
theorem d_SUt_getChar_52 : decode prog_19_method_5_code 52 = .ok (.iand, 1) := by decide +kernel
theorem d_SUt_getChar_53 : decode prog_19_method_5_code 53 = .ok (.getstatic 63, 3) := by decide +kernel
theorem d_SUt_getChar_56 : decode prog_19_method_5_code 56 = .ok (.ishl, 1) := by decide +kernel
theorem d_SUt_getChar_57 : decode prog_19_method_5_code 57 = .ok (.ior, 1) := by decide +kernel
theorem d_SUt_getChar_58 : decode prog_19_method_5_code 58 = .ok (.i2c, 1) := by decide +kernel
theorem d_SUt_getChar_59 : decode prog_19_method_5_code 59 = .ok (.ireturn, 1) := by decide +kernel
theorem d_SUt_length_0 : decode prog_19_method_6_code 0 = .ok (.aload_n 0, 1) := by decide +kernel
theorem d_SUt_length_1 : decode prog_19_method_6_code 1 = .ok (.arraylength, 1) := by decide +kernel
theorem d_SUt_length_2 : decode prog_19_method_6_code 2 = .ok (.iconst 1, 1) := by decide +kernel
theorem d_SUt_length_3 : decode prog_19_method_6_code 3 = .ok (.ishr, 1) := by decide +kernel
theorem d_SUt_length_4 : decode prog_19_method_6_code 4 = .ok (.ireturn, 1) := by decide +kernel
theorem d_SUt_charAt_0 : decode prog_19_method_83_code 0 = .ok (.iload_n 1, 1) := by decide +kernel
theorem d_SUt_charAt_1 : decode prog_19_method_83_code 1 = .ok (.aload_n 0, 1) := by decide +kernel
theorem d_SUt_charAt_2 : decode prog_19_method_83_code 2 = .ok (.invokestatic 67, 3) := by decide +kernel
theorem d_SUt_charAt_5 : decode prog_19_method_83_code 5 = .ok (.aload_n 0, 1) := by decide +kernel
theorem d_SUt_charAt_6 : decode prog_19_method_83_code 6 = .ok (.iload_n 1, 1) := by decide +kernel
theorem d_SUt_charAt_7 : decode prog_19_method_83_code 7 = .ok (.invokestatic 71, 3) := by decide +kernel
theorem d_SUt_charAt_10 : decode prog_19_method_83_code 10 = .ok (.ireturn, 1) := by decide +kernel
theorem d_SUt_checkIndex_0 : decode prog_19_method_91_code 0 = .ok (.iload_n 0, 1) := by decide +kernel
theorem d_SUt_checkIndex_1 : decode prog_19_method_91_code 1 = .ok (.aload_n 1, 1) := by decide +kernel
theorem d_SUt_checkIndex_2 : decode prog_19_method_91_code 2 = .ok (.invokestatic 48, 3) := by decide +kernel
theorem d_SUt_checkIndex_5 : decode prog_19_method_91_code 5 = .ok (.invokestatic 414, 3) := by decide +kernel
theorem d_SUt_checkIndex_8 : decode prog_19_method_91_code 8 = .ok (.return_, 1) := by decide +kernel
theorem d_Pre_checkIndex_0 : decode prog_21_method_11_code 0 = .ok (.iload_n 0, 1) := by decide +kernel
theorem d_Pre_checkIndex_1 : decode prog_21_method_11_code 1 = .ok (.ifCond .lt 8, 3) := by decide +kernel
theorem d_Pre_checkIndex_4 : decode prog_21_method_11_code 4 = .ok (.iload_n 0, 1) := by decide +kernel
theorem d_Pre_checkIndex_5 : decode prog_21_method_11_code 5 = .ok (.iload_n 1, 1) := by decide +kernel
theorem d_Pre_checkIndex_6 : decode prog_21_method_11_code 6 = .ok (.if_icmp .lt 10, 3) := by decide +kernel
theorem d_Pre_checkIndex_9 : decode prog_21_method_11_code 9 = .ok (.aload_n 2, 1) := by decide +kernel
theorem d_Pre_checkIndex_10 : decode prog_21_method_11_code 10 = .ok (.iload_n 0, 1) := by decide +kernel
theorem d_Pre_checkIndex_11 : decode prog_21_method_11_code 11 = .ok (.iload_n 1, 1) := by decide +kernel
theorem d_Pre_checkIndex_12 : decode prog_21_method_11_code 12 = .ok (.invokestatic 95, 3) := by decide +kernel
theorem d_Pre_checkIndex_15 : decode prog_21_method_11_code 15 = .ok (.athrow, 1) := by decide +kernel
theorem d_Pre_checkIndex_16 : decode prog_21_method_11_code 16 = .ok (.iload_n 0, 1) := by decide +kernel
theorem d_Pre_checkIndex_17 : decode prog_21_method_11_code 17 = .ok (.ireturn, 1) := by decide +kernel
end
section
/-! THE WORLD: places 0 .. 44 the class under proof, 45 .. 50 the reference, from 51 on the Tellings -/
abbrev zR : Type := (Nat → Option Nat) × (Nat → Nat → Int32) × (Nat → Int32) × (Nat → Option Nat) × (Nat → Option Nat) × (Nat → Int32) × (Nat → Int32) × (Nat → Int32) × (Nat → Int32)
abbrev zU : Type := (Nat → Int32) × (Nat → Int32) × (Nat → Int32) × (Nat → Int32) × (Nat → Int32) × (Nat → Int32)
abbrev zKK : Type := Int32 × (Nat → Int32) × (Nat → Int32) × zR × zR × (Nat → Int32) × (Nat → Int32)
def lrow (b : Nat) : Nat → Option Nat := fun j => if j < 6 then some (b + 2 * j) else none
noncomputable def wld (K : zKK) (u : zU) (tl : List zC) : List zC := .inr (.inr (10, [.ref 1, .ref 3, .ref 23, .ref 43, .ref 44, .int (K.1)])) :: .inr (.inr (7, [.ref 2, .int (K.2.1 0), .int (K.2.1 1), .int (K.2.1 2), .int (K.2.1 3), .int (K.2.1 4), .int (K.2.1 5), .int (K.2.1 6), .int (K.2.1 7)])) :: .inl (24, K.2.2.1) :: .inr (.inr (6, [.ref 4, .ref 5, .ref 18, .ref 19, .ref 20, .ref 21, .ref 22, .int (K.2.2.2.1.2.2.2.2.2.2.2.2 0), .int (K.2.2.2.1.2.2.2.2.2.2.2.2 1), .int (K.2.2.2.1.2.2.2.2.2.2.2.2 2), .int (K.2.2.2.1.2.2.2.2.2.2.2.2 3)])) :: .inr (.inl (1, 30, K.2.2.2.1.1)) :: .inr (.inl (0, 6, lrow 6)) :: .inr (.inr (4, [.ref 7, .int (K.2.2.2.1.2.2.1 0)])) :: .inl (7, K.2.2.2.1.2.1 0) :: .inr (.inr (4, [.ref 9, .int (K.2.2.2.1.2.2.1 1)])) :: .inl (7, K.2.2.2.1.2.1 1) :: .inr (.inr (4, [.ref 11, .int (K.2.2.2.1.2.2.1 2)])) :: .inl (7, K.2.2.2.1.2.1 2) :: .inr (.inr (4, [.ref 13, .int (K.2.2.2.1.2.2.1 3)])) :: .inl (7, K.2.2.2.1.2.1 3) :: .inr (.inr (4, [.ref 15, .int (K.2.2.2.1.2.2.1 4)])) :: .inl (7, K.2.2.2.1.2.1 4) :: .inr (.inr (4, [.ref 17, .int (K.2.2.2.1.2.2.1 5)])) :: .inl (7, K.2.2.2.1.2.1 5) :: .inr (.inl (1, 10, K.2.2.2.1.2.2.2.1)) :: .inr (.inl (1, 10, K.2.2.2.1.2.2.2.2.1)) :: .inl (2, K.2.2.2.1.2.2.2.2.2.1) :: .inl (10, K.2.2.2.1.2.2.2.2.2.2.1) :: .inr (.inr (0, [.int (K.2.2.2.1.2.2.2.2.2.2.2.1 0), .int (K.2.2.2.1.2.2.2.2.2.2.2.1 1), .int (K.2.2.2.1.2.2.2.2.2.2.2.1 2), .int (K.2.2.2.1.2.2.2.2.2.2.2.1 3)])) :: .inr (.inr (6, [.ref 24, .ref 25, .ref 38, .ref 39, .ref 40, .ref 41, .ref 42, .int (K.2.2.2.2.1.2.2.2.2.2.2.2.2 0), .int (K.2.2.2.2.1.2.2.2.2.2.2.2.2 1), .int (K.2.2.2.2.1.2.2.2.2.2.2.2.2 2), .int (K.2.2.2.2.1.2.2.2.2.2.2.2.2 3)])) :: .inr (.inl (1, 30, K.2.2.2.2.1.1)) :: .inr (.inl (0, 6, lrow 26)) :: .inr (.inr (4, [.ref 27, .int (K.2.2.2.2.1.2.2.1 0)])) :: .inl (7, K.2.2.2.2.1.2.1 0) :: .inr (.inr (4, [.ref 29, .int (K.2.2.2.2.1.2.2.1 1)])) :: .inl (7, K.2.2.2.2.1.2.1 1) :: .inr (.inr (4, [.ref 31, .int (K.2.2.2.2.1.2.2.1 2)])) :: .inl (7, K.2.2.2.2.1.2.1 2) :: .inr (.inr (4, [.ref 33, .int (K.2.2.2.2.1.2.2.1 3)])) :: .inl (7, K.2.2.2.2.1.2.1 3) :: .inr (.inr (4, [.ref 35, .int (K.2.2.2.2.1.2.2.1 4)])) :: .inl (7, K.2.2.2.2.1.2.1 4) :: .inr (.inr (4, [.ref 37, .int (K.2.2.2.2.1.2.2.1 5)])) :: .inl (7, K.2.2.2.2.1.2.1 5) :: .inr (.inl (1, 10, K.2.2.2.2.1.2.2.2.1)) :: .inr (.inl (1, 10, K.2.2.2.2.1.2.2.2.2.1)) :: .inl (2, K.2.2.2.2.1.2.2.2.2.2.1) :: .inl (10, K.2.2.2.2.1.2.2.2.2.2.2.1) :: .inr (.inr (0, [.int (K.2.2.2.2.1.2.2.2.2.2.2.2.1 0), .int (K.2.2.2.2.1.2.2.2.2.2.2.2.1 1), .int (K.2.2.2.2.1.2.2.2.2.2.2.2.1 2), .int (K.2.2.2.2.1.2.2.2.2.2.2.2.1 3)])) :: .inl (7, K.2.2.2.2.2.1) :: .inl (30, K.2.2.2.2.2.2) :: .inr (.inr (11, [.ref 46, .ref 47, .ref 48, .int (u.2.2.2.2.2 0), .ref 49, .ref 50, .int (u.2.2.2.2.2 1), .int (u.2.2.2.2.2 2)])) :: .inl (7, u.1) :: .inl (268, u.2.1) :: .inl (268, u.2.2.1) :: .inl (24, u.2.2.2.1) :: .inl (6, u.2.2.2.2.1) :: tl
theorem wl_0 {K : zKK} {u : zU} {tl : List zC} : (wld K u tl)[0]? = some (.inr (.inr (10, [.ref 1, .ref 3, .ref 23, .ref 43, .ref 44, .int (K.1)]))) := rfl
theorem wl_1 {K : zKK} {u : zU} {tl : List zC} : (wld K u tl)[1]? = some (.inr (.inr (7, [.ref 2, .int (K.2.1 0), .int (K.2.1 1), .int (K.2.1 2), .int (K.2.1 3), .int (K.2.1 4), .int (K.2.1 5), .int (K.2.1 6), .int (K.2.1 7)]))) := rfl
theorem wl_2 {K : zKK} {u : zU} {tl : List zC} : (wld K u tl)[2]? = some (.inl (24, K.2.2.1)) := rfl
theorem wl_3 {K : zKK} {u : zU} {tl : List zC} : (wld K u tl)[3]? = some (.inr (.inr (6, [.ref 4, .ref 5, .ref 18, .ref 19, .ref 20, .ref 21, .ref 22, .int (K.2.2.2.1.2.2.2.2.2.2.2.2 0), .int (K.2.2.2.1.2.2.2.2.2.2.2.2 1), .int (K.2.2.2.1.2.2.2.2.2.2.2.2 2), .int (K.2.2.2.1.2.2.2.2.2.2.2.2 3)]))) := rfl
theorem wl_4 {K : zKK} {u : zU} {tl : List zC} : (wld K u tl)[4]? = some (.inr (.inl (1, 30, K.2.2.2.1.1))) := rfl
theorem wl_5 {K : zKK} {u : zU} {tl : List zC} : (wld K u tl)[5]? = some (.inr (.inl (0, 6, lrow 6))) := rfl
theorem wl_6 {K : zKK} {u : zU} {tl : List zC} : (wld K u tl)[6]? = some (.inr (.inr (4, [.ref 7, .int (K.2.2.2.1.2.2.1 0)]))) := rfl
theorem wl_7 {K : zKK} {u : zU} {tl : List zC} : (wld K u tl)[7]? = some (.inl (7, K.2.2.2.1.2.1 0)) := rfl
theorem wl_8 {K : zKK} {u : zU} {tl : List zC} : (wld K u tl)[8]? = some (.inr (.inr (4, [.ref 9, .int (K.2.2.2.1.2.2.1 1)]))) := rfl
theorem wl_9 {K : zKK} {u : zU} {tl : List zC} : (wld K u tl)[9]? = some (.inl (7, K.2.2.2.1.2.1 1)) := rfl
theorem wl_10 {K : zKK} {u : zU} {tl : List zC} : (wld K u tl)[10]? = some (.inr (.inr (4, [.ref 11, .int (K.2.2.2.1.2.2.1 2)]))) := rfl
theorem wl_11 {K : zKK} {u : zU} {tl : List zC} : (wld K u tl)[11]? = some (.inl (7, K.2.2.2.1.2.1 2)) := rfl
theorem wl_12 {K : zKK} {u : zU} {tl : List zC} : (wld K u tl)[12]? = some (.inr (.inr (4, [.ref 13, .int (K.2.2.2.1.2.2.1 3)]))) := rfl
theorem wl_13 {K : zKK} {u : zU} {tl : List zC} : (wld K u tl)[13]? = some (.inl (7, K.2.2.2.1.2.1 3)) := rfl
theorem wl_14 {K : zKK} {u : zU} {tl : List zC} : (wld K u tl)[14]? = some (.inr (.inr (4, [.ref 15, .int (K.2.2.2.1.2.2.1 4)]))) := rfl
theorem wl_15 {K : zKK} {u : zU} {tl : List zC} : (wld K u tl)[15]? = some (.inl (7, K.2.2.2.1.2.1 4)) := rfl
theorem wl_16 {K : zKK} {u : zU} {tl : List zC} : (wld K u tl)[16]? = some (.inr (.inr (4, [.ref 17, .int (K.2.2.2.1.2.2.1 5)]))) := rfl
theorem wl_17 {K : zKK} {u : zU} {tl : List zC} : (wld K u tl)[17]? = some (.inl (7, K.2.2.2.1.2.1 5)) := rfl
theorem wl_18 {K : zKK} {u : zU} {tl : List zC} : (wld K u tl)[18]? = some (.inr (.inl (1, 10, K.2.2.2.1.2.2.2.1))) := rfl
theorem wl_19 {K : zKK} {u : zU} {tl : List zC} : (wld K u tl)[19]? = some (.inr (.inl (1, 10, K.2.2.2.1.2.2.2.2.1))) := rfl
theorem wl_20 {K : zKK} {u : zU} {tl : List zC} : (wld K u tl)[20]? = some (.inl (2, K.2.2.2.1.2.2.2.2.2.1)) := rfl
theorem wl_21 {K : zKK} {u : zU} {tl : List zC} : (wld K u tl)[21]? = some (.inl (10, K.2.2.2.1.2.2.2.2.2.2.1)) := rfl
theorem wl_22 {K : zKK} {u : zU} {tl : List zC} : (wld K u tl)[22]? = some (.inr (.inr (0, [.int (K.2.2.2.1.2.2.2.2.2.2.2.1 0), .int (K.2.2.2.1.2.2.2.2.2.2.2.1 1), .int (K.2.2.2.1.2.2.2.2.2.2.2.1 2), .int (K.2.2.2.1.2.2.2.2.2.2.2.1 3)]))) := rfl
theorem wl_23 {K : zKK} {u : zU} {tl : List zC} : (wld K u tl)[23]? = some (.inr (.inr (6, [.ref 24, .ref 25, .ref 38, .ref 39, .ref 40, .ref 41, .ref 42, .int (K.2.2.2.2.1.2.2.2.2.2.2.2.2 0), .int (K.2.2.2.2.1.2.2.2.2.2.2.2.2 1), .int (K.2.2.2.2.1.2.2.2.2.2.2.2.2 2), .int (K.2.2.2.2.1.2.2.2.2.2.2.2.2 3)]))) := rfl
theorem wl_24 {K : zKK} {u : zU} {tl : List zC} : (wld K u tl)[24]? = some (.inr (.inl (1, 30, K.2.2.2.2.1.1))) := rfl
theorem wl_25 {K : zKK} {u : zU} {tl : List zC} : (wld K u tl)[25]? = some (.inr (.inl (0, 6, lrow 26))) := rfl
theorem wl_26 {K : zKK} {u : zU} {tl : List zC} : (wld K u tl)[26]? = some (.inr (.inr (4, [.ref 27, .int (K.2.2.2.2.1.2.2.1 0)]))) := rfl
theorem wl_27 {K : zKK} {u : zU} {tl : List zC} : (wld K u tl)[27]? = some (.inl (7, K.2.2.2.2.1.2.1 0)) := rfl
theorem wl_28 {K : zKK} {u : zU} {tl : List zC} : (wld K u tl)[28]? = some (.inr (.inr (4, [.ref 29, .int (K.2.2.2.2.1.2.2.1 1)]))) := rfl
theorem wl_29 {K : zKK} {u : zU} {tl : List zC} : (wld K u tl)[29]? = some (.inl (7, K.2.2.2.2.1.2.1 1)) := rfl
theorem wl_30 {K : zKK} {u : zU} {tl : List zC} : (wld K u tl)[30]? = some (.inr (.inr (4, [.ref 31, .int (K.2.2.2.2.1.2.2.1 2)]))) := rfl
theorem wl_31 {K : zKK} {u : zU} {tl : List zC} : (wld K u tl)[31]? = some (.inl (7, K.2.2.2.2.1.2.1 2)) := rfl
theorem wl_32 {K : zKK} {u : zU} {tl : List zC} : (wld K u tl)[32]? = some (.inr (.inr (4, [.ref 33, .int (K.2.2.2.2.1.2.2.1 3)]))) := rfl
theorem wl_33 {K : zKK} {u : zU} {tl : List zC} : (wld K u tl)[33]? = some (.inl (7, K.2.2.2.2.1.2.1 3)) := rfl
theorem wl_34 {K : zKK} {u : zU} {tl : List zC} : (wld K u tl)[34]? = some (.inr (.inr (4, [.ref 35, .int (K.2.2.2.2.1.2.2.1 4)]))) := rfl
theorem wl_35 {K : zKK} {u : zU} {tl : List zC} : (wld K u tl)[35]? = some (.inl (7, K.2.2.2.2.1.2.1 4)) := rfl
theorem wl_36 {K : zKK} {u : zU} {tl : List zC} : (wld K u tl)[36]? = some (.inr (.inr (4, [.ref 37, .int (K.2.2.2.2.1.2.2.1 5)]))) := rfl
theorem wl_37 {K : zKK} {u : zU} {tl : List zC} : (wld K u tl)[37]? = some (.inl (7, K.2.2.2.2.1.2.1 5)) := rfl
theorem wl_38 {K : zKK} {u : zU} {tl : List zC} : (wld K u tl)[38]? = some (.inr (.inl (1, 10, K.2.2.2.2.1.2.2.2.1))) := rfl
theorem wl_39 {K : zKK} {u : zU} {tl : List zC} : (wld K u tl)[39]? = some (.inr (.inl (1, 10, K.2.2.2.2.1.2.2.2.2.1))) := rfl
theorem wl_40 {K : zKK} {u : zU} {tl : List zC} : (wld K u tl)[40]? = some (.inl (2, K.2.2.2.2.1.2.2.2.2.2.1)) := rfl
theorem wl_41 {K : zKK} {u : zU} {tl : List zC} : (wld K u tl)[41]? = some (.inl (10, K.2.2.2.2.1.2.2.2.2.2.2.1)) := rfl
theorem wl_42 {K : zKK} {u : zU} {tl : List zC} : (wld K u tl)[42]? = some (.inr (.inr (0, [.int (K.2.2.2.2.1.2.2.2.2.2.2.2.1 0), .int (K.2.2.2.2.1.2.2.2.2.2.2.2.1 1), .int (K.2.2.2.2.1.2.2.2.2.2.2.2.1 2), .int (K.2.2.2.2.1.2.2.2.2.2.2.2.1 3)]))) := rfl
theorem wl_43 {K : zKK} {u : zU} {tl : List zC} : (wld K u tl)[43]? = some (.inl (7, K.2.2.2.2.2.1)) := rfl
theorem wl_44 {K : zKK} {u : zU} {tl : List zC} : (wld K u tl)[44]? = some (.inl (30, K.2.2.2.2.2.2)) := rfl
theorem wl_45 {K : zKK} {u : zU} {tl : List zC} : (wld K u tl)[45]? = some (.inr (.inr (11, [.ref 46, .ref 47, .ref 48, .int (u.2.2.2.2.2 0), .ref 49, .ref 50, .int (u.2.2.2.2.2 1), .int (u.2.2.2.2.2 2)]))) := rfl
theorem wl_46 {K : zKK} {u : zU} {tl : List zC} : (wld K u tl)[46]? = some (.inl (7, u.1)) := rfl
theorem wl_47 {K : zKK} {u : zU} {tl : List zC} : (wld K u tl)[47]? = some (.inl (268, u.2.1)) := rfl
theorem wl_48 {K : zKK} {u : zU} {tl : List zC} : (wld K u tl)[48]? = some (.inl (268, u.2.2.1)) := rfl
theorem wl_49 {K : zKK} {u : zU} {tl : List zC} : (wld K u tl)[49]? = some (.inl (24, u.2.2.2.1)) := rfl
theorem wl_50 {K : zKK} {u : zU} {tl : List zC} : (wld K u tl)[50]? = some (.inl (6, u.2.2.2.2.1)) := rfl
theorem wl_tl {K : zKK} {u : zU} {tl : List zC} (j : Nat) : (wld K u tl)[51 + j]? = tl[j]? := by
  rw [Nat.add_comm]; rfl
theorem wl_len {K : zKK} {u : zU} {tl : List zC} : (wld K u tl).length = 51 + tl.length := by
  rw [Nat.add_comm]; rfl
theorem wl_law {K : zKK} {u : zU} {tl : List zC} {l : Nat} (hl : l < 6) : (wld K u tl)[6 + 2 * l]? = some (.inr (.inr (4, [.ref (7 + 2 * l), .int (K.2.2.2.1.2.2.1 l)]))) := by
  rcases (show l = 0 ∨ l = 1 ∨ l = 2 ∨ l = 3 ∨ l = 4 ∨ l = 5 by omega) with rfl | rfl | rfl | rfl | rfl | rfl <;> rfl
theorem wl_cond {K : zKK} {u : zU} {tl : List zC} {l : Nat} (hl : l < 6) : (wld K u tl)[7 + 2 * l]? = some (.inl (7, K.2.2.2.1.2.1 l)) := by
  rcases (show l = 0 ∨ l = 1 ∨ l = 2 ∨ l = 3 ∨ l = 4 ∨ l = 5 by omega) with rfl | rfl | rfl | rfl | rfl | rfl <;> rfl
theorem wl_law2 {K : zKK} {u : zU} {tl : List zC} {l : Nat} (hl : l < 6) : (wld K u tl)[26 + 2 * l]? = some (.inr (.inr (4, [.ref (27 + 2 * l), .int (K.2.2.2.2.1.2.2.1 l)]))) := by
  rcases (show l = 0 ∨ l = 1 ∨ l = 2 ∨ l = 3 ∨ l = 4 ∨ l = 5 by omega) with rfl | rfl | rfl | rfl | rfl | rfl <;> rfl
theorem wl_cond2 {K : zKK} {u : zU} {tl : List zC} {l : Nat} (hl : l < 6) : (wld K u tl)[27 + 2 * l]? = some (.inl (7, K.2.2.2.2.1.2.1 l)) := by
  rcases (show l = 0 ∨ l = 1 ∨ l = 2 ∨ l = 3 ∨ l = 4 ∨ l = 5 by omega) with rfl | rfl | rfl | rfl | rfl | rfl <;> rfl
theorem ws_46 {K : zKK} {rf s im mt rd sc : Nat → Int32} {tl : List zC} {f : Nat → Int32} : (wld K (rf, s, im, mt, rd, sc) tl).set 46 (.inl (7, f)) = wld K (f, s, im, mt, rd, sc) tl := by
  unfold wld
  dsimp only
  rfl
theorem ws_47 {K : zKK} {rf s im mt rd sc : Nat → Int32} {tl : List zC} {f : Nat → Int32} : (wld K (rf, s, im, mt, rd, sc) tl).set 47 (.inl (268, f)) = wld K (rf, f, im, mt, rd, sc) tl := by
  unfold wld
  dsimp only
  rfl
theorem ws_48 {K : zKK} {rf s im mt rd sc : Nat → Int32} {tl : List zC} {f : Nat → Int32} : (wld K (rf, s, im, mt, rd, sc) tl).set 48 (.inl (268, f)) = wld K (rf, s, f, mt, rd, sc) tl := by
  unfold wld
  dsimp only
  rfl
theorem ws_49 {K : zKK} {rf s im mt rd sc : Nat → Int32} {tl : List zC} {f : Nat → Int32} : (wld K (rf, s, im, mt, rd, sc) tl).set 49 (.inl (24, f)) = wld K (rf, s, im, f, rd, sc) tl := by
  unfold wld
  dsimp only
  rfl
theorem ws_50 {K : zKK} {rf s im mt rd sc : Nat → Int32} {tl : List zC} {f : Nat → Int32} : (wld K (rf, s, im, mt, rd, sc) tl).set 50 (.inl (6, f)) = wld K (rf, s, im, mt, f, sc) tl := by
  unfold wld
  dsimp only
  rfl
theorem wp_45_3 {K : zKK} {rf s im mt rd sc : Nat → Int32} {tl : List zC} {v : Int32} : (wld K (rf, s, im, mt, rd, sc) tl).set 45 (.inr (.inr (11, List.set [.ref 46, .ref 47, .ref 48, .int (sc 0), .ref 49, .ref 50, .int (sc 1), .int (sc 2)] 3 (.int v)))) = wld K (rf, s, im, mt, rd, upd sc 0 v) tl := by
  unfold wld
  dsimp only
  rfl
theorem wp_45_6 {K : zKK} {rf s im mt rd sc : Nat → Int32} {tl : List zC} {v : Int32} : (wld K (rf, s, im, mt, rd, sc) tl).set 45 (.inr (.inr (11, List.set [.ref 46, .ref 47, .ref 48, .int (sc 0), .ref 49, .ref 50, .int (sc 1), .int (sc 2)] 6 (.int v)))) = wld K (rf, s, im, mt, rd, upd sc 1 v) tl := by
  unfold wld
  dsimp only
  rfl
theorem wp_45_7 {K : zKK} {rf s im mt rd sc : Nat → Int32} {tl : List zC} {v : Int32} : (wld K (rf, s, im, mt, rd, sc) tl).set 45 (.inr (.inr (11, List.set [.ref 46, .ref 47, .ref 48, .int (sc 0), .ref 49, .ref 50, .int (sc 1), .int (sc 2)] 7 (.int v)))) = wld K (rf, s, im, mt, rd, upd sc 2 v) tl := by
  unfold wld
  dsimp only
  rfl
theorem wp_0_5 {tk : Int32} {tp bt rf nt : Nat → Int32} {a b : zR} {u : zU} {tl : List zC} {v : Int32} : (wld (tk, tp, bt, a, b, rf, nt) u tl).set 0 (.inr (.inr (10, List.set [.ref 1, .ref 3, .ref 23, .ref 43, .ref 44, .int tk] 5 (.int v)))) = (wld (v, tp, bt, a, b, rf, nt) u tl) := by
  unfold wld
  dsimp only
  rfl
theorem wp_1_1 {tk : Int32} {tp bt rf nt : Nat → Int32} {a b : zR} {u : zU} {tl : List zC} {v : Int32} : (wld (tk, tp, bt, a, b, rf, nt) u tl).set 1 (.inr (.inr (7, List.set [.ref 2, .int (tp 0), .int (tp 1), .int (tp 2), .int (tp 3), .int (tp 4), .int (tp 5), .int (tp 6), .int (tp 7)] 1 (.int v)))) = (wld (tk, upd tp 0 v, bt, a, b, rf, nt) u tl) := by
  unfold wld
  dsimp only
  rfl
theorem wp_1_2 {tk : Int32} {tp bt rf nt : Nat → Int32} {a b : zR} {u : zU} {tl : List zC} {v : Int32} : (wld (tk, tp, bt, a, b, rf, nt) u tl).set 1 (.inr (.inr (7, List.set [.ref 2, .int (tp 0), .int (tp 1), .int (tp 2), .int (tp 3), .int (tp 4), .int (tp 5), .int (tp 6), .int (tp 7)] 2 (.int v)))) = (wld (tk, upd tp 1 v, bt, a, b, rf, nt) u tl) := by
  unfold wld
  dsimp only
  rfl
theorem wp_1_3 {tk : Int32} {tp bt rf nt : Nat → Int32} {a b : zR} {u : zU} {tl : List zC} {v : Int32} : (wld (tk, tp, bt, a, b, rf, nt) u tl).set 1 (.inr (.inr (7, List.set [.ref 2, .int (tp 0), .int (tp 1), .int (tp 2), .int (tp 3), .int (tp 4), .int (tp 5), .int (tp 6), .int (tp 7)] 3 (.int v)))) = (wld (tk, upd tp 2 v, bt, a, b, rf, nt) u tl) := by
  unfold wld
  dsimp only
  rfl
theorem wp_1_4 {tk : Int32} {tp bt rf nt : Nat → Int32} {a b : zR} {u : zU} {tl : List zC} {v : Int32} : (wld (tk, tp, bt, a, b, rf, nt) u tl).set 1 (.inr (.inr (7, List.set [.ref 2, .int (tp 0), .int (tp 1), .int (tp 2), .int (tp 3), .int (tp 4), .int (tp 5), .int (tp 6), .int (tp 7)] 4 (.int v)))) = (wld (tk, upd tp 3 v, bt, a, b, rf, nt) u tl) := by
  unfold wld
  dsimp only
  rfl
theorem wp_1_5 {tk : Int32} {tp bt rf nt : Nat → Int32} {a b : zR} {u : zU} {tl : List zC} {v : Int32} : (wld (tk, tp, bt, a, b, rf, nt) u tl).set 1 (.inr (.inr (7, List.set [.ref 2, .int (tp 0), .int (tp 1), .int (tp 2), .int (tp 3), .int (tp 4), .int (tp 5), .int (tp 6), .int (tp 7)] 5 (.int v)))) = (wld (tk, upd tp 4 v, bt, a, b, rf, nt) u tl) := by
  unfold wld
  dsimp only
  rfl
theorem wp_1_6 {tk : Int32} {tp bt rf nt : Nat → Int32} {a b : zR} {u : zU} {tl : List zC} {v : Int32} : (wld (tk, tp, bt, a, b, rf, nt) u tl).set 1 (.inr (.inr (7, List.set [.ref 2, .int (tp 0), .int (tp 1), .int (tp 2), .int (tp 3), .int (tp 4), .int (tp 5), .int (tp 6), .int (tp 7)] 6 (.int v)))) = (wld (tk, upd tp 5 v, bt, a, b, rf, nt) u tl) := by
  unfold wld
  dsimp only
  rfl
theorem wp_1_7 {tk : Int32} {tp bt rf nt : Nat → Int32} {a b : zR} {u : zU} {tl : List zC} {v : Int32} : (wld (tk, tp, bt, a, b, rf, nt) u tl).set 1 (.inr (.inr (7, List.set [.ref 2, .int (tp 0), .int (tp 1), .int (tp 2), .int (tp 3), .int (tp 4), .int (tp 5), .int (tp 6), .int (tp 7)] 7 (.int v)))) = (wld (tk, upd tp 6 v, bt, a, b, rf, nt) u tl) := by
  unfold wld
  dsimp only
  rfl
theorem wp_1_8 {tk : Int32} {tp bt rf nt : Nat → Int32} {a b : zR} {u : zU} {tl : List zC} {v : Int32} : (wld (tk, tp, bt, a, b, rf, nt) u tl).set 1 (.inr (.inr (7, List.set [.ref 2, .int (tp 0), .int (tp 1), .int (tp 2), .int (tp 3), .int (tp 4), .int (tp 5), .int (tp 6), .int (tp 7)] 8 (.int v)))) = (wld (tk, upd tp 7 v, bt, a, b, rf, nt) u tl) := by
  unfold wld
  dsimp only
  rfl
theorem ws_2 {tk : Int32} {tp bt rf nt : Nat → Int32} {a b : zR} {u : zU} {tl : List zC} {f : Nat → Int32} : (wld (tk, tp, bt, a, b, rf, nt) u tl).set 2 (.inl (24, f)) = (wld (tk, tp, f, a, b, rf, nt) u tl) := by
  unfold wld
  dsimp only
  rfl
theorem ws_43 {tk : Int32} {tp bt rf nt : Nat → Int32} {a b : zR} {u : zU} {tl : List zC} {f : Nat → Int32} : (wld (tk, tp, bt, a, b, rf, nt) u tl).set 43 (.inl (7, f)) = (wld (tk, tp, bt, a, b, f, nt) u tl) := by
  unfold wld
  dsimp only
  rfl
theorem ws_44 {tk : Int32} {tp bt rf nt : Nat → Int32} {a b : zR} {u : zU} {tl : List zC} {f : Nat → Int32} : (wld (tk, tp, bt, a, b, rf, nt) u tl).set 44 (.inl (30, f)) = (wld (tk, tp, bt, a, b, rf, f) u tl) := by
  unfold wld
  dsimp only
  rfl
theorem wp_3_7 {tk : Int32} {tp bt rf nt : Nat → Int32} {b : zR} {u : zU} {tl : List zC} {T PF PS : Nat → Option Nat} {C : Nat → Nat → Int32} {rc g pp bn sc : Nat → Int32} {v : Int32} : (wld (tk, tp, bt, (T, C, rc, PF, PS, g, pp, bn, sc), b, rf, nt) u tl).set 3 (.inr (.inr (6, List.set [.ref 4, .ref 5, .ref 18, .ref 19, .ref 20, .ref 21, .ref 22, .int (sc 0), .int (sc 1), .int (sc 2), .int (sc 3)] 7 (.int v)))) = (wld (tk, tp, bt, (T, C, rc, PF, PS, g, pp, bn, upd sc 0 v), b, rf, nt) u tl) := by
  unfold wld
  dsimp only
  rfl
theorem wp_3_8 {tk : Int32} {tp bt rf nt : Nat → Int32} {b : zR} {u : zU} {tl : List zC} {T PF PS : Nat → Option Nat} {C : Nat → Nat → Int32} {rc g pp bn sc : Nat → Int32} {v : Int32} : (wld (tk, tp, bt, (T, C, rc, PF, PS, g, pp, bn, sc), b, rf, nt) u tl).set 3 (.inr (.inr (6, List.set [.ref 4, .ref 5, .ref 18, .ref 19, .ref 20, .ref 21, .ref 22, .int (sc 0), .int (sc 1), .int (sc 2), .int (sc 3)] 8 (.int v)))) = (wld (tk, tp, bt, (T, C, rc, PF, PS, g, pp, bn, upd sc 1 v), b, rf, nt) u tl) := by
  unfold wld
  dsimp only
  rfl
theorem wp_3_9 {tk : Int32} {tp bt rf nt : Nat → Int32} {b : zR} {u : zU} {tl : List zC} {T PF PS : Nat → Option Nat} {C : Nat → Nat → Int32} {rc g pp bn sc : Nat → Int32} {v : Int32} : (wld (tk, tp, bt, (T, C, rc, PF, PS, g, pp, bn, sc), b, rf, nt) u tl).set 3 (.inr (.inr (6, List.set [.ref 4, .ref 5, .ref 18, .ref 19, .ref 20, .ref 21, .ref 22, .int (sc 0), .int (sc 1), .int (sc 2), .int (sc 3)] 9 (.int v)))) = (wld (tk, tp, bt, (T, C, rc, PF, PS, g, pp, bn, upd sc 2 v), b, rf, nt) u tl) := by
  unfold wld
  dsimp only
  rfl
theorem wp_3_10 {tk : Int32} {tp bt rf nt : Nat → Int32} {b : zR} {u : zU} {tl : List zC} {T PF PS : Nat → Option Nat} {C : Nat → Nat → Int32} {rc g pp bn sc : Nat → Int32} {v : Int32} : (wld (tk, tp, bt, (T, C, rc, PF, PS, g, pp, bn, sc), b, rf, nt) u tl).set 3 (.inr (.inr (6, List.set [.ref 4, .ref 5, .ref 18, .ref 19, .ref 20, .ref 21, .ref 22, .int (sc 0), .int (sc 1), .int (sc 2), .int (sc 3)] 10 (.int v)))) = (wld (tk, tp, bt, (T, C, rc, PF, PS, g, pp, bn, upd sc 3 v), b, rf, nt) u tl) := by
  unfold wld
  dsimp only
  rfl
theorem ws_4 {tk : Int32} {tp bt rf nt : Nat → Int32} {b : zR} {u : zU} {tl : List zC} {T PF PS : Nat → Option Nat} {C : Nat → Nat → Int32} {rc g pp bn sc : Nat → Int32} {f : Nat → Option Nat} : (wld (tk, tp, bt, (T, C, rc, PF, PS, g, pp, bn, sc), b, rf, nt) u tl).set 4 (.inr (.inl (1, 30, f))) = (wld (tk, tp, bt, (f, C, rc, PF, PS, g, pp, bn, sc), b, rf, nt) u tl) := by
  unfold wld
  dsimp only
  rfl
theorem ws_18 {tk : Int32} {tp bt rf nt : Nat → Int32} {b : zR} {u : zU} {tl : List zC} {T PF PS : Nat → Option Nat} {C : Nat → Nat → Int32} {rc g pp bn sc : Nat → Int32} {f : Nat → Option Nat} : (wld (tk, tp, bt, (T, C, rc, PF, PS, g, pp, bn, sc), b, rf, nt) u tl).set 18 (.inr (.inl (1, 10, f))) = (wld (tk, tp, bt, (T, C, rc, f, PS, g, pp, bn, sc), b, rf, nt) u tl) := by
  unfold wld
  dsimp only
  rfl
theorem ws_19 {tk : Int32} {tp bt rf nt : Nat → Int32} {b : zR} {u : zU} {tl : List zC} {T PF PS : Nat → Option Nat} {C : Nat → Nat → Int32} {rc g pp bn sc : Nat → Int32} {f : Nat → Option Nat} : (wld (tk, tp, bt, (T, C, rc, PF, PS, g, pp, bn, sc), b, rf, nt) u tl).set 19 (.inr (.inl (1, 10, f))) = (wld (tk, tp, bt, (T, C, rc, PF, f, g, pp, bn, sc), b, rf, nt) u tl) := by
  unfold wld
  dsimp only
  rfl
theorem ws_20 {tk : Int32} {tp bt rf nt : Nat → Int32} {b : zR} {u : zU} {tl : List zC} {T PF PS : Nat → Option Nat} {C : Nat → Nat → Int32} {rc g pp bn sc : Nat → Int32} {f : Nat → Int32} : (wld (tk, tp, bt, (T, C, rc, PF, PS, g, pp, bn, sc), b, rf, nt) u tl).set 20 (.inl (2, f)) = (wld (tk, tp, bt, (T, C, rc, PF, PS, f, pp, bn, sc), b, rf, nt) u tl) := by
  unfold wld
  dsimp only
  rfl
theorem ws_21 {tk : Int32} {tp bt rf nt : Nat → Int32} {b : zR} {u : zU} {tl : List zC} {T PF PS : Nat → Option Nat} {C : Nat → Nat → Int32} {rc g pp bn sc : Nat → Int32} {f : Nat → Int32} : (wld (tk, tp, bt, (T, C, rc, PF, PS, g, pp, bn, sc), b, rf, nt) u tl).set 21 (.inl (10, f)) = (wld (tk, tp, bt, (T, C, rc, PF, PS, g, f, bn, sc), b, rf, nt) u tl) := by
  unfold wld
  dsimp only
  rfl
theorem wp_22_0 {tk : Int32} {tp bt rf nt : Nat → Int32} {b : zR} {u : zU} {tl : List zC} {T PF PS : Nat → Option Nat} {C : Nat → Nat → Int32} {rc g pp bn sc : Nat → Int32} {v : Int32} : (wld (tk, tp, bt, (T, C, rc, PF, PS, g, pp, bn, sc), b, rf, nt) u tl).set 22 (.inr (.inr (0, List.set [.int (bn 0), .int (bn 1), .int (bn 2), .int (bn 3)] 0 (.int v)))) = (wld (tk, tp, bt, (T, C, rc, PF, PS, g, pp, upd bn 0 v, sc), b, rf, nt) u tl) := by
  unfold wld
  dsimp only
  rfl
theorem wp_22_1 {tk : Int32} {tp bt rf nt : Nat → Int32} {b : zR} {u : zU} {tl : List zC} {T PF PS : Nat → Option Nat} {C : Nat → Nat → Int32} {rc g pp bn sc : Nat → Int32} {v : Int32} : (wld (tk, tp, bt, (T, C, rc, PF, PS, g, pp, bn, sc), b, rf, nt) u tl).set 22 (.inr (.inr (0, List.set [.int (bn 0), .int (bn 1), .int (bn 2), .int (bn 3)] 1 (.int v)))) = (wld (tk, tp, bt, (T, C, rc, PF, PS, g, pp, upd bn 1 v, sc), b, rf, nt) u tl) := by
  unfold wld
  dsimp only
  rfl
theorem wp_22_2 {tk : Int32} {tp bt rf nt : Nat → Int32} {b : zR} {u : zU} {tl : List zC} {T PF PS : Nat → Option Nat} {C : Nat → Nat → Int32} {rc g pp bn sc : Nat → Int32} {v : Int32} : (wld (tk, tp, bt, (T, C, rc, PF, PS, g, pp, bn, sc), b, rf, nt) u tl).set 22 (.inr (.inr (0, List.set [.int (bn 0), .int (bn 1), .int (bn 2), .int (bn 3)] 2 (.int v)))) = (wld (tk, tp, bt, (T, C, rc, PF, PS, g, pp, upd bn 2 v, sc), b, rf, nt) u tl) := by
  unfold wld
  dsimp only
  rfl
theorem wp_22_3 {tk : Int32} {tp bt rf nt : Nat → Int32} {b : zR} {u : zU} {tl : List zC} {T PF PS : Nat → Option Nat} {C : Nat → Nat → Int32} {rc g pp bn sc : Nat → Int32} {v : Int32} : (wld (tk, tp, bt, (T, C, rc, PF, PS, g, pp, bn, sc), b, rf, nt) u tl).set 22 (.inr (.inr (0, List.set [.int (bn 0), .int (bn 1), .int (bn 2), .int (bn 3)] 3 (.int v)))) = (wld (tk, tp, bt, (T, C, rc, PF, PS, g, pp, upd bn 3 v, sc), b, rf, nt) u tl) := by
  unfold wld
  dsimp only
  rfl
theorem ws_cond3 {tk : Int32} {tp bt rf nt : Nat → Int32} {b : zR} {u : zU} {tl : List zC} {T PF PS : Nat → Option Nat} {C : Nat → Nat → Int32} {rc g pp bn sc : Nat → Int32} {l : Nat} (hl : l < 6) {f : Nat → Int32} : (wld (tk, tp, bt, (T, C, rc, PF, PS, g, pp, bn, sc), b, rf, nt) u tl).set (7 + 2 * l) (.inl (7, f)) = (wld (tk, tp, bt, (T, (fun i => if i = l then f else C i), rc, PF, PS, g, pp, bn, sc), b, rf, nt) u tl) := by
  rcases (show l = 0 ∨ l = 1 ∨ l = 2 ∨ l = 3 ∨ l = 4 ∨ l = 5 by omega) with rfl | rfl | rfl | rfl | rfl | rfl <;> (unfold wld; dsimp only; rfl)
theorem wp_law3 {tk : Int32} {tp bt rf nt : Nat → Int32} {b : zR} {u : zU} {tl : List zC} {T PF PS : Nat → Option Nat} {C : Nat → Nat → Int32} {rc g pp bn sc : Nat → Int32} {l : Nat} (hl : l < 6) {v : Int32} : (wld (tk, tp, bt, (T, C, rc, PF, PS, g, pp, bn, sc), b, rf, nt) u tl).set (6 + 2 * l) (.inr (.inr (4, List.set [.ref (7 + 2 * l), .int (rc l)] 1 (.int v)))) = (wld (tk, tp, bt, (T, C, (upd rc l v), PF, PS, g, pp, bn, sc), b, rf, nt) u tl) := by
  rcases (show l = 0 ∨ l = 1 ∨ l = 2 ∨ l = 3 ∨ l = 4 ∨ l = 5 by omega) with rfl | rfl | rfl | rfl | rfl | rfl <;> (unfold wld; dsimp only; rfl)
theorem wp_23_7 {tk : Int32} {tp bt rf nt : Nat → Int32} {b : zR} {u : zU} {tl : List zC} {T PF PS : Nat → Option Nat} {C : Nat → Nat → Int32} {rc g pp bn sc : Nat → Int32} {v : Int32} : (wld (tk, tp, bt, b, (T, C, rc, PF, PS, g, pp, bn, sc), rf, nt) u tl).set 23 (.inr (.inr (6, List.set [.ref 24, .ref 25, .ref 38, .ref 39, .ref 40, .ref 41, .ref 42, .int (sc 0), .int (sc 1), .int (sc 2), .int (sc 3)] 7 (.int v)))) = (wld (tk, tp, bt, b, (T, C, rc, PF, PS, g, pp, bn, upd sc 0 v), rf, nt) u tl) := by
  unfold wld
  dsimp only
  rfl
theorem wp_23_8 {tk : Int32} {tp bt rf nt : Nat → Int32} {b : zR} {u : zU} {tl : List zC} {T PF PS : Nat → Option Nat} {C : Nat → Nat → Int32} {rc g pp bn sc : Nat → Int32} {v : Int32} : (wld (tk, tp, bt, b, (T, C, rc, PF, PS, g, pp, bn, sc), rf, nt) u tl).set 23 (.inr (.inr (6, List.set [.ref 24, .ref 25, .ref 38, .ref 39, .ref 40, .ref 41, .ref 42, .int (sc 0), .int (sc 1), .int (sc 2), .int (sc 3)] 8 (.int v)))) = (wld (tk, tp, bt, b, (T, C, rc, PF, PS, g, pp, bn, upd sc 1 v), rf, nt) u tl) := by
  unfold wld
  dsimp only
  rfl
theorem wp_23_9 {tk : Int32} {tp bt rf nt : Nat → Int32} {b : zR} {u : zU} {tl : List zC} {T PF PS : Nat → Option Nat} {C : Nat → Nat → Int32} {rc g pp bn sc : Nat → Int32} {v : Int32} : (wld (tk, tp, bt, b, (T, C, rc, PF, PS, g, pp, bn, sc), rf, nt) u tl).set 23 (.inr (.inr (6, List.set [.ref 24, .ref 25, .ref 38, .ref 39, .ref 40, .ref 41, .ref 42, .int (sc 0), .int (sc 1), .int (sc 2), .int (sc 3)] 9 (.int v)))) = (wld (tk, tp, bt, b, (T, C, rc, PF, PS, g, pp, bn, upd sc 2 v), rf, nt) u tl) := by
  unfold wld
  dsimp only
  rfl
theorem wp_23_10 {tk : Int32} {tp bt rf nt : Nat → Int32} {b : zR} {u : zU} {tl : List zC} {T PF PS : Nat → Option Nat} {C : Nat → Nat → Int32} {rc g pp bn sc : Nat → Int32} {v : Int32} : (wld (tk, tp, bt, b, (T, C, rc, PF, PS, g, pp, bn, sc), rf, nt) u tl).set 23 (.inr (.inr (6, List.set [.ref 24, .ref 25, .ref 38, .ref 39, .ref 40, .ref 41, .ref 42, .int (sc 0), .int (sc 1), .int (sc 2), .int (sc 3)] 10 (.int v)))) = (wld (tk, tp, bt, b, (T, C, rc, PF, PS, g, pp, bn, upd sc 3 v), rf, nt) u tl) := by
  unfold wld
  dsimp only
  rfl
theorem ws_24 {tk : Int32} {tp bt rf nt : Nat → Int32} {b : zR} {u : zU} {tl : List zC} {T PF PS : Nat → Option Nat} {C : Nat → Nat → Int32} {rc g pp bn sc : Nat → Int32} {f : Nat → Option Nat} : (wld (tk, tp, bt, b, (T, C, rc, PF, PS, g, pp, bn, sc), rf, nt) u tl).set 24 (.inr (.inl (1, 30, f))) = (wld (tk, tp, bt, b, (f, C, rc, PF, PS, g, pp, bn, sc), rf, nt) u tl) := by
  unfold wld
  dsimp only
  rfl
theorem ws_38 {tk : Int32} {tp bt rf nt : Nat → Int32} {b : zR} {u : zU} {tl : List zC} {T PF PS : Nat → Option Nat} {C : Nat → Nat → Int32} {rc g pp bn sc : Nat → Int32} {f : Nat → Option Nat} : (wld (tk, tp, bt, b, (T, C, rc, PF, PS, g, pp, bn, sc), rf, nt) u tl).set 38 (.inr (.inl (1, 10, f))) = (wld (tk, tp, bt, b, (T, C, rc, f, PS, g, pp, bn, sc), rf, nt) u tl) := by
  unfold wld
  dsimp only
  rfl
theorem ws_39 {tk : Int32} {tp bt rf nt : Nat → Int32} {b : zR} {u : zU} {tl : List zC} {T PF PS : Nat → Option Nat} {C : Nat → Nat → Int32} {rc g pp bn sc : Nat → Int32} {f : Nat → Option Nat} : (wld (tk, tp, bt, b, (T, C, rc, PF, PS, g, pp, bn, sc), rf, nt) u tl).set 39 (.inr (.inl (1, 10, f))) = (wld (tk, tp, bt, b, (T, C, rc, PF, f, g, pp, bn, sc), rf, nt) u tl) := by
  unfold wld
  dsimp only
  rfl
theorem ws_40 {tk : Int32} {tp bt rf nt : Nat → Int32} {b : zR} {u : zU} {tl : List zC} {T PF PS : Nat → Option Nat} {C : Nat → Nat → Int32} {rc g pp bn sc : Nat → Int32} {f : Nat → Int32} : (wld (tk, tp, bt, b, (T, C, rc, PF, PS, g, pp, bn, sc), rf, nt) u tl).set 40 (.inl (2, f)) = (wld (tk, tp, bt, b, (T, C, rc, PF, PS, f, pp, bn, sc), rf, nt) u tl) := by
  unfold wld
  dsimp only
  rfl
theorem ws_41 {tk : Int32} {tp bt rf nt : Nat → Int32} {b : zR} {u : zU} {tl : List zC} {T PF PS : Nat → Option Nat} {C : Nat → Nat → Int32} {rc g pp bn sc : Nat → Int32} {f : Nat → Int32} : (wld (tk, tp, bt, b, (T, C, rc, PF, PS, g, pp, bn, sc), rf, nt) u tl).set 41 (.inl (10, f)) = (wld (tk, tp, bt, b, (T, C, rc, PF, PS, g, f, bn, sc), rf, nt) u tl) := by
  unfold wld
  dsimp only
  rfl
theorem wp_42_0 {tk : Int32} {tp bt rf nt : Nat → Int32} {b : zR} {u : zU} {tl : List zC} {T PF PS : Nat → Option Nat} {C : Nat → Nat → Int32} {rc g pp bn sc : Nat → Int32} {v : Int32} : (wld (tk, tp, bt, b, (T, C, rc, PF, PS, g, pp, bn, sc), rf, nt) u tl).set 42 (.inr (.inr (0, List.set [.int (bn 0), .int (bn 1), .int (bn 2), .int (bn 3)] 0 (.int v)))) = (wld (tk, tp, bt, b, (T, C, rc, PF, PS, g, pp, upd bn 0 v, sc), rf, nt) u tl) := by
  unfold wld
  dsimp only
  rfl
theorem wp_42_1 {tk : Int32} {tp bt rf nt : Nat → Int32} {b : zR} {u : zU} {tl : List zC} {T PF PS : Nat → Option Nat} {C : Nat → Nat → Int32} {rc g pp bn sc : Nat → Int32} {v : Int32} : (wld (tk, tp, bt, b, (T, C, rc, PF, PS, g, pp, bn, sc), rf, nt) u tl).set 42 (.inr (.inr (0, List.set [.int (bn 0), .int (bn 1), .int (bn 2), .int (bn 3)] 1 (.int v)))) = (wld (tk, tp, bt, b, (T, C, rc, PF, PS, g, pp, upd bn 1 v, sc), rf, nt) u tl) := by
  unfold wld
  dsimp only
  rfl
theorem wp_42_2 {tk : Int32} {tp bt rf nt : Nat → Int32} {b : zR} {u : zU} {tl : List zC} {T PF PS : Nat → Option Nat} {C : Nat → Nat → Int32} {rc g pp bn sc : Nat → Int32} {v : Int32} : (wld (tk, tp, bt, b, (T, C, rc, PF, PS, g, pp, bn, sc), rf, nt) u tl).set 42 (.inr (.inr (0, List.set [.int (bn 0), .int (bn 1), .int (bn 2), .int (bn 3)] 2 (.int v)))) = (wld (tk, tp, bt, b, (T, C, rc, PF, PS, g, pp, upd bn 2 v, sc), rf, nt) u tl) := by
  unfold wld
  dsimp only
  rfl
theorem wp_42_3 {tk : Int32} {tp bt rf nt : Nat → Int32} {b : zR} {u : zU} {tl : List zC} {T PF PS : Nat → Option Nat} {C : Nat → Nat → Int32} {rc g pp bn sc : Nat → Int32} {v : Int32} : (wld (tk, tp, bt, b, (T, C, rc, PF, PS, g, pp, bn, sc), rf, nt) u tl).set 42 (.inr (.inr (0, List.set [.int (bn 0), .int (bn 1), .int (bn 2), .int (bn 3)] 3 (.int v)))) = (wld (tk, tp, bt, b, (T, C, rc, PF, PS, g, pp, upd bn 3 v, sc), rf, nt) u tl) := by
  unfold wld
  dsimp only
  rfl
theorem ws_cond23 {tk : Int32} {tp bt rf nt : Nat → Int32} {b : zR} {u : zU} {tl : List zC} {T PF PS : Nat → Option Nat} {C : Nat → Nat → Int32} {rc g pp bn sc : Nat → Int32} {l : Nat} (hl : l < 6) {f : Nat → Int32} : (wld (tk, tp, bt, b, (T, C, rc, PF, PS, g, pp, bn, sc), rf, nt) u tl).set (27 + 2 * l) (.inl (7, f)) = (wld (tk, tp, bt, b, (T, (fun i => if i = l then f else C i), rc, PF, PS, g, pp, bn, sc), rf, nt) u tl) := by
  rcases (show l = 0 ∨ l = 1 ∨ l = 2 ∨ l = 3 ∨ l = 4 ∨ l = 5 by omega) with rfl | rfl | rfl | rfl | rfl | rfl <;> (unfold wld; dsimp only; rfl)
theorem wp_law23 {tk : Int32} {tp bt rf nt : Nat → Int32} {b : zR} {u : zU} {tl : List zC} {T PF PS : Nat → Option Nat} {C : Nat → Nat → Int32} {rc g pp bn sc : Nat → Int32} {l : Nat} (hl : l < 6) {v : Int32} : (wld (tk, tp, bt, b, (T, C, rc, PF, PS, g, pp, bn, sc), rf, nt) u tl).set (26 + 2 * l) (.inr (.inr (4, List.set [.ref (27 + 2 * l), .int (rc l)] 1 (.int v)))) = (wld (tk, tp, bt, b, (T, C, (upd rc l v), PF, PS, g, pp, bn, sc), rf, nt) u tl) := by
  rcases (show l = 0 ∨ l = 1 ∨ l = 2 ∨ l = 3 ∨ l = 4 ∨ l = 5 by omega) with rfl | rfl | rfl | rfl | rfl | rfl <;> (unfold wld; dsimp only; rfl)
/-- a loop, from its end back -/
theorem zloop (P : Nat → Prop) (n : Nat) (hx : P n) (hs : ∀ i, i < n → P (i + 1) → P i) (i : Nat) (hi : i ≤ n) : P i := by
  obtain ⟨k, hk⟩ : ∃ k, i + k = n := ⟨n - i, by omega⟩
  clear hi
  induction k generalizing i with
  | zero =>
    have : i = n := by omega
    subst this
    exact hx
  | succ k ih => exact hs i (by omega) (ih (i + 1) (by omega))
theorem z_hp {X : zS} {M : zM} {d kc ks : Nat} {r : Option Value} {hp' : List zC} {pc : Nat} {L : List (Option Value)} {st : List Value} {hp hp1 : List zC} (e : hp = hp1) (k : Z X M d kc ks r hp' pc L st hp1) : Z X M d kc ks r hp' pc L st hp := e ▸ k
theorem z_L {X : zS} {M : zM} {d kc ks : Nat} {r : Option Value} {hp' : List zC} {pc : Nat} {L : List (Option Value)} {st : List Value} {hp : List zC} (L1 : List (Option Value)) (e : L = L1) (k : Z X M d kc ks r hp' pc L1 st hp) : Z X M d kc ks r hp' pc L st hp := e ▸ k
theorem z_top {X : zS} {M : zM} {d kc ks : Nat} {r : Option Value} {hp' : List zC} {pc : Nat} {L : List (Option Value)} {st : List Value} {hp : List zC} {v : Value} (w : Value) (e : v = w) (k : Z X M d kc ks r hp' pc L (w :: st) hp) : Z X M d kc ks r hp' pc L (v :: st) hp := e ▸ k
def zb (b : Bool) : Int32 := if b = true then 1 else 0
theorem zb_nar (b : Bool) : narrow .boolean (.int (zb b)) = .int (zb b) := by cases b <;> rfl
theorem zb_t : zb true = 1 := rfl
theorem zb_f : zb false = 0 := rfl
theorem zb_of {c : Prop} [Decidable c] (h : c) : zb (decide c) = 1 := by rw [decide_eq_true h]; rfl
theorem zb_no {c : Prop} [Decidable c] (h : ¬ c) : zb (decide c) = 0 := by rw [decide_eq_false h]; rfl
theorem zb_ne (b : Bool) : ¬ zb b = 0 ↔ b = true := by cases b <;> decide
theorem zb_eq (b : Bool) : zb b = 0 ↔ b = false := by cases b <;> decide
end
section
def inR (t a : Int32) : Bool := decide (0 ≤ t ∧ t < a)
set_option maxHeartbeats 4000000 in
theorem r_Mod_refuse {K : zKK} {rf s im mt rd sc : Nat → Int32} {tl : List zC} (c : Int32) (j : Nat) (hj : -c = nI j) (hb : j < 7) : Ret 0 0 0 m_Mod_refuse [.ref 45, .int c] (wld K (rf, s, im, mt, rd, sc) tl) (some (.int c)) (wld K (upd rf j (rf j + 1), s, im, mt, rd, sc) tl) := by
  refine Ret.of (n := 0) (by decide) (rfl) rfl (fun X => ?_)
  refine z_aload_n d_Mod_refuse_0 rfl 1 rfl ?_
  refine z_get d_Mod_refuse_1 4 rfl fl_Mod_7_11 wl_45 rfl ?_
  refine z_iload_n d_Mod_refuse_4 rfl 5 rfl ?_
  refine z_ineg d_Mod_refuse_5 6 rfl ?_
  refine z_dup2 d_Mod_refuse_6 rfl rfl 7 rfl ?_
  refine z_iaload d_Mod_refuse_7 (j) 8 rfl wl_46 (hj) (hb) (by decide) ?_
  refine z_iconst d_Mod_refuse_8 1 (by decide) 9 rfl ?_
  refine z_iadd d_Mod_refuse_9 10 rfl ?_
  refine z_iastore d_Mod_refuse_10 (j) 11 rfl wl_46 (hj) (hb) (by decide) ?_
  refine z_hp ws_46 ?_
  refine z_iload_n d_Mod_refuse_11 rfl 12 rfl ?_
  exact z_ireturn d_Mod_refuse_12 (rfl) (rfl)
set_option maxHeartbeats 4000000 in
theorem r_Mod_isIn {hp : List zC} (v n : Int32) : Ret 0 0 0 m_Mod_isIn [.int v, .int n] (hp) (some (.int (zb (inR v n)))) (hp) := by
  refine Ret.of (n := 0) (by decide) (zb_nar _) rfl (fun X => ?_)
  refine z_iload_n d_Mod_isIn_0 rfl 1 rfl ?_
  refine z_if_lt d_Mod_isIn_1 13 4 (by decide) rfl (fun h1 => ?_) (fun h1 => ?_)
  · refine z_iconst d_Mod_isIn_13 0 (by decide) 14 rfl ?_
    exact z_ireturn d_Mod_isIn_14 (by first | (simp [zb, inR, *]; done) | (simp_all [zb, inR, ← Int32.not_le]; done)) (rfl)
  · refine z_iload_n d_Mod_isIn_4 rfl 5 rfl ?_
    refine z_iload_n d_Mod_isIn_5 rfl 6 rfl ?_
    refine z_icmp_ge d_Mod_isIn_6 13 9 (by decide) rfl (fun h2 => ?_) (fun h2 => ?_)
    · refine z_iconst d_Mod_isIn_13 0 (by decide) 14 rfl ?_
      exact z_ireturn d_Mod_isIn_14 (by first | (simp [zb, inR, *]; done) | (simp_all [zb, inR, ← Int32.not_le]; done)) (rfl)
    · refine z_iconst d_Mod_isIn_9 1 (by decide) 10 rfl ?_
      refine z_goto d_Mod_isIn_10 14 (by decide) ?_
      exact z_ireturn d_Mod_isIn_14 (by first | (simp [zb, inR, *]; done) | (simp_all [zb, inR, ← Int32.not_le]; done)) (rfl)
set_option maxHeartbeats 4000000 in
theorem r_Mod_within {hp : List zC} (v a b : Int32) : Ret 0 0 0 m_Mod_within [.int v, .int a, .int b] (hp) (some (.int (if v < a then -4 else if b < v then -6 else 0))) (hp) := by
  refine Ret.of (n := 0) (by decide) (rfl) rfl (fun X => ?_)
  refine z_iload_n d_Mod_within_0 rfl 1 rfl ?_
  refine z_iload_n d_Mod_within_1 rfl 2 rfl ?_
  refine z_icmp_ge d_Mod_within_2 10 5 (by decide) rfl (fun h1 => ?_) (fun h1 => ?_)
  · refine z_iload_n d_Mod_within_10 rfl 11 rfl ?_
    refine z_iload_n d_Mod_within_11 rfl 12 rfl ?_
    refine z_icmp_le d_Mod_within_12 20 15 (by decide) rfl (fun h2 => ?_) (fun h2 => ?_)
    · refine z_iconst d_Mod_within_20 0 (by decide) 21 rfl ?_
      exact z_ireturn d_Mod_within_21 (by first | (simp [zb, *]; done) | (simp_all [zb, ← Int32.not_le]; done)) (rfl)
    · refine z_bipush d_Mod_within_15 (-6) (by decide) 17 rfl ?_
      refine z_goto d_Mod_within_17 21 (by decide) ?_
      exact z_ireturn d_Mod_within_21 (by first | (simp [zb, *]; done) | (simp_all [zb, ← Int32.not_le]; done)) (rfl)
  · refine z_bipush d_Mod_within_5 (-4) (by decide) 7 rfl ?_
    refine z_goto d_Mod_within_7 21 (by decide) ?_
    exact z_ireturn d_Mod_within_21 (by first | (simp [zb, *]; done) | (simp_all [zb, ← Int32.not_le]; done)) (rfl)
set_option maxHeartbeats 4000000 in
theorem r_Mod_isTelling {K : zKK} {rf s im mt rd sc : Nat → Int32} {tl : List zC} (t : Int32) : Ret 1 0 0 m_Mod_isTelling [.ref 45, .int t] (wld K (rf, s, im, mt, rd, sc) tl) (some (.int (zb (inR t (s 0))))) (wld K (rf, s, im, mt, rd, sc) tl) := by
  refine Ret.of (n := 0) (by decide) (zb_nar _) rfl (fun X => ?_)
  refine z_iload_n d_Mod_isTelling_0 rfl 1 rfl ?_
  refine z_aload_n d_Mod_isTelling_1 rfl 2 rfl ?_
  refine z_get d_Mod_isTelling_2 5 rfl fl_Mod_13_11 wl_45 rfl ?_
  refine z_iconst d_Mod_isTelling_5 0 (by decide) 6 rfl ?_
  refine z_iaload d_Mod_isTelling_6 (0) 7 rfl wl_47 (rfl) (by omega) (by decide) ?_
  refine z_invs d_Mod_isTelling_7 10 rfl hm_Mod_isIn lk_Mod_25 st_Mod_isIn (r_Mod_isIn _ _) rfl rfl (by decide) rfl rfl (Nat.le_of_ble_eq_true rfl) ?_
  exact z_ireturn d_Mod_isTelling_10 (by first | (simp [zb, *]; done) | (simp_all [zb, ← Int32.not_le]; done)) (rfl)
set_option maxHeartbeats 4000000 in
theorem r_Mod_isLaw {hp : List zC} (l : Int32) : Ret 1 0 0 m_Mod_isLaw [.int l] (hp) (some (.int (zb (inR l 6)))) (hp) := by
  refine Ret.of (n := 0) (by decide) (zb_nar _) rfl (fun X => ?_)
  refine z_iload_n d_Mod_isLaw_0 rfl 1 rfl ?_
  refine z_bipush d_Mod_isLaw_1 6 (by decide) 3 rfl ?_
  refine z_invs d_Mod_isLaw_3 6 rfl hm_Mod_isIn lk_Mod_25 st_Mod_isIn (r_Mod_isIn _ _) rfl rfl (by decide) rfl rfl (Nat.le_of_ble_eq_true rfl) ?_
  exact z_ireturn d_Mod_isLaw_6 (by first | (simp [zb, *]; done) | (simp_all [zb, ← Int32.not_le]; done)) (rfl)
set_option maxHeartbeats 4000000 in
theorem r_Mod_get {K : zKK} {rf s im mt rd sc : Nat → Int32} {tl : List zC} (t k : Int32) (i j : Nat) (ht : t = nI i) (hk : k = nI j) (hb : 6 + 6 * i + j < 268) : Ret 0 0 0 m_Mod_get [.ref 45, .int t, .int k] (wld K (rf, s, im, mt, rd, sc) tl) (some (.int (s (6 + 6 * i + j)))) (wld K (rf, s, im, mt, rd, sc) tl) := by
  subst ht
  subst hk
  refine Ret.of (n := 0) (by decide) (rfl) rfl (fun X => ?_)
  refine z_aload_n d_Mod_get_0 rfl 1 rfl ?_
  refine z_get d_Mod_get_1 4 rfl fl_Mod_13_11 wl_45 rfl ?_
  refine z_bipush d_Mod_get_4 6 (by decide) 6 rfl ?_
  refine z_bipush d_Mod_get_6 6 (by decide) 8 rfl ?_
  refine z_iload_n d_Mod_get_8 rfl 9 rfl ?_
  refine z_imul d_Mod_get_9 10 rfl ?_
  refine z_iadd d_Mod_get_10 11 rfl ?_
  refine z_iload_n d_Mod_get_11 rfl 12 rfl ?_
  refine z_iadd d_Mod_get_12 13 rfl ?_
  refine z_iaload d_Mod_get_13 (((6 + (6 * i)) + j)) 14 rfl wl_47 (by show ((nI 6 + (nI 6 * nI i)) + nI j) = _; simp only [pk_mul, nI_add]) (by omega) (by decide) ?_
  exact z_ireturn d_Mod_get_14 (by first | (simp [zb, *]; done) | (simp_all [zb, ← Int32.not_le]; done)) (rfl)
set_option maxHeartbeats 4000000 in
theorem r_Mod_becomes {K : zKK} {rf s im mt rd sc : Nat → Int32} {tl : List zC} (a v : Int32) (j : Nat) (ha : a = nI j) (hb : j < 268) : Ret 0 0 0 m_Mod_becomes [.ref 45, .int a, .int v] (wld K (rf, s, im, mt, rd, sc) tl) (some (.int (s j))) (wld K (rf, upd s j v, im, mt, rd, sc) tl) := by
  subst ha
  refine Ret.of (n := 1) (by decide) (rfl) rfl (fun X => ?_)
  refine z_aload_n d_Mod_becomes_0 rfl 1 rfl ?_
  refine z_get d_Mod_becomes_1 4 rfl fl_Mod_13_11 wl_45 rfl ?_
  refine z_iload_n d_Mod_becomes_4 rfl 5 rfl ?_
  refine z_iaload d_Mod_becomes_5 (j) 6 rfl wl_47 (rfl) (by omega) (by decide) ?_
  refine z_istore_n d_Mod_becomes_6 7 rfl (by decide) rfl ?_
  refine z_aload_n d_Mod_becomes_7 rfl 8 rfl ?_
  refine z_get d_Mod_becomes_8 11 rfl fl_Mod_13_11 wl_45 rfl ?_
  refine z_iload_n d_Mod_becomes_11 rfl 12 rfl ?_
  refine z_iload_n d_Mod_becomes_12 rfl 13 rfl ?_
  refine z_iastore d_Mod_becomes_13 (j) 14 rfl wl_47 (rfl) (by omega) (by decide) ?_
  refine z_hp ws_47 ?_
  refine z_iload_n d_Mod_becomes_14 rfl 15 rfl ?_
  exact z_ireturn d_Mod_becomes_15 (by first | (simp [zb, *]; done) | (simp_all [zb, ← Int32.not_le]; done)) (rfl)
end
section
/-! what the methods answer, as functions of the reference's row s -/
def mkd (x k : Int32) : Bool := decide ((x >>> (k &&& 31)) &&& 1 = 1)
def kdV (mk yr ak : Int32) : Int32 := if ak = 1 then 5 else if (mkd mk 5 && !mkd mk 6) = true then 3 else if mkd mk 4 = true then (if mkd mk 3 = true then 2 else 1) else if 20 ≤ yr then 4 else 0
def wtV (sc mk yr ak : Int32) : Int32 := if ak = 1 then 1 else if (mkd mk 5 && !mkd mk 6) = true then 5 else if mkd mk 4 = true then (if mkd mk 3 = true then 15 + (if sc < 0 then 0 else sc) else 15) else if 20 ≤ yr then 8 - yr / 20 else 8
def rtV (v g y : Int32) : Int32 := if v < 0 then -9 else 100 * v / (100 + g * y)
def hvV (s : Nat → Int32) (t w : Nat) : Int32 := if s 2 = 1 then rtV (s (6 + 6 * t + w)) (s (4 + w)) (s (6 + 6 * t + 4)) else s (6 + 6 * t + w)
def mts (s : Nat → Int32) (t l k : Nat) : Bool :=
  if k < 4 then decide (s (6 + 6 * t + k / 2) < 0) || (if k % 2 = 0 then decide (s (186 + 8 * l + k) ≤ hvV s t (k / 2)) else decide (hvV s t (k / 2) ≤ s (186 + 8 * l + k)))
  else if k = 4 then decide (s (6 + 6 * t + 2) < 0) || decide ((s (186 + 8 * l + 4) >>> (s (6 + 6 * t + 2) &&& 31)) &&& 1 = 1)
  else if k = 5 then decide (s (186 + 8 * l + 5) &&& (s (6 + 6 * t + 3) ^^^ -1) = 0)
  else decide (s (186 + 8 * l + 6) &&& s (6 + 6 * t + 3) = 0)
def fit (s : Nat → Int32) (t l : Nat) (w : Int32) : Bool := (List.range 7).all (fun k => !decide ((w >>> (nI k &&& 31)) &&& 1 = 0) || mts s t l k)
theorem fit_iff {s : Nat → Int32} {t l : Nat} {w : Int32} : fit s t l w = true ↔ ∀ k, k < 7 → (w >>> (nI k &&& 31)) &&& 1 = 0 → mts s t l k = true := by
  unfold fit
  rw [List.all_eq_true]
  refine ⟨fun h k hk hb => ?_, fun h k hk => ?_⟩
  · have := h k (List.mem_range.mpr hk)
    simpa [hb] using this
  · have := h k (List.mem_range.mp hk)
    by_cases hb : (w >>> (nI k &&& 31)) &&& 1 = 0
    · simp [hb, this hb]
    · simp [hb]
theorem fit_no {s : Nat → Int32} {t l : Nat} {w : Int32} (h : ¬ ∀ k, k < 7 → (w >>> (nI k &&& 31)) &&& 1 = 0 → mts s t l k = true) : fit s t l w = false := by
  cases hf : fit s t l w with
  | false => rfl
  | true => exact absurd (fit_iff.mp hf) h
def lwTo (s : Nat → Int32) (t : Nat) : Nat → Int32
  | 0 => 0
  | i + 1 => lwTo s t i ||| (if fit s t i 0 = true then 1 <<< (nI i &&& 31) else 0)
def sm (f : Nat → Int32) : Nat → Int32
  | 0 => 0
  | n + 1 => sm f n + f n
/-- the divisor of what is put right is no 0 -/
def NZ (s : Nat → Int32) (n : Nat) : Prop := ∀ t, t < n → ∀ w, w < 2 → ¬ 100 + s (4 + w) * s (6 + 6 * t + 4) = 0
set_option maxHeartbeats 4000000 in
theorem r_Mod_isMarked {K : zKK} {rf s im mt rd sc : Nat → Int32} {tl : List zC} (t k : Int32) (i : Nat) (ht : t = nI i) (hi : i < 30) : Ret 1 0 0 m_Mod_isMarked [.ref 45, .int t, .int k] (wld K (rf, s, im, mt, rd, sc) tl) (some (.int (zb (mkd (s (6 + 6 * i + 3)) k)))) (wld K (rf, s, im, mt, rd, sc) tl) := by
  subst ht
  refine Ret.of (n := 0) (by decide) (zb_nar _) rfl (fun X => ?_)
  refine z_aload_n d_Mod_isMarked_0 rfl 1 rfl ?_
  refine z_iload_n d_Mod_isMarked_1 rfl 2 rfl ?_
  refine z_iconst d_Mod_isMarked_2 3 (by decide) 3 rfl ?_
  refine z_invv d_Mod_isMarked_3 6 rfl hm_Mod_get lk_Mod_66 im_Mod_get sl_Mod_Mod_get rfl wl_45 (r_Mod_get _ _ (i) (3) rfl rfl (by omega)) rfl rfl (by decide) rfl rfl (Nat.le_of_ble_eq_true rfl) ?_
  refine z_iload_n d_Mod_isMarked_6 rfl 7 rfl ?_
  refine z_ishr d_Mod_isMarked_7 8 rfl ?_
  refine z_iconst d_Mod_isMarked_8 1 (by decide) 9 rfl ?_
  refine z_iand d_Mod_isMarked_9 10 rfl ?_
  refine z_iconst d_Mod_isMarked_10 1 (by decide) 11 rfl ?_
  refine z_icmp_ne d_Mod_isMarked_11 18 14 (by decide) rfl (fun h1 => ?_) (fun h1 => ?_)
  · refine z_iconst d_Mod_isMarked_18 0 (by decide) 19 rfl ?_
    exact z_ireturn d_Mod_isMarked_19 (by simp [zb, mkd, *]) (rfl)
  · refine z_iconst d_Mod_isMarked_14 1 (by decide) 15 rfl ?_
    refine z_goto d_Mod_isMarked_15 19 (by decide) ?_
    exact z_ireturn d_Mod_isMarked_19 (by simp [zb, mkd, *]) (rfl)
set_option maxHeartbeats 4000000 in
theorem r_Mod_kindOf {K : zKK} {rf s im mt rd sc : Nat → Int32} {tl : List zC} (t : Int32) (i : Nat) (ht : t = nI i) (hi : i < 30) : Ret 2 0 0 m_Mod_kindOf [.ref 45, .int t] (wld K (rf, s, im, mt, rd, sc) tl) (some (.int (kdV (s (6 + 6 * i + 3)) (s (6 + 6 * i + 4)) (s (6 + 6 * i + 5))))) (wld K (rf, s, im, mt, rd, sc) tl) := by
  subst ht
  refine Ret.of (n := 0) (by decide) (rfl) rfl (fun X => ?_)
  refine z_aload_n d_Mod_kindOf_0 rfl 1 rfl ?_
  refine z_iload_n d_Mod_kindOf_1 rfl 2 rfl ?_
  refine z_iconst d_Mod_kindOf_2 5 (by decide) 3 rfl ?_
  refine z_invv d_Mod_kindOf_3 6 rfl hm_Mod_get lk_Mod_66 im_Mod_get sl_Mod_Mod_get rfl wl_45 (r_Mod_get _ _ (i) (5) rfl rfl (by omega)) rfl rfl (by decide) rfl rfl (Nat.le_of_ble_eq_true rfl) ?_
  refine z_iconst d_Mod_kindOf_6 1 (by decide) 7 rfl ?_
  refine z_icmp_ne d_Mod_kindOf_7 12 10 (by decide) rfl (fun h1 => ?_) (fun h1 => ?_)
  · refine z_aload_n d_Mod_kindOf_12 rfl 13 rfl ?_
    refine z_iload_n d_Mod_kindOf_13 rfl 14 rfl ?_
    refine z_iconst d_Mod_kindOf_14 5 (by decide) 15 rfl ?_
    refine z_invv d_Mod_kindOf_15 18 rfl hm_Mod_isMarked lk_Mod_70 im_Mod_isMarked sl_Mod_Mod_isMarked rfl wl_45 (r_Mod_isMarked _ _ (i) rfl (by omega)) rfl rfl (by decide) rfl rfl (Nat.le_of_ble_eq_true rfl) ?_
    refine z_if_eq d_Mod_kindOf_18 33 21 (by decide) rfl (fun h2 => ?_) (fun h2 => ?_)
    · refine z_aload_n d_Mod_kindOf_33 rfl 34 rfl ?_
      refine z_iload_n d_Mod_kindOf_34 rfl 35 rfl ?_
      refine z_iconst d_Mod_kindOf_35 4 (by decide) 36 rfl ?_
      refine z_invv d_Mod_kindOf_36 39 rfl hm_Mod_isMarked lk_Mod_70 im_Mod_isMarked sl_Mod_Mod_isMarked rfl wl_45 (r_Mod_isMarked _ _ (i) rfl (by omega)) rfl rfl (by decide) rfl rfl (Nat.le_of_ble_eq_true rfl) ?_
      refine z_if_eq d_Mod_kindOf_39 57 42 (by decide) rfl (fun h3 => ?_) (fun h3 => ?_)
      · refine z_aload_n d_Mod_kindOf_57 rfl 58 rfl ?_
        refine z_iload_n d_Mod_kindOf_58 rfl 59 rfl ?_
        refine z_iconst d_Mod_kindOf_59 4 (by decide) 60 rfl ?_
        refine z_invv d_Mod_kindOf_60 63 rfl hm_Mod_get lk_Mod_66 im_Mod_get sl_Mod_Mod_get rfl wl_45 (r_Mod_get _ _ (i) (4) rfl rfl (by omega)) rfl rfl (by decide) rfl rfl (Nat.le_of_ble_eq_true rfl) ?_
        refine z_bipush d_Mod_kindOf_63 20 (by decide) 65 rfl ?_
        refine z_icmp_lt d_Mod_kindOf_65 72 68 (by decide) rfl (fun h4 => ?_) (fun h4 => ?_)
        · refine z_iconst d_Mod_kindOf_72 0 (by decide) 73 rfl ?_
          exact z_ireturn d_Mod_kindOf_73 (by simp_all [zb_ne, zb_eq, kdV, ← Int32.not_le]) (rfl)
        · refine z_iconst d_Mod_kindOf_68 4 (by decide) 69 rfl ?_
          refine z_goto d_Mod_kindOf_69 73 (by decide) ?_
          exact z_ireturn d_Mod_kindOf_73 (by simp_all [zb_ne, zb_eq, kdV, ← Int32.not_le]) (rfl)
      · refine z_aload_n d_Mod_kindOf_42 rfl 43 rfl ?_
        refine z_iload_n d_Mod_kindOf_43 rfl 44 rfl ?_
        refine z_iconst d_Mod_kindOf_44 3 (by decide) 45 rfl ?_
        refine z_invv d_Mod_kindOf_45 48 rfl hm_Mod_isMarked lk_Mod_70 im_Mod_isMarked sl_Mod_Mod_isMarked rfl wl_45 (r_Mod_isMarked _ _ (i) rfl (by omega)) rfl rfl (by decide) rfl rfl (Nat.le_of_ble_eq_true rfl) ?_
        refine z_if_eq d_Mod_kindOf_48 55 51 (by decide) rfl (fun h5 => ?_) (fun h5 => ?_)
        · refine z_iconst d_Mod_kindOf_55 1 (by decide) 56 rfl ?_
          exact z_ireturn d_Mod_kindOf_56 (by simp_all [zb_ne, zb_eq, kdV, ← Int32.not_le]) (rfl)
        · refine z_iconst d_Mod_kindOf_51 2 (by decide) 52 rfl ?_
          refine z_goto d_Mod_kindOf_52 56 (by decide) ?_
          exact z_ireturn d_Mod_kindOf_56 (by simp_all [zb_ne, zb_eq, kdV, ← Int32.not_le]) (rfl)
    · refine z_aload_n d_Mod_kindOf_21 rfl 22 rfl ?_
      refine z_iload_n d_Mod_kindOf_22 rfl 23 rfl ?_
      refine z_bipush d_Mod_kindOf_23 6 (by decide) 25 rfl ?_
      refine z_invv d_Mod_kindOf_25 28 rfl hm_Mod_isMarked lk_Mod_70 im_Mod_isMarked sl_Mod_Mod_isMarked rfl wl_45 (r_Mod_isMarked _ _ (i) rfl (by omega)) rfl rfl (by decide) rfl rfl (Nat.le_of_ble_eq_true rfl) ?_
      refine z_if_ne d_Mod_kindOf_28 33 31 (by decide) rfl (fun h6 => ?_) (fun h6 => ?_)
      · refine z_aload_n d_Mod_kindOf_33 rfl 34 rfl ?_
        refine z_iload_n d_Mod_kindOf_34 rfl 35 rfl ?_
        refine z_iconst d_Mod_kindOf_35 4 (by decide) 36 rfl ?_
        refine z_invv d_Mod_kindOf_36 39 rfl hm_Mod_isMarked lk_Mod_70 im_Mod_isMarked sl_Mod_Mod_isMarked rfl wl_45 (r_Mod_isMarked _ _ (i) rfl (by omega)) rfl rfl (by decide) rfl rfl (Nat.le_of_ble_eq_true rfl) ?_
        refine z_if_eq d_Mod_kindOf_39 57 42 (by decide) rfl (fun h7 => ?_) (fun h7 => ?_)
        · refine z_aload_n d_Mod_kindOf_57 rfl 58 rfl ?_
          refine z_iload_n d_Mod_kindOf_58 rfl 59 rfl ?_
          refine z_iconst d_Mod_kindOf_59 4 (by decide) 60 rfl ?_
          refine z_invv d_Mod_kindOf_60 63 rfl hm_Mod_get lk_Mod_66 im_Mod_get sl_Mod_Mod_get rfl wl_45 (r_Mod_get _ _ (i) (4) rfl rfl (by omega)) rfl rfl (by decide) rfl rfl (Nat.le_of_ble_eq_true rfl) ?_
          refine z_bipush d_Mod_kindOf_63 20 (by decide) 65 rfl ?_
          refine z_icmp_lt d_Mod_kindOf_65 72 68 (by decide) rfl (fun h8 => ?_) (fun h8 => ?_)
          · refine z_iconst d_Mod_kindOf_72 0 (by decide) 73 rfl ?_
            exact z_ireturn d_Mod_kindOf_73 (by simp_all [zb_ne, zb_eq, kdV, ← Int32.not_le]) (rfl)
          · refine z_iconst d_Mod_kindOf_68 4 (by decide) 69 rfl ?_
            refine z_goto d_Mod_kindOf_69 73 (by decide) ?_
            exact z_ireturn d_Mod_kindOf_73 (by simp_all [zb_ne, zb_eq, kdV, ← Int32.not_le]) (rfl)
        · refine z_aload_n d_Mod_kindOf_42 rfl 43 rfl ?_
          refine z_iload_n d_Mod_kindOf_43 rfl 44 rfl ?_
          refine z_iconst d_Mod_kindOf_44 3 (by decide) 45 rfl ?_
          refine z_invv d_Mod_kindOf_45 48 rfl hm_Mod_isMarked lk_Mod_70 im_Mod_isMarked sl_Mod_Mod_isMarked rfl wl_45 (r_Mod_isMarked _ _ (i) rfl (by omega)) rfl rfl (by decide) rfl rfl (Nat.le_of_ble_eq_true rfl) ?_
          refine z_if_eq d_Mod_kindOf_48 55 51 (by decide) rfl (fun h9 => ?_) (fun h9 => ?_)
          · refine z_iconst d_Mod_kindOf_55 1 (by decide) 56 rfl ?_
            exact z_ireturn d_Mod_kindOf_56 (by simp_all [zb_ne, zb_eq, kdV, ← Int32.not_le]) (rfl)
          · refine z_iconst d_Mod_kindOf_51 2 (by decide) 52 rfl ?_
            refine z_goto d_Mod_kindOf_52 56 (by decide) ?_
            exact z_ireturn d_Mod_kindOf_56 (by simp_all [zb_ne, zb_eq, kdV, ← Int32.not_le]) (rfl)
      · refine z_iconst d_Mod_kindOf_31 3 (by decide) 32 rfl ?_
        exact z_ireturn d_Mod_kindOf_32 (by simp_all [zb_ne, zb_eq, kdV, ← Int32.not_le]) (rfl)
  · refine z_iconst d_Mod_kindOf_10 5 (by decide) 11 rfl ?_
    exact z_ireturn d_Mod_kindOf_11 (by simp_all [zb_ne, zb_eq, kdV, ← Int32.not_le]) (rfl)
set_option maxHeartbeats 4000000 in
theorem r_Mod_weightOf_0 {K : zKK} {rf s im mt rd sc : Nat → Int32} {tl : List zC} (t : Int32) (i : Nat) (ht : t = nI i) (hi : i < 30) (hk : kdV (s (6 + 6 * i + 3)) (s (6 + 6 * i + 4)) (s (6 + 6 * i + 5)) = 0) : Ret 3 0 0 m_Mod_weightOf [.ref 45, .int t] (wld K (rf, s, im, mt, rd, sc) tl) (some (.int (8))) (wld K (rf, s, im, mt, rd, sc) tl) := by
  subst ht
  refine Ret.of (n := 0) (by decide) (rfl) rfl (fun X => ?_)
  refine z_aload_n d_Mod_weightOf_0 rfl 1 rfl ?_
  refine z_iload_n d_Mod_weightOf_1 rfl 2 rfl ?_
  refine z_invv d_Mod_weightOf_2 5 rfl hm_Mod_kindOf lk_Mod_73 im_Mod_kindOf sl_Mod_Mod_kindOf rfl wl_45 (r_Mod_kindOf _ (i) rfl (by omega)) rfl rfl (by decide) rfl rfl (Nat.le_of_ble_eq_true rfl) ?_
  refine z_top (.int 0) (by rw [hk]) ?_
  refine z_tabOut d_Mod_weightOf_5 83 (by decide) (by decide) ?_
  refine z_bipush d_Mod_weightOf_83 8 (by decide) 85 rfl ?_
  exact z_ireturn d_Mod_weightOf_85 (rfl) (rfl)
set_option maxHeartbeats 4000000 in
theorem r_Mod_weightOf_1 {K : zKK} {rf s im mt rd sc : Nat → Int32} {tl : List zC} (t : Int32) (i : Nat) (ht : t = nI i) (hi : i < 30) (hk : kdV (s (6 + 6 * i + 3)) (s (6 + 6 * i + 4)) (s (6 + 6 * i + 5)) = 1) : Ret 3 0 0 m_Mod_weightOf [.ref 45, .int t] (wld K (rf, s, im, mt, rd, sc) tl) (some (.int (15))) (wld K (rf, s, im, mt, rd, sc) tl) := by
  subst ht
  refine Ret.of (n := 0) (by decide) (rfl) rfl (fun X => ?_)
  refine z_aload_n d_Mod_weightOf_0 rfl 1 rfl ?_
  refine z_iload_n d_Mod_weightOf_1 rfl 2 rfl ?_
  refine z_invv d_Mod_weightOf_2 5 rfl hm_Mod_kindOf lk_Mod_73 im_Mod_kindOf sl_Mod_Mod_kindOf rfl wl_45 (r_Mod_kindOf _ (i) rfl (by omega)) rfl rfl (by decide) rfl rfl (Nat.le_of_ble_eq_true rfl) ?_
  refine z_top (.int 1) (by rw [hk]) ?_
  refine z_tabIn (off := 35) d_Mod_weightOf_5 40 (by decide) (by decide) (by decide) (by decide) ?_
  refine z_bipush d_Mod_weightOf_40 15 (by decide) 42 rfl ?_
  exact z_ireturn d_Mod_weightOf_42 (rfl) (rfl)
set_option maxHeartbeats 4000000 in
theorem r_Mod_weightOf_2 {K : zKK} {rf s im mt rd sc : Nat → Int32} {tl : List zC} (t : Int32) (i : Nat) (ht : t = nI i) (hi : i < 30) (hk : kdV (s (6 + 6 * i + 3)) (s (6 + 6 * i + 4)) (s (6 + 6 * i + 5)) = 2) : Ret 3 0 0 m_Mod_weightOf [.ref 45, .int t] (wld K (rf, s, im, mt, rd, sc) tl) (some (.int (15 + (if s (6 + 6 * i + 1) < 0 then 0 else s (6 + 6 * i + 1))))) (wld K (rf, s, im, mt, rd, sc) tl) := by
  subst ht
  refine Ret.of (n := 0) (by decide) (rfl) rfl (fun X => ?_)
  refine z_aload_n d_Mod_weightOf_0 rfl 1 rfl ?_
  refine z_iload_n d_Mod_weightOf_1 rfl 2 rfl ?_
  refine z_invv d_Mod_weightOf_2 5 rfl hm_Mod_kindOf lk_Mod_73 im_Mod_kindOf sl_Mod_Mod_kindOf rfl wl_45 (r_Mod_kindOf _ (i) rfl (by omega)) rfl rfl (by decide) rfl rfl (Nat.le_of_ble_eq_true rfl) ?_
  refine z_top (.int 2) (by rw [hk]) ?_
  refine z_tabIn (off := 38) d_Mod_weightOf_5 43 (by decide) (by decide) (by decide) (by decide) ?_
  refine z_bipush d_Mod_weightOf_43 15 (by decide) 45 rfl ?_
  refine z_aload_n d_Mod_weightOf_45 rfl 46 rfl ?_
  refine z_iload_n d_Mod_weightOf_46 rfl 47 rfl ?_
  refine z_iconst d_Mod_weightOf_47 1 (by decide) 48 rfl ?_
  refine z_invv d_Mod_weightOf_48 51 rfl hm_Mod_get lk_Mod_66 im_Mod_get sl_Mod_Mod_get rfl wl_45 (r_Mod_get _ _ (i) (1) rfl rfl (by omega)) rfl rfl (by decide) rfl rfl (Nat.le_of_ble_eq_true rfl) ?_
  refine z_if_ge d_Mod_weightOf_51 58 54 (by decide) rfl (fun h1 => ?_) (fun h1 => ?_)
  · refine z_aload_n d_Mod_weightOf_58 rfl 59 rfl ?_
    refine z_iload_n d_Mod_weightOf_59 rfl 60 rfl ?_
    refine z_iconst d_Mod_weightOf_60 1 (by decide) 61 rfl ?_
    refine z_invv d_Mod_weightOf_61 64 rfl hm_Mod_get lk_Mod_66 im_Mod_get sl_Mod_Mod_get rfl wl_45 (r_Mod_get _ _ (i) (1) rfl rfl (by omega)) rfl rfl (by decide) rfl rfl (Nat.le_of_ble_eq_true rfl) ?_
    refine z_iadd d_Mod_weightOf_64 65 rfl ?_
    exact z_ireturn d_Mod_weightOf_65 (by simp_all [← Int32.not_le]) (rfl)
  · refine z_iconst d_Mod_weightOf_54 0 (by decide) 55 rfl ?_
    refine z_goto d_Mod_weightOf_55 64 (by decide) ?_
    refine z_iadd d_Mod_weightOf_64 65 rfl ?_
    exact z_ireturn d_Mod_weightOf_65 (by simp_all [← Int32.not_le]) (rfl)
set_option maxHeartbeats 4000000 in
theorem r_Mod_weightOf_3 {K : zKK} {rf s im mt rd sc : Nat → Int32} {tl : List zC} (t : Int32) (i : Nat) (ht : t = nI i) (hi : i < 30) (hk : kdV (s (6 + 6 * i + 3)) (s (6 + 6 * i + 4)) (s (6 + 6 * i + 5)) = 3) : Ret 3 0 0 m_Mod_weightOf [.ref 45, .int t] (wld K (rf, s, im, mt, rd, sc) tl) (some (.int (5))) (wld K (rf, s, im, mt, rd, sc) tl) := by
  subst ht
  refine Ret.of (n := 0) (by decide) (rfl) rfl (fun X => ?_)
  refine z_aload_n d_Mod_weightOf_0 rfl 1 rfl ?_
  refine z_iload_n d_Mod_weightOf_1 rfl 2 rfl ?_
  refine z_invv d_Mod_weightOf_2 5 rfl hm_Mod_kindOf lk_Mod_73 im_Mod_kindOf sl_Mod_Mod_kindOf rfl wl_45 (r_Mod_kindOf _ (i) rfl (by omega)) rfl rfl (by decide) rfl rfl (Nat.le_of_ble_eq_true rfl) ?_
  refine z_top (.int 3) (by rw [hk]) ?_
  refine z_tabIn (off := 61) d_Mod_weightOf_5 66 (by decide) (by decide) (by decide) (by decide) ?_
  refine z_iconst d_Mod_weightOf_66 5 (by decide) 67 rfl ?_
  exact z_ireturn d_Mod_weightOf_67 (rfl) (rfl)
set_option maxHeartbeats 4000000 in
theorem r_Mod_weightOf_4 {K : zKK} {rf s im mt rd sc : Nat → Int32} {tl : List zC} (t : Int32) (i : Nat) (ht : t = nI i) (hi : i < 30) (hk : kdV (s (6 + 6 * i + 3)) (s (6 + 6 * i + 4)) (s (6 + 6 * i + 5)) = 4) : Ret 3 0 0 m_Mod_weightOf [.ref 45, .int t] (wld K (rf, s, im, mt, rd, sc) tl) (some (.int (8 - s (6 + 6 * i + 4) / 20))) (wld K (rf, s, im, mt, rd, sc) tl) := by
  subst ht
  refine Ret.of (n := 0) (by decide) (rfl) rfl (fun X => ?_)
  refine z_aload_n d_Mod_weightOf_0 rfl 1 rfl ?_
  refine z_iload_n d_Mod_weightOf_1 rfl 2 rfl ?_
  refine z_invv d_Mod_weightOf_2 5 rfl hm_Mod_kindOf lk_Mod_73 im_Mod_kindOf sl_Mod_Mod_kindOf rfl wl_45 (r_Mod_kindOf _ (i) rfl (by omega)) rfl rfl (by decide) rfl rfl (Nat.le_of_ble_eq_true rfl) ?_
  refine z_top (.int 4) (by rw [hk]) ?_
  refine z_tabIn (off := 63) d_Mod_weightOf_5 68 (by decide) (by decide) (by decide) (by decide) ?_
  refine z_bipush d_Mod_weightOf_68 8 (by decide) 70 rfl ?_
  refine z_aload_n d_Mod_weightOf_70 rfl 71 rfl ?_
  refine z_iload_n d_Mod_weightOf_71 rfl 72 rfl ?_
  refine z_iconst d_Mod_weightOf_72 4 (by decide) 73 rfl ?_
  refine z_invv d_Mod_weightOf_73 76 rfl hm_Mod_get lk_Mod_66 im_Mod_get sl_Mod_Mod_get rfl wl_45 (r_Mod_get _ _ (i) (4) rfl rfl (by omega)) rfl rfl (by decide) rfl rfl (Nat.le_of_ble_eq_true rfl) ?_
  refine z_bipush d_Mod_weightOf_76 20 (by decide) 78 rfl ?_
  refine z_idiv d_Mod_weightOf_78 (by decide) 79 rfl ?_
  refine z_isub d_Mod_weightOf_79 80 rfl ?_
  exact z_ireturn d_Mod_weightOf_80 (rfl) (rfl)
set_option maxHeartbeats 4000000 in
theorem r_Mod_weightOf_5 {K : zKK} {rf s im mt rd sc : Nat → Int32} {tl : List zC} (t : Int32) (i : Nat) (ht : t = nI i) (hi : i < 30) (hk : kdV (s (6 + 6 * i + 3)) (s (6 + 6 * i + 4)) (s (6 + 6 * i + 5)) = 5) : Ret 3 0 0 m_Mod_weightOf [.ref 45, .int t] (wld K (rf, s, im, mt, rd, sc) tl) (some (.int (1))) (wld K (rf, s, im, mt, rd, sc) tl) := by
  subst ht
  refine Ret.of (n := 0) (by decide) (rfl) rfl (fun X => ?_)
  refine z_aload_n d_Mod_weightOf_0 rfl 1 rfl ?_
  refine z_iload_n d_Mod_weightOf_1 rfl 2 rfl ?_
  refine z_invv d_Mod_weightOf_2 5 rfl hm_Mod_kindOf lk_Mod_73 im_Mod_kindOf sl_Mod_Mod_kindOf rfl wl_45 (r_Mod_kindOf _ (i) rfl (by omega)) rfl rfl (by decide) rfl rfl (Nat.le_of_ble_eq_true rfl) ?_
  refine z_top (.int 5) (by rw [hk]) ?_
  refine z_tabIn (off := 76) d_Mod_weightOf_5 81 (by decide) (by decide) (by decide) (by decide) ?_
  refine z_iconst d_Mod_weightOf_81 1 (by decide) 82 rfl ?_
  exact z_ireturn d_Mod_weightOf_82 (rfl) (rfl)
theorem kd_cases (mk yr ak : Int32) : (kdV mk yr ak = 5 ∧ ∀ sc, wtV sc mk yr ak = 1) ∨ (kdV mk yr ak = 3 ∧ ∀ sc, wtV sc mk yr ak = 5) ∨ (kdV mk yr ak = 2 ∧ ∀ sc, wtV sc mk yr ak = 15 + (if sc < 0 then 0 else sc)) ∨ (kdV mk yr ak = 1 ∧ ∀ sc, wtV sc mk yr ak = 15) ∨ (kdV mk yr ak = 4 ∧ ∀ sc, wtV sc mk yr ak = 8 - yr / 20) ∨ (kdV mk yr ak = 0 ∧ ∀ sc, wtV sc mk yr ak = 8) := by
  unfold kdV wtV
  by_cases h1 : ak = 1
  · simp [h1]
  · by_cases h2 : (mkd mk 5 && !mkd mk 6) = true
    · simp only [h1, h2, if_true, if_false]; simp
    · by_cases h3 : mkd mk 4 = true
      · by_cases h4 : mkd mk 3 = true
        · simp only [h1, h2, h3, h4, if_true, if_false]; simp
        · simp only [h1, h2, h3, h4, if_true, if_false]; simp
      · by_cases h5 : 20 ≤ yr
        · simp only [h1, h2, h3, h5, if_true, if_false]; simp
        · simp only [h1, h2, h3, h5, if_true, if_false]; simp
theorem r_Mod_weightOf {K : zKK} {rf s im mt rd sc : Nat → Int32} {tl : List zC} (t : Int32) (i : Nat) (ht : t = nI i) (hi : i < 30) : Ret 3 0 0 m_Mod_weightOf [.ref 45, .int t] (wld K (rf, s, im, mt, rd, sc) tl) (some (.int (wtV (s (6 + 6 * i + 1)) (s (6 + 6 * i + 3)) (s (6 + 6 * i + 4)) (s (6 + 6 * i + 5))))) (wld K (rf, s, im, mt, rd, sc) tl) := by
  rcases kd_cases (s (6 + 6 * i + 3)) (s (6 + 6 * i + 4)) (s (6 + 6 * i + 5)) with ⟨h, e⟩ | ⟨h, e⟩ | ⟨h, e⟩ | ⟨h, e⟩ | ⟨h, e⟩ | ⟨h, e⟩ <;> rw [e]
  · exact r_Mod_weightOf_5 t i ht hi h
  · exact r_Mod_weightOf_3 t i ht hi h
  · exact r_Mod_weightOf_2 t i ht hi h
  · exact r_Mod_weightOf_1 t i ht hi h
  · exact r_Mod_weightOf_4 t i ht hi h
  · exact r_Mod_weightOf_0 t i ht hi h
set_option maxHeartbeats 4000000 in
theorem r_Mod_rightOf {K : zKK} {rf s im mt rd sc : Nat → Int32} {tl : List zC} (t k : Int32) (i j : Nat) (ht : t = nI i) (hk : k = nI j) (hi : i < 30) (hj : j < 2) (hz : ¬ 100 + s (4 + j) * s (6 + 6 * i + 4) = 0) : Ret 1 0 0 m_Mod_rightOf [.ref 45, .int t, .int k] (wld K (rf, s, im, mt, rd, sc) tl) (some (.int (rtV (s (6 + 6 * i + j)) (s (4 + j)) (s (6 + 6 * i + 4))))) (wld K (rf, s, im, mt, rd, sc) tl) := by
  subst ht
  subst hk
  refine Ret.of (n := 0) (by decide) (rfl) rfl (fun X => ?_)
  refine z_aload_n d_Mod_rightOf_0 rfl 1 rfl ?_
  refine z_iload_n d_Mod_rightOf_1 rfl 2 rfl ?_
  refine z_iload_n d_Mod_rightOf_2 rfl 3 rfl ?_
  refine z_invv d_Mod_rightOf_3 6 rfl hm_Mod_get lk_Mod_66 im_Mod_get sl_Mod_Mod_get rfl wl_45 (r_Mod_get _ _ (i) (j) rfl rfl (by omega)) rfl rfl (by decide) rfl rfl (Nat.le_of_ble_eq_true rfl) ?_
  refine z_if_ge d_Mod_rightOf_6 14 9 (by decide) rfl (fun h1 => ?_) (fun h1 => ?_)
  · refine z_bipush d_Mod_rightOf_14 100 (by decide) 16 rfl ?_
    refine z_aload_n d_Mod_rightOf_16 rfl 17 rfl ?_
    refine z_iload_n d_Mod_rightOf_17 rfl 18 rfl ?_
    refine z_iload_n d_Mod_rightOf_18 rfl 19 rfl ?_
    refine z_invv d_Mod_rightOf_19 22 rfl hm_Mod_get lk_Mod_66 im_Mod_get sl_Mod_Mod_get rfl wl_45 (r_Mod_get _ _ (i) (j) rfl rfl (by omega)) rfl rfl (by decide) rfl rfl (Nat.le_of_ble_eq_true rfl) ?_
    refine z_imul d_Mod_rightOf_22 23 rfl ?_
    refine z_bipush d_Mod_rightOf_23 100 (by decide) 25 rfl ?_
    refine z_aload_n d_Mod_rightOf_25 rfl 26 rfl ?_
    refine z_get d_Mod_rightOf_26 29 rfl fl_Mod_13_11 wl_45 rfl ?_
    refine z_iconst d_Mod_rightOf_29 4 (by decide) 30 rfl ?_
    refine z_iload_n d_Mod_rightOf_30 rfl 31 rfl ?_
    refine z_iadd d_Mod_rightOf_31 32 rfl ?_
    refine z_iaload d_Mod_rightOf_32 ((4 + j)) 33 rfl wl_47 (by show (nI 4 + nI j) = _; simp only [pk_mul, nI_add]) (by omega) (by decide) ?_
    refine z_aload_n d_Mod_rightOf_33 rfl 34 rfl ?_
    refine z_iload_n d_Mod_rightOf_34 rfl 35 rfl ?_
    refine z_iconst d_Mod_rightOf_35 4 (by decide) 36 rfl ?_
    refine z_invv d_Mod_rightOf_36 39 rfl hm_Mod_get lk_Mod_66 im_Mod_get sl_Mod_Mod_get rfl wl_45 (r_Mod_get _ _ (i) (4) rfl rfl (by omega)) rfl rfl (by decide) rfl rfl (Nat.le_of_ble_eq_true rfl) ?_
    refine z_imul d_Mod_rightOf_39 40 rfl ?_
    refine z_iadd d_Mod_rightOf_40 41 rfl ?_
    refine z_idiv d_Mod_rightOf_41 hz 42 rfl ?_
    exact z_ireturn d_Mod_rightOf_42 (by simp_all [rtV, ← Int32.not_lt]) (rfl)
  · refine z_bipush d_Mod_rightOf_9 (-9) (by decide) 11 rfl ?_
    refine z_goto d_Mod_rightOf_11 42 (by decide) ?_
    exact z_ireturn d_Mod_rightOf_42 (by simp_all [rtV, ← Int32.not_lt]) (rfl)
set_option maxHeartbeats 4000000 in
theorem r_Mod_meets_0 {K : zKK} {rf s im mt rd sc : Nat → Int32} {tl : List zC} (t l : Int32) (i j : Nat) (ht : t = nI i) (hl : l = nI j) (hi : i < 30) (hj : j < 6) (hz : ∀ w, w < 2 → ¬ 100 + s (4 + w) * s (6 + 6 * i + 4) = 0) : Ret 2 0 0 m_Mod_meets [.ref 45, .int t, .int l, .int 0] (wld K (rf, s, im, mt, rd, sc) tl) (some (.int (zb (mts s i j 0)))) (wld K (rf, s, im, mt, rd, sc) tl) := by
  subst ht
  subst hl
  refine Ret.of (n := 3) (by decide) (zb_nar _) rfl (fun X => ?_)
  refine z_aload_n d_Mod_meets_0 rfl 1 rfl ?_
  refine z_get d_Mod_meets_1 4 rfl fl_Mod_13_11 wl_45 rfl ?_
  refine z_sipush d_Mod_meets_4 186 (by decide) 7 rfl ?_
  refine z_bipush d_Mod_meets_7 8 (by decide) 9 rfl ?_
  refine z_iload_n d_Mod_meets_9 rfl 10 rfl ?_
  refine z_imul d_Mod_meets_10 11 rfl ?_
  refine z_iadd d_Mod_meets_11 12 rfl ?_
  refine z_iload_n d_Mod_meets_12 rfl 13 rfl ?_
  refine z_iadd d_Mod_meets_13 14 rfl ?_
  refine z_iaload d_Mod_meets_14 (((186 + (8 * j)) + 0)) 15 rfl wl_47 (by show ((nI 186 + (nI 8 * nI j)) + nI 0) = _; simp only [pk_mul, nI_add]) (by omega) (by decide) ?_
  refine z_istore d_Mod_meets_15 17 rfl (by decide) rfl ?_
  refine z_iload_n d_Mod_meets_17 rfl 18 rfl ?_
  refine z_iconst d_Mod_meets_18 4 (by decide) 19 rfl ?_
  refine z_icmp_ge d_Mod_meets_19 109 22 (by decide) rfl (fun h => absurd h (by decide)) (fun h1 => ?_)
  refine z_iload_n d_Mod_meets_22 rfl 23 rfl ?_
  refine z_iconst d_Mod_meets_23 2 (by decide) 24 rfl ?_
  refine z_icmp_ge d_Mod_meets_24 31 27 (by decide) rfl (fun h => absurd h (by decide)) (fun h2 => ?_)
  refine z_iconst d_Mod_meets_27 0 (by decide) 28 rfl ?_
  refine z_goto d_Mod_meets_28 32 (by decide) ?_
  refine z_istore d_Mod_meets_32 34 rfl (by decide) rfl ?_
  refine z_aload_n d_Mod_meets_34 rfl 35 rfl ?_
  refine z_iload_n d_Mod_meets_35 rfl 36 rfl ?_
  refine z_iload d_Mod_meets_36 rfl 38 rfl ?_
  refine z_invv d_Mod_meets_38 41 rfl hm_Mod_get lk_Mod_66 im_Mod_get sl_Mod_Mod_get rfl wl_45 (r_Mod_get _ _ (i) (0) rfl rfl (by omega)) rfl rfl (by decide) rfl rfl (Nat.le_of_ble_eq_true rfl) ?_
  refine z_if_ge d_Mod_meets_41 46 44 (by decide) rfl (fun h3 => ?_) (fun h3 => ?_)
  · refine z_aload_n d_Mod_meets_46 rfl 47 rfl ?_
    refine z_get d_Mod_meets_47 50 rfl fl_Mod_13_11 wl_45 rfl ?_
    refine z_iconst d_Mod_meets_50 2 (by decide) 51 rfl ?_
    refine z_iaload d_Mod_meets_51 (2) 52 rfl wl_47 (rfl) (by omega) (by decide) ?_
    refine z_iconst d_Mod_meets_52 1 (by decide) 53 rfl ?_
    refine z_icmp_ne d_Mod_meets_53 66 56 (by decide) rfl (fun h4 => ?_) (fun h4 => ?_)
    · refine z_aload_n d_Mod_meets_66 rfl 67 rfl ?_
      refine z_iload_n d_Mod_meets_67 rfl 68 rfl ?_
      refine z_iload d_Mod_meets_68 rfl 70 rfl ?_
      refine z_invv d_Mod_meets_70 73 rfl hm_Mod_get lk_Mod_66 im_Mod_get sl_Mod_Mod_get rfl wl_45 (r_Mod_get _ _ (i) (0) rfl rfl (by omega)) rfl rfl (by decide) rfl rfl (Nat.le_of_ble_eq_true rfl) ?_
      refine z_istore d_Mod_meets_73 75 rfl (by decide) rfl ?_
      refine z_iload_n d_Mod_meets_75 rfl 76 rfl ?_
      refine z_iconst d_Mod_meets_76 2 (by decide) 77 rfl ?_
      refine z_irem d_Mod_meets_77 (by decide) 78 rfl ?_
      refine z_if_ne d_Mod_meets_78 96 81 (by decide) rfl (fun h => absurd (by decide) h) (fun h5 => ?_)
      refine z_iload d_Mod_meets_81 rfl 83 rfl ?_
      refine z_iload d_Mod_meets_83 rfl 85 rfl ?_
      refine z_icmp_lt d_Mod_meets_85 92 88 (by decide) rfl (fun h6 => ?_) (fun h6 => ?_)
      · refine z_iconst d_Mod_meets_92 0 (by decide) 93 rfl ?_
        refine z_goto d_Mod_meets_93 108 (by decide) ?_
        exact z_ireturn d_Mod_meets_108 (by simp_all [zb, mts, hvV, ← Int32.not_le]) (rfl)
      · refine z_iconst d_Mod_meets_88 1 (by decide) 89 rfl ?_
        refine z_goto d_Mod_meets_89 108 (by decide) ?_
        exact z_ireturn d_Mod_meets_108 (by simp_all [zb, mts, hvV, ← Int32.not_le]) (rfl)
    · refine z_aload_n d_Mod_meets_56 rfl 57 rfl ?_
      refine z_iload_n d_Mod_meets_57 rfl 58 rfl ?_
      refine z_iload d_Mod_meets_58 rfl 60 rfl ?_
      refine z_invv d_Mod_meets_60 63 rfl hm_Mod_rightOf lk_Mod_89 im_Mod_rightOf sl_Mod_Mod_rightOf rfl wl_45 (r_Mod_rightOf _ _ (i) (0) rfl rfl (by omega) (by omega) (hz _ (by decide))) rfl rfl (by decide) rfl rfl (Nat.le_of_ble_eq_true rfl) ?_
      refine z_goto d_Mod_meets_63 73 (by decide) ?_
      refine z_istore d_Mod_meets_73 75 rfl (by decide) rfl ?_
      refine z_iload_n d_Mod_meets_75 rfl 76 rfl ?_
      refine z_iconst d_Mod_meets_76 2 (by decide) 77 rfl ?_
      refine z_irem d_Mod_meets_77 (by decide) 78 rfl ?_
      refine z_if_ne d_Mod_meets_78 96 81 (by decide) rfl (fun h => absurd (by decide) h) (fun h7 => ?_)
      refine z_iload d_Mod_meets_81 rfl 83 rfl ?_
      refine z_iload d_Mod_meets_83 rfl 85 rfl ?_
      refine z_icmp_lt d_Mod_meets_85 92 88 (by decide) rfl (fun h8 => ?_) (fun h8 => ?_)
      · refine z_iconst d_Mod_meets_92 0 (by decide) 93 rfl ?_
        refine z_goto d_Mod_meets_93 108 (by decide) ?_
        exact z_ireturn d_Mod_meets_108 (by simp_all [zb, mts, hvV, ← Int32.not_le]) (rfl)
      · refine z_iconst d_Mod_meets_88 1 (by decide) 89 rfl ?_
        refine z_goto d_Mod_meets_89 108 (by decide) ?_
        exact z_ireturn d_Mod_meets_108 (by simp_all [zb, mts, hvV, ← Int32.not_le]) (rfl)
  · refine z_iconst d_Mod_meets_44 1 (by decide) 45 rfl ?_
    exact z_ireturn d_Mod_meets_45 (by simp_all [zb, mts, hvV, ← Int32.not_le]) (rfl)
set_option maxHeartbeats 4000000 in
theorem r_Mod_meets_1 {K : zKK} {rf s im mt rd sc : Nat → Int32} {tl : List zC} (t l : Int32) (i j : Nat) (ht : t = nI i) (hl : l = nI j) (hi : i < 30) (hj : j < 6) (hz : ∀ w, w < 2 → ¬ 100 + s (4 + w) * s (6 + 6 * i + 4) = 0) : Ret 2 0 0 m_Mod_meets [.ref 45, .int t, .int l, .int 1] (wld K (rf, s, im, mt, rd, sc) tl) (some (.int (zb (mts s i j 1)))) (wld K (rf, s, im, mt, rd, sc) tl) := by
  subst ht
  subst hl
  refine Ret.of (n := 3) (by decide) (zb_nar _) rfl (fun X => ?_)
  refine z_aload_n d_Mod_meets_0 rfl 1 rfl ?_
  refine z_get d_Mod_meets_1 4 rfl fl_Mod_13_11 wl_45 rfl ?_
  refine z_sipush d_Mod_meets_4 186 (by decide) 7 rfl ?_
  refine z_bipush d_Mod_meets_7 8 (by decide) 9 rfl ?_
  refine z_iload_n d_Mod_meets_9 rfl 10 rfl ?_
  refine z_imul d_Mod_meets_10 11 rfl ?_
  refine z_iadd d_Mod_meets_11 12 rfl ?_
  refine z_iload_n d_Mod_meets_12 rfl 13 rfl ?_
  refine z_iadd d_Mod_meets_13 14 rfl ?_
  refine z_iaload d_Mod_meets_14 (((186 + (8 * j)) + 1)) 15 rfl wl_47 (by show ((nI 186 + (nI 8 * nI j)) + nI 1) = _; simp only [pk_mul, nI_add]) (by omega) (by decide) ?_
  refine z_istore d_Mod_meets_15 17 rfl (by decide) rfl ?_
  refine z_iload_n d_Mod_meets_17 rfl 18 rfl ?_
  refine z_iconst d_Mod_meets_18 4 (by decide) 19 rfl ?_
  refine z_icmp_ge d_Mod_meets_19 109 22 (by decide) rfl (fun h => absurd h (by decide)) (fun h1 => ?_)
  refine z_iload_n d_Mod_meets_22 rfl 23 rfl ?_
  refine z_iconst d_Mod_meets_23 2 (by decide) 24 rfl ?_
  refine z_icmp_ge d_Mod_meets_24 31 27 (by decide) rfl (fun h => absurd h (by decide)) (fun h2 => ?_)
  refine z_iconst d_Mod_meets_27 0 (by decide) 28 rfl ?_
  refine z_goto d_Mod_meets_28 32 (by decide) ?_
  refine z_istore d_Mod_meets_32 34 rfl (by decide) rfl ?_
  refine z_aload_n d_Mod_meets_34 rfl 35 rfl ?_
  refine z_iload_n d_Mod_meets_35 rfl 36 rfl ?_
  refine z_iload d_Mod_meets_36 rfl 38 rfl ?_
  refine z_invv d_Mod_meets_38 41 rfl hm_Mod_get lk_Mod_66 im_Mod_get sl_Mod_Mod_get rfl wl_45 (r_Mod_get _ _ (i) (0) rfl rfl (by omega)) rfl rfl (by decide) rfl rfl (Nat.le_of_ble_eq_true rfl) ?_
  refine z_if_ge d_Mod_meets_41 46 44 (by decide) rfl (fun h3 => ?_) (fun h3 => ?_)
  · refine z_aload_n d_Mod_meets_46 rfl 47 rfl ?_
    refine z_get d_Mod_meets_47 50 rfl fl_Mod_13_11 wl_45 rfl ?_
    refine z_iconst d_Mod_meets_50 2 (by decide) 51 rfl ?_
    refine z_iaload d_Mod_meets_51 (2) 52 rfl wl_47 (rfl) (by omega) (by decide) ?_
    refine z_iconst d_Mod_meets_52 1 (by decide) 53 rfl ?_
    refine z_icmp_ne d_Mod_meets_53 66 56 (by decide) rfl (fun h4 => ?_) (fun h4 => ?_)
    · refine z_aload_n d_Mod_meets_66 rfl 67 rfl ?_
      refine z_iload_n d_Mod_meets_67 rfl 68 rfl ?_
      refine z_iload d_Mod_meets_68 rfl 70 rfl ?_
      refine z_invv d_Mod_meets_70 73 rfl hm_Mod_get lk_Mod_66 im_Mod_get sl_Mod_Mod_get rfl wl_45 (r_Mod_get _ _ (i) (0) rfl rfl (by omega)) rfl rfl (by decide) rfl rfl (Nat.le_of_ble_eq_true rfl) ?_
      refine z_istore d_Mod_meets_73 75 rfl (by decide) rfl ?_
      refine z_iload_n d_Mod_meets_75 rfl 76 rfl ?_
      refine z_iconst d_Mod_meets_76 2 (by decide) 77 rfl ?_
      refine z_irem d_Mod_meets_77 (by decide) 78 rfl ?_
      refine z_if_ne d_Mod_meets_78 96 81 (by decide) rfl (fun h5 => ?_) (fun h => absurd h (by decide))
      refine z_iload d_Mod_meets_96 rfl 98 rfl ?_
      refine z_iload d_Mod_meets_98 rfl 100 rfl ?_
      refine z_icmp_gt d_Mod_meets_100 107 103 (by decide) rfl (fun h6 => ?_) (fun h6 => ?_)
      · refine z_iconst d_Mod_meets_107 0 (by decide) 108 rfl ?_
        exact z_ireturn d_Mod_meets_108 (by simp_all [zb, mts, hvV, ← Int32.not_le]) (rfl)
      · refine z_iconst d_Mod_meets_103 1 (by decide) 104 rfl ?_
        refine z_goto d_Mod_meets_104 108 (by decide) ?_
        exact z_ireturn d_Mod_meets_108 (by simp_all [zb, mts, hvV, ← Int32.not_le]) (rfl)
    · refine z_aload_n d_Mod_meets_56 rfl 57 rfl ?_
      refine z_iload_n d_Mod_meets_57 rfl 58 rfl ?_
      refine z_iload d_Mod_meets_58 rfl 60 rfl ?_
      refine z_invv d_Mod_meets_60 63 rfl hm_Mod_rightOf lk_Mod_89 im_Mod_rightOf sl_Mod_Mod_rightOf rfl wl_45 (r_Mod_rightOf _ _ (i) (0) rfl rfl (by omega) (by omega) (hz _ (by decide))) rfl rfl (by decide) rfl rfl (Nat.le_of_ble_eq_true rfl) ?_
      refine z_goto d_Mod_meets_63 73 (by decide) ?_
      refine z_istore d_Mod_meets_73 75 rfl (by decide) rfl ?_
      refine z_iload_n d_Mod_meets_75 rfl 76 rfl ?_
      refine z_iconst d_Mod_meets_76 2 (by decide) 77 rfl ?_
      refine z_irem d_Mod_meets_77 (by decide) 78 rfl ?_
      refine z_if_ne d_Mod_meets_78 96 81 (by decide) rfl (fun h7 => ?_) (fun h => absurd h (by decide))
      refine z_iload d_Mod_meets_96 rfl 98 rfl ?_
      refine z_iload d_Mod_meets_98 rfl 100 rfl ?_
      refine z_icmp_gt d_Mod_meets_100 107 103 (by decide) rfl (fun h8 => ?_) (fun h8 => ?_)
      · refine z_iconst d_Mod_meets_107 0 (by decide) 108 rfl ?_
        exact z_ireturn d_Mod_meets_108 (by simp_all [zb, mts, hvV, ← Int32.not_le]) (rfl)
      · refine z_iconst d_Mod_meets_103 1 (by decide) 104 rfl ?_
        refine z_goto d_Mod_meets_104 108 (by decide) ?_
        exact z_ireturn d_Mod_meets_108 (by simp_all [zb, mts, hvV, ← Int32.not_le]) (rfl)
  · refine z_iconst d_Mod_meets_44 1 (by decide) 45 rfl ?_
    exact z_ireturn d_Mod_meets_45 (by simp_all [zb, mts, hvV, ← Int32.not_le]) (rfl)
set_option maxHeartbeats 4000000 in
theorem r_Mod_meets_2 {K : zKK} {rf s im mt rd sc : Nat → Int32} {tl : List zC} (t l : Int32) (i j : Nat) (ht : t = nI i) (hl : l = nI j) (hi : i < 30) (hj : j < 6) (hz : ∀ w, w < 2 → ¬ 100 + s (4 + w) * s (6 + 6 * i + 4) = 0) : Ret 2 0 0 m_Mod_meets [.ref 45, .int t, .int l, .int 2] (wld K (rf, s, im, mt, rd, sc) tl) (some (.int (zb (mts s i j 2)))) (wld K (rf, s, im, mt, rd, sc) tl) := by
  subst ht
  subst hl
  refine Ret.of (n := 3) (by decide) (zb_nar _) rfl (fun X => ?_)
  refine z_aload_n d_Mod_meets_0 rfl 1 rfl ?_
  refine z_get d_Mod_meets_1 4 rfl fl_Mod_13_11 wl_45 rfl ?_
  refine z_sipush d_Mod_meets_4 186 (by decide) 7 rfl ?_
  refine z_bipush d_Mod_meets_7 8 (by decide) 9 rfl ?_
  refine z_iload_n d_Mod_meets_9 rfl 10 rfl ?_
  refine z_imul d_Mod_meets_10 11 rfl ?_
  refine z_iadd d_Mod_meets_11 12 rfl ?_
  refine z_iload_n d_Mod_meets_12 rfl 13 rfl ?_
  refine z_iadd d_Mod_meets_13 14 rfl ?_
  refine z_iaload d_Mod_meets_14 (((186 + (8 * j)) + 2)) 15 rfl wl_47 (by show ((nI 186 + (nI 8 * nI j)) + nI 2) = _; simp only [pk_mul, nI_add]) (by omega) (by decide) ?_
  refine z_istore d_Mod_meets_15 17 rfl (by decide) rfl ?_
  refine z_iload_n d_Mod_meets_17 rfl 18 rfl ?_
  refine z_iconst d_Mod_meets_18 4 (by decide) 19 rfl ?_
  refine z_icmp_ge d_Mod_meets_19 109 22 (by decide) rfl (fun h => absurd h (by decide)) (fun h1 => ?_)
  refine z_iload_n d_Mod_meets_22 rfl 23 rfl ?_
  refine z_iconst d_Mod_meets_23 2 (by decide) 24 rfl ?_
  refine z_icmp_ge d_Mod_meets_24 31 27 (by decide) rfl (fun h2 => ?_) (fun h => absurd (by decide) h)
  refine z_iconst d_Mod_meets_31 1 (by decide) 32 rfl ?_
  refine z_istore d_Mod_meets_32 34 rfl (by decide) rfl ?_
  refine z_aload_n d_Mod_meets_34 rfl 35 rfl ?_
  refine z_iload_n d_Mod_meets_35 rfl 36 rfl ?_
  refine z_iload d_Mod_meets_36 rfl 38 rfl ?_
  refine z_invv d_Mod_meets_38 41 rfl hm_Mod_get lk_Mod_66 im_Mod_get sl_Mod_Mod_get rfl wl_45 (r_Mod_get _ _ (i) (1) rfl rfl (by omega)) rfl rfl (by decide) rfl rfl (Nat.le_of_ble_eq_true rfl) ?_
  refine z_if_ge d_Mod_meets_41 46 44 (by decide) rfl (fun h3 => ?_) (fun h3 => ?_)
  · refine z_aload_n d_Mod_meets_46 rfl 47 rfl ?_
    refine z_get d_Mod_meets_47 50 rfl fl_Mod_13_11 wl_45 rfl ?_
    refine z_iconst d_Mod_meets_50 2 (by decide) 51 rfl ?_
    refine z_iaload d_Mod_meets_51 (2) 52 rfl wl_47 (rfl) (by omega) (by decide) ?_
    refine z_iconst d_Mod_meets_52 1 (by decide) 53 rfl ?_
    refine z_icmp_ne d_Mod_meets_53 66 56 (by decide) rfl (fun h4 => ?_) (fun h4 => ?_)
    · refine z_aload_n d_Mod_meets_66 rfl 67 rfl ?_
      refine z_iload_n d_Mod_meets_67 rfl 68 rfl ?_
      refine z_iload d_Mod_meets_68 rfl 70 rfl ?_
      refine z_invv d_Mod_meets_70 73 rfl hm_Mod_get lk_Mod_66 im_Mod_get sl_Mod_Mod_get rfl wl_45 (r_Mod_get _ _ (i) (1) rfl rfl (by omega)) rfl rfl (by decide) rfl rfl (Nat.le_of_ble_eq_true rfl) ?_
      refine z_istore d_Mod_meets_73 75 rfl (by decide) rfl ?_
      refine z_iload_n d_Mod_meets_75 rfl 76 rfl ?_
      refine z_iconst d_Mod_meets_76 2 (by decide) 77 rfl ?_
      refine z_irem d_Mod_meets_77 (by decide) 78 rfl ?_
      refine z_if_ne d_Mod_meets_78 96 81 (by decide) rfl (fun h => absurd (by decide) h) (fun h5 => ?_)
      refine z_iload d_Mod_meets_81 rfl 83 rfl ?_
      refine z_iload d_Mod_meets_83 rfl 85 rfl ?_
      refine z_icmp_lt d_Mod_meets_85 92 88 (by decide) rfl (fun h6 => ?_) (fun h6 => ?_)
      · refine z_iconst d_Mod_meets_92 0 (by decide) 93 rfl ?_
        refine z_goto d_Mod_meets_93 108 (by decide) ?_
        exact z_ireturn d_Mod_meets_108 (by simp_all [zb, mts, hvV, ← Int32.not_le]) (rfl)
      · refine z_iconst d_Mod_meets_88 1 (by decide) 89 rfl ?_
        refine z_goto d_Mod_meets_89 108 (by decide) ?_
        exact z_ireturn d_Mod_meets_108 (by simp_all [zb, mts, hvV, ← Int32.not_le]) (rfl)
    · refine z_aload_n d_Mod_meets_56 rfl 57 rfl ?_
      refine z_iload_n d_Mod_meets_57 rfl 58 rfl ?_
      refine z_iload d_Mod_meets_58 rfl 60 rfl ?_
      refine z_invv d_Mod_meets_60 63 rfl hm_Mod_rightOf lk_Mod_89 im_Mod_rightOf sl_Mod_Mod_rightOf rfl wl_45 (r_Mod_rightOf _ _ (i) (1) rfl rfl (by omega) (by omega) (hz _ (by decide))) rfl rfl (by decide) rfl rfl (Nat.le_of_ble_eq_true rfl) ?_
      refine z_goto d_Mod_meets_63 73 (by decide) ?_
      refine z_istore d_Mod_meets_73 75 rfl (by decide) rfl ?_
      refine z_iload_n d_Mod_meets_75 rfl 76 rfl ?_
      refine z_iconst d_Mod_meets_76 2 (by decide) 77 rfl ?_
      refine z_irem d_Mod_meets_77 (by decide) 78 rfl ?_
      refine z_if_ne d_Mod_meets_78 96 81 (by decide) rfl (fun h => absurd (by decide) h) (fun h7 => ?_)
      refine z_iload d_Mod_meets_81 rfl 83 rfl ?_
      refine z_iload d_Mod_meets_83 rfl 85 rfl ?_
      refine z_icmp_lt d_Mod_meets_85 92 88 (by decide) rfl (fun h8 => ?_) (fun h8 => ?_)
      · refine z_iconst d_Mod_meets_92 0 (by decide) 93 rfl ?_
        refine z_goto d_Mod_meets_93 108 (by decide) ?_
        exact z_ireturn d_Mod_meets_108 (by simp_all [zb, mts, hvV, ← Int32.not_le]) (rfl)
      · refine z_iconst d_Mod_meets_88 1 (by decide) 89 rfl ?_
        refine z_goto d_Mod_meets_89 108 (by decide) ?_
        exact z_ireturn d_Mod_meets_108 (by simp_all [zb, mts, hvV, ← Int32.not_le]) (rfl)
  · refine z_iconst d_Mod_meets_44 1 (by decide) 45 rfl ?_
    exact z_ireturn d_Mod_meets_45 (by simp_all [zb, mts, hvV, ← Int32.not_le]) (rfl)
set_option maxHeartbeats 4000000 in
theorem r_Mod_meets_3 {K : zKK} {rf s im mt rd sc : Nat → Int32} {tl : List zC} (t l : Int32) (i j : Nat) (ht : t = nI i) (hl : l = nI j) (hi : i < 30) (hj : j < 6) (hz : ∀ w, w < 2 → ¬ 100 + s (4 + w) * s (6 + 6 * i + 4) = 0) : Ret 2 0 0 m_Mod_meets [.ref 45, .int t, .int l, .int 3] (wld K (rf, s, im, mt, rd, sc) tl) (some (.int (zb (mts s i j 3)))) (wld K (rf, s, im, mt, rd, sc) tl) := by
  subst ht
  subst hl
  refine Ret.of (n := 3) (by decide) (zb_nar _) rfl (fun X => ?_)
  refine z_aload_n d_Mod_meets_0 rfl 1 rfl ?_
  refine z_get d_Mod_meets_1 4 rfl fl_Mod_13_11 wl_45 rfl ?_
  refine z_sipush d_Mod_meets_4 186 (by decide) 7 rfl ?_
  refine z_bipush d_Mod_meets_7 8 (by decide) 9 rfl ?_
  refine z_iload_n d_Mod_meets_9 rfl 10 rfl ?_
  refine z_imul d_Mod_meets_10 11 rfl ?_
  refine z_iadd d_Mod_meets_11 12 rfl ?_
  refine z_iload_n d_Mod_meets_12 rfl 13 rfl ?_
  refine z_iadd d_Mod_meets_13 14 rfl ?_
  refine z_iaload d_Mod_meets_14 (((186 + (8 * j)) + 3)) 15 rfl wl_47 (by show ((nI 186 + (nI 8 * nI j)) + nI 3) = _; simp only [pk_mul, nI_add]) (by omega) (by decide) ?_
  refine z_istore d_Mod_meets_15 17 rfl (by decide) rfl ?_
  refine z_iload_n d_Mod_meets_17 rfl 18 rfl ?_
  refine z_iconst d_Mod_meets_18 4 (by decide) 19 rfl ?_
  refine z_icmp_ge d_Mod_meets_19 109 22 (by decide) rfl (fun h => absurd h (by decide)) (fun h1 => ?_)
  refine z_iload_n d_Mod_meets_22 rfl 23 rfl ?_
  refine z_iconst d_Mod_meets_23 2 (by decide) 24 rfl ?_
  refine z_icmp_ge d_Mod_meets_24 31 27 (by decide) rfl (fun h2 => ?_) (fun h => absurd (by decide) h)
  refine z_iconst d_Mod_meets_31 1 (by decide) 32 rfl ?_
  refine z_istore d_Mod_meets_32 34 rfl (by decide) rfl ?_
  refine z_aload_n d_Mod_meets_34 rfl 35 rfl ?_
  refine z_iload_n d_Mod_meets_35 rfl 36 rfl ?_
  refine z_iload d_Mod_meets_36 rfl 38 rfl ?_
  refine z_invv d_Mod_meets_38 41 rfl hm_Mod_get lk_Mod_66 im_Mod_get sl_Mod_Mod_get rfl wl_45 (r_Mod_get _ _ (i) (1) rfl rfl (by omega)) rfl rfl (by decide) rfl rfl (Nat.le_of_ble_eq_true rfl) ?_
  refine z_if_ge d_Mod_meets_41 46 44 (by decide) rfl (fun h3 => ?_) (fun h3 => ?_)
  · refine z_aload_n d_Mod_meets_46 rfl 47 rfl ?_
    refine z_get d_Mod_meets_47 50 rfl fl_Mod_13_11 wl_45 rfl ?_
    refine z_iconst d_Mod_meets_50 2 (by decide) 51 rfl ?_
    refine z_iaload d_Mod_meets_51 (2) 52 rfl wl_47 (rfl) (by omega) (by decide) ?_
    refine z_iconst d_Mod_meets_52 1 (by decide) 53 rfl ?_
    refine z_icmp_ne d_Mod_meets_53 66 56 (by decide) rfl (fun h4 => ?_) (fun h4 => ?_)
    · refine z_aload_n d_Mod_meets_66 rfl 67 rfl ?_
      refine z_iload_n d_Mod_meets_67 rfl 68 rfl ?_
      refine z_iload d_Mod_meets_68 rfl 70 rfl ?_
      refine z_invv d_Mod_meets_70 73 rfl hm_Mod_get lk_Mod_66 im_Mod_get sl_Mod_Mod_get rfl wl_45 (r_Mod_get _ _ (i) (1) rfl rfl (by omega)) rfl rfl (by decide) rfl rfl (Nat.le_of_ble_eq_true rfl) ?_
      refine z_istore d_Mod_meets_73 75 rfl (by decide) rfl ?_
      refine z_iload_n d_Mod_meets_75 rfl 76 rfl ?_
      refine z_iconst d_Mod_meets_76 2 (by decide) 77 rfl ?_
      refine z_irem d_Mod_meets_77 (by decide) 78 rfl ?_
      refine z_if_ne d_Mod_meets_78 96 81 (by decide) rfl (fun h5 => ?_) (fun h => absurd h (by decide))
      refine z_iload d_Mod_meets_96 rfl 98 rfl ?_
      refine z_iload d_Mod_meets_98 rfl 100 rfl ?_
      refine z_icmp_gt d_Mod_meets_100 107 103 (by decide) rfl (fun h6 => ?_) (fun h6 => ?_)
      · refine z_iconst d_Mod_meets_107 0 (by decide) 108 rfl ?_
        exact z_ireturn d_Mod_meets_108 (by simp_all [zb, mts, hvV, ← Int32.not_le]) (rfl)
      · refine z_iconst d_Mod_meets_103 1 (by decide) 104 rfl ?_
        refine z_goto d_Mod_meets_104 108 (by decide) ?_
        exact z_ireturn d_Mod_meets_108 (by simp_all [zb, mts, hvV, ← Int32.not_le]) (rfl)
    · refine z_aload_n d_Mod_meets_56 rfl 57 rfl ?_
      refine z_iload_n d_Mod_meets_57 rfl 58 rfl ?_
      refine z_iload d_Mod_meets_58 rfl 60 rfl ?_
      refine z_invv d_Mod_meets_60 63 rfl hm_Mod_rightOf lk_Mod_89 im_Mod_rightOf sl_Mod_Mod_rightOf rfl wl_45 (r_Mod_rightOf _ _ (i) (1) rfl rfl (by omega) (by omega) (hz _ (by decide))) rfl rfl (by decide) rfl rfl (Nat.le_of_ble_eq_true rfl) ?_
      refine z_goto d_Mod_meets_63 73 (by decide) ?_
      refine z_istore d_Mod_meets_73 75 rfl (by decide) rfl ?_
      refine z_iload_n d_Mod_meets_75 rfl 76 rfl ?_
      refine z_iconst d_Mod_meets_76 2 (by decide) 77 rfl ?_
      refine z_irem d_Mod_meets_77 (by decide) 78 rfl ?_
      refine z_if_ne d_Mod_meets_78 96 81 (by decide) rfl (fun h7 => ?_) (fun h => absurd h (by decide))
      refine z_iload d_Mod_meets_96 rfl 98 rfl ?_
      refine z_iload d_Mod_meets_98 rfl 100 rfl ?_
      refine z_icmp_gt d_Mod_meets_100 107 103 (by decide) rfl (fun h8 => ?_) (fun h8 => ?_)
      · refine z_iconst d_Mod_meets_107 0 (by decide) 108 rfl ?_
        exact z_ireturn d_Mod_meets_108 (by simp_all [zb, mts, hvV, ← Int32.not_le]) (rfl)
      · refine z_iconst d_Mod_meets_103 1 (by decide) 104 rfl ?_
        refine z_goto d_Mod_meets_104 108 (by decide) ?_
        exact z_ireturn d_Mod_meets_108 (by simp_all [zb, mts, hvV, ← Int32.not_le]) (rfl)
  · refine z_iconst d_Mod_meets_44 1 (by decide) 45 rfl ?_
    exact z_ireturn d_Mod_meets_45 (by simp_all [zb, mts, hvV, ← Int32.not_le]) (rfl)
set_option maxHeartbeats 4000000 in
theorem r_Mod_meets_4 {K : zKK} {rf s im mt rd sc : Nat → Int32} {tl : List zC} (t l : Int32) (i j : Nat) (ht : t = nI i) (hl : l = nI j) (hi : i < 30) (hj : j < 6) (hz : ∀ w, w < 2 → ¬ 100 + s (4 + w) * s (6 + 6 * i + 4) = 0) : Ret 2 0 0 m_Mod_meets [.ref 45, .int t, .int l, .int 4] (wld K (rf, s, im, mt, rd, sc) tl) (some (.int (zb (mts s i j 4)))) (wld K (rf, s, im, mt, rd, sc) tl) := by
  subst ht
  subst hl
  refine Ret.of (n := 3) (by decide) (zb_nar _) rfl (fun X => ?_)
  refine z_aload_n d_Mod_meets_0 rfl 1 rfl ?_
  refine z_get d_Mod_meets_1 4 rfl fl_Mod_13_11 wl_45 rfl ?_
  refine z_sipush d_Mod_meets_4 186 (by decide) 7 rfl ?_
  refine z_bipush d_Mod_meets_7 8 (by decide) 9 rfl ?_
  refine z_iload_n d_Mod_meets_9 rfl 10 rfl ?_
  refine z_imul d_Mod_meets_10 11 rfl ?_
  refine z_iadd d_Mod_meets_11 12 rfl ?_
  refine z_iload_n d_Mod_meets_12 rfl 13 rfl ?_
  refine z_iadd d_Mod_meets_13 14 rfl ?_
  refine z_iaload d_Mod_meets_14 (((186 + (8 * j)) + 4)) 15 rfl wl_47 (by show ((nI 186 + (nI 8 * nI j)) + nI 4) = _; simp only [pk_mul, nI_add]) (by omega) (by decide) ?_
  refine z_istore d_Mod_meets_15 17 rfl (by decide) rfl ?_
  refine z_iload_n d_Mod_meets_17 rfl 18 rfl ?_
  refine z_iconst d_Mod_meets_18 4 (by decide) 19 rfl ?_
  refine z_icmp_ge d_Mod_meets_19 109 22 (by decide) rfl (fun h1 => ?_) (fun h => absurd (by decide) h)
  refine z_iload_n d_Mod_meets_109 rfl 110 rfl ?_
  refine z_iconst d_Mod_meets_110 4 (by decide) 111 rfl ?_
  refine z_icmp_ne d_Mod_meets_111 144 114 (by decide) rfl (fun h => absurd (by decide) h) (fun h2 => ?_)
  refine z_aload_n d_Mod_meets_114 rfl 115 rfl ?_
  refine z_iload_n d_Mod_meets_115 rfl 116 rfl ?_
  refine z_iconst d_Mod_meets_116 2 (by decide) 117 rfl ?_
  refine z_invv d_Mod_meets_117 120 rfl hm_Mod_get lk_Mod_66 im_Mod_get sl_Mod_Mod_get rfl wl_45 (r_Mod_get _ _ (i) (2) rfl rfl (by omega)) rfl rfl (by decide) rfl rfl (Nat.le_of_ble_eq_true rfl) ?_
  refine z_if_lt d_Mod_meets_120 138 123 (by decide) rfl (fun h3 => ?_) (fun h3 => ?_)
  · refine z_iconst d_Mod_meets_138 1 (by decide) 139 rfl ?_
    refine z_goto d_Mod_meets_139 143 (by decide) ?_
    exact z_ireturn d_Mod_meets_143 (by simp_all [zb, mts, hvV, ← Int32.not_le]) (rfl)
  · refine z_iload d_Mod_meets_123 rfl 125 rfl ?_
    refine z_aload_n d_Mod_meets_125 rfl 126 rfl ?_
    refine z_iload_n d_Mod_meets_126 rfl 127 rfl ?_
    refine z_iconst d_Mod_meets_127 2 (by decide) 128 rfl ?_
    refine z_invv d_Mod_meets_128 131 rfl hm_Mod_get lk_Mod_66 im_Mod_get sl_Mod_Mod_get rfl wl_45 (r_Mod_get _ _ (i) (2) rfl rfl (by omega)) rfl rfl (by decide) rfl rfl (Nat.le_of_ble_eq_true rfl) ?_
    refine z_ishr d_Mod_meets_131 132 rfl ?_
    refine z_iconst d_Mod_meets_132 1 (by decide) 133 rfl ?_
    refine z_iand d_Mod_meets_133 134 rfl ?_
    refine z_iconst d_Mod_meets_134 1 (by decide) 135 rfl ?_
    refine z_icmp_ne d_Mod_meets_135 142 138 (by decide) rfl (fun h4 => ?_) (fun h4 => ?_)
    · refine z_iconst d_Mod_meets_142 0 (by decide) 143 rfl ?_
      exact z_ireturn d_Mod_meets_143 (by simp_all [zb, mts, hvV, ← Int32.not_le]) (rfl)
    · refine z_iconst d_Mod_meets_138 1 (by decide) 139 rfl ?_
      refine z_goto d_Mod_meets_139 143 (by decide) ?_
      exact z_ireturn d_Mod_meets_143 (by simp_all [zb, mts, hvV, ← Int32.not_le]) (rfl)
set_option maxHeartbeats 4000000 in
theorem r_Mod_meets_5 {K : zKK} {rf s im mt rd sc : Nat → Int32} {tl : List zC} (t l : Int32) (i j : Nat) (ht : t = nI i) (hl : l = nI j) (hi : i < 30) (hj : j < 6) (hz : ∀ w, w < 2 → ¬ 100 + s (4 + w) * s (6 + 6 * i + 4) = 0) : Ret 2 0 0 m_Mod_meets [.ref 45, .int t, .int l, .int 5] (wld K (rf, s, im, mt, rd, sc) tl) (some (.int (zb (mts s i j 5)))) (wld K (rf, s, im, mt, rd, sc) tl) := by
  subst ht
  subst hl
  refine Ret.of (n := 3) (by decide) (zb_nar _) rfl (fun X => ?_)
  refine z_aload_n d_Mod_meets_0 rfl 1 rfl ?_
  refine z_get d_Mod_meets_1 4 rfl fl_Mod_13_11 wl_45 rfl ?_
  refine z_sipush d_Mod_meets_4 186 (by decide) 7 rfl ?_
  refine z_bipush d_Mod_meets_7 8 (by decide) 9 rfl ?_
  refine z_iload_n d_Mod_meets_9 rfl 10 rfl ?_
  refine z_imul d_Mod_meets_10 11 rfl ?_
  refine z_iadd d_Mod_meets_11 12 rfl ?_
  refine z_iload_n d_Mod_meets_12 rfl 13 rfl ?_
  refine z_iadd d_Mod_meets_13 14 rfl ?_
  refine z_iaload d_Mod_meets_14 (((186 + (8 * j)) + 5)) 15 rfl wl_47 (by show ((nI 186 + (nI 8 * nI j)) + nI 5) = _; simp only [pk_mul, nI_add]) (by omega) (by decide) ?_
  refine z_istore d_Mod_meets_15 17 rfl (by decide) rfl ?_
  refine z_iload_n d_Mod_meets_17 rfl 18 rfl ?_
  refine z_iconst d_Mod_meets_18 4 (by decide) 19 rfl ?_
  refine z_icmp_ge d_Mod_meets_19 109 22 (by decide) rfl (fun h1 => ?_) (fun h => absurd (by decide) h)
  refine z_iload_n d_Mod_meets_109 rfl 110 rfl ?_
  refine z_iconst d_Mod_meets_110 4 (by decide) 111 rfl ?_
  refine z_icmp_ne d_Mod_meets_111 144 114 (by decide) rfl (fun h2 => ?_) (fun h => absurd h (by decide))
  refine z_iload_n d_Mod_meets_144 rfl 145 rfl ?_
  refine z_iconst d_Mod_meets_145 5 (by decide) 146 rfl ?_
  refine z_icmp_ne d_Mod_meets_146 171 149 (by decide) rfl (fun h => absurd (by decide) h) (fun h3 => ?_)
  refine z_iload d_Mod_meets_149 rfl 151 rfl ?_
  refine z_aload_n d_Mod_meets_151 rfl 152 rfl ?_
  refine z_iload_n d_Mod_meets_152 rfl 153 rfl ?_
  refine z_iconst d_Mod_meets_153 3 (by decide) 154 rfl ?_
  refine z_invv d_Mod_meets_154 157 rfl hm_Mod_get lk_Mod_66 im_Mod_get sl_Mod_Mod_get rfl wl_45 (r_Mod_get _ _ (i) (3) rfl rfl (by omega)) rfl rfl (by decide) rfl rfl (Nat.le_of_ble_eq_true rfl) ?_
  refine z_iconst d_Mod_meets_157 (-1) (by decide) 158 rfl ?_
  refine z_ixor d_Mod_meets_158 159 rfl ?_
  refine z_iand d_Mod_meets_159 160 rfl ?_
  refine z_if_ne d_Mod_meets_160 167 163 (by decide) rfl (fun h4 => ?_) (fun h4 => ?_)
  · refine z_iconst d_Mod_meets_167 0 (by decide) 168 rfl ?_
    refine z_goto d_Mod_meets_168 188 (by decide) ?_
    exact z_ireturn d_Mod_meets_188 (by simp_all [zb, mts, hvV, ← Int32.not_le]) (rfl)
  · refine z_iconst d_Mod_meets_163 1 (by decide) 164 rfl ?_
    refine z_goto d_Mod_meets_164 188 (by decide) ?_
    exact z_ireturn d_Mod_meets_188 (by simp_all [zb, mts, hvV, ← Int32.not_le]) (rfl)
set_option maxHeartbeats 4000000 in
theorem r_Mod_meets_6 {K : zKK} {rf s im mt rd sc : Nat → Int32} {tl : List zC} (t l : Int32) (i j : Nat) (ht : t = nI i) (hl : l = nI j) (hi : i < 30) (hj : j < 6) (hz : ∀ w, w < 2 → ¬ 100 + s (4 + w) * s (6 + 6 * i + 4) = 0) : Ret 2 0 0 m_Mod_meets [.ref 45, .int t, .int l, .int 6] (wld K (rf, s, im, mt, rd, sc) tl) (some (.int (zb (mts s i j 6)))) (wld K (rf, s, im, mt, rd, sc) tl) := by
  subst ht
  subst hl
  refine Ret.of (n := 3) (by decide) (zb_nar _) rfl (fun X => ?_)
  refine z_aload_n d_Mod_meets_0 rfl 1 rfl ?_
  refine z_get d_Mod_meets_1 4 rfl fl_Mod_13_11 wl_45 rfl ?_
  refine z_sipush d_Mod_meets_4 186 (by decide) 7 rfl ?_
  refine z_bipush d_Mod_meets_7 8 (by decide) 9 rfl ?_
  refine z_iload_n d_Mod_meets_9 rfl 10 rfl ?_
  refine z_imul d_Mod_meets_10 11 rfl ?_
  refine z_iadd d_Mod_meets_11 12 rfl ?_
  refine z_iload_n d_Mod_meets_12 rfl 13 rfl ?_
  refine z_iadd d_Mod_meets_13 14 rfl ?_
  refine z_iaload d_Mod_meets_14 (((186 + (8 * j)) + 6)) 15 rfl wl_47 (by show ((nI 186 + (nI 8 * nI j)) + nI 6) = _; simp only [pk_mul, nI_add]) (by omega) (by decide) ?_
  refine z_istore d_Mod_meets_15 17 rfl (by decide) rfl ?_
  refine z_iload_n d_Mod_meets_17 rfl 18 rfl ?_
  refine z_iconst d_Mod_meets_18 4 (by decide) 19 rfl ?_
  refine z_icmp_ge d_Mod_meets_19 109 22 (by decide) rfl (fun h1 => ?_) (fun h => absurd (by decide) h)
  refine z_iload_n d_Mod_meets_109 rfl 110 rfl ?_
  refine z_iconst d_Mod_meets_110 4 (by decide) 111 rfl ?_
  refine z_icmp_ne d_Mod_meets_111 144 114 (by decide) rfl (fun h2 => ?_) (fun h => absurd h (by decide))
  refine z_iload_n d_Mod_meets_144 rfl 145 rfl ?_
  refine z_iconst d_Mod_meets_145 5 (by decide) 146 rfl ?_
  refine z_icmp_ne d_Mod_meets_146 171 149 (by decide) rfl (fun h3 => ?_) (fun h => absurd h (by decide))
  refine z_iload d_Mod_meets_171 rfl 173 rfl ?_
  refine z_aload_n d_Mod_meets_173 rfl 174 rfl ?_
  refine z_iload_n d_Mod_meets_174 rfl 175 rfl ?_
  refine z_iconst d_Mod_meets_175 3 (by decide) 176 rfl ?_
  refine z_invv d_Mod_meets_176 179 rfl hm_Mod_get lk_Mod_66 im_Mod_get sl_Mod_Mod_get rfl wl_45 (r_Mod_get _ _ (i) (3) rfl rfl (by omega)) rfl rfl (by decide) rfl rfl (Nat.le_of_ble_eq_true rfl) ?_
  refine z_iand d_Mod_meets_179 180 rfl ?_
  refine z_if_ne d_Mod_meets_180 187 183 (by decide) rfl (fun h4 => ?_) (fun h4 => ?_)
  · refine z_iconst d_Mod_meets_187 0 (by decide) 188 rfl ?_
    exact z_ireturn d_Mod_meets_188 (by simp_all [zb, mts, hvV, ← Int32.not_le]) (rfl)
  · refine z_iconst d_Mod_meets_183 1 (by decide) 184 rfl ?_
    refine z_goto d_Mod_meets_184 188 (by decide) ?_
    exact z_ireturn d_Mod_meets_188 (by simp_all [zb, mts, hvV, ← Int32.not_le]) (rfl)
theorem r_Mod_meets {K : zKK} {rf s im mt rd sc : Nat → Int32} {tl : List zC} (t l k0 : Int32) (i j k : Nat) (ht : t = nI i) (hl : l = nI j) (hk0 : k0 = nI k) (hi : i < 30) (hj : j < 6) (hk : k < 7) (hz : ∀ w, w < 2 → ¬ 100 + s (4 + w) * s (6 + 6 * i + 4) = 0) : Ret 2 0 0 m_Mod_meets [.ref 45, .int t, .int l, .int k0] (wld K (rf, s, im, mt, rd, sc) tl) (some (.int (zb (mts s i j k)))) (wld K (rf, s, im, mt, rd, sc) tl) := by
  subst hk0
  rcases (show k = 0 ∨ k = 1 ∨ k = 2 ∨ k = 3 ∨ k = 4 ∨ k = 5 ∨ k = 6 by omega) with rfl | rfl | rfl | rfl | rfl | rfl | rfl
  · exact r_Mod_meets_0 t l i j ht hl hi hj hz
  · exact r_Mod_meets_1 t l i j ht hl hi hj hz
  · exact r_Mod_meets_2 t l i j ht hl hi hj hz
  · exact r_Mod_meets_3 t l i j ht hl hi hj hz
  · exact r_Mod_meets_4 t l i j ht hl hi hj hz
  · exact r_Mod_meets_5 t l i j ht hl hi hj hz
  · exact r_Mod_meets_6 t l i j ht hl hi hj hz
set_option maxHeartbeats 4000000 in
theorem r_Mod_isFit {K : zKK} {rf s im mt rd sc : Nat → Int32} {tl : List zC} (t l w : Int32) (i j : Nat) (ht : t = nI i) (hl : l = nI j) (hi : i < 30) (hj : j < 6) (hz : ∀ w, w < 2 → ¬ 100 + s (4 + w) * s (6 + 6 * i + 4) = 0) : Ret 3 0 0 m_Mod_isFit [.ref 45, .int t, .int l, .int w] (wld K (rf, s, im, mt, rd, sc) tl) (some (.int (zb (fit s i j w)))) (wld K (rf, s, im, mt, rd, sc) tl) := by
  subst ht
  subst hl
  refine Ret.of (n := 1) (by decide) (zb_nar _) rfl (fun X => ?_)
  refine z_iconst d_Mod_isFit_0 0 (by decide) 1 rfl ?_
  refine z_istore d_Mod_isFit_1 3 rfl (by decide) rfl ?_
  refine zloop (fun k => (∀ q, q < k → (w >>> (nI q &&& 31)) &&& 1 = 0 → mts s i j q = true) → Z X m_Mod_isFit 3 0 0 (some (.int (zb (fit s i j w)))) (wld K (rf, s, im, mt, rd, sc) tl) 3 [some (.ref 45), some (.int (nI i)), some (.int (nI j)), some (.int w), some (.int (nI k))] [] (wld K (rf, s, im, mt, rd, sc) tl)) (7) ?_ ?_ 0 (Nat.zero_le _) (fun q h => absurd h (Nat.not_lt_zero q))
  · intro hinv
    refine z_iload d_Mod_isFit_3 rfl 5 rfl ?_
    refine z_bipush d_Mod_isFit_5 7 (by decide) 7 rfl ?_
    refine z_icmp_ge d_Mod_isFit_7 38 10 (by decide) rfl (fun h1 => ?_) (fun h => absurd (by decide) h)
    refine z_iconst d_Mod_isFit_38 1 (by decide) 39 rfl ?_
    exact z_ireturn d_Mod_isFit_39 (by rw [show fit s i j w = true from fit_iff.mpr (fun q hq hb => hinv q hq hb)]; rfl) (rfl)
  · intro k hk ih hinv
    refine z_iload d_Mod_isFit_3 rfl 5 rfl ?_
    refine z_bipush d_Mod_isFit_5 7 (by decide) 7 rfl ?_
    refine z_icmp_ge d_Mod_isFit_7 38 10 (by decide) rfl (fun h => absurd h (show ¬ nI 7 ≤ nI k from nI_ge hk (by decide))) (fun h2 => ?_)
    refine z_iload_n d_Mod_isFit_10 rfl 11 rfl ?_
    refine z_iload d_Mod_isFit_11 rfl 13 rfl ?_
    refine z_ishr d_Mod_isFit_13 14 rfl ?_
    refine z_iconst d_Mod_isFit_14 1 (by decide) 15 rfl ?_
    refine z_iand d_Mod_isFit_15 16 rfl ?_
    refine z_if_ne d_Mod_isFit_16 32 19 (by decide) rfl (fun h3 => ?_) (fun h3 => ?_)
    · refine z_iinc d_Mod_isFit_32 1 (by decide) 35 rfl rfl (by decide) rfl ?_
      refine z_goto d_Mod_isFit_35 3 (by decide) ?_
      exact z_L _ (by simp [nI_succ]) (ih (fun q hq hb => by
        rcases Nat.lt_or_ge q k with h | h
        · exact hinv q h hb
        · have : q = k := by omega
          subst this
          first | exact absurd hb (by assumption) | (simp_all [zb_ne]; done)))
    · refine z_aload_n d_Mod_isFit_19 rfl 20 rfl ?_
      refine z_iload_n d_Mod_isFit_20 rfl 21 rfl ?_
      refine z_iload_n d_Mod_isFit_21 rfl 22 rfl ?_
      refine z_iload d_Mod_isFit_22 rfl 24 rfl ?_
      refine z_invv d_Mod_isFit_24 27 rfl hm_Mod_meets lk_Mod_92 im_Mod_meets sl_Mod_Mod_meets rfl wl_45 (r_Mod_meets _ _ _ (i) (j) (k) rfl rfl rfl (by omega) (by omega) (by omega) hz) rfl rfl (by decide) rfl rfl (Nat.le_of_ble_eq_true rfl) ?_
      refine z_if_ne d_Mod_isFit_27 32 30 (by decide) rfl (fun h4 => ?_) (fun h4 => ?_)
      · refine z_iinc d_Mod_isFit_32 1 (by decide) 35 rfl rfl (by decide) rfl ?_
        refine z_goto d_Mod_isFit_35 3 (by decide) ?_
        exact z_L _ (by simp [nI_succ]) (ih (fun q hq hb => by
          rcases Nat.lt_or_ge q k with h | h
          · exact hinv q h hb
          · have : q = k := by omega
            subst this
            first | exact absurd hb (by assumption) | (simp_all [zb_ne]; done)))
      · refine z_iconst d_Mod_isFit_30 0 (by decide) 31 rfl ?_
        exact z_ireturn d_Mod_isFit_31 (by rw [show fit s i j w = false from fit_no (fun h => by have := h k hk (by simp_all); simp_all [zb_eq, zb_ne])]; rfl) (rfl)
set_option maxHeartbeats 4000000 in
theorem r_Mod_lawsOf {K : zKK} {rf s im mt rd sc : Nat → Int32} {tl : List zC} (t : Int32) (i : Nat) (ht : t = nI i) (hi : i < 30) (hz : ∀ w, w < 2 → ¬ 100 + s (4 + w) * s (6 + 6 * i + 4) = 0) : Ret 4 0 0 m_Mod_lawsOf [.ref 45, .int t] (wld K (rf, s, im, mt, rd, sc) tl) (some (.int (lwTo s i 6))) (wld K (rf, s, im, mt, rd, sc) tl) := by
  subst ht
  refine Ret.of (n := 2) (by decide) (rfl) rfl (fun X => ?_)
  refine z_iconst d_Mod_lawsOf_0 0 (by decide) 1 rfl ?_
  refine z_istore_n d_Mod_lawsOf_1 2 rfl (by decide) rfl ?_
  refine z_iconst d_Mod_lawsOf_2 0 (by decide) 3 rfl ?_
  refine z_istore_n d_Mod_lawsOf_3 4 rfl (by decide) rfl ?_
  refine zloop (fun l => Z X m_Mod_lawsOf 4 0 0 (some (.int (lwTo s i 6))) (wld K (rf, s, im, mt, rd, sc) tl) 4 [some (.ref 45), some (.int (nI i)), some (.int (lwTo s i l)), some (.int (nI l))] [] (wld K (rf, s, im, mt, rd, sc) tl)) (6) ?_ ?_ 0 (Nat.zero_le _)
  · refine z_iload_n d_Mod_lawsOf_4 rfl 5 rfl ?_
    refine z_bipush d_Mod_lawsOf_5 6 (by decide) 7 rfl ?_
    refine z_icmp_ge d_Mod_lawsOf_7 36 10 (by decide) rfl (fun h1 => ?_) (fun h => absurd (by decide) h)
    refine z_iload_n d_Mod_lawsOf_36 rfl 37 rfl ?_
    exact z_ireturn d_Mod_lawsOf_37 (rfl) (rfl)
  · intro l hl ih
    refine z_iload_n d_Mod_lawsOf_4 rfl 5 rfl ?_
    refine z_bipush d_Mod_lawsOf_5 6 (by decide) 7 rfl ?_
    refine z_icmp_ge d_Mod_lawsOf_7 36 10 (by decide) rfl (fun h => absurd h (show ¬ nI 6 ≤ nI l from nI_ge hl (by decide))) (fun h2 => ?_)
    refine z_iload_n d_Mod_lawsOf_10 rfl 11 rfl ?_
    refine z_aload_n d_Mod_lawsOf_11 rfl 12 rfl ?_
    refine z_iload_n d_Mod_lawsOf_12 rfl 13 rfl ?_
    refine z_iload_n d_Mod_lawsOf_13 rfl 14 rfl ?_
    refine z_iconst d_Mod_lawsOf_14 0 (by decide) 15 rfl ?_
    refine z_invv d_Mod_lawsOf_15 18 rfl hm_Mod_isFit lk_Mod_96 im_Mod_isFit sl_Mod_Mod_isFit rfl wl_45 (r_Mod_isFit _ _ _ (i) (l) rfl rfl (by omega) (by omega) hz) rfl rfl (by decide) rfl rfl (Nat.le_of_ble_eq_true rfl) ?_
    refine z_if_eq d_Mod_lawsOf_18 27 21 (by decide) rfl (fun h3 => ?_) (fun h3 => ?_)
    · refine z_iconst d_Mod_lawsOf_27 0 (by decide) 28 rfl ?_
      refine z_ior d_Mod_lawsOf_28 29 rfl ?_
      refine z_istore_n d_Mod_lawsOf_29 30 rfl (by decide) rfl ?_
      refine z_iinc d_Mod_lawsOf_30 1 (by decide) 33 rfl rfl (by decide) rfl ?_
      refine z_goto d_Mod_lawsOf_33 4 (by decide) ?_
      exact z_L _ (by simp_all [nI_succ, lwTo, zb_eq, zb_ne]) ih
    · refine z_iconst d_Mod_lawsOf_21 1 (by decide) 22 rfl ?_
      refine z_iload_n d_Mod_lawsOf_22 rfl 23 rfl ?_
      refine z_ishl d_Mod_lawsOf_23 24 rfl ?_
      refine z_goto d_Mod_lawsOf_24 28 (by decide) ?_
      refine z_ior d_Mod_lawsOf_28 29 rfl ?_
      refine z_istore_n d_Mod_lawsOf_29 30 rfl (by decide) rfl ?_
      refine z_iinc d_Mod_lawsOf_30 1 (by decide) 33 rfl rfl (by decide) rfl ?_
      refine z_goto d_Mod_lawsOf_33 4 (by decide) ?_
      exact z_L _ (by simp_all [nI_succ, lwTo, zb_eq, zb_ne]) ih
end
section
theorem vld {t a : Int32} (h : ¬ zb (inR t a) = 0) {n : Nat} (ha : a = nI n) (hn : n < 2 ^ 31) : ∃ i : Nat, i < n ∧ t = nI i := by
  have h1 := of_decide_eq_true ((zb_ne _).mp h)
  subst ha
  obtain ⟨j, hj, rfl⟩ := nI_of (fun q => absurd (Int32.le_iff_toInt_le.mp h1.1) (Int.not_le.mpr (Int32.lt_iff_toInt_lt.mp q)))
  exact ⟨j, (nI_ltI hj hn).mp h1.2, rfl⟩
def rfu (rf : Nat → Int32) (j : Nat) : Nat → Int32 := upd rf j (rf j + 1)
abbrev ix (t : Int32) : Nat := t.toNatClampNeg
theorem wi_cases (v a b : Int32) : v < a ∨ (¬ v < a ∧ b < v) ∨ (¬ v < a ∧ ¬ b < v) := by
  by_cases h1 : v < a
  · exact Or.inl h1
  · by_cases h2 : b < v
    · exact Or.inr (Or.inl ⟨h1, h2⟩)
    · exact Or.inr (Or.inr ⟨h1, h2⟩)
theorem r_Mod_within_1 {hp : List zC} (v a b : Int32) (h : v < a) : Ret 0 0 0 m_Mod_within [.int v, .int a, .int b] hp (some (.int (-4))) hp := by
  have := r_Mod_within (hp := hp) v a b
  rwa [if_pos h] at this
theorem r_Mod_within_2 {hp : List zC} (v a b : Int32) (h : ¬ v < a) (h2 : b < v) : Ret 0 0 0 m_Mod_within [.int v, .int a, .int b] hp (some (.int (-6))) hp := by
  have := r_Mod_within (hp := hp) v a b
  rwa [if_neg h, if_pos h2] at this
theorem r_Mod_within_3 {hp : List zC} (v a b : Int32) (h : ¬ v < a) (h2 : ¬ b < v) : Ret 0 0 0 m_Mod_within [.int v, .int a, .int b] hp (some (.int 0)) hp := by
  have := r_Mod_within (hp := hp) v a b
  rwa [if_neg h, if_neg h2] at this
set_option maxHeartbeats 4000000 in
theorem r_Mod_tellingOf {K : zKK} {rf s im mt rd sc : Nat → Int32} {tl : List zC} {n : Nat} (hn : s 0 = nI n) (hn30 : n ≤ 30) (t w : Int32) : Ret 5 0 0 m_Mod_tellingOf [.ref 45, .int t, .int w] (wld K (rf, s, im, mt, rd, sc) tl) (some (.int ((if inR t (s 0) = true then (if inR w 6 = true then s (6 + 6 * ix t + ix w) else -2) else -1)))) (wld K ((if inR t (s 0) = true then (if inR w 6 = true then rf else rfu rf 2) else rfu rf 1), s, im, mt, rd, sc) tl) := by
  refine Ret.of (n := 0) (by decide) (rfl) rfl (fun X => ?_)
  refine z_aload_n d_Mod_tellingOf_0 rfl 1 rfl ?_
  refine z_iload_n d_Mod_tellingOf_1 rfl 2 rfl ?_
  refine z_invv d_Mod_tellingOf_2 5 rfl hm_Mod_isTelling lk_Mod_63 im_Mod_isTelling sl_Mod_Mod_isTelling rfl wl_45 (r_Mod_isTelling _) rfl rfl (by decide) rfl rfl (Nat.le_of_ble_eq_true rfl) ?_
  refine z_if_ne d_Mod_tellingOf_5 16 8 (by decide) rfl (fun h1 => ?_) (fun h1 => ?_)
  · obtain ⟨i2, hi2, rfl⟩ := vld h1 hn (by omega)
    have hci2 : (nI i2).toNatClampNeg = i2 := nI_clamp (by omega)
    refine z_iload_n d_Mod_tellingOf_16 rfl 17 rfl ?_
    refine z_bipush d_Mod_tellingOf_17 6 (by decide) 19 rfl ?_
    refine z_invs d_Mod_tellingOf_19 22 rfl hm_Mod_isIn lk_Mod_25 st_Mod_isIn (r_Mod_isIn _ _) rfl rfl (by decide) rfl rfl (Nat.le_of_ble_eq_true rfl) ?_
    refine z_if_eq d_Mod_tellingOf_22 34 25 (by decide) rfl (fun h3 => ?_) (fun h3 => ?_)
    · refine z_aload_n d_Mod_tellingOf_34 rfl 35 rfl ?_
      refine z_bipush d_Mod_tellingOf_35 (-2) (by decide) 37 rfl ?_
      refine z_invv d_Mod_tellingOf_37 40 rfl hm_Mod_refuse lk_Mod_29 im_Mod_refuse sl_Mod_Mod_refuse rfl wl_45 (r_Mod_refuse (-2) 2 (by decide) (by decide)) rfl rfl (by decide) rfl rfl (Nat.le_of_ble_eq_true rfl) ?_
      exact z_ireturn d_Mod_tellingOf_40 (by simp_all [zb_eq, zb_ne, ← Int32.not_le]) (by simp_all [zb_eq, zb_ne, rfu, ← Int32.not_le])
    · obtain ⟨i4, hi4, rfl⟩ := vld h3 (n := 6) rfl (by decide)
      have hci4 : (nI i4).toNatClampNeg = i4 := nI_clamp (by omega)
      refine z_aload_n d_Mod_tellingOf_25 rfl 26 rfl ?_
      refine z_iload_n d_Mod_tellingOf_26 rfl 27 rfl ?_
      refine z_iload_n d_Mod_tellingOf_27 rfl 28 rfl ?_
      refine z_invv d_Mod_tellingOf_28 31 rfl hm_Mod_get lk_Mod_66 im_Mod_get sl_Mod_Mod_get rfl wl_45 (r_Mod_get _ _ (i2) (i4) rfl rfl (by omega)) rfl rfl (by decide) rfl rfl (Nat.le_of_ble_eq_true rfl) ?_
      refine z_goto d_Mod_tellingOf_31 40 (by decide) ?_
      exact z_ireturn d_Mod_tellingOf_40 (by simp_all [zb_eq, zb_ne, ← Int32.not_le]) (by simp_all [zb_eq, zb_ne, rfu, ← Int32.not_le])
  · refine z_aload_n d_Mod_tellingOf_8 rfl 9 rfl ?_
    refine z_iconst d_Mod_tellingOf_9 (-1) (by decide) 10 rfl ?_
    refine z_invv d_Mod_tellingOf_10 13 rfl hm_Mod_refuse lk_Mod_29 im_Mod_refuse sl_Mod_Mod_refuse rfl wl_45 (r_Mod_refuse (-1) 1 (by decide) (by decide)) rfl rfl (by decide) rfl rfl (Nat.le_of_ble_eq_true rfl) ?_
    refine z_goto d_Mod_tellingOf_13 40 (by decide) ?_
    exact z_ireturn d_Mod_tellingOf_40 (by simp_all [zb_eq, zb_ne, ← Int32.not_le]) (by simp_all [zb_eq, zb_ne, rfu, ← Int32.not_le])
set_option maxHeartbeats 4000000 in
theorem r_Mod_kind {K : zKK} {rf s im mt rd sc : Nat → Int32} {tl : List zC} {n : Nat} (hn : s 0 = nI n) (hn30 : n ≤ 30) (t : Int32) : Ret 5 0 0 m_Mod_kind [.ref 45, .int t] (wld K (rf, s, im, mt, rd, sc) tl) (some (.int ((if inR t (s 0) = true then kdV (s (6 + 6 * ix t + 3)) (s (6 + 6 * ix t + 4)) (s (6 + 6 * ix t + 5)) else -1)))) (wld K ((if inR t (s 0) = true then rf else rfu rf 1), s, im, mt, rd, sc) tl) := by
  refine Ret.of (n := 0) (by decide) (rfl) rfl (fun X => ?_)
  refine z_aload_n d_Mod_kind_0 rfl 1 rfl ?_
  refine z_iload_n d_Mod_kind_1 rfl 2 rfl ?_
  refine z_invv d_Mod_kind_2 5 rfl hm_Mod_isTelling lk_Mod_63 im_Mod_isTelling sl_Mod_Mod_isTelling rfl wl_45 (r_Mod_isTelling _) rfl rfl (by decide) rfl rfl (Nat.le_of_ble_eq_true rfl) ?_
  refine z_if_eq d_Mod_kind_5 16 8 (by decide) rfl (fun h1 => ?_) (fun h1 => ?_)
  · refine z_aload_n d_Mod_kind_16 rfl 17 rfl ?_
    refine z_iconst d_Mod_kind_17 (-1) (by decide) 18 rfl ?_
    refine z_invv d_Mod_kind_18 21 rfl hm_Mod_refuse lk_Mod_29 im_Mod_refuse sl_Mod_Mod_refuse rfl wl_45 (r_Mod_refuse (-1) 1 (by decide) (by decide)) rfl rfl (by decide) rfl rfl (Nat.le_of_ble_eq_true rfl) ?_
    exact z_ireturn d_Mod_kind_21 (by simp_all [zb_eq, zb_ne, ← Int32.not_le]) (by simp_all [zb_eq, zb_ne, rfu, ← Int32.not_le])
  · obtain ⟨i2, hi2, rfl⟩ := vld h1 hn (by omega)
    have hci2 : (nI i2).toNatClampNeg = i2 := nI_clamp (by omega)
    refine z_aload_n d_Mod_kind_8 rfl 9 rfl ?_
    refine z_iload_n d_Mod_kind_9 rfl 10 rfl ?_
    refine z_invv d_Mod_kind_10 13 rfl hm_Mod_kindOf lk_Mod_73 im_Mod_kindOf sl_Mod_Mod_kindOf rfl wl_45 (r_Mod_kindOf _ (i2) rfl (by omega)) rfl rfl (by decide) rfl rfl (Nat.le_of_ble_eq_true rfl) ?_
    refine z_goto d_Mod_kind_13 21 (by decide) ?_
    exact z_ireturn d_Mod_kind_21 (by simp_all [zb_eq, zb_ne, ← Int32.not_le]) (by simp_all [zb_eq, zb_ne, rfu, ← Int32.not_le])
set_option maxHeartbeats 4000000 in
theorem r_Mod_weight {K : zKK} {rf s im mt rd sc : Nat → Int32} {tl : List zC} {n : Nat} (hn : s 0 = nI n) (hn30 : n ≤ 30) (t : Int32) : Ret 5 0 0 m_Mod_weight [.ref 45, .int t] (wld K (rf, s, im, mt, rd, sc) tl) (some (.int ((if inR t (s 0) = true then wtV (s (6 + 6 * ix t + 1)) (s (6 + 6 * ix t + 3)) (s (6 + 6 * ix t + 4)) (s (6 + 6 * ix t + 5)) else -1)))) (wld K ((if inR t (s 0) = true then rf else rfu rf 1), s, im, mt, rd, sc) tl) := by
  refine Ret.of (n := 0) (by decide) (rfl) rfl (fun X => ?_)
  refine z_aload_n d_Mod_weight_0 rfl 1 rfl ?_
  refine z_iload_n d_Mod_weight_1 rfl 2 rfl ?_
  refine z_invv d_Mod_weight_2 5 rfl hm_Mod_isTelling lk_Mod_63 im_Mod_isTelling sl_Mod_Mod_isTelling rfl wl_45 (r_Mod_isTelling _) rfl rfl (by decide) rfl rfl (Nat.le_of_ble_eq_true rfl) ?_
  refine z_if_eq d_Mod_weight_5 16 8 (by decide) rfl (fun h1 => ?_) (fun h1 => ?_)
  · refine z_aload_n d_Mod_weight_16 rfl 17 rfl ?_
    refine z_iconst d_Mod_weight_17 (-1) (by decide) 18 rfl ?_
    refine z_invv d_Mod_weight_18 21 rfl hm_Mod_refuse lk_Mod_29 im_Mod_refuse sl_Mod_Mod_refuse rfl wl_45 (r_Mod_refuse (-1) 1 (by decide) (by decide)) rfl rfl (by decide) rfl rfl (Nat.le_of_ble_eq_true rfl) ?_
    exact z_ireturn d_Mod_weight_21 (by simp_all [zb_eq, zb_ne, ← Int32.not_le]) (by simp_all [zb_eq, zb_ne, rfu, ← Int32.not_le])
  · obtain ⟨i2, hi2, rfl⟩ := vld h1 hn (by omega)
    have hci2 : (nI i2).toNatClampNeg = i2 := nI_clamp (by omega)
    refine z_aload_n d_Mod_weight_8 rfl 9 rfl ?_
    refine z_iload_n d_Mod_weight_9 rfl 10 rfl ?_
    refine z_invv d_Mod_weight_10 13 rfl hm_Mod_weightOf lk_Mod_76 im_Mod_weightOf sl_Mod_Mod_weightOf rfl wl_45 (r_Mod_weightOf _ (i2) rfl (by omega)) rfl rfl (by decide) rfl rfl (Nat.le_of_ble_eq_true rfl) ?_
    refine z_goto d_Mod_weight_13 21 (by decide) ?_
    exact z_ireturn d_Mod_weight_21 (by simp_all [zb_eq, zb_ne, ← Int32.not_le]) (by simp_all [zb_eq, zb_ne, rfu, ← Int32.not_le])
end
