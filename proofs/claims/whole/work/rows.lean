section
-- ===== PART A: goes FIRST, ahead of the names: the tables' words, and 'selects' of the private methods out of them =====
/-- a private method of a class that the tables say can be made, by its rows of tables_1 -/
def lw_okq (q : MethodName × Nat) : Prop := (q.1.cls ≠ "java/lang/invoke/MethodHandle" ∧ q.1.cls ≠ "java/lang/invoke/VarHandle") ∧ Cond.instantiable q.1.cls q.2 ∈ tables_1 ∧ Cond.privateMethod q.1 ∈ tables_1 ∧ Cond.instanceMethod q.1 ∈ tables_1
theorem lw_p0 : lw_okq (⟨"LightInRoom", "refuse", "(I)I"⟩, 6) := ⟨⟨by decide +kernel, by decide +kernel⟩, List.mem_of_getElem? (i := 22) (by decide +kernel), List.mem_of_getElem? (i := 186) (by decide +kernel), List.mem_of_getElem? (i := 187) (by decide +kernel)⟩
theorem lw_p1 : lw_okq (⟨"LightInRoom$Tape", "readSize", "()Z"⟩, 9) := ⟨⟨by decide +kernel, by decide +kernel⟩, List.mem_of_getElem? (i := 30) (by decide +kernel), List.mem_of_getElem? (i := 207) (by decide +kernel), List.mem_of_getElem? (i := 208) (by decide +kernel)⟩
theorem lw_p2 : lw_okq (⟨"LightInRoom$Tape", "passes", "(C)Z"⟩, 9) := ⟨⟨by decide +kernel, by decide +kernel⟩, List.mem_of_getElem? (i := 30) (by decide +kernel), List.mem_of_getElem? (i := 211) (by decide +kernel), List.mem_of_getElem? (i := 212) (by decide +kernel)⟩
theorem lw_p3 : lw_okq (⟨"LightInRoom$Tape", "byteHere", "()I"⟩, 9) := ⟨⟨by decide +kernel, by decide +kernel⟩, List.mem_of_getElem? (i := 30) (by decide +kernel), List.mem_of_getElem? (i := 215) (by decide +kernel), List.mem_of_getElem? (i := 216) (by decide +kernel)⟩
theorem lw_p4 : lw_okq (⟨"LightInRoom$Tape", "readNumber", "(I)I"⟩, 9) := ⟨⟨by decide +kernel, by decide +kernel⟩, List.mem_of_getElem? (i := 30) (by decide +kernel), List.mem_of_getElem? (i := 219) (by decide +kernel), List.mem_of_getElem? (i := 220) (by decide +kernel)⟩
theorem lw_p5 : lw_okq (⟨"LightInRoom$Tape", "digitHere", "()Z"⟩, 9) := ⟨⟨by decide +kernel, by decide +kernel⟩, List.mem_of_getElem? (i := 30) (by decide +kernel), List.mem_of_getElem? (i := 223) (by decide +kernel), List.mem_of_getElem? (i := 224) (by decide +kernel)⟩
theorem lw_p6 : lw_okq (⟨"LightInRoom$Tape", "readSeconds", "()Z"⟩, 9) := ⟨⟨by decide +kernel, by decide +kernel⟩, List.mem_of_getElem? (i := 30) (by decide +kernel), List.mem_of_getElem? (i := 227) (by decide +kernel), List.mem_of_getElem? (i := 228) (by decide +kernel)⟩
theorem lw_p7 : lw_okq (⟨"LightInRoom$Tape", "readColour", "()Z"⟩, 9) := ⟨⟨by decide +kernel, by decide +kernel⟩, List.mem_of_getElem? (i := 30) (by decide +kernel), List.mem_of_getElem? (i := 231) (by decide +kernel), List.mem_of_getElem? (i := 232) (by decide +kernel)⟩
theorem lw_p8 : lw_okq (⟨"LightInRoom$Tape", "readMarks", "()Z"⟩, 9) := ⟨⟨by decide +kernel, by decide +kernel⟩, List.mem_of_getElem? (i := 30) (by decide +kernel), List.mem_of_getElem? (i := 235) (by decide +kernel), List.mem_of_getElem? (i := 236) (by decide +kernel)⟩
theorem lw_p9 : lw_okq (⟨"LightInRoom$Tape", "readYears", "()Z"⟩, 9) := ⟨⟨by decide +kernel, by decide +kernel⟩, List.mem_of_getElem? (i := 30) (by decide +kernel), List.mem_of_getElem? (i := 288) (by decide +kernel), List.mem_of_getElem? (i := 289) (by decide +kernel)⟩
theorem lw_p10 : lw_okq (⟨"LightInRoom$Tape", "readAsked", "()Z"⟩, 9) := ⟨⟨by decide +kernel, by decide +kernel⟩, List.mem_of_getElem? (i := 30) (by decide +kernel), List.mem_of_getElem? (i := 292) (by decide +kernel), List.mem_of_getElem? (i := 293) (by decide +kernel)⟩
theorem lw_p11 : lw_okq (⟨"LightInRoom$Room", "heldNumber", "(LLightInRoom$Telling;I)I"⟩, 11) := ⟨⟨by decide +kernel, by decide +kernel⟩, List.mem_of_getElem? (i := 73) (by decide +kernel), List.mem_of_getElem? (i := 549) (by decide +kernel), List.mem_of_getElem? (i := 550) (by decide +kernel)⟩
theorem lw_p12 : lw_okq (⟨"LightInRoom", "refuseAsTold", "(I)I"⟩, 6) := ⟨⟨by decide +kernel, by decide +kernel⟩, List.mem_of_getElem? (i := 22) (by decide +kernel), List.mem_of_getElem? (i := 563) (by decide +kernel), List.mem_of_getElem? (i := 564) (by decide +kernel)⟩
theorem lw_p13 : lw_okq (⟨"LightInRoom", "howManyFitOnly", "(II)I"⟩, 6) := ⟨⟨by decide +kernel, by decide +kernel⟩, List.mem_of_getElem? (i := 22) (by decide +kernel), List.mem_of_getElem? (i := 581) (by decide +kernel), List.mem_of_getElem? (i := 582) (by decide +kernel)⟩
theorem lw_p14 : lw_okq (⟨"LightInRoom", "noteLaws", "()V"⟩, 6) := ⟨⟨by decide +kernel, by decide +kernel⟩, List.mem_of_getElem? (i := 22) (by decide +kernel), List.mem_of_getElem? (i := 594) (by decide +kernel), List.mem_of_getElem? (i := 595) (by decide +kernel)⟩
theorem lw_p15 : lw_okq (⟨"LightInRoom", "coversAll", "(I)Z"⟩, 6) := ⟨⟨by decide +kernel, by decide +kernel⟩, List.mem_of_getElem? (i := 22) (by decide +kernel), List.mem_of_getElem? (i := 604) (by decide +kernel), List.mem_of_getElem? (i := 605) (by decide +kernel)⟩
def lw_privs_1 : List (MethodName × Nat) := [(⟨"LightInRoom", "refuse", "(I)I"⟩, 6), (⟨"LightInRoom$Tape", "readSize", "()Z"⟩, 9), (⟨"LightInRoom$Tape", "passes", "(C)Z"⟩, 9), (⟨"LightInRoom$Tape", "byteHere", "()I"⟩, 9), (⟨"LightInRoom$Tape", "readNumber", "(I)I"⟩, 9), (⟨"LightInRoom$Tape", "digitHere", "()Z"⟩, 9), (⟨"LightInRoom$Tape", "readSeconds", "()Z"⟩, 9), (⟨"LightInRoom$Tape", "readColour", "()Z"⟩, 9), (⟨"LightInRoom$Tape", "readMarks", "()Z"⟩, 9), (⟨"LightInRoom$Tape", "readYears", "()Z"⟩, 9), (⟨"LightInRoom$Tape", "readAsked", "()Z"⟩, 9), (⟨"LightInRoom$Room", "heldNumber", "(LLightInRoom$Telling;I)I"⟩, 11), (⟨"LightInRoom", "refuseAsTold", "(I)I"⟩, 6), (⟨"LightInRoom", "howManyFitOnly", "(II)I"⟩, 6), (⟨"LightInRoom", "noteLaws", "()V"⟩, 6), (⟨"LightInRoom", "coversAll", "(I)Z"⟩, 6)]
theorem lw_r1 : ∀ q ∈ lw_privs_1, lw_okq q := List.forall_mem_cons.mpr ⟨lw_p0, List.forall_mem_cons.mpr ⟨lw_p1, List.forall_mem_cons.mpr ⟨lw_p2, List.forall_mem_cons.mpr ⟨lw_p3, List.forall_mem_cons.mpr ⟨lw_p4, List.forall_mem_cons.mpr ⟨lw_p5, List.forall_mem_cons.mpr ⟨lw_p6, List.forall_mem_cons.mpr ⟨lw_p7, List.forall_mem_cons.mpr ⟨lw_p8, List.forall_mem_cons.mpr ⟨lw_p9, List.forall_mem_cons.mpr ⟨lw_p10, List.forall_mem_cons.mpr ⟨lw_p11, List.forall_mem_cons.mpr ⟨lw_p12, List.forall_mem_cons.mpr ⟨lw_p13, List.forall_mem_cons.mpr ⟨lw_p14, List.forall_mem_cons.mpr ⟨lw_p15, fun _ h => absurd h List.not_mem_nil⟩⟩⟩⟩⟩⟩⟩⟩⟩⟩⟩⟩⟩⟩⟩⟩
theorem lw_p16 : lw_okq (⟨"LightInRoom", "noteBroken", "(LLightInRoom$Law;)V"⟩, 6) := ⟨⟨by decide +kernel, by decide +kernel⟩, List.mem_of_getElem? (i := 22) (by decide +kernel), List.mem_of_getElem? (i := 612) (by decide +kernel), List.mem_of_getElem? (i := 613) (by decide +kernel)⟩
theorem lw_p17 : lw_okq (⟨"LightInRoom", "halfFitsWithout", "(I)Z"⟩, 6) := ⟨⟨by decide +kernel, by decide +kernel⟩, List.mem_of_getElem? (i := 22) (by decide +kernel), List.mem_of_getElem? (i := 616) (by decide +kernel), List.mem_of_getElem? (i := 617) (by decide +kernel)⟩
theorem lw_p18 : lw_okq (⟨"LightInRoom", "firstNotedLike", "(I)I"⟩, 6) := ⟨⟨by decide +kernel, by decide +kernel⟩, List.mem_of_getElem? (i := 22) (by decide +kernel), List.mem_of_getElem? (i := 624) (by decide +kernel), List.mem_of_getElem? (i := 625) (by decide +kernel)⟩
theorem lw_p19 : lw_okq (⟨"LightInRoom", "howManyNotedLike", "(I)I"⟩, 6) := ⟨⟨by decide +kernel, by decide +kernel⟩, List.mem_of_getElem? (i := 22) (by decide +kernel), List.mem_of_getElem? (i := 628) (by decide +kernel), List.mem_of_getElem? (i := 629) (by decide +kernel)⟩
theorem lw_p20 : lw_okq (⟨"LightInRoom", "refusalsCounted", "(I)I"⟩, 6) := ⟨⟨by decide +kernel, by decide +kernel⟩, List.mem_of_getElem? (i := 22) (by decide +kernel), List.mem_of_getElem? (i := 818) (by decide +kernel), List.mem_of_getElem? (i := 819) (by decide +kernel)⟩
theorem lw_p21 : lw_okq (⟨"LightInRoomModel", "refuse", "(I)I"⟩, 8) := ⟨⟨by decide +kernel, by decide +kernel⟩, List.mem_of_getElem? (i := 822) (by decide +kernel), List.mem_of_getElem? (i := 857) (by decide +kernel), List.mem_of_getElem? (i := 858) (by decide +kernel)⟩
theorem lw_p22 : lw_okq (⟨"LightInRoomModel", "reads", "()Z"⟩, 8) := ⟨⟨by decide +kernel, by decide +kernel⟩, List.mem_of_getElem? (i := 822) (by decide +kernel), List.mem_of_getElem? (i := 866) (by decide +kernel), List.mem_of_getElem? (i := 867) (by decide +kernel)⟩
theorem lw_p23 : lw_okq (⟨"LightInRoomModel", "takes", "(I)Z"⟩, 8) := ⟨⟨by decide +kernel, by decide +kernel⟩, List.mem_of_getElem? (i := 822) (by decide +kernel), List.mem_of_getElem? (i := 870) (by decide +kernel), List.mem_of_getElem? (i := 871) (by decide +kernel)⟩
theorem lw_p24 : lw_okq (⟨"LightInRoomModel", "sign", "()I"⟩, 8) := ⟨⟨by decide +kernel, by decide +kernel⟩, List.mem_of_getElem? (i := 822) (by decide +kernel), List.mem_of_getElem? (i := 874) (by decide +kernel), List.mem_of_getElem? (i := 875) (by decide +kernel)⟩
theorem lw_p25 : lw_okq (⟨"LightInRoomModel", "readsNumber", "(II)Z"⟩, 8) := ⟨⟨by decide +kernel, by decide +kernel⟩, List.mem_of_getElem? (i := 822) (by decide +kernel), List.mem_of_getElem? (i := 878) (by decide +kernel), List.mem_of_getElem? (i := 879) (by decide +kernel)⟩
theorem lw_p26 : lw_okq (⟨"LightInRoomModel", "isDigit", "()Z"⟩, 8) := ⟨⟨by decide +kernel, by decide +kernel⟩, List.mem_of_getElem? (i := 822) (by decide +kernel), List.mem_of_getElem? (i := 882) (by decide +kernel), List.mem_of_getElem? (i := 883) (by decide +kernel)⟩
theorem lw_p27 : lw_okq (⟨"LightInRoomModel", "isTelling", "(I)Z"⟩, 8) := ⟨⟨by decide +kernel, by decide +kernel⟩, List.mem_of_getElem? (i := 822) (by decide +kernel), List.mem_of_getElem? (i := 893) (by decide +kernel), List.mem_of_getElem? (i := 894) (by decide +kernel)⟩
theorem lw_p28 : lw_okq (⟨"LightInRoomModel", "get", "(II)I"⟩, 8) := ⟨⟨by decide +kernel, by decide +kernel⟩, List.mem_of_getElem? (i := 822) (by decide +kernel), List.mem_of_getElem? (i := 900) (by decide +kernel), List.mem_of_getElem? (i := 901) (by decide +kernel)⟩
theorem lw_p29 : lw_okq (⟨"LightInRoomModel", "kindOf", "(I)I"⟩, 8) := ⟨⟨by decide +kernel, by decide +kernel⟩, List.mem_of_getElem? (i := 822) (by decide +kernel), List.mem_of_getElem? (i := 908) (by decide +kernel), List.mem_of_getElem? (i := 909) (by decide +kernel)⟩
theorem lw_p30 : lw_okq (⟨"LightInRoomModel", "isMarked", "(II)Z"⟩, 8) := ⟨⟨by decide +kernel, by decide +kernel⟩, List.mem_of_getElem? (i := 822) (by decide +kernel), List.mem_of_getElem? (i := 912) (by decide +kernel), List.mem_of_getElem? (i := 913) (by decide +kernel)⟩
theorem lw_p31 : lw_okq (⟨"LightInRoomModel", "weightOf", "(I)I"⟩, 8) := ⟨⟨by decide +kernel, by decide +kernel⟩, List.mem_of_getElem? (i := 822) (by decide +kernel), List.mem_of_getElem? (i := 920) (by decide +kernel), List.mem_of_getElem? (i := 921) (by decide +kernel)⟩
def lw_privs_2 : List (MethodName × Nat) := [(⟨"LightInRoom", "noteBroken", "(LLightInRoom$Law;)V"⟩, 6), (⟨"LightInRoom", "halfFitsWithout", "(I)Z"⟩, 6), (⟨"LightInRoom", "firstNotedLike", "(I)I"⟩, 6), (⟨"LightInRoom", "howManyNotedLike", "(I)I"⟩, 6), (⟨"LightInRoom", "refusalsCounted", "(I)I"⟩, 6), (⟨"LightInRoomModel", "refuse", "(I)I"⟩, 8), (⟨"LightInRoomModel", "reads", "()Z"⟩, 8), (⟨"LightInRoomModel", "takes", "(I)Z"⟩, 8), (⟨"LightInRoomModel", "sign", "()I"⟩, 8), (⟨"LightInRoomModel", "readsNumber", "(II)Z"⟩, 8), (⟨"LightInRoomModel", "isDigit", "()Z"⟩, 8), (⟨"LightInRoomModel", "isTelling", "(I)Z"⟩, 8), (⟨"LightInRoomModel", "get", "(II)I"⟩, 8), (⟨"LightInRoomModel", "kindOf", "(I)I"⟩, 8), (⟨"LightInRoomModel", "isMarked", "(II)Z"⟩, 8), (⟨"LightInRoomModel", "weightOf", "(I)I"⟩, 8)]
theorem lw_r2 : ∀ q ∈ lw_privs_2, lw_okq q := List.forall_mem_cons.mpr ⟨lw_p16, List.forall_mem_cons.mpr ⟨lw_p17, List.forall_mem_cons.mpr ⟨lw_p18, List.forall_mem_cons.mpr ⟨lw_p19, List.forall_mem_cons.mpr ⟨lw_p20, List.forall_mem_cons.mpr ⟨lw_p21, List.forall_mem_cons.mpr ⟨lw_p22, List.forall_mem_cons.mpr ⟨lw_p23, List.forall_mem_cons.mpr ⟨lw_p24, List.forall_mem_cons.mpr ⟨lw_p25, List.forall_mem_cons.mpr ⟨lw_p26, List.forall_mem_cons.mpr ⟨lw_p27, List.forall_mem_cons.mpr ⟨lw_p28, List.forall_mem_cons.mpr ⟨lw_p29, List.forall_mem_cons.mpr ⟨lw_p30, List.forall_mem_cons.mpr ⟨lw_p31, fun _ h => absurd h List.not_mem_nil⟩⟩⟩⟩⟩⟩⟩⟩⟩⟩⟩⟩⟩⟩⟩⟩
theorem lw_p32 : lw_okq (⟨"LightInRoomModel", "becomes", "(II)I"⟩, 8) := ⟨⟨by decide +kernel, by decide +kernel⟩, List.mem_of_getElem? (i := 822) (by decide +kernel), List.mem_of_getElem? (i := 934) (by decide +kernel), List.mem_of_getElem? (i := 935) (by decide +kernel)⟩
theorem lw_p33 : lw_okq (⟨"LightInRoomModel", "rightOf", "(II)I"⟩, 8) := ⟨⟨by decide +kernel, by decide +kernel⟩, List.mem_of_getElem? (i := 822) (by decide +kernel), List.mem_of_getElem? (i := 950) (by decide +kernel), List.mem_of_getElem? (i := 951) (by decide +kernel)⟩
theorem lw_p34 : lw_okq (⟨"LightInRoomModel", "isFit", "(III)Z"⟩, 8) := ⟨⟨by decide +kernel, by decide +kernel⟩, List.mem_of_getElem? (i := 822) (by decide +kernel), List.mem_of_getElem? (i := 958) (by decide +kernel), List.mem_of_getElem? (i := 959) (by decide +kernel)⟩
theorem lw_p35 : lw_okq (⟨"LightInRoomModel", "meets", "(III)Z"⟩, 8) := ⟨⟨by decide +kernel, by decide +kernel⟩, List.mem_of_getElem? (i := 822) (by decide +kernel), List.mem_of_getElem? (i := 962) (by decide +kernel), List.mem_of_getElem? (i := 963) (by decide +kernel)⟩
theorem lw_p36 : lw_okq (⟨"LightInRoomModel", "lawsOf", "(I)I"⟩, 8) := ⟨⟨by decide +kernel, by decide +kernel⟩, List.mem_of_getElem? (i := 822) (by decide +kernel), List.mem_of_getElem? (i := 981) (by decide +kernel), List.mem_of_getElem? (i := 982) (by decide +kernel)⟩
theorem lw_p37 : lw_okq (⟨"LightInRoomModel", "isCover", "(I)Z"⟩, 8) := ⟨⟨by decide +kernel, by decide +kernel⟩, List.mem_of_getElem? (i := 822) (by decide +kernel), List.mem_of_getElem? (i := 992) (by decide +kernel), List.mem_of_getElem? (i := 993) (by decide +kernel)⟩
theorem lw_p38 : lw_okq (⟨"LightInRoomModel", "shouldOf", "(I)I"⟩, 8) := ⟨⟨by decide +kernel, by decide +kernel⟩, List.mem_of_getElem? (i := 822) (by decide +kernel), List.mem_of_getElem? (i := 1036) (by decide +kernel), List.mem_of_getElem? (i := 1037) (by decide +kernel)⟩
theorem lw_p39 : lw_okq (⟨"LightInRoomModel", "seenOf", "(I)I"⟩, 8) := ⟨⟨by decide +kernel, by decide +kernel⟩, List.mem_of_getElem? (i := 822) (by decide +kernel), List.mem_of_getElem? (i := 1044) (by decide +kernel), List.mem_of_getElem? (i := 1045) (by decide +kernel)⟩
theorem lw_p40 : lw_okq (⟨"LightInRoomModel", "hasLine", "(II)Z"⟩, 8) := ⟨⟨by decide +kernel, by decide +kernel⟩, List.mem_of_getElem? (i := 822) (by decide +kernel), List.mem_of_getElem? (i := 1068) (by decide +kernel), List.mem_of_getElem? (i := 1069) (by decide +kernel)⟩
def lw_privs_3 : List (MethodName × Nat) := [(⟨"LightInRoomModel", "becomes", "(II)I"⟩, 8), (⟨"LightInRoomModel", "rightOf", "(II)I"⟩, 8), (⟨"LightInRoomModel", "isFit", "(III)Z"⟩, 8), (⟨"LightInRoomModel", "meets", "(III)Z"⟩, 8), (⟨"LightInRoomModel", "lawsOf", "(I)I"⟩, 8), (⟨"LightInRoomModel", "isCover", "(I)Z"⟩, 8), (⟨"LightInRoomModel", "shouldOf", "(I)I"⟩, 8), (⟨"LightInRoomModel", "seenOf", "(I)I"⟩, 8), (⟨"LightInRoomModel", "hasLine", "(II)Z"⟩, 8)]
theorem lw_r3 : ∀ q ∈ lw_privs_3, lw_okq q := List.forall_mem_cons.mpr ⟨lw_p32, List.forall_mem_cons.mpr ⟨lw_p33, List.forall_mem_cons.mpr ⟨lw_p34, List.forall_mem_cons.mpr ⟨lw_p35, List.forall_mem_cons.mpr ⟨lw_p36, List.forall_mem_cons.mpr ⟨lw_p37, List.forall_mem_cons.mpr ⟨lw_p38, List.forall_mem_cons.mpr ⟨lw_p39, List.forall_mem_cons.mpr ⟨lw_p40, fun _ h => absurd h List.not_mem_nil⟩⟩⟩⟩⟩⟩⟩⟩⟩
def lw_privs : List (MethodName × Nat) := lw_privs_1 ++ (lw_privs_2 ++ (lw_privs_3))
def lw_tbl : List Cond := k2_sels lw_privs ++ tables_1
theorem lw_privs_ok : ∀ q ∈ lw_privs, lw_okq q := by
  show ∀ q ∈ lw_privs_1 ++ (lw_privs_2 ++ (lw_privs_3)), lw_okq q
  exact List.forall_mem_append.mpr ⟨lw_r1, List.forall_mem_append.mpr ⟨lw_r2, lw_r3⟩⟩
end
section
def zF_Ben : u_T := fun k => match k with
  | 0 => ("LightInRoom$Bench", "size", "I", false)
  | 1 => ("LightInRoom$Bench", "seconds", "I", false)
  | 2 => ("LightInRoom$Bench", "colour", "I", false)
  | _ => ("LightInRoom$Bench", "marks", "I", false)
def zt_Ben : Nat → FieldType := fun k => match k with
  | 0 => .int
  | 1 => .int
  | 2 => .int
  | _ => .int
theorem zn_Ben : ∀ a, a < 4 → ∀ b, b < 4 → a ≠ b → (zF_Ben a).2.1 ≠ (zF_Ben b).2.1 := by decide +kernel
theorem zy_Ben : ∀ k, k < 4 → parseFieldDescriptor (zF_Ben k).2.2.1 = some (zt_Ben k) := by decide +kernel
def zF_Cal : u_T := fun k => match k with
  | 0 => ("LightInRoom$Telling", "size", "I", true)
  | 1 => ("LightInRoom$Telling", "seconds", "I", true)
  | 2 => ("LightInRoom$Telling", "colour", "I", true)
  | 3 => ("LightInRoom$Telling", "marks", "I", true)
  | 4 => ("LightInRoom$Telling", "years", "I", true)
  | _ => ("LightInRoom$Telling", "asked", "Z", true)
def zt_Cal : Nat → FieldType := fun k => match k with
  | 0 => .int
  | 1 => .int
  | 2 => .int
  | 3 => .int
  | 4 => .int
  | _ => .boolean
theorem zn_Cal : ∀ a, a < 6 → ∀ b, b < 6 → a ≠ b → (zF_Cal a).2.1 ≠ (zF_Cal b).2.1 := by decide +kernel
theorem zy_Cal : ∀ k, k < 6 → parseFieldDescriptor (zF_Cal k).2.2.1 = some (zt_Cal k) := by decide +kernel
def zF_Eye : u_T := fun k => match k with
  | 0 => ("LightInRoom$Telling", "size", "I", true)
  | 1 => ("LightInRoom$Telling", "seconds", "I", true)
  | 2 => ("LightInRoom$Telling", "colour", "I", true)
  | 3 => ("LightInRoom$Telling", "marks", "I", true)
  | 4 => ("LightInRoom$Telling", "years", "I", true)
  | _ => ("LightInRoom$Telling", "asked", "Z", true)
def zt_Eye : Nat → FieldType := fun k => match k with
  | 0 => .int
  | 1 => .int
  | 2 => .int
  | 3 => .int
  | 4 => .int
  | _ => .boolean
theorem zn_Eye : ∀ a, a < 6 → ∀ b, b < 6 → a ≠ b → (zF_Eye a).2.1 ≠ (zF_Eye b).2.1 := by decide +kernel
theorem zy_Eye : ∀ k, k < 6 → parseFieldDescriptor (zF_Eye k).2.2.1 = some (zt_Eye k) := by decide +kernel
def zF_Gro : u_T := fun k => match k with
  | 0 => ("LightInRoom$Telling", "size", "I", true)
  | 1 => ("LightInRoom$Telling", "seconds", "I", true)
  | 2 => ("LightInRoom$Telling", "colour", "I", true)
  | 3 => ("LightInRoom$Telling", "marks", "I", true)
  | 4 => ("LightInRoom$Telling", "years", "I", true)
  | _ => ("LightInRoom$Telling", "asked", "Z", true)
def zt_Gro : Nat → FieldType := fun k => match k with
  | 0 => .int
  | 1 => .int
  | 2 => .int
  | 3 => .int
  | 4 => .int
  | _ => .boolean
theorem zn_Gro : ∀ a, a < 6 → ∀ b, b < 6 → a ≠ b → (zF_Gro a).2.1 ≠ (zF_Gro b).2.1 := by decide +kernel
theorem zy_Gro : ∀ k, k < 6 → parseFieldDescriptor (zF_Gro k).2.2.1 = some (zt_Gro k) := by decide +kernel
def zF_Law : u_T := fun k => match k with
  | 0 => ("LightInRoom$Law", "conditions", "[I", true)
  | _ => ("LightInRoom$Law", "ringsReached", "I", false)
def zt_Law : Nat → FieldType := fun k => match k with
  | 0 => .array .int
  | _ => .int
theorem zn_Law : ∀ a, a < 2 → ∀ b, b < 2 → a ≠ b → (zF_Law a).2.1 ≠ (zF_Law b).2.1 := by decide +kernel
theorem zy_Law : ∀ k, k < 2 → parseFieldDescriptor (zF_Law k).2.2.1 = some (zt_Law k) := by decide +kernel
def zF_Nea : u_T := fun k => match k with
  | 0 => ("LightInRoom$Telling", "size", "I", true)
  | 1 => ("LightInRoom$Telling", "seconds", "I", true)
  | 2 => ("LightInRoom$Telling", "colour", "I", true)
  | 3 => ("LightInRoom$Telling", "marks", "I", true)
  | 4 => ("LightInRoom$Telling", "years", "I", true)
  | _ => ("LightInRoom$Telling", "asked", "Z", true)
def zt_Nea : Nat → FieldType := fun k => match k with
  | 0 => .int
  | 1 => .int
  | 2 => .int
  | 3 => .int
  | 4 => .int
  | _ => .boolean
theorem zn_Nea : ∀ a, a < 6 → ∀ b, b < 6 → a ≠ b → (zF_Nea a).2.1 ≠ (zF_Nea b).2.1 := by decide +kernel
theorem zy_Nea : ∀ k, k < 6 → parseFieldDescriptor (zF_Nea k).2.2.1 = some (zt_Nea k) := by decide +kernel
def zF_Roo : u_T := fun k => match k with
  | 0 => ("LightInRoom$Room", "tellings", "[LLightInRoom$Telling;", true)
  | 1 => ("LightInRoom$Room", "laws", "[LLightInRoom$Law;", true)
  | 2 => ("LightInRoom$Room", "pairFirsts", "[LLightInRoom$Telling;", true)
  | 3 => ("LightInRoom$Room", "pairSeconds", "[LLightInRoom$Telling;", true)
  | 4 => ("LightInRoom$Room", "growths", "[I", true)
  | 5 => ("LightInRoom$Room", "ringPeople", "[I", true)
  | 6 => ("LightInRoom$Room", "benchMade", "LLightInRoom$Bench;", true)
  | 7 => ("LightInRoom$Room", "tellingCount", "I", false)
  | 8 => ("LightInRoom$Room", "pairCount", "I", false)
  | 9 => ("LightInRoom$Room", "strokeCount", "I", false)
  | _ => ("LightInRoom$Room", "putsRight", "Z", false)
def zt_Roo : Nat → FieldType := fun k => match k with
  | 0 => .array (.object "LightInRoom$Telling")
  | 1 => .array (.object "LightInRoom$Law")
  | 2 => .array (.object "LightInRoom$Telling")
  | 3 => .array (.object "LightInRoom$Telling")
  | 4 => .array .int
  | 5 => .array .int
  | 6 => .object "LightInRoom$Bench"
  | 7 => .int
  | 8 => .int
  | 9 => .int
  | _ => .boolean
theorem zn_Roo : ∀ a, a < 11 → ∀ b, b < 11 → a ≠ b → (zF_Roo a).2.1 ≠ (zF_Roo b).2.1 := by decide +kernel
theorem zy_Roo : ∀ k, k < 11 → parseFieldDescriptor (zF_Roo k).2.2.1 = some (zt_Roo k) := by decide +kernel
def zF_Tap : u_T := fun k => match k with
  | 0 => ("LightInRoom$Tape", "bytes", "[I", true)
  | 1 => ("LightInRoom$Tape", "length", "I", false)
  | 2 => ("LightInRoom$Tape", "place", "I", false)
  | 3 => ("LightInRoom$Tape", "size", "I", false)
  | 4 => ("LightInRoom$Tape", "seconds", "I", false)
  | 5 => ("LightInRoom$Tape", "colour", "I", false)
  | 6 => ("LightInRoom$Tape", "marks", "I", false)
  | 7 => ("LightInRoom$Tape", "years", "I", false)
  | _ => ("LightInRoom$Tape", "asked", "Z", false)
def zt_Tap : Nat → FieldType := fun k => match k with
  | 0 => .array .int
  | 1 => .int
  | 2 => .int
  | 3 => .int
  | 4 => .int
  | 5 => .int
  | 6 => .int
  | 7 => .int
  | _ => .boolean
theorem zn_Tap : ∀ a, a < 9 → ∀ b, b < 9 → a ≠ b → (zF_Tap a).2.1 ≠ (zF_Tap b).2.1 := by decide +kernel
theorem zy_Tap : ∀ k, k < 9 → parseFieldDescriptor (zF_Tap k).2.2.1 = some (zt_Tap k) := by decide +kernel
def zF_Thr : u_T := fun k => match k with
  | 0 => ("LightInRoom$Telling", "size", "I", true)
  | 1 => ("LightInRoom$Telling", "seconds", "I", true)
  | 2 => ("LightInRoom$Telling", "colour", "I", true)
  | 3 => ("LightInRoom$Telling", "marks", "I", true)
  | 4 => ("LightInRoom$Telling", "years", "I", true)
  | _ => ("LightInRoom$Telling", "asked", "Z", true)
def zt_Thr : Nat → FieldType := fun k => match k with
  | 0 => .int
  | 1 => .int
  | 2 => .int
  | 3 => .int
  | 4 => .int
  | _ => .boolean
theorem zn_Thr : ∀ a, a < 6 → ∀ b, b < 6 → a ≠ b → (zF_Thr a).2.1 ≠ (zF_Thr b).2.1 := by decide +kernel
theorem zy_Thr : ∀ k, k < 6 → parseFieldDescriptor (zF_Thr k).2.2.1 = some (zt_Thr k) := by decide +kernel
def zF_Wit : u_T := fun k => match k with
  | 0 => ("LightInRoom$Telling", "size", "I", true)
  | 1 => ("LightInRoom$Telling", "seconds", "I", true)
  | 2 => ("LightInRoom$Telling", "colour", "I", true)
  | 3 => ("LightInRoom$Telling", "marks", "I", true)
  | 4 => ("LightInRoom$Telling", "years", "I", true)
  | _ => ("LightInRoom$Telling", "asked", "Z", true)
def zt_Wit : Nat → FieldType := fun k => match k with
  | 0 => .int
  | 1 => .int
  | 2 => .int
  | 3 => .int
  | 4 => .int
  | _ => .boolean
theorem zn_Wit : ∀ a, a < 6 → ∀ b, b < 6 → a ≠ b → (zF_Wit a).2.1 ≠ (zF_Wit b).2.1 := by decide +kernel
theorem zy_Wit : ∀ k, k < 6 → parseFieldDescriptor (zF_Wit k).2.2.1 = some (zt_Wit k) := by decide +kernel
def zF_Lir : u_T := fun k => match k with
  | 0 => ("LightInRoom", "tape", "LLightInRoom$Tape;", true)
  | 1 => ("LightInRoom", "now", "LLightInRoom$Room;", true)
  | 2 => ("LightInRoom", "then", "LLightInRoom$Room;", true)
  | 3 => ("LightInRoom", "refusals", "[I", true)
  | 4 => ("LightInRoom", "notes", "[I", true)
  | _ => ("LightInRoom", "taken", "Z", false)
def zt_Lir : Nat → FieldType := fun k => match k with
  | 0 => .object "LightInRoom$Tape"
  | 1 => .object "LightInRoom$Room"
  | 2 => .object "LightInRoom$Room"
  | 3 => .array .int
  | 4 => .array .int
  | _ => .boolean
theorem zn_Lir : ∀ a, a < 6 → ∀ b, b < 6 → a ≠ b → (zF_Lir a).2.1 ≠ (zF_Lir b).2.1 := by decide +kernel
theorem zy_Lir : ∀ k, k < 6 → parseFieldDescriptor (zF_Lir k).2.2.1 = some (zt_Lir k) := by decide +kernel
def zF_Mod : u_T := fun k => match k with
  | 0 => ("LightInRoomModel", "refusals", "[I", true)
  | 1 => ("LightInRoomModel", "s", "[I", true)
  | 2 => ("LightInRoomModel", "image", "[I", true)
  | 3 => ("LightInRoomModel", "isImage", "Z", false)
  | 4 => ("LightInRoomModel", "tape", "[I", true)
  | 5 => ("LightInRoomModel", "read", "[I", true)
  | 6 => ("LightInRoomModel", "taped", "I", false)
  | _ => ("LightInRoomModel", "at", "I", false)
def zt_Mod : Nat → FieldType := fun k => match k with
  | 0 => .array .int
  | 1 => .array .int
  | 2 => .array .int
  | 3 => .boolean
  | 4 => .array .int
  | 5 => .array .int
  | 6 => .int
  | _ => .int
theorem zn_Mod : ∀ a, a < 8 → ∀ b, b < 8 → a ≠ b → (zF_Mod a).2.1 ≠ (zF_Mod b).2.1 := by decide +kernel
theorem zy_Mod : ∀ k, k < 8 → parseFieldDescriptor (zF_Mod k).2.2.1 = some (zt_Mod k) := by decide +kernel
/-- the classes whose objects the heap holds, by number -/
abbrev zCl : List vw_C := [("LightInRoom$Bench", zF_Ben, 4), ("LightInRoom$Called", zF_Cal, 6), ("LightInRoom$Eye", zF_Eye, 6), ("LightInRoom$Grown", zF_Gro, 6), ("LightInRoom$Law", zF_Law, 2), ("LightInRoom$Near", zF_Nea, 6), ("LightInRoom$Room", zF_Roo, 11), ("LightInRoom$Tape", zF_Tap, 9), ("LightInRoom$Through", zF_Thr, 6), ("LightInRoom$Without", zF_Wit, 6), ("LightInRoom", zF_Lir, 6), ("LightInRoomModel", zF_Mod, 8)]
abbrev m_Lir_init : MethodName × ByteArray × Nat × Option FieldType := (⟨"LightInRoom", "<init>", "()V"⟩, prog_1_method_1_code, 1, none)
abbrev m_Tap_init : MethodName × ByteArray × Nat × Option FieldType := (⟨"LightInRoom$Tape", "<init>", "()V"⟩, prog_9_method_1_code, 1, none)
abbrev m_Roo_init : MethodName × ByteArray × Nat × Option FieldType := (⟨"LightInRoom$Room", "<init>", "()V"⟩, prog_8_method_1_code, 2, none)
abbrev m_Law_init : MethodName × ByteArray × Nat × Option FieldType := (⟨"LightInRoom$Law", "<init>", "()V"⟩, prog_6_method_1_code, 1, none)
abbrev m_Ben_init : MethodName × ByteArray × Nat × Option FieldType := (⟨"LightInRoom$Bench", "<init>", "()V"⟩, prog_2_method_1_code, 1, none)
abbrev m_Lir_feed : MethodName × ByteArray × Nat × Option FieldType := (⟨"LightInRoom", "feed", "(IJ)I"⟩, prog_1_method_2_code, 4, some .int)
abbrev m_Lir_refuse : MethodName × ByteArray × Nat × Option FieldType := (⟨"LightInRoom", "refuse", "(I)I"⟩, prog_1_method_37_code, 3, some .int)
abbrev m_Tap_roomLeft : MethodName × ByteArray × Nat × Option FieldType := (⟨"LightInRoom$Tape", "roomLeft", "()I"⟩, prog_9_method_2_code, 1, some .int)
abbrev m_Tap_add : MethodName × ByteArray × Nat × Option FieldType := (⟨"LightInRoom$Tape", "add", "(IJ)V"⟩, prog_9_method_3_code, 5, none)
abbrev m_Lir_telling : MethodName × ByteArray × Nat × Option FieldType := (⟨"LightInRoom", "telling", "()I"⟩, prog_1_method_3_code, 2, some .int)
abbrev m_Tap_read : MethodName × ByteArray × Nat × Option FieldType := (⟨"LightInRoom$Tape", "read", "()Z"⟩, prog_9_method_5_code, 1, some .boolean)
abbrev m_Tap_readSize : MethodName × ByteArray × Nat × Option FieldType := (⟨"LightInRoom$Tape", "readSize", "()Z"⟩, prog_9_method_11_code, 1, some .boolean)
abbrev m_Tap_passes : MethodName × ByteArray × Nat × Option FieldType := (⟨"LightInRoom$Tape", "passes", "(C)Z"⟩, prog_9_method_8_code, 2, some .boolean)
abbrev m_Tap_byteHere : MethodName × ByteArray × Nat × Option FieldType := (⟨"LightInRoom$Tape", "byteHere", "()I"⟩, prog_9_method_7_code, 1, some .int)
abbrev m_Tap_readNumber : MethodName × ByteArray × Nat × Option FieldType := (⟨"LightInRoom$Tape", "readNumber", "(I)I"⟩, prog_9_method_10_code, 4, some .int)
abbrev m_Tap_digitHere : MethodName × ByteArray × Nat × Option FieldType := (⟨"LightInRoom$Tape", "digitHere", "()Z"⟩, prog_9_method_9_code, 1, some .boolean)
abbrev m_Tap_readSeconds : MethodName × ByteArray × Nat × Option FieldType := (⟨"LightInRoom$Tape", "readSeconds", "()Z"⟩, prog_9_method_12_code, 1, some .boolean)
abbrev m_Tap_readColour : MethodName × ByteArray × Nat × Option FieldType := (⟨"LightInRoom$Tape", "readColour", "()Z"⟩, prog_9_method_13_code, 1, some .boolean)
abbrev m_Tap_readMarks : MethodName × ByteArray × Nat × Option FieldType := (⟨"LightInRoom$Tape", "readMarks", "()Z"⟩, prog_9_method_14_code, 2, some .boolean)
abbrev m_Str_length : MethodName × ByteArray × Nat × Option FieldType := (⟨"java/lang/String", "length", "()I"⟩, prog_17_method_54_code, 1, some .int)
abbrev m_Str_coder : MethodName × ByteArray × Nat × Option FieldType := (⟨"java/lang/String", "coder", "()B"⟩, prog_17_method_152_code, 1, some .byte)
abbrev m_Str_charAt : MethodName × ByteArray × Nat × Option FieldType := (⟨"java/lang/String", "charAt", "(I)C"⟩, prog_17_method_56_code, 2, some .char)
abbrev m_Str_isLatin1 : MethodName × ByteArray × Nat × Option FieldType := (⟨"java/lang/String", "isLatin1", "()Z"⟩, prog_17_method_154_code, 1, some .boolean)
abbrev m_SLa_charAt : MethodName × ByteArray × Nat × Option FieldType := (⟨"java/lang/StringLatin1", "charAt", "([BI)C"⟩, prog_18_method_2_code, 2, some .char)
abbrev m_Str_checkIndex : MethodName × ByteArray × Nat × Option FieldType := (⟨"java/lang/String", "checkIndex", "(II)V"⟩, prog_17_method_155_code, 2, none)
abbrev m_Pre_checkIndex : MethodName × ByteArray × Nat × Option FieldType := (⟨"jdk/internal/util/Preconditions", "checkIndex", "(IILjava/util/function/BiFunction;)I"⟩, prog_21_method_11_code, 3, some .int)
abbrev m_SUt_charAt : MethodName × ByteArray × Nat × Option FieldType := (⟨"java/lang/StringUTF16", "charAt", "([BI)C"⟩, prog_19_method_83_code, 2, some .char)
abbrev m_SUt_checkIndex : MethodName × ByteArray × Nat × Option FieldType := (⟨"java/lang/StringUTF16", "checkIndex", "(I[B)V"⟩, prog_19_method_91_code, 2, none)
abbrev m_SUt_length : MethodName × ByteArray × Nat × Option FieldType := (⟨"java/lang/StringUTF16", "length", "([B)I"⟩, prog_19_method_6_code, 1, some .int)
abbrev m_SUt_getChar : MethodName × ByteArray × Nat × Option FieldType := (⟨"java/lang/StringUTF16", "getChar", "([BI)C"⟩, prog_19_method_5_code, 2, some .char)
abbrev m_Tap_readYears : MethodName × ByteArray × Nat × Option FieldType := (⟨"LightInRoom$Tape", "readYears", "()Z"⟩, prog_9_method_15_code, 1, some .boolean)
abbrev m_Tap_readAsked : MethodName × ByteArray × Nat × Option FieldType := (⟨"LightInRoom$Tape", "readAsked", "()Z"⟩, prog_9_method_16_code, 1, some .boolean)
abbrev m_Tap_clear : MethodName × ByteArray × Nat × Option FieldType := (⟨"LightInRoom$Tape", "clear", "()V"⟩, prog_9_method_4_code, 1, none)
abbrev m_Tap_newTelling : MethodName × ByteArray × Nat × Option FieldType := (⟨"LightInRoom$Tape", "newTelling", "()LLightInRoom$Telling;"⟩, prog_9_method_6_code, 1, some (.object "LightInRoom$Telling"))
abbrev m_Cal_init : MethodName × ByteArray × Nat × Option FieldType := (⟨"LightInRoom$Called", "<init>", "(LLightInRoom$Tape;)V"⟩, prog_3_method_1_code, 2, none)
abbrev m_Tel_init : MethodName × ByteArray × Nat × Option FieldType := (⟨"LightInRoom$Telling", "<init>", "(LLightInRoom$Tape;)V"⟩, prog_10_method_1_code, 2, none)
abbrev m_Lir_hasBit : MethodName × ByteArray × Nat × Option FieldType := (⟨"LightInRoom", "hasBit", "(II)Z"⟩, prog_1_method_44_code, 2, some .boolean)
abbrev m_Eye_init : MethodName × ByteArray × Nat × Option FieldType := (⟨"LightInRoom$Eye", "<init>", "(LLightInRoom$Tape;)V"⟩, prog_4_method_1_code, 2, none)
abbrev m_Thr_init : MethodName × ByteArray × Nat × Option FieldType := (⟨"LightInRoom$Through", "<init>", "(LLightInRoom$Tape;)V"⟩, prog_11_method_1_code, 2, none)
abbrev m_Nea_init : MethodName × ByteArray × Nat × Option FieldType := (⟨"LightInRoom$Near", "<init>", "(LLightInRoom$Tape;)V"⟩, prog_7_method_1_code, 2, none)
abbrev m_Gro_init : MethodName × ByteArray × Nat × Option FieldType := (⟨"LightInRoom$Grown", "<init>", "(LLightInRoom$Tape;)V"⟩, prog_5_method_1_code, 2, none)
abbrev m_Wit_init : MethodName × ByteArray × Nat × Option FieldType := (⟨"LightInRoom$Without", "<init>", "(LLightInRoom$Tape;)V"⟩, prog_12_method_1_code, 2, none)
abbrev m_Roo_addTelling : MethodName × ByteArray × Nat × Option FieldType := (⟨"LightInRoom$Room", "addTelling", "(LLightInRoom$Telling;)I"⟩, prog_8_method_9_code, 2, some .int)
abbrev m_Lir_tellingOf : MethodName × ByteArray × Nat × Option FieldType := (⟨"LightInRoom", "tellingOf", "(II)I"⟩, prog_1_method_4_code, 4, some .int)
abbrev m_Roo_tellingAt : MethodName × ByteArray × Nat × Option FieldType := (⟨"LightInRoom$Room", "tellingAt", "(I)LLightInRoom$Telling;"⟩, prog_8_method_4_code, 2, some (.object "LightInRoom$Telling"))
abbrev m_Roo_inRow : MethodName × ByteArray × Nat × Option FieldType := (⟨"LightInRoom$Room", "inRow", "([LLightInRoom$Telling;I)LLightInRoom$Telling;"⟩, prog_8_method_7_code, 2, some (.object "LightInRoom$Telling"))
abbrev m_Lir_kind : MethodName × ByteArray × Nat × Option FieldType := (⟨"LightInRoom", "kind", "(I)I"⟩, prog_1_method_5_code, 3, some .int)
abbrev m_Cal_kindNumber : MethodName × ByteArray × Nat × Option FieldType := (⟨"LightInRoom$Called", "kindNumber", "()I"⟩, prog_3_method_2_code, 1, some .int)
abbrev m_Eye_kindNumber : MethodName × ByteArray × Nat × Option FieldType := (⟨"LightInRoom$Eye", "kindNumber", "()I"⟩, prog_4_method_2_code, 1, some .int)
abbrev m_Gro_kindNumber : MethodName × ByteArray × Nat × Option FieldType := (⟨"LightInRoom$Grown", "kindNumber", "()I"⟩, prog_5_method_2_code, 1, some .int)
abbrev m_Nea_kindNumber : MethodName × ByteArray × Nat × Option FieldType := (⟨"LightInRoom$Near", "kindNumber", "()I"⟩, prog_7_method_2_code, 1, some .int)
abbrev m_Thr_kindNumber : MethodName × ByteArray × Nat × Option FieldType := (⟨"LightInRoom$Through", "kindNumber", "()I"⟩, prog_11_method_2_code, 1, some .int)
abbrev m_Wit_kindNumber : MethodName × ByteArray × Nat × Option FieldType := (⟨"LightInRoom$Without", "kindNumber", "()I"⟩, prog_12_method_2_code, 1, some .int)
abbrev m_Lir_weight : MethodName × ByteArray × Nat × Option FieldType := (⟨"LightInRoom", "weight", "(I)I"⟩, prog_1_method_6_code, 3, some .int)
abbrev m_Cal_ownWeight : MethodName × ByteArray × Nat × Option FieldType := (⟨"LightInRoom$Called", "ownWeight", "()I"⟩, prog_3_method_3_code, 1, some .int)
abbrev m_Eye_ownWeight : MethodName × ByteArray × Nat × Option FieldType := (⟨"LightInRoom$Eye", "ownWeight", "()I"⟩, prog_4_method_3_code, 1, some .int)
abbrev m_Gro_ownWeight : MethodName × ByteArray × Nat × Option FieldType := (⟨"LightInRoom$Grown", "ownWeight", "()I"⟩, prog_5_method_3_code, 1, some .int)
abbrev m_Wit_ownWeight : MethodName × ByteArray × Nat × Option FieldType := (⟨"LightInRoom$Without", "ownWeight", "()I"⟩, prog_12_method_3_code, 1, some .int)
abbrev m_Nea_ownWeight : MethodName × ByteArray × Nat × Option FieldType := (⟨"LightInRoom$Near", "ownWeight", "()I"⟩, prog_7_method_3_code, 1, some .int)
abbrev m_Thr_ownWeight : MethodName × ByteArray × Nat × Option FieldType := (⟨"LightInRoom$Through", "ownWeight", "()I"⟩, prog_11_method_3_code, 1, some .int)
abbrev m_Lir_law : MethodName × ByteArray × Nat × Option FieldType := (⟨"LightInRoom", "law", "(III)I"⟩, prog_1_method_7_code, 7, some .int)
abbrev m_Roo_lawAt : MethodName × ByteArray × Nat × Option FieldType := (⟨"LightInRoom$Room", "lawAt", "(I)LLightInRoom$Law;"⟩, prog_8_method_8_code, 2, some (.object "LightInRoom$Law"))
abbrev m_Lir_outside : MethodName × ByteArray × Nat × Option FieldType := (⟨"LightInRoom", "outside", "(III)I"⟩, prog_1_method_40_code, 3, some .int)
abbrev m_Lir_exchange : MethodName × ByteArray × Nat × Option FieldType := (⟨"LightInRoom", "exchange", "([III)I"⟩, prog_1_method_45_code, 4, some .int)
abbrev m_Lir_right : MethodName × ByteArray × Nat × Option FieldType := (⟨"LightInRoom", "right", "(Z)I"⟩, prog_1_method_8_code, 2, some .int)
abbrev m_Lir_growth : MethodName × ByteArray × Nat × Option FieldType := (⟨"LightInRoom", "growth", "(II)I"⟩, prog_1_method_9_code, 4, some .int)
abbrev m_Lir_isSizeOrSeconds : MethodName × ByteArray × Nat × Option FieldType := (⟨"LightInRoom", "isSizeOrSeconds", "(I)Z"⟩, prog_1_method_41_code, 1, some .boolean)
abbrev m_Lir_put : MethodName × ByteArray × Nat × Option FieldType := (⟨"LightInRoom", "put", "(II)I"⟩, prog_1_method_10_code, 4, some .int)
abbrev m_Roo_rightNumber : MethodName × ByteArray × Nat × Option FieldType := (⟨"LightInRoom$Room", "rightNumber", "(LLightInRoom$Telling;I)I"⟩, prog_8_method_11_code, 4, some .int)
abbrev m_Tel_lacks : MethodName × ByteArray × Nat × Option FieldType := (⟨"LightInRoom$Telling", "lacks", "(I)Z"⟩, prog_10_method_6_code, 2, some .boolean)
abbrev m_Tel_numberTold : MethodName × ByteArray × Nat × Option FieldType := (⟨"LightInRoom$Telling", "numberTold", "(I)I"⟩, prog_10_method_5_code, 2, some .int)
abbrev m_Lir_fits : MethodName × ByteArray × Nat × Option FieldType := (⟨"LightInRoom", "fits", "(II)I"⟩, prog_1_method_11_code, 5, some .int)
abbrev m_Roo_brokenBy : MethodName × ByteArray × Nat × Option FieldType := (⟨"LightInRoom$Room", "brokenBy", "(LLightInRoom$Telling;LLightInRoom$Law;)I"⟩, prog_8_method_13_code, 3, some .int)
abbrev m_Roo_heldNumber : MethodName × ByteArray × Nat × Option FieldType := (⟨"LightInRoom$Room", "heldNumber", "(LLightInRoom$Telling;I)I"⟩, prog_8_method_12_code, 3, some .int)
abbrev m_Law_brokenBy : MethodName × ByteArray × Nat × Option FieldType := (⟨"LightInRoom$Law", "brokenBy", "(LLightInRoom$Telling;II)I"⟩, prog_6_method_3_code, 5, some .int)
abbrev m_Lir_share : MethodName × ByteArray × Nat × Option FieldType := (⟨"LightInRoom", "share", "(II)I"⟩, prog_1_method_12_code, 11, some .int)
abbrev m_Lir_refuseAsTold : MethodName × ByteArray × Nat × Option FieldType := (⟨"LightInRoom", "refuseAsTold", "(I)I"⟩, prog_1_method_38_code, 2, some .int)
abbrev m_Lir_isPart : MethodName × ByteArray × Nat × Option FieldType := (⟨"LightInRoom", "isPart", "(I)Z"⟩, prog_1_method_42_code, 1, some .boolean)
abbrev m_Lir_leastTerms : MethodName × ByteArray × Nat × Option FieldType := (⟨"LightInRoom", "leastTerms", "(III)I"⟩, prog_1_method_47_code, 4, some .int)
abbrev m_Lir_greatestCommon : MethodName × ByteArray × Nat × Option FieldType := (⟨"LightInRoom", "greatestCommon", "(II)I"⟩, prog_1_method_48_code, 6, some .int)
abbrev m_Lir_only : MethodName × ByteArray × Nat × Option FieldType := (⟨"LightInRoom", "only", "(I)I"⟩, prog_1_method_13_code, 2, some .int)
abbrev m_Lir_howManyFitOnly : MethodName × ByteArray × Nat × Option FieldType := (⟨"LightInRoom", "howManyFitOnly", "(II)I"⟩, prog_1_method_50_code, 8, some .int)
abbrev m_Roo_lawsFitted : MethodName × ByteArray × Nat × Option FieldType := (⟨"LightInRoom$Room", "lawsFitted", "(LLightInRoom$Telling;)I"⟩, prog_8_method_14_code, 7, some .int)
abbrev m_Lir_cover : MethodName × ByteArray × Nat × Option FieldType := (⟨"LightInRoom", "cover", "()I"⟩, prog_1_method_14_code, 3, some .int)
abbrev m_Lir_noteLaws : MethodName × ByteArray × Nat × Option FieldType := (⟨"LightInRoom", "noteLaws", "()V"⟩, prog_1_method_51_code, 3, none)
abbrev m_Int_bitCount : MethodName × ByteArray × Nat × Option FieldType := (⟨"java/lang/Integer", "bitCount", "(I)I"⟩, prog_15_method_49_code, 1, some .int)
abbrev m_Lir_coversAll : MethodName × ByteArray × Nat × Option FieldType := (⟨"LightInRoom", "coversAll", "(I)Z"⟩, prog_1_method_53_code, 3, some .boolean)
abbrev m_Lir_half : MethodName × ByteArray × Nat × Option FieldType := (⟨"LightInRoom", "half", "(I)I"⟩, prog_1_method_15_code, 5, some .int)
abbrev m_Lir_noteBroken : MethodName × ByteArray × Nat × Option FieldType := (⟨"LightInRoom", "noteBroken", "(LLightInRoom$Law;)V"⟩, prog_1_method_52_code, 4, none)
abbrev m_Lir_halfFitsWithout : MethodName × ByteArray × Nat × Option FieldType := (⟨"LightInRoom", "halfFitsWithout", "(I)Z"⟩, prog_1_method_54_code, 4, some .boolean)
abbrev m_Lir_sorts : MethodName × ByteArray × Nat × Option FieldType := (⟨"LightInRoom", "sorts", "(I)I"⟩, prog_1_method_16_code, 5, some .int)
abbrev m_Lir_firstNotedLike : MethodName × ByteArray × Nat × Option FieldType := (⟨"LightInRoom", "firstNotedLike", "(I)I"⟩, prog_1_method_55_code, 3, some .int)
abbrev m_Lir_howManyNotedLike : MethodName × ByteArray × Nat × Option FieldType := (⟨"LightInRoom", "howManyNotedLike", "(I)I"⟩, prog_1_method_56_code, 4, some .int)
abbrev m_Mat_max : MethodName × ByteArray × Nat × Option FieldType := (⟨"java/lang/Math", "max", "(II)I"⟩, prog_16_method_65_code, 2, some .int)
abbrev m_Lir_alike : MethodName × ByteArray × Nat × Option FieldType := (⟨"LightInRoom", "alike", "(I)I"⟩, prog_1_method_17_code, 2, some .int)
abbrev m_Lir_together : MethodName × ByteArray × Nat × Option FieldType := (⟨"LightInRoom", "together", "(II)I"⟩, prog_1_method_18_code, 12, some .int)
abbrev m_Lir_isMark : MethodName × ByteArray × Nat × Option FieldType := (⟨"LightInRoom", "isMark", "(I)Z"⟩, prog_1_method_43_code, 1, some .boolean)
abbrev m_Tel_has : MethodName × ByteArray × Nat × Option FieldType := (⟨"LightInRoom$Telling", "has", "(I)Z"⟩, prog_10_method_4_code, 2, some .boolean)
abbrev m_Lir_hundredths : MethodName × ByteArray × Nat × Option FieldType := (⟨"LightInRoom", "hundredths", "(II)I"⟩, prog_1_method_46_code, 2, some .int)
abbrev m_Lir_twice : MethodName × ByteArray × Nat × Option FieldType := (⟨"LightInRoom", "twice", "(II)I"⟩, prog_1_method_19_code, 5, some .int)
abbrev m_Roo_addPair : MethodName × ByteArray × Nat × Option FieldType := (⟨"LightInRoom$Room", "addPair", "(LLightInRoom$Telling;LLightInRoom$Telling;)I"⟩, prog_8_method_10_code, 3, some .int)
abbrev m_Lir_grows : MethodName × ByteArray × Nat × Option FieldType := (⟨"LightInRoom", "grows", "(II)I"⟩, prog_1_method_20_code, 8, some .int)
abbrev m_Roo_firstOfPair : MethodName × ByteArray × Nat × Option FieldType := (⟨"LightInRoom$Room", "firstOfPair", "(I)LLightInRoom$Telling;"⟩, prog_8_method_5_code, 2, some (.object "LightInRoom$Telling"))
abbrev m_Roo_secondOfPair : MethodName × ByteArray × Nat × Option FieldType := (⟨"LightInRoom$Room", "secondOfPair", "(I)LLightInRoom$Telling;"⟩, prog_8_method_6_code, 2, some (.object "LightInRoom$Telling"))
abbrev m_Lir_people : MethodName × ByteArray × Nat × Option FieldType := (⟨"LightInRoom", "people", "(II)I"⟩, prog_1_method_21_code, 4, some .int)
abbrev m_Lir_strokes : MethodName × ByteArray × Nat × Option FieldType := (⟨"LightInRoom", "strokes", "(I)I"⟩, prog_1_method_22_code, 4, some .int)
abbrev m_Lir_reach : MethodName × ByteArray × Nat × Option FieldType := (⟨"LightInRoom", "reach", "(II)I"⟩, prog_1_method_23_code, 6, some .int)
abbrev m_Lir_should : MethodName × ByteArray × Nat × Option FieldType := (⟨"LightInRoom", "should", "(I)I"⟩, prog_1_method_24_code, 3, some .int)
abbrev m_Roo_shownTo : MethodName × ByteArray × Nat × Option FieldType := (⟨"LightInRoom$Room", "shownTo", "(LLightInRoom$Law;)I"⟩, prog_8_method_20_code, 4, some .int)
abbrev m_Lir_seen : MethodName × ByteArray × Nat × Option FieldType := (⟨"LightInRoom", "seen", "(I)I"⟩, prog_1_method_25_code, 3, some .int)
abbrev m_Roo_howManyFit : MethodName × ByteArray × Nat × Option FieldType := (⟨"LightInRoom$Room", "howManyFit", "(LLightInRoom$Law;)I"⟩, prog_8_method_15_code, 7, some .int)
abbrev m_Lir_beyond : MethodName × ByteArray × Nat × Option FieldType := (⟨"LightInRoom", "beyond", "(II)I"⟩, prog_1_method_26_code, 5, some .int)
abbrev m_Lir_leads : MethodName × ByteArray × Nat × Option FieldType := (⟨"LightInRoom", "leads", "()I"⟩, prog_1_method_27_code, 10, some .int)
abbrev m_Roo_howManyAsked : MethodName × ByteArray × Nat × Option FieldType := (⟨"LightInRoom$Room", "howManyAsked", "()I"⟩, prog_8_method_17_code, 6, some .int)
abbrev m_Roo_howManyAskedFit : MethodName × ByteArray × Nat × Option FieldType := (⟨"LightInRoom$Room", "howManyAskedFit", "(LLightInRoom$Law;)I"⟩, prog_8_method_16_code, 7, some .int)
abbrev m_Lir_pictures : MethodName × ByteArray × Nat × Option FieldType := (⟨"LightInRoom", "pictures", "(I)I"⟩, prog_1_method_28_code, 2, some .int)
abbrev m_Lir_bench : MethodName × ByteArray × Nat × Option FieldType := (⟨"LightInRoom", "bench", "(IIII)I"⟩, prog_1_method_29_code, 5, some .int)
abbrev m_Ben_tell : MethodName × ByteArray × Nat × Option FieldType := (⟨"LightInRoom$Bench", "tell", "(IIII)V"⟩, prog_2_method_2_code, 5, none)
abbrev m_Lir_lines : MethodName × ByteArray × Nat × Option FieldType := (⟨"LightInRoom", "lines", "(I)I"⟩, prog_1_method_30_code, 3, some .int)
abbrev m_Ben_linesLacking : MethodName × ByteArray × Nat × Option FieldType := (⟨"LightInRoom$Bench", "linesLacking", "(LLightInRoom$Telling;)I"⟩, prog_2_method_3_code, 3, some .int)
abbrev m_Lir_misses : MethodName × ByteArray × Nat × Option FieldType := (⟨"LightInRoom", "misses", "(I)I"⟩, prog_1_method_31_code, 5, some .int)
abbrev m_Lir_barred : MethodName × ByteArray × Nat × Option FieldType := (⟨"LightInRoom", "barred", "(I)I"⟩, prog_1_method_32_code, 5, some .int)
abbrev m_Lir_glasses : MethodName × ByteArray × Nat × Option FieldType := (⟨"LightInRoom", "glasses", "(II)I"⟩, prog_1_method_33_code, 8, some .int)
abbrev m_Roo_fullestRing : MethodName × ByteArray × Nat × Option FieldType := (⟨"LightInRoom$Room", "fullestRing", "(II)I"⟩, prog_8_method_21_code, 6, some .int)
abbrev m_Lir_image : MethodName × ByteArray × Nat × Option FieldType := (⟨"LightInRoom", "image", "()I"⟩, prog_1_method_34_code, 1, some .int)
abbrev m_Roo_becomeLike : MethodName × ByteArray × Nat × Option FieldType := (⟨"LightInRoom$Room", "becomeLike", "(LLightInRoom$Room;)V"⟩, prog_8_method_2_code, 5, none)
abbrev m_Roo_copyTellings : MethodName × ByteArray × Nat × Option FieldType := (⟨"LightInRoom$Room", "copyTellings", "([LLightInRoom$Telling;[LLightInRoom$Telling;)V"⟩, prog_8_method_3_code, 3, none)
abbrev m_Law_becomeLike : MethodName × ByteArray × Nat × Option FieldType := (⟨"LightInRoom$Law", "becomeLike", "(LLightInRoom$Law;)V"⟩, prog_6_method_2_code, 2, none)
abbrev m_Lir_copyRow : MethodName × ByteArray × Nat × Option FieldType := (⟨"LightInRoom", "copyRow", "([I[I)V"⟩, prog_1_method_49_code, 2, none)
abbrev m_Mat_min : MethodName × ByteArray × Nat × Option FieldType := (⟨"java/lang/Math", "min", "(II)I"⟩, prog_16_method_69_code, 2, some .int)
abbrev m_Lir_on : MethodName × ByteArray × Nat × Option FieldType := (⟨"LightInRoom", "on", "()I"⟩, prog_1_method_35_code, 1, some .int)
abbrev m_Lir_count : MethodName × ByteArray × Nat × Option FieldType := (⟨"LightInRoom", "count", "(I)I"⟩, prog_1_method_36_code, 2, some .int)
abbrev m_Roo_howManyGaps : MethodName × ByteArray × Nat × Option FieldType := (⟨"LightInRoom$Room", "howManyGaps", "()I"⟩, prog_8_method_18_code, 6, some .int)
abbrev m_Tel_gaps : MethodName × ByteArray × Nat × Option FieldType := (⟨"LightInRoom$Telling", "gaps", "()I"⟩, prog_10_method_7_code, 1, some .int)
abbrev m_Roo_howManyMarks : MethodName × ByteArray × Nat × Option FieldType := (⟨"LightInRoom$Room", "howManyMarks", "()I"⟩, prog_8_method_19_code, 6, some .int)
abbrev m_Lir_refusalsCounted : MethodName × ByteArray × Nat × Option FieldType := (⟨"LightInRoom", "refusalsCounted", "(I)I"⟩, prog_1_method_39_code, 2, some .int)
abbrev m_Mod_init : MethodName × ByteArray × Nat × Option FieldType := (⟨"LightInRoomModel", "<init>", "()V"⟩, prog_14_method_1_code, 2, none)
abbrev m_Mod_feed : MethodName × ByteArray × Nat × Option FieldType := (⟨"LightInRoomModel", "feed", "(IJ)I"⟩, prog_14_method_9_code, 5, some .int)
abbrev m_Mod_refuse : MethodName × ByteArray × Nat × Option FieldType := (⟨"LightInRoomModel", "refuse", "(I)I"⟩, prog_14_method_2_code, 2, some .int)
abbrev m_Mod_telling : MethodName × ByteArray × Nat × Option FieldType := (⟨"LightInRoomModel", "telling", "()I"⟩, prog_14_method_16_code, 3, some .int)
abbrev m_Mod_reads : MethodName × ByteArray × Nat × Option FieldType := (⟨"LightInRoomModel", "reads", "()Z"⟩, prog_14_method_15_code, 2, some .boolean)
abbrev m_Mod_takes : MethodName × ByteArray × Nat × Option FieldType := (⟨"LightInRoomModel", "takes", "(I)Z"⟩, prog_14_method_14_code, 2, some .boolean)
abbrev m_Mod_sign : MethodName × ByteArray × Nat × Option FieldType := (⟨"LightInRoomModel", "sign", "()I"⟩, prog_14_method_10_code, 1, some .int)
abbrev m_Mod_readsNumber : MethodName × ByteArray × Nat × Option FieldType := (⟨"LightInRoomModel", "readsNumber", "(II)Z"⟩, prog_14_method_12_code, 4, some .boolean)
abbrev m_Mod_isDigit : MethodName × ByteArray × Nat × Option FieldType := (⟨"LightInRoomModel", "isDigit", "()Z"⟩, prog_14_method_11_code, 1, some .boolean)
abbrev m_Mod_markOf : MethodName × ByteArray × Nat × Option FieldType := (⟨"LightInRoomModel", "markOf", "(I)I"⟩, prog_14_method_13_code, 1, some .int)
abbrev m_Mod_tellingOf : MethodName × ByteArray × Nat × Option FieldType := (⟨"LightInRoomModel", "tellingOf", "(II)I"⟩, prog_14_method_17_code, 3, some .int)
abbrev m_Mod_isTelling : MethodName × ByteArray × Nat × Option FieldType := (⟨"LightInRoomModel", "isTelling", "(I)Z"⟩, prog_14_method_5_code, 2, some .boolean)
abbrev m_Mod_isIn : MethodName × ByteArray × Nat × Option FieldType := (⟨"LightInRoomModel", "isIn", "(II)Z"⟩, prog_14_method_3_code, 2, some .boolean)
abbrev m_Mod_get : MethodName × ByteArray × Nat × Option FieldType := (⟨"LightInRoomModel", "get", "(II)I"⟩, prog_14_method_7_code, 3, some .int)
abbrev m_Mod_kind : MethodName × ByteArray × Nat × Option FieldType := (⟨"LightInRoomModel", "kind", "(I)I"⟩, prog_14_method_20_code, 2, some .int)
abbrev m_Mod_kindOf : MethodName × ByteArray × Nat × Option FieldType := (⟨"LightInRoomModel", "kindOf", "(I)I"⟩, prog_14_method_19_code, 2, some .int)
abbrev m_Mod_isMarked : MethodName × ByteArray × Nat × Option FieldType := (⟨"LightInRoomModel", "isMarked", "(II)Z"⟩, prog_14_method_18_code, 3, some .boolean)
abbrev m_Mod_weight : MethodName × ByteArray × Nat × Option FieldType := (⟨"LightInRoomModel", "weight", "(I)I"⟩, prog_14_method_22_code, 2, some .int)
abbrev m_Mod_weightOf : MethodName × ByteArray × Nat × Option FieldType := (⟨"LightInRoomModel", "weightOf", "(I)I"⟩, prog_14_method_21_code, 2, some .int)
abbrev m_Mod_law : MethodName × ByteArray × Nat × Option FieldType := (⟨"LightInRoomModel", "law", "(III)I"⟩, prog_14_method_23_code, 5, some .int)
abbrev m_Mod_isLaw : MethodName × ByteArray × Nat × Option FieldType := (⟨"LightInRoomModel", "isLaw", "(I)Z"⟩, prog_14_method_6_code, 1, some .boolean)
abbrev m_Mod_within : MethodName × ByteArray × Nat × Option FieldType := (⟨"LightInRoomModel", "within", "(III)I"⟩, prog_14_method_4_code, 3, some .int)
abbrev m_Mod_becomes : MethodName × ByteArray × Nat × Option FieldType := (⟨"LightInRoomModel", "becomes", "(II)I"⟩, prog_14_method_8_code, 4, some .int)
abbrev m_Mod_right : MethodName × ByteArray × Nat × Option FieldType := (⟨"LightInRoomModel", "right", "(Z)I"⟩, prog_14_method_24_code, 3, some .int)
abbrev m_Mod_growth : MethodName × ByteArray × Nat × Option FieldType := (⟨"LightInRoomModel", "growth", "(II)I"⟩, prog_14_method_25_code, 4, some .int)
abbrev m_Mod_put : MethodName × ByteArray × Nat × Option FieldType := (⟨"LightInRoomModel", "put", "(II)I"⟩, prog_14_method_27_code, 3, some .int)
abbrev m_Mod_rightOf : MethodName × ByteArray × Nat × Option FieldType := (⟨"LightInRoomModel", "rightOf", "(II)I"⟩, prog_14_method_26_code, 3, some .int)
abbrev m_Mod_fits : MethodName × ByteArray × Nat × Option FieldType := (⟨"LightInRoomModel", "fits", "(II)I"⟩, prog_14_method_31_code, 3, some .int)
abbrev m_Mod_isFit : MethodName × ByteArray × Nat × Option FieldType := (⟨"LightInRoomModel", "isFit", "(III)Z"⟩, prog_14_method_29_code, 5, some .boolean)
abbrev m_Mod_meets : MethodName × ByteArray × Nat × Option FieldType := (⟨"LightInRoomModel", "meets", "(III)Z"⟩, prog_14_method_28_code, 7, some .boolean)
abbrev m_Mod_share : MethodName × ByteArray × Nat × Option FieldType := (⟨"LightInRoomModel", "share", "(II)I"⟩, prog_14_method_34_code, 6, some .int)
abbrev m_Mod_partOf : MethodName × ByteArray × Nat × Option FieldType := (⟨"LightInRoomModel", "partOf", "(III)I"⟩, prog_14_method_33_code, 4, some .int)
abbrev m_Mod_common : MethodName × ByteArray × Nat × Option FieldType := (⟨"LightInRoomModel", "common", "(II)I"⟩, prog_14_method_32_code, 2, some .int)
abbrev m_Mod_only : MethodName × ByteArray × Nat × Option FieldType := (⟨"LightInRoomModel", "only", "(I)I"⟩, prog_14_method_35_code, 4, some .int)
abbrev m_Mod_lawsOf : MethodName × ByteArray × Nat × Option FieldType := (⟨"LightInRoomModel", "lawsOf", "(I)I"⟩, prog_14_method_30_code, 4, some .int)
abbrev m_Mod_cover : MethodName × ByteArray × Nat × Option FieldType := (⟨"LightInRoomModel", "cover", "()I"⟩, prog_14_method_38_code, 3, some .int)
abbrev m_Mod_bits : MethodName × ByteArray × Nat × Option FieldType := (⟨"LightInRoomModel", "bits", "(I)I"⟩, prog_14_method_36_code, 3, some .int)
abbrev m_Mod_isCover : MethodName × ByteArray × Nat × Option FieldType := (⟨"LightInRoomModel", "isCover", "(I)Z"⟩, prog_14_method_37_code, 3, some .boolean)
abbrev m_Mod_half : MethodName × ByteArray × Nat × Option FieldType := (⟨"LightInRoomModel", "half", "(I)I"⟩, prog_14_method_39_code, 6, some .int)
abbrev m_Mod_sorts : MethodName × ByteArray × Nat × Option FieldType := (⟨"LightInRoomModel", "sorts", "(I)I"⟩, prog_14_method_40_code, 7, some .int)
abbrev m_Mod_alike : MethodName × ByteArray × Nat × Option FieldType := (⟨"LightInRoomModel", "alike", "(I)I"⟩, prog_14_method_41_code, 3, some .int)
abbrev m_Mod_together : MethodName × ByteArray × Nat × Option FieldType := (⟨"LightInRoomModel", "together", "(II)I"⟩, prog_14_method_42_code, 8, some .int)
abbrev m_Mod_twice : MethodName × ByteArray × Nat × Option FieldType := (⟨"LightInRoomModel", "twice", "(II)I"⟩, prog_14_method_43_code, 4, some .int)
abbrev m_Mod_grows : MethodName × ByteArray × Nat × Option FieldType := (⟨"LightInRoomModel", "grows", "(II)I"⟩, prog_14_method_44_code, 8, some .int)
abbrev m_Mod_people : MethodName × ByteArray × Nat × Option FieldType := (⟨"LightInRoomModel", "people", "(II)I"⟩, prog_14_method_45_code, 4, some .int)
abbrev m_Mod_strokes : MethodName × ByteArray × Nat × Option FieldType := (⟨"LightInRoomModel", "strokes", "(I)I"⟩, prog_14_method_46_code, 3, some .int)
abbrev m_Mod_reach : MethodName × ByteArray × Nat × Option FieldType := (⟨"LightInRoomModel", "reach", "(II)I"⟩, prog_14_method_47_code, 4, some .int)
abbrev m_Mod_should : MethodName × ByteArray × Nat × Option FieldType := (⟨"LightInRoomModel", "should", "(I)I"⟩, prog_14_method_49_code, 2, some .int)
abbrev m_Mod_shouldOf : MethodName × ByteArray × Nat × Option FieldType := (⟨"LightInRoomModel", "shouldOf", "(I)I"⟩, prog_14_method_48_code, 4, some .int)
abbrev m_Mod_seen : MethodName × ByteArray × Nat × Option FieldType := (⟨"LightInRoomModel", "seen", "(I)I"⟩, prog_14_method_51_code, 2, some .int)
abbrev m_Mod_seenOf : MethodName × ByteArray × Nat × Option FieldType := (⟨"LightInRoomModel", "seenOf", "(I)I"⟩, prog_14_method_50_code, 4, some .int)
abbrev m_Mod_beyond : MethodName × ByteArray × Nat × Option FieldType := (⟨"LightInRoomModel", "beyond", "(II)I"⟩, prog_14_method_52_code, 4, some .int)
abbrev m_Mod_leads : MethodName × ByteArray × Nat × Option FieldType := (⟨"LightInRoomModel", "leads", "()I"⟩, prog_14_method_53_code, 7, some .int)
abbrev m_Mod_pictures : MethodName × ByteArray × Nat × Option FieldType := (⟨"LightInRoomModel", "pictures", "(I)I"⟩, prog_14_method_54_code, 4, some .int)
abbrev m_Mod_bench : MethodName × ByteArray × Nat × Option FieldType := (⟨"LightInRoomModel", "bench", "(IIII)I"⟩, prog_14_method_55_code, 6, some .int)
abbrev m_Mod_lines : MethodName × ByteArray × Nat × Option FieldType := (⟨"LightInRoomModel", "lines", "(I)I"⟩, prog_14_method_57_code, 4, some .int)
abbrev m_Mod_hasLine : MethodName × ByteArray × Nat × Option FieldType := (⟨"LightInRoomModel", "hasLine", "(II)Z"⟩, prog_14_method_56_code, 4, some .boolean)
abbrev m_Mod_misses : MethodName × ByteArray × Nat × Option FieldType := (⟨"LightInRoomModel", "misses", "(I)I"⟩, prog_14_method_58_code, 3, some .int)
abbrev m_Mod_barred : MethodName × ByteArray × Nat × Option FieldType := (⟨"LightInRoomModel", "barred", "(I)I"⟩, prog_14_method_59_code, 4, some .int)
abbrev m_Mod_glasses : MethodName × ByteArray × Nat × Option FieldType := (⟨"LightInRoomModel", "glasses", "(II)I"⟩, prog_14_method_60_code, 11, some .int)
abbrev m_Mod_image : MethodName × ByteArray × Nat × Option FieldType := (⟨"LightInRoomModel", "image", "()I"⟩, prog_14_method_61_code, 2, some .int)
abbrev m_Mod_on : MethodName × ByteArray × Nat × Option FieldType := (⟨"LightInRoomModel", "on", "()I"⟩, prog_14_method_62_code, 2, some .int)
abbrev m_Mod_count : MethodName × ByteArray × Nat × Option FieldType := (⟨"LightInRoomModel", "count", "(I)I"⟩, prog_14_method_63_code, 5, some .int)
abbrev m_LLL_law : MethodName × ByteArray × Nat × Option FieldType := (x, code, 4, some .boolean)
end
section
/-! MY OWN MACHINE OVER THE KIT: the heap from the law's entry on is a list of cells; a reference is its place in that list (an old cell is .retAddr n); a method answers and leaves a list -/
def zT : List Cond := lw_tbl.filter goodWord
theorem zT_good : ∀ w ∈ zT, goodWord w = true := fun w h => (List.mem_filter.mp h).2
theorem zT_sub : ∀ w ∈ zT, w ∈ lw_tbl := fun w h => (List.mem_filter.mp h).1
theorem zT_in {w : Cond} (i : Nat) (h : lw_tbl[i]? = some w) (g : goodWord w = true) : w ∈ zT := List.mem_filter.mpr ⟨List.mem_of_getElem? h, g⟩
theorem zT_GI {w : Cond} (hw : w ∈ zT) : GoodIn zT (w :: zT) := fun v h => by
  rcases List.mem_cons.mp h with rfl | h
  · exact ⟨hw, good_of_word (zT_good _ hw)⟩
  · exact ⟨h, good_of_word (zT_good _ h)⟩
/-- a cell: an array of ints; an array of references (kind 0 Law, 1 Telling); an object -/
abbrev zC : Type := (Nat × (Nat → Int32)) ⊕ ((Nat × Nat × (Nat → Option Nat)) ⊕ (Nat × List Value))
/-- (classes, slots), array classes (0 int, 1 Law, 2 Telling), old addresses (0 script, 1 string, 2 its bytes) -/
abbrev zG : Type := va_G × (Nat → ClassId) × (Nat → Nat)
/-- the script: how many, which -/
abbrev zS : Type := Nat × (Nat → Int32)
abbrev zM : Type := MethodName × ByteArray × Nat × Option FieldType
def zr (B : Nat) (Y : Nat → Nat) : Value → Value
  | .ref k => .ref (B + k)
  | .retAddr n => .ref (Y n)
  | v => v
def zrel (G : zG) (B : Nat) : zC → va_E
  | .inl a => .inl (G.2.1 0, a.1, .inl a.2)
  | .inr (.inl a) => .inl (G.2.1 (a.1 + 1), a.2.1, .inr (.inr (.inr (.inr (fun j => (a.2.2 j).map (B + ·))))))
  | .inr (.inr a) => .inr (a.1, a.2.map (zr B G.2.2))
def zw (G : zG) (B : Nat) (hp : List zC) : va_W := hp.mapIdx (fun k c => (B + k, zrel G B c))
theorem zw_get (G : zG) (B : Nat) (hp : List zC) (k : Nat) : (zw G B hp)[k]? = (hp[k]?).map (fun c => (B + k, zrel G B c)) := List.getElem?_mapIdx
theorem zw_at {G : zG} {B : Nat} {hp : List zC} {k : Nat} {c : zC} (h : hp[k]? = some c) : (zw G B hp)[k]? = some (B + k, zrel G B c) := by rw [zw_get, h]; rfl
theorem zw_inv {G : zG} {B : Nat} {hp : List zC} {k : Nat} {q : Nat × va_E} (h : (zw G B hp)[k]? = some q) : ∃ c, hp[k]? = some c ∧ q = (B + k, zrel G B c) := by
  rw [zw_get] at h
  cases hc : hp[k]? with
  | none => rw [hc] at h; cases h
  | some c => rw [hc] at h; exact ⟨c, rfl, (Option.some.inj h).symm⟩
theorem zw_D (G : zG) (B : Nat) (hp : List zC) : va_D (fun q : Nat => B ≤ q) (zw G B hp) := by
  refine ⟨fun i j p q hi hj hpq => ?_, fun k q hk => ?_⟩
  · obtain ⟨c1, -, rfl⟩ := zw_inv hi
    obtain ⟨c2, -, rfl⟩ := zw_inv hj
    have : B + i = B + j := hpq
    omega
  · obtain ⟨c, -, rfl⟩ := zw_inv hk
    exact Nat.le_add_right B k
theorem zw_set (G : zG) (B : Nat) (hp : List zC) (k : Nat) (c : zC) : (zw G B hp).set k (B + k, zrel G B c) = zw G B (hp.set k c) := by
  apply List.ext_getElem?
  intro i
  rw [zw_get]
  by_cases h : i = k
  · subst h
    by_cases hl : i < hp.length
    · rw [List.getElem?_set_self (by simpa [zw] using hl), List.getElem?_set_self hl]; rfl
    · rw [List.getElem?_eq_none (by simpa [zw] using hl), List.getElem?_eq_none (by simpa using hl)]; rfl
  · rw [List.getElem?_set_ne (Ne.symm h), List.getElem?_set_ne (Ne.symm h), zw_get]
theorem zw_push (G : zG) (B : Nat) (hp : List zC) (c : zC) : zw G B (hp ++ [c]) = zw G B hp ++ [(B + hp.length, zrel G B c)] := by
  simp [zw, List.mapIdx_append]
/-- the heap H holds the list hp from B on, and nothing more -/
def zH (G : zG) (B : Nat) (hp : List zC) (H : Heap) : Prop := va_P G.1 zCl (zw G B hp) H ∧ H.size = B + hp.length
abbrev zTy (G : zG) : List (ClassId × FieldType) := [(G.2.1 0, .int), (G.2.1 1, .object "LightInRoom$Law"), (G.2.1 2, .object "LightInRoom$Telling")]
abbrev zK (G : zG) (U : State) : Prop := va_K G.1 zCl (zTy G) U
def zNest : List (String × Nat × MethodName) := [("LightInRoom$Room", 39, m_Ben_init.1), ("LightInRoom$Tape", 55, m_Lir_hasBit.1), ("LightInRoom$Law", 28, m_Lir_hasBit.1), ("LightInRoom$Telling", 39, m_Lir_hasBit.1), ("LightInRoom$Room", 135, m_Lir_hasBit.1), ("LightInRoom$Law", 19, m_Lir_copyRow.1), ("LightInRoom$Room", 56, m_Lir_copyRow.1)]
def zCast : List String := ["LightInRoom$Called", "LightInRoom$Eye", "LightInRoom$Through", "LightInRoom$Near", "LightInRoom$Grown", "LightInRoom$Without"]
def zDecl : List MethodName := [⟨"LightInRoom$Telling", "kindNumber", "()I"⟩, ⟨"LightInRoom$Telling", "ownWeight", "()I"⟩]
def zStr : List Int32 := [98, 104, 117, 119, 110, 109, 111, 112]
/-- what else is known of the tables and of the old heap -/
def zX (X : zS) (G : zG) (B : Nat) (U : State) (H : Heap) : Prop :=
  (∀ q ∈ zNest, va_Nw (.methodLinkNest q.1 q.2.1 q.2.2 "LightInRoom") U) ∧ (∀ q ∈ zCast, va_Nw (.castable q "LightInRoom$Telling") U) ∧ (∀ q ∈ zDecl, va_Nw (.declares q) U) ∧ va_AO "LightInRoom$Law" U ∧ va_AO "LightInRoom$Telling" U ∧ vk_R "LightInRoom$Tape" 101 "bhuwnmop" (G.2.2 1) U ∧ vk_S 1 [8] [zStr] (fun _ => G.2.2 1) (fun _ => G.2.2 2) (fun q => B ≤ q) U H ∧ va_Z "java/lang/String" "COMPACT_STRINGS" "Z" (.int 1) (fun q => B ≤ q) U H ∧ va_X (G.2.2 0) X.1 X.2 U H ∧ G.2.2 0 < B
theorem zX.moved {X : zS} {G : zG} {B : Nat} {s U : State} {H : Heap} (hW : s.WarmedH U.vm) (h : zX X G B s H) : zX X G B U H :=
  ⟨fun q hq => (h.1 q hq).warmM hW, fun q hq => (h.2.1 q hq).warmC hW, fun q hq => (h.2.2.1 q hq).warmD hW, h.2.2.2.1.moved hW.alike, h.2.2.2.2.1.moved hW.alike, h.2.2.2.2.2.1.warm hW, h.2.2.2.2.2.2.1.moved hW.alike, h.2.2.2.2.2.2.2.1.moved hW.alike, h.2.2.2.2.2.2.2.2.1.moved hW.alike, h.2.2.2.2.2.2.2.2.2⟩
theorem zX.kept {X : zS} {G : zG} {B : Nat} {U : State} {H H1 : Heap} (hq : ∀ a : Nat, a < H.size → ¬ B ≤ a → H1[a]? = H[a]?) (hB : B ≤ H.size) (h : zX X G B U H) : zX X G B U H1 :=
  ⟨h.1, h.2.1, h.2.2.1, h.2.2.2.1, h.2.2.2.2.1, h.2.2.2.2.2.1, h.2.2.2.2.2.2.1.kept hq, h.2.2.2.2.2.2.2.1.kept hq, h.2.2.2.2.2.2.2.2.1.kept (hq _ (Nat.lt_of_lt_of_le h.2.2.2.2.2.2.2.2.2 hB) (Nat.not_le.mpr h.2.2.2.2.2.2.2.2.2)), h.2.2.2.2.2.2.2.2.2⟩
/-- the locals as a list -/
def zl (B : Nat) (Y : Nat → Nat) : Nat → List (Option Value) → List (Nat × Value)
  | _, [] => []
  | i, none :: L => zl B Y (i + 1) L
  | i, some v :: L => (i, zr B Y v) :: zl B Y (i + 1) L
theorem zl_mem (B : Nat) (Y : Nat → Nat) : ∀ (L : List (Option Value)) (i k : Nat) (v : Value), L[k]? = some (some v) → (i + k, zr B Y v) ∈ zl B Y i L
  | [], i, k, v, h => by simp at h
  | none :: L, i, 0, v, h => by simp at h
  | some w :: L, i, 0, v, h => by
    simp at h
    subst h
    exact List.mem_cons_self
  | none :: L, i, k + 1, v, h => by
    have := zl_mem B Y L (i + 1) k v (by simpa using h)
    rw [show i + (k + 1) = i + 1 + k by omega]
    exact this
  | some w :: L, i, k + 1, v, h => by
    have := zl_mem B Y L (i + 1) k v (by simpa using h)
    rw [show i + (k + 1) = i + 1 + k by omega]
    exact List.mem_cons_of_mem _ this
theorem zl_inv (B : Nat) (Y : Nat → Nat) : ∀ (L : List (Option Value)) (i : Nat) (q : Nat × Value), q ∈ zl B Y i L → ∃ k v, L[k]? = some (some v) ∧ q = (i + k, zr B Y v)
  | [], i, q, h => by simp [zl] at h
  | none :: L, i, q, h => by
    obtain ⟨k, v, h1, h2⟩ := zl_inv B Y L (i + 1) q h
    exact ⟨k + 1, v, by simpa using h1, by rw [h2, show i + (k + 1) = i + 1 + k by omega]⟩
  | some w :: L, i, q, h => by
    rcases List.mem_cons.mp h with rfl | h
    · exact ⟨0, w, rfl, rfl⟩
    · obtain ⟨k, v, h1, h2⟩ := zl_inv B Y L (i + 1) q h
      exact ⟨k + 1, v, by simpa using h1, by rw [h2, show i + (k + 1) = i + 1 + k by omega]⟩
/-- a value of two slots before place i? -/
def zlong (L : List (Option Value)) : Nat → Bool
  | 0 => false
  | i + 1 => match L[i]? with
    | some (some (.long _)) => true
    | some (some (.double _)) => true
    | _ => false
theorem zr_cat (B : Nat) (Y : Nat → Nat) (v : Value) : (zr B Y v).category = v.category := by cases v <;> rfl
theorem zl_set {B : Nat} {Y : Nat → Nat} {ls : Array Slot} {nL i : Nat} {L : List (Option Value)} {v : Value} (hn : zlong L i = false)
    (h : lv_has ls nL ((i, zr B Y v) :: (zl B Y 0 L).filter (fun q => !(q.1 == i) && !(q.1 + 1 == i && q.2.category == 2)))) : lv_has ls nL (zl B Y 0 (L.set i (some v))) := by
  refine ⟨h.1, h.2.1, fun q hq => h.2.2 q ?_⟩
  obtain ⟨k, w, hk, rfl⟩ := zl_inv B Y _ 0 q hq
  rw [Nat.zero_add] at hq ⊢
  by_cases hki : k = i
  · subst hki
    have hl : k < L.length := by
      have := (List.getElem?_eq_some_iff.mp hk).1
      simpa using this
    rw [List.getElem?_set_self hl] at hk
    have hw : v = w := Option.some.inj (Option.some.inj hk)
    subst hw
    exact List.mem_cons_self
  · rw [List.getElem?_set_ne (Ne.symm hki)] at hk
    refine List.mem_cons_of_mem _ (List.mem_filter.mpr ⟨?_, ?_⟩)
    · have := zl_mem B Y L 0 k w hk
      rwa [Nat.zero_add] at this
    · simp only [Bool.and_eq_true, Bool.not_eq_true', beq_eq_false_iff_ne, ne_eq, Bool.and_eq_false_iff]
      refine ⟨hki, ?_⟩
      by_cases h2 : k + 1 = i
      · right
        subst h2
        rw [zr_cat]
        intro hc
        simp only [zlong, hk] at hn
        cases w <;> simp [Value.category] at hc hn
      · exact Or.inl h2
def zri : Option Value → Instr
  | none => .return_
  | some (.int _) => .ireturn
  | some _ => .areturn
def zAt (X : zS) (M : zM) (G : zG) (B : Nat) (p : Program) (s : State) (m : MethodId) (args : Array Value) (meth : Method) (c : Code) : Prop :=
  p.tables.exec = Jvm.exec ∧ c.code = M.2.1 ∧ c.maxLocals = M.2.2.1 ∧ s.vm.findClass M.1.cls = some m.cls ∧ (∀ w ∈ zT, w.before args s = true) ∧ zK G s ∧ zX X G B s s.heap ∧ meth.name = M.1.name ∧ B ≤ s.heap.size
def zFin (M : zM) (G : zG) (B : Nat) (p : Program) (l : Launch) (e : Env) (R : Room) (s : State) (m : MethodId) (args : Array Value) (below : List Frame) (meth : Method) (c : Code) (Q : State → Prop) (r : Option Value) (hp' : List zC) : Prop :=
  ∀ (H : Heap) (locs : List Loc) (cells slots pc : Nat) (ls : Array Slot), zH G B hp' H → va_S (fun q => B ≤ q) s.heap H locs → cells ≤ R.cells → slots ≤ R.slots → decode M.2.1 pc = .ok (zri r, 1) → W p l e R s m args below meth c H locs cells slots Q (F0 m pc ls (r.map (zr B G.2.2)).toList)
/-- from pc, with these locals, this stack and this heap, the method M answers r and leaves hp'; d more frames, kc more cells of ks slots are enough -/
def Z (X : zS) (M : zM) (d kc ks : Nat) (r : Option Value) (hp' : List zC) (pc : Nat) (L : List (Option Value)) (st : List Value) (hp : List zC) : Prop :=
  ∀ (G : zG) (B : Nat) (p : Program) (l : Launch) (e : Env) (R : Room) (s : State) (m : MethodId) (args : Array Value) (below : List Frame) (meth : Method) (c : Code) (Q : State → Prop) (H : Heap) (locs : List Loc) (cells slots : Nat) (ls : Array Slot),
    zAt X M G B p s m args meth c → zFin M G B p l e R s m args below meth c Q r hp' → zH G B hp H → va_S (fun q => B ≤ q) s.heap H locs → d ≤ R.frames → 60 * d ≤ R.locals → cells + kc ≤ R.cells → slots + ks ≤ R.slots → lv_has ls M.2.2.1 (zl B G.2.2 0 L) →
    W p l e R s m args below meth c H locs cells slots Q (F0 m pc ls (st.map (zr B G.2.2)))
/-- what a method called with av over hp answers and leaves -/
def Ret (d mc ms : Nat) (M : zM) (av : List Value) (hp : List zC) (r : Option Value) (hp' : List zC) : Prop :=
  ∀ (X : zS) (l : Launch) (G : zG) (B : Nat), Met l M.1 (Cond.code M.1 M.2.1 M.2.2.1 M.2.2.2 :: zT) { frames := d, cells := mc, slots := ms, locals := 60 * d } (va_Pc (av.map (zr B G.2.2)) (fun U => zH G B hp U.heap ∧ zK G U ∧ zX X G B U U.heap))
    (fun _ st o t => (o = .returned (r.map (zr B G.2.2)) ∧ zH G B hp' t.heap) ∧ va_F (fun q => B ≤ q) st t) mc ms (fun q => B ≤ q)
/-- what a method may answer -/
def zrt : Option FieldType → Option Value → Prop
  | none, none => True
  | some ty, some (.int v) => narrow ty (.int v) = .int v
  | some (.object _), some .null => True
  | some (.object _), some (.ref _) => True
  | _, _ => False
/-- the arguments as locals -/
def zargs : List Value → List (Option Value)
  | [] => []
  | .long v :: l => some (.long v) :: none :: zargs l
  | .double v :: l => some (.double v) :: none :: zargs l
  | v :: l => some v :: zargs l
theorem zargs_mem (B : Nat) (Y : Nat → Nat) : ∀ (av : List Value) (i : Nat) (q : Nat × Value), q ∈ zl B Y i (zargs av) → q ∈ lv_args i (av.map (zr B Y))
  | [], i, q, h => by simp [zl, zargs] at h
  | v :: l, i, q, h => by
    have ih1 := zargs_mem B Y l (i + 1) q
    have ih2 := zargs_mem B Y l (i + 2) q
    cases v <;> simp only [zargs, zl, List.map_cons, lv_args, zr, Value.category, List.mem_cons] at h ⊢ <;>
      first
      | (rcases h with h | h
         · exact Or.inl h
         · exact Or.inr (by simpa using ih1 h))
      | (rcases h with h | h
         · exact Or.inl h
         · exact Or.inr (by simpa using ih2 h))
theorem zl_pad (B : Nat) (Y : Nat → Nat) : ∀ (L : List (Option Value)) (i n : Nat), zl B Y i (L ++ List.replicate n none) = zl B Y i L
  | [], i, 0 => rfl
  | [], i, n + 1 => by
    have := zl_pad B Y [] (i + 1) n
    simpa [zl, List.replicate_succ] using this
  | none :: L, i, n => by simp only [List.cons_append, zl]; exact zl_pad B Y L (i + 1) n
  | some v :: L, i, n => by simp only [List.cons_append, zl, zl_pad B Y L (i + 1) n]
theorem lg_sl_z (B : Nat) (Y : Nat → Nat) : ∀ av : List Value, (lg_sl (av.map (zr B Y))).length = (zargs av).length
  | [] => rfl
  | v :: l => by
    have ih := lg_sl_z B Y l
    cases v <;> simp [lg_sl, zargs, zr, Value.category] at ih ⊢ <;> omega
theorem Ret.of {d mc ms : Nat} {M : zM} {av : List Value} {hp hp' : List zC} {r : Option Value} (hy : plainName M.1.cls = true) (hr : zrt M.2.2.2 r) {n : Nat} (hn : (zargs av).length + n = M.2.2.1)
    (h : ∀ X : zS, Z X M d mc ms r hp' 0 (zargs av ++ List.replicate n none) [] hp) : Ret d mc ms M av hp r hp' := by
  intro X l G B
  refine Met.ofW (cc := M.2.1) (maxL := M.2.2.1) (ret := M.2.2.2) hy rfl ?_
  intro p e s m args below meth c s₁ Bd hml hv
  obtain ⟨rfl, hH, hK, hX⟩ := hv
  have hx := Bd.exec
  have hb := Bd.bytes
  have hret := Bd.returns
  have hts := atoms_spec (ws := Cond.code M.1 M.2.1 M.2.2.1 M.2.2.2 :: zT) Bd.pre
  have hown : s.vm.findClass M.1.cls = some m.cls := findClass_of_methodNamed Bd.named
  have hlocks := Bd.notSynchronized
  have hnm : meth.name = M.1.name := (name_of_methodNamed Bd.named Bd.method).1
  have hl := lv_entry (av.map (zr B G.2.2)) (n := M.2.2.1) (by rw [lg_sl_z]; omega)
  rw [lg_entry_eq]
  generalize (lg_sl (av.map (zr B G.2.2)) ++ List.replicate (M.2.2.1 - (lg_sl (av.map (zr B G.2.2))).length) Slot.unset).toArray = ls at hl ⊢
  have hl2 : lv_has ls M.2.2.1 (zl B G.2.2 0 (zargs av ++ List.replicate n none)) := ⟨hl.1, hl.2.1, fun q hq => hl.2.2 q (zargs_mem B G.2.2 av 0 q (by rwa [zl_pad] at hq))⟩
  refine h X G B p l e _ s m _ below meth c _ s.heap [] 0 0 ls ⟨hx, hb, hml, hown, fun w hw => hts w (List.mem_cons_of_mem _ hw), hK, hX, hnm, by rw [hH.2]; exact Nat.le_add_right _ _⟩ ?_ hH va_S.rf (Nat.le_refl _) (Nat.le_refl _) (by show 0 + mc ≤ mc; omega) (by show 0 + ms ≤ ms; omega) hl2
  intro H locs cells slots pc ls' hH' hS hc hs hdg
  refine W.widen (k := mc) (n := ms) hc hs ?_
  generalize hM : M.2.2.2 = rt at hr hret
  match rt, r, hr, hdg with
  | none, none, _, hdg => exact W.vret hx hb hret (fun t ht hW => ⟨⟨rfl, by rw [ht]; exact hH'⟩, hS.F ht⟩) hS.2.2 hdg
  | some ty, some (.int v), hr, hdg => exact W.zret (v := v) hx hb hret hr (fun t ht hW => ⟨⟨rfl, by rw [ht]; exact hH'⟩, hS.F ht⟩) hS.2.2 hdg
  | some (.object n), some .null, _, hdg => exact W.aret hx hb hret (Or.inl ⟨n, rfl⟩) (Or.inl rfl) (fun t ht hW => ⟨⟨rfl, by rw [ht]; exact hH'⟩, hS.F ht⟩) hS.2.2 hdg
  | some (.object n), some (.ref k), _, hdg => exact W.aret hx hb hret (Or.inl ⟨n, rfl⟩) (Or.inr ⟨_, rfl⟩) (fun t ht hW => ⟨⟨rfl, by rw [ht]; exact hH'⟩, hS.F ht⟩) hS.2.2 hdg
/-- behind a call -/
theorem z_run {X : zS} {M : zM} {G : zG} {B : Nat} {p : Program} {l : Launch} {e : Env} {R : Room} {s : State} {m : MethodId} {args : Array Value} {below : List Frame} {meth : Method} {c : Code} {Q : State → Prop} {H : Heap} {locs : List Loc} {cells slots mc ms pc : Nat} {ls : Array Slot} {st0 rest : List Value} {r : Option Value} {hp1 : List zC} {av : Array Value}
    (hS : va_S (fun q => B ≤ q) s.heap H locs)
    (hr : va_Run p l e R s m args below meth c H locs cells slots mc ms (F0 m pc ls st0) rest ((fun (_ : Array Value) (st : State) (o : Outcome) (t : State) => (o = .returned r ∧ zH G B hp1 t.heap) ∧ va_F (fun q => B ≤ q) st t) av) (fun q => B ≤ q))
    (kk : ∀ (H1 : Heap) (locs1 : List Loc), zH G B hp1 H1 → va_S (fun q => B ≤ q) s.heap H1 locs1 → W p l e R s m args below meth c H1 locs1 (cells + mc) (slots + ms) Q (F0 m (pc + 3) ls (r.toList ++ rest))) : W p l e R s m args below meth c H locs cells slots Q (F0 m pc ls st0) := by
  intro T hT X'
  obtain ⟨v, st₀, t, T', L, h0, X', hL, e1, e2, ⟨⟨hv, hz1⟩, hz, hk⟩, st⟩ := hr T hT X'
  cases hv
  rw [h0] at hz hk
  obtain ⟨t2, a1, b1⟩ := kk T'.heap (locs ++ L) (by rw [e1]; exact hz1)
    ⟨Nat.le_trans hS.1 (by rw [e1]; exact hz), fun q h1 h2 => by rw [e1, hk q (Nat.lt_of_lt_of_le h1 hS.1) h2]; exact hS.2.1 q h1 h2, fun q hq => by
      rcases List.mem_append.mp hq with h | h
      · exact hS.2.2 q h
      · exact hL q h⟩ T' rfl X'
  exact ⟨t2, st t2 a1, b1⟩
theorem zX.at {X : zS} {M : zM} {G : zG} {B : Nat} {p : Program} {s : State} {m : MethodId} {args : Array Value} {meth : Method} {c : Code} {H : Heap} {locs : List Loc} (A : zAt X M G B p s m args meth c) (hS : va_S (fun q => B ≤ q) s.heap H locs) : zX X G B s H :=
  zX.kept (fun a h1 h2 => hS.2.1 a h1 h2) A.2.2.2.2.2.2.2.2 A.2.2.2.2.2.2.1
theorem z_blind {X : zS} {G : zG} {B : Nat} {hp : List zC} (av : List Value) : FrameBlind (va_Pc av (fun U => zH G B hp U.heap ∧ zK G U ∧ zX X G B U U.heap)) :=
  fun a U g mk h => ⟨h.1, h.2.1, va_K.moved (u := U) (U := U.calling g mk a) (Vm.Alike.refl U.vm) h.2.2.1, zX.moved (U := U.calling g mk a) (State.WarmedH.refl U) h.2.2.2⟩
theorem z_preS {X : zS} {M : zM} {G : zG} {B : Nat} {p : Program} {s : State} {m : MethodId} {args : Array Value} {meth : Method} {c : Code} {H : Heap} {locs : List Loc} {hp : List zC} (A : zAt X M G B p s m args meth c) (hS : va_S (fun q => B ≤ q) s.heap H locs) (h : zH G B hp H) (av : List Value) :
    PreS s H (va_Pc av (fun U => zH G B hp U.heap ∧ zK G U ∧ zX X G B U U.heap)) av :=
  ⟨z_blind av, fun U hU hW => ⟨rfl, by rw [hU]; exact h, va_K.moved hW.alike A.2.2.2.2.2.1, by rw [hU]; exact (zX.at A hS).moved hW⟩⟩
end
section
theorem zl_at {B : Nat} {Y : Nat → Nat} {ls : Array Slot} {nL i : Nat} {L : List (Option Value)} {v : Value} (h : lv_has ls nL (zl B Y 0 L)) (hk : L[i]? = some (some v)) : ls[i]? = some (.val (zr B Y v)) := by
  have := zl_mem B Y L 0 i v hk
  rw [Nat.zero_add] at this
  exact h.2.2 _ this
theorem z_iconst {X : zS} {M : zM} {d kc ks : Nat} {r : Option Value} {hp' : List zC} {pc : Nat} {L : List (Option Value)} {st : List Value} {hp : List zC} {n0 : Int} (v : Int32) (hv : Int32.ofInt n0 = v) (n : Nat) (en : pc + 1 = n) (hdg : decode M.2.1 pc = .ok (.iconst n0, 1)) (k : Z X M d kc ks r hp' n L (.int v :: st) hp) : Z X M d kc ks r hp' pc L st hp := by
  subst en
  intro G B p l e R s m args below meth c Q H locs cells slots ls A F h hS h1 h2 h3 h4 hl
  exact lv_iconst A.1 A.2.1 hdg hv (k G B p l e R s m args below meth c Q H locs cells slots ls A F h hS h1 h2 h3 h4 hl)
theorem z_bipush {X : zS} {M : zM} {d kc ks : Nat} {r : Option Value} {hp' : List zC} {pc : Nat} {L : List (Option Value)} {st : List Value} {hp : List zC} {n0 : Int} (v : Int32) (hv : (Int8.ofInt n0).toInt32 = v) (n : Nat) (en : pc + 2 = n) (hdg : decode M.2.1 pc = .ok (.bipush n0, 2)) (k : Z X M d kc ks r hp' n L (.int v :: st) hp) : Z X M d kc ks r hp' pc L st hp := by
  subst en
  intro G B p l e R s m args below meth c Q H locs cells slots ls A F h hS h1 h2 h3 h4 hl
  exact lv_bipush A.1 A.2.1 hdg hv (k G B p l e R s m args below meth c Q H locs cells slots ls A F h hS h1 h2 h3 h4 hl)
theorem z_sipush {X : zS} {M : zM} {d kc ks : Nat} {r : Option Value} {hp' : List zC} {pc : Nat} {L : List (Option Value)} {st : List Value} {hp : List zC} {n0 : Int} (v : Int32) (hv : (Int16.ofInt n0).toInt32 = v) (n : Nat) (en : pc + 3 = n) (hdg : decode M.2.1 pc = .ok (.sipush n0, 3)) (k : Z X M d kc ks r hp' n L (.int v :: st) hp) : Z X M d kc ks r hp' pc L st hp := by
  subst en
  intro G B p l e R s m args below meth c Q H locs cells slots ls A F h hS h1 h2 h3 h4 hl
  exact lv_sipush A.1 A.2.1 hdg hv (k G B p l e R s m args below meth c Q H locs cells slots ls A F h hS h1 h2 h3 h4 hl)
theorem z_ldc {X : zS} {M : zM} {d kc ks : Nat} {r : Option Value} {hp' : List zC} {pc : Nat} {L : List (Option Value)} {st : List Value} {hp : List zC} {ix : Nat} {v : Int32} (hw : Cond.constant M.1.cls ix v ∈ zT) (n : Nat) (en : pc + 2 = n) (hdg : decode M.2.1 pc = .ok (.ldc ix, 2)) (k : Z X M d kc ks r hp' n L (.int v :: st) hp) : Z X M d kc ks r hp' pc L st hp := by
  subst en
  intro G B p l e R s m args below meth c Q H locs cells slots ls A F h hS h1 h2 h3 h4 hl
  exact lv_ldc A.1 A.2.1 A.2.2.2.1 (A.2.2.2.2.1 _ hw) hdg (k G B p l e R s m args below meth c Q H locs cells slots ls A F h hS h1 h2 h3 h4 hl)
theorem z_ldc_w {X : zS} {M : zM} {d kc ks : Nat} {r : Option Value} {hp' : List zC} {pc : Nat} {L : List (Option Value)} {st : List Value} {hp : List zC} {ix : Nat} {v : Int32} (hw : Cond.constant M.1.cls ix v ∈ zT) (n : Nat) (en : pc + 3 = n) (hdg : decode M.2.1 pc = .ok (.ldc_w ix, 3)) (k : Z X M d kc ks r hp' n L (.int v :: st) hp) : Z X M d kc ks r hp' pc L st hp := by
  subst en
  intro G B p l e R s m args below meth c Q H locs cells slots ls A F h hS h1 h2 h3 h4 hl
  exact lv_ldcw A.1 A.2.1 A.2.2.2.1 (A.2.2.2.2.1 _ hw) hdg (k G B p l e R s m args below meth c Q H locs cells slots ls A F h hS h1 h2 h3 h4 hl)
theorem z_ldc2_w {X : zS} {M : zM} {d kc ks : Nat} {r : Option Value} {hp' : List zC} {pc : Nat} {L : List (Option Value)} {st : List Value} {hp : List zC} {ix : Nat} {v : Int64} (hw : Cond.constantLong M.1.cls ix v ∈ zT) (n : Nat) (en : pc + 3 = n) (hdg : decode M.2.1 pc = .ok (.ldc2_w ix, 3)) (k : Z X M d kc ks r hp' n L (.long v :: st) hp) : Z X M d kc ks r hp' pc L st hp := by
  subst en
  intro G B p l e R s m args below meth c Q H locs cells slots ls A F h hS h1 h2 h3 h4 hl
  exact lv_ldc2 A.1 A.2.1 A.2.2.2.1 (A.2.2.2.2.1 _ hw) hdg (k G B p l e R s m args below meth c Q H locs cells slots ls A F h hS h1 h2 h3 h4 hl)
theorem z_aconst_null {X : zS} {M : zM} {d kc ks : Nat} {r : Option Value} {hp' : List zC} {pc : Nat} {L : List (Option Value)} {st : List Value} {hp : List zC} (n : Nat) (en : pc + 1 = n) (hdg : decode M.2.1 pc = .ok (.aconst_null, 1)) (k : Z X M d kc ks r hp' n L (.null :: st) hp) : Z X M d kc ks r hp' pc L st hp := by
  subst en
  intro G B p l e R s m args below meth c Q H locs cells slots ls A F h hS h1 h2 h3 h4 hl
  exact lv_null A.1 A.2.1 hdg (k G B p l e R s m args below meth c Q H locs cells slots ls A F h hS h1 h2 h3 h4 hl)
theorem z_iload_n {X : zS} {M : zM} {d kc ks : Nat} {r : Option Value} {hp' : List zC} {pc : Nat} {L : List (Option Value)} {st : List Value} {hp : List zC} {i : Fin 4} {x : Int32} (hi : L[(i : Nat)]? = some (some (.int x))) (n : Nat) (en : pc + 1 = n) (hdg : decode M.2.1 pc = .ok (.iload_n i, 1)) (k : Z X M d kc ks r hp' n L (.int x :: st) hp) : Z X M d kc ks r hp' pc L st hp := by
  subst en
  intro G B p l e R s m args below meth c Q H locs cells slots ls A F h hS h1 h2 h3 h4 hl
  exact lv_iload_n A.1 A.2.1 hdg rfl (zl_at hl hi) (k G B p l e R s m args below meth c Q H locs cells slots ls A F h hS h1 h2 h3 h4 hl)
theorem z_iload {X : zS} {M : zM} {d kc ks : Nat} {r : Option Value} {hp' : List zC} {pc : Nat} {L : List (Option Value)} {st : List Value} {hp : List zC} {i : Nat} {x : Int32} (hi : L[i]? = some (some (.int x))) (n : Nat) (en : pc + 2 = n) (hdg : decode M.2.1 pc = .ok (.iload i, 2)) (k : Z X M d kc ks r hp' n L (.int x :: st) hp) : Z X M d kc ks r hp' pc L st hp := by
  subst en
  intro G B p l e R s m args below meth c Q H locs cells slots ls A F h hS h1 h2 h3 h4 hl
  exact lv_iload A.1 A.2.1 hdg (zl_at hl hi) (k G B p l e R s m args below meth c Q H locs cells slots ls A F h hS h1 h2 h3 h4 hl)
theorem z_lload_n {X : zS} {M : zM} {d kc ks : Nat} {r : Option Value} {hp' : List zC} {pc : Nat} {L : List (Option Value)} {st : List Value} {hp : List zC} {i : Fin 4} {x : Int64} (hi : L[(i : Nat)]? = some (some (.long x))) (n : Nat) (en : pc + 1 = n) (hdg : decode M.2.1 pc = .ok (.lload_n i, 1)) (k : Z X M d kc ks r hp' n L (.long x :: st) hp) : Z X M d kc ks r hp' pc L st hp := by
  subst en
  intro G B p l e R s m args below meth c Q H locs cells slots ls A F h hS h1 h2 h3 h4 hl
  exact lv_lload_n A.1 A.2.1 hdg rfl (zl_at hl hi) (k G B p l e R s m args below meth c Q H locs cells slots ls A F h hS h1 h2 h3 h4 hl)
theorem z_lload {X : zS} {M : zM} {d kc ks : Nat} {r : Option Value} {hp' : List zC} {pc : Nat} {L : List (Option Value)} {st : List Value} {hp : List zC} {i : Nat} {x : Int64} (hi : L[i]? = some (some (.long x))) (n : Nat) (en : pc + 2 = n) (hdg : decode M.2.1 pc = .ok (.lload i, 2)) (k : Z X M d kc ks r hp' n L (.long x :: st) hp) : Z X M d kc ks r hp' pc L st hp := by
  subst en
  intro G B p l e R s m args below meth c Q H locs cells slots ls A F h hS h1 h2 h3 h4 hl
  exact lv_lload A.1 A.2.1 hdg (zl_at hl hi) (k G B p l e R s m args below meth c Q H locs cells slots ls A F h hS h1 h2 h3 h4 hl)
theorem z_aload_n {X : zS} {M : zM} {d kc ks : Nat} {r : Option Value} {hp' : List zC} {pc : Nat} {L : List (Option Value)} {st : List Value} {hp : List zC} {i : Fin 4} {x : Nat} (hi : L[(i : Nat)]? = some (some (.ref x))) (n : Nat) (en : pc + 1 = n) (hdg : decode M.2.1 pc = .ok (.aload_n i, 1)) (k : Z X M d kc ks r hp' n L (.ref x :: st) hp) : Z X M d kc ks r hp' pc L st hp := by
  subst en
  intro G B p l e R s m args below meth c Q H locs cells slots ls A F h hS h1 h2 h3 h4 hl
  exact lv_aload_n A.1 A.2.1 hdg rfl (zl_at hl hi) (k G B p l e R s m args below meth c Q H locs cells slots ls A F h hS h1 h2 h3 h4 hl)
theorem z_aload {X : zS} {M : zM} {d kc ks : Nat} {r : Option Value} {hp' : List zC} {pc : Nat} {L : List (Option Value)} {st : List Value} {hp : List zC} {i : Nat} {x : Nat} (hi : L[i]? = some (some (.ref x))) (n : Nat) (en : pc + 2 = n) (hdg : decode M.2.1 pc = .ok (.aload i, 2)) (k : Z X M d kc ks r hp' n L (.ref x :: st) hp) : Z X M d kc ks r hp' pc L st hp := by
  subst en
  intro G B p l e R s m args below meth c Q H locs cells slots ls A F h hS h1 h2 h3 h4 hl
  exact lv_aload A.1 A.2.1 hdg (zl_at hl hi) (k G B p l e R s m args below meth c Q H locs cells slots ls A F h hS h1 h2 h3 h4 hl)
theorem z_aload_nX {X : zS} {M : zM} {d kc ks : Nat} {r : Option Value} {hp' : List zC} {pc : Nat} {L : List (Option Value)} {st : List Value} {hp : List zC} {i : Fin 4} {x : Nat} (hi : L[(i : Nat)]? = some (some (.retAddr x))) (n : Nat) (en : pc + 1 = n) (hdg : decode M.2.1 pc = .ok (.aload_n i, 1)) (k : Z X M d kc ks r hp' n L (.retAddr x :: st) hp) : Z X M d kc ks r hp' pc L st hp := by
  subst en
  intro G B p l e R s m args below meth c Q H locs cells slots ls A F h hS h1 h2 h3 h4 hl
  exact lv_aload_n A.1 A.2.1 hdg rfl (zl_at hl hi) (k G B p l e R s m args below meth c Q H locs cells slots ls A F h hS h1 h2 h3 h4 hl)
theorem z_aload_nN {X : zS} {M : zM} {d kc ks : Nat} {r : Option Value} {hp' : List zC} {pc : Nat} {L : List (Option Value)} {st : List Value} {hp : List zC} {i : Fin 4} (hi : L[(i : Nat)]? = some (some .null)) (n : Nat) (en : pc + 1 = n) (hdg : decode M.2.1 pc = .ok (.aload_n i, 1)) (k : Z X M d kc ks r hp' n L (.null :: st) hp) : Z X M d kc ks r hp' pc L st hp := by
  subst en
  intro G B p l e R s m args below meth c Q H locs cells slots ls A F h hS h1 h2 h3 h4 hl
  exact lv_aload_nN A.1 A.2.1 hdg rfl (zl_at hl hi) (k G B p l e R s m args below meth c Q H locs cells slots ls A F h hS h1 h2 h3 h4 hl)
theorem z_aloadN {X : zS} {M : zM} {d kc ks : Nat} {r : Option Value} {hp' : List zC} {pc : Nat} {L : List (Option Value)} {st : List Value} {hp : List zC} {i : Nat} (hi : L[i]? = some (some .null)) (n : Nat) (en : pc + 2 = n) (hdg : decode M.2.1 pc = .ok (.aload i, 2)) (k : Z X M d kc ks r hp' n L (.null :: st) hp) : Z X M d kc ks r hp' pc L st hp := by
  subst en
  intro G B p l e R s m args below meth c Q H locs cells slots ls A F h hS h1 h2 h3 h4 hl
  exact lv_aloadN A.1 A.2.1 hdg (zl_at hl hi) (k G B p l e R s m args below meth c Q H locs cells slots ls A F h hS h1 h2 h3 h4 hl)
theorem z_istore_n {X : zS} {M : zM} {d kc ks : Nat} {r : Option Value} {hp' : List zC} {pc : Nat} {L : List (Option Value)} {st : List Value} {hp : List zC} {i : Fin 4} {x : Int32} (n : Nat) (en : pc + 1 = n) (hi : (i : Nat) < M.2.2.1) (hz : zlong L (i : Nat) = false) (hdg : decode M.2.1 pc = .ok (.istore_n i, 1)) (k : Z X M d kc ks r hp' n (L.set (i : Nat) (some (.int x))) st hp) : Z X M d kc ks r hp' pc L (.int x :: st) hp := by
  subst en
  intro G B p l e R s m args below meth c Q H locs cells slots ls A F h hS h1 h2 h3 h4 hl
  exact lv_istore_n A.1 A.2.1 hdg rfl hl hi rfl (fun ls' hl' => k G B p l e R s m args below meth c Q H locs cells slots ls' A F h hS h1 h2 h3 h4 (zl_set (v := .int x) hz hl'))
theorem z_istore {X : zS} {M : zM} {d kc ks : Nat} {r : Option Value} {hp' : List zC} {pc : Nat} {L : List (Option Value)} {st : List Value} {hp : List zC} {i : Nat} {x : Int32} (n : Nat) (en : pc + 2 = n) (hi : i < M.2.2.1) (hz : zlong L i = false) (hdg : decode M.2.1 pc = .ok (.istore i, 2)) (k : Z X M d kc ks r hp' n (L.set i (some (.int x))) st hp) : Z X M d kc ks r hp' pc L (.int x :: st) hp := by
  subst en
  intro G B p l e R s m args below meth c Q H locs cells slots ls A F h hS h1 h2 h3 h4 hl
  exact lv_istore A.1 A.2.1 hdg hl hi rfl (fun ls' hl' => k G B p l e R s m args below meth c Q H locs cells slots ls' A F h hS h1 h2 h3 h4 (zl_set (v := .int x) hz hl'))
theorem z_astore_n {X : zS} {M : zM} {d kc ks : Nat} {r : Option Value} {hp' : List zC} {pc : Nat} {L : List (Option Value)} {st : List Value} {hp : List zC} {i : Fin 4} {x : Nat} (n : Nat) (en : pc + 1 = n) (hi : (i : Nat) < M.2.2.1) (hz : zlong L (i : Nat) = false) (hdg : decode M.2.1 pc = .ok (.astore_n i, 1)) (k : Z X M d kc ks r hp' n (L.set (i : Nat) (some (.ref x))) st hp) : Z X M d kc ks r hp' pc L (.ref x :: st) hp := by
  subst en
  intro G B p l e R s m args below meth c Q H locs cells slots ls A F h hS h1 h2 h3 h4 hl
  exact lv_astore_n A.1 A.2.1 hdg rfl hl hi rfl (fun ls' hl' => k G B p l e R s m args below meth c Q H locs cells slots ls' A F h hS h1 h2 h3 h4 (zl_set (v := .ref x) hz hl'))
theorem z_astore {X : zS} {M : zM} {d kc ks : Nat} {r : Option Value} {hp' : List zC} {pc : Nat} {L : List (Option Value)} {st : List Value} {hp : List zC} {i : Nat} {x : Nat} (n : Nat) (en : pc + 2 = n) (hi : i < M.2.2.1) (hz : zlong L i = false) (hdg : decode M.2.1 pc = .ok (.astore i, 2)) (k : Z X M d kc ks r hp' n (L.set i (some (.ref x))) st hp) : Z X M d kc ks r hp' pc L (.ref x :: st) hp := by
  subst en
  intro G B p l e R s m args below meth c Q H locs cells slots ls A F h hS h1 h2 h3 h4 hl
  exact lv_astore A.1 A.2.1 hdg hl hi rfl (fun ls' hl' => k G B p l e R s m args below meth c Q H locs cells slots ls' A F h hS h1 h2 h3 h4 (zl_set (v := .ref x) hz hl'))
theorem z_astore_nN {X : zS} {M : zM} {d kc ks : Nat} {r : Option Value} {hp' : List zC} {pc : Nat} {L : List (Option Value)} {st : List Value} {hp : List zC} {i : Fin 4} (n : Nat) (en : pc + 1 = n) (hi : (i : Nat) < M.2.2.1) (hz : zlong L (i : Nat) = false) (hdg : decode M.2.1 pc = .ok (.astore_n i, 1)) (k : Z X M d kc ks r hp' n (L.set (i : Nat) (some (.null))) st hp) : Z X M d kc ks r hp' pc L (.null :: st) hp := by
  subst en
  intro G B p l e R s m args below meth c Q H locs cells slots ls A F h hS h1 h2 h3 h4 hl
  exact lv_astore_nN A.1 A.2.1 hdg rfl hl hi rfl (fun ls' hl' => k G B p l e R s m args below meth c Q H locs cells slots ls' A F h hS h1 h2 h3 h4 (zl_set (v := .null) hz hl'))
theorem z_astoreN {X : zS} {M : zM} {d kc ks : Nat} {r : Option Value} {hp' : List zC} {pc : Nat} {L : List (Option Value)} {st : List Value} {hp : List zC} {i : Nat} (n : Nat) (en : pc + 2 = n) (hi : i < M.2.2.1) (hz : zlong L i = false) (hdg : decode M.2.1 pc = .ok (.astore i, 2)) (k : Z X M d kc ks r hp' n (L.set i (some (.null))) st hp) : Z X M d kc ks r hp' pc L (.null :: st) hp := by
  subst en
  intro G B p l e R s m args below meth c Q H locs cells slots ls A F h hS h1 h2 h3 h4 hl
  exact lv_astoreN A.1 A.2.1 hdg hl hi rfl (fun ls' hl' => k G B p l e R s m args below meth c Q H locs cells slots ls' A F h hS h1 h2 h3 h4 (zl_set (v := .null) hz hl'))
theorem zl_ix {B : Nat} {Y : Nat → Nat} {L : List (Option Value)} {i : Nat} {v : Value} (hk : L[i]? = some (some v)) : ∃ k : Nat, (zl B Y 0 L)[k]? = some (i, zr B Y v) := by
  have := zl_mem B Y L 0 i v hk
  rw [Nat.zero_add] at this
  exact List.getElem?_of_mem this
theorem z_iinc {X : zS} {M : zM} {d kc ks : Nat} {r : Option Value} {hp' : List zC} {pc : Nat} {L : List (Option Value)} {st : List Value} {hp : List zC} {i : Nat} {n0 : Int} {x : Int32} (v : Int32) (hv : Int32.ofInt n0 = v) (n : Nat) (en : pc + 3 = n) (hi : L[i]? = some (some (.int x))) (hb : i < M.2.2.1) (hz : zlong L i = false) (hdg : decode M.2.1 pc = .ok (.iinc i n0, 3)) (k : Z X M d kc ks r hp' n (L.set i (some (.int (x + v)))) st hp) : Z X M d kc ks r hp' pc L st hp := by
  subst en
  subst hv
  intro G B p l e R s m args below meth c Q H locs cells slots ls A F h hS h1 h2 h3 h4 hl
  obtain ⟨q, hq⟩ := zl_ix (B := B) (Y := G.2.2) hi
  exact lv_iinc A.1 A.2.1 hdg hl hq rfl hb rfl (fun ls' hl' => k G B p l e R s m args below meth c Q H locs cells slots ls' A F h hS h1 h2 h3 h4 (zl_set (v := .int (x + Int32.ofInt n0)) hz hl'))
theorem z_iadd {X : zS} {M : zM} {d kc ks : Nat} {r : Option Value} {hp' : List zC} {pc : Nat} {L : List (Option Value)} {st : List Value} {hp : List zC} {x y : Int32} (n : Nat) (en : pc + 1 = n) (hdg : decode M.2.1 pc = .ok (.iadd, 1)) (k : Z X M d kc ks r hp' n L (.int (x + y) :: st) hp) : Z X M d kc ks r hp' pc L (.int y :: .int x :: st) hp := by
  subst en
  intro G B p l e R s m args below meth c Q H locs cells slots ls A F h hS h1 h2 h3 h4 hl
  exact lv_iadd A.1 A.2.1 hdg (k G B p l e R s m args below meth c Q H locs cells slots ls A F h hS h1 h2 h3 h4 hl)
theorem z_isub {X : zS} {M : zM} {d kc ks : Nat} {r : Option Value} {hp' : List zC} {pc : Nat} {L : List (Option Value)} {st : List Value} {hp : List zC} {x y : Int32} (n : Nat) (en : pc + 1 = n) (hdg : decode M.2.1 pc = .ok (.isub, 1)) (k : Z X M d kc ks r hp' n L (.int (x - y) :: st) hp) : Z X M d kc ks r hp' pc L (.int y :: .int x :: st) hp := by
  subst en
  intro G B p l e R s m args below meth c Q H locs cells slots ls A F h hS h1 h2 h3 h4 hl
  exact lv_isub A.1 A.2.1 hdg (k G B p l e R s m args below meth c Q H locs cells slots ls A F h hS h1 h2 h3 h4 hl)
theorem z_imul {X : zS} {M : zM} {d kc ks : Nat} {r : Option Value} {hp' : List zC} {pc : Nat} {L : List (Option Value)} {st : List Value} {hp : List zC} {x y : Int32} (n : Nat) (en : pc + 1 = n) (hdg : decode M.2.1 pc = .ok (.imul, 1)) (k : Z X M d kc ks r hp' n L (.int (x * y) :: st) hp) : Z X M d kc ks r hp' pc L (.int y :: .int x :: st) hp := by
  subst en
  intro G B p l e R s m args below meth c Q H locs cells slots ls A F h hS h1 h2 h3 h4 hl
  exact lv_imul A.1 A.2.1 hdg (k G B p l e R s m args below meth c Q H locs cells slots ls A F h hS h1 h2 h3 h4 hl)
theorem z_iand {X : zS} {M : zM} {d kc ks : Nat} {r : Option Value} {hp' : List zC} {pc : Nat} {L : List (Option Value)} {st : List Value} {hp : List zC} {x y : Int32} (n : Nat) (en : pc + 1 = n) (hdg : decode M.2.1 pc = .ok (.iand, 1)) (k : Z X M d kc ks r hp' n L (.int (x &&& y) :: st) hp) : Z X M d kc ks r hp' pc L (.int y :: .int x :: st) hp := by
  subst en
  intro G B p l e R s m args below meth c Q H locs cells slots ls A F h hS h1 h2 h3 h4 hl
  exact lv_iand A.1 A.2.1 hdg (k G B p l e R s m args below meth c Q H locs cells slots ls A F h hS h1 h2 h3 h4 hl)
theorem z_ior {X : zS} {M : zM} {d kc ks : Nat} {r : Option Value} {hp' : List zC} {pc : Nat} {L : List (Option Value)} {st : List Value} {hp : List zC} {x y : Int32} (n : Nat) (en : pc + 1 = n) (hdg : decode M.2.1 pc = .ok (.ior, 1)) (k : Z X M d kc ks r hp' n L (.int (x ||| y) :: st) hp) : Z X M d kc ks r hp' pc L (.int y :: .int x :: st) hp := by
  subst en
  intro G B p l e R s m args below meth c Q H locs cells slots ls A F h hS h1 h2 h3 h4 hl
  exact lv_ior A.1 A.2.1 hdg (k G B p l e R s m args below meth c Q H locs cells slots ls A F h hS h1 h2 h3 h4 hl)
theorem z_ixor {X : zS} {M : zM} {d kc ks : Nat} {r : Option Value} {hp' : List zC} {pc : Nat} {L : List (Option Value)} {st : List Value} {hp : List zC} {x y : Int32} (n : Nat) (en : pc + 1 = n) (hdg : decode M.2.1 pc = .ok (.ixor, 1)) (k : Z X M d kc ks r hp' n L (.int (x ^^^ y) :: st) hp) : Z X M d kc ks r hp' pc L (.int y :: .int x :: st) hp := by
  subst en
  intro G B p l e R s m args below meth c Q H locs cells slots ls A F h hS h1 h2 h3 h4 hl
  exact lv_ixor A.1 A.2.1 hdg (k G B p l e R s m args below meth c Q H locs cells slots ls A F h hS h1 h2 h3 h4 hl)
theorem z_ishl {X : zS} {M : zM} {d kc ks : Nat} {r : Option Value} {hp' : List zC} {pc : Nat} {L : List (Option Value)} {st : List Value} {hp : List zC} {x y : Int32} (n : Nat) (en : pc + 1 = n) (hdg : decode M.2.1 pc = .ok (.ishl, 1)) (k : Z X M d kc ks r hp' n L (.int (x <<< (y &&& 31)) :: st) hp) : Z X M d kc ks r hp' pc L (.int y :: .int x :: st) hp := by
  subst en
  intro G B p l e R s m args below meth c Q H locs cells slots ls A F h hS h1 h2 h3 h4 hl
  exact lv_ishl A.1 A.2.1 hdg (k G B p l e R s m args below meth c Q H locs cells slots ls A F h hS h1 h2 h3 h4 hl)
theorem z_ishr {X : zS} {M : zM} {d kc ks : Nat} {r : Option Value} {hp' : List zC} {pc : Nat} {L : List (Option Value)} {st : List Value} {hp : List zC} {x y : Int32} (n : Nat) (en : pc + 1 = n) (hdg : decode M.2.1 pc = .ok (.ishr, 1)) (k : Z X M d kc ks r hp' n L (.int (x >>> (y &&& 31)) :: st) hp) : Z X M d kc ks r hp' pc L (.int y :: .int x :: st) hp := by
  subst en
  intro G B p l e R s m args below meth c Q H locs cells slots ls A F h hS h1 h2 h3 h4 hl
  exact lv_ishr A.1 A.2.1 hdg (k G B p l e R s m args below meth c Q H locs cells slots ls A F h hS h1 h2 h3 h4 hl)
theorem z_idiv {X : zS} {M : zM} {d kc ks : Nat} {r : Option Value} {hp' : List zC} {pc : Nat} {L : List (Option Value)} {st : List Value} {hp : List zC} {x y : Int32} (hne : ¬ y = 0) (n : Nat) (en : pc + 1 = n) (hdg : decode M.2.1 pc = .ok (.idiv, 1)) (k : Z X M d kc ks r hp' n L (.int (x / y) :: st) hp) : Z X M d kc ks r hp' pc L (.int y :: .int x :: st) hp := by
  subst en
  intro G B p l e R s m args below meth c Q H locs cells slots ls A F h hS h1 h2 h3 h4 hl
  exact lv_idiv A.1 A.2.1 hdg hne (k G B p l e R s m args below meth c Q H locs cells slots ls A F h hS h1 h2 h3 h4 hl)
theorem z_irem {X : zS} {M : zM} {d kc ks : Nat} {r : Option Value} {hp' : List zC} {pc : Nat} {L : List (Option Value)} {st : List Value} {hp : List zC} {x y : Int32} (hne : ¬ y = 0) (n : Nat) (en : pc + 1 = n) (hdg : decode M.2.1 pc = .ok (.irem, 1)) (k : Z X M d kc ks r hp' n L (.int (x - x / y * y) :: st) hp) : Z X M d kc ks r hp' pc L (.int y :: .int x :: st) hp := by
  subst en
  intro G B p l e R s m args below meth c Q H locs cells slots ls A F h hS h1 h2 h3 h4 hl
  exact lv_irem A.1 A.2.1 hdg hne (k G B p l e R s m args below meth c Q H locs cells slots ls A F h hS h1 h2 h3 h4 hl)
theorem z_ineg {X : zS} {M : zM} {d kc ks : Nat} {r : Option Value} {hp' : List zC} {pc : Nat} {L : List (Option Value)} {st : List Value} {hp : List zC} {x : Int32} (n : Nat) (en : pc + 1 = n) (hdg : decode M.2.1 pc = .ok (.ineg, 1)) (k : Z X M d kc ks r hp' n L (.int (-x) :: st) hp) : Z X M d kc ks r hp' pc L (.int x :: st) hp := by
  subst en
  intro G B p l e R s m args below meth c Q H locs cells slots ls A F h hS h1 h2 h3 h4 hl
  exact lv_ineg A.1 A.2.1 hdg (k G B p l e R s m args below meth c Q H locs cells slots ls A F h hS h1 h2 h3 h4 hl)
theorem z_iushr {X : zS} {M : zM} {d kc ks : Nat} {r : Option Value} {hp' : List zC} {pc : Nat} {L : List (Option Value)} {st : List Value} {hp : List zC} {x y : Int32} (n : Nat) (en : pc + 1 = n) (hdg : decode M.2.1 pc = .ok (.iushr, 1)) (k : Z X M d kc ks r hp' n L (.int (x.toUInt32 >>> (y.toUInt32 &&& Int32.toUInt32 31)).toInt32 :: st) hp) : Z X M d kc ks r hp' pc L (.int y :: .int x :: st) hp := by
  subst en
  intro G B p l e R s m args below meth c Q H locs cells slots ls A F h hS h1 h2 h3 h4 hl
  exact lv_iushr A.1 A.2.1 hdg rfl (k G B p l e R s m args below meth c Q H locs cells slots ls A F h hS h1 h2 h3 h4 hl)
theorem z_land {X : zS} {M : zM} {d kc ks : Nat} {r : Option Value} {hp' : List zC} {pc : Nat} {L : List (Option Value)} {st : List Value} {hp : List zC} {x y : Int64} (n : Nat) (en : pc + 1 = n) (hdg : decode M.2.1 pc = .ok (.land, 1)) (k : Z X M d kc ks r hp' n L (.long (x &&& y) :: st) hp) : Z X M d kc ks r hp' pc L (.long y :: .long x :: st) hp := by
  subst en
  intro G B p l e R s m args below meth c Q H locs cells slots ls A F h hS h1 h2 h3 h4 hl
  exact lv_land A.1 A.2.1 hdg (k G B p l e R s m args below meth c Q H locs cells slots ls A F h hS h1 h2 h3 h4 hl)
theorem z_lor {X : zS} {M : zM} {d kc ks : Nat} {r : Option Value} {hp' : List zC} {pc : Nat} {L : List (Option Value)} {st : List Value} {hp : List zC} {x y : Int64} (n : Nat) (en : pc + 1 = n) (hdg : decode M.2.1 pc = .ok (.lor, 1)) (k : Z X M d kc ks r hp' n L (.long (x ||| y) :: st) hp) : Z X M d kc ks r hp' pc L (.long y :: .long x :: st) hp := by
  subst en
  intro G B p l e R s m args below meth c Q H locs cells slots ls A F h hS h1 h2 h3 h4 hl
  exact lv_lor A.1 A.2.1 hdg (k G B p l e R s m args below meth c Q H locs cells slots ls A F h hS h1 h2 h3 h4 hl)
theorem z_lshl {X : zS} {M : zM} {d kc ks : Nat} {r : Option Value} {hp' : List zC} {pc : Nat} {L : List (Option Value)} {st : List Value} {hp : List zC} {x : Int64} {y : Int32} (n : Nat) (en : pc + 1 = n) (hdg : decode M.2.1 pc = .ok (.lshl, 1)) (k : Z X M d kc ks r hp' n L (.long (x <<< (y.toInt64 &&& 63)) :: st) hp) : Z X M d kc ks r hp' pc L (.int y :: .long x :: st) hp := by
  subst en
  intro G B p l e R s m args below meth c Q H locs cells slots ls A F h hS h1 h2 h3 h4 hl
  exact lv_lshl A.1 A.2.1 hdg rfl (k G B p l e R s m args below meth c Q H locs cells slots ls A F h hS h1 h2 h3 h4 hl)
theorem z_lshr {X : zS} {M : zM} {d kc ks : Nat} {r : Option Value} {hp' : List zC} {pc : Nat} {L : List (Option Value)} {st : List Value} {hp : List zC} {x : Int64} {y : Int32} (n : Nat) (en : pc + 1 = n) (hdg : decode M.2.1 pc = .ok (.lshr, 1)) (k : Z X M d kc ks r hp' n L (.long (x >>> (y.toInt64 &&& 63)) :: st) hp) : Z X M d kc ks r hp' pc L (.int y :: .long x :: st) hp := by
  subst en
  intro G B p l e R s m args below meth c Q H locs cells slots ls A F h hS h1 h2 h3 h4 hl
  exact lv_lshr A.1 A.2.1 hdg rfl (k G B p l e R s m args below meth c Q H locs cells slots ls A F h hS h1 h2 h3 h4 hl)
theorem z_lushr {X : zS} {M : zM} {d kc ks : Nat} {r : Option Value} {hp' : List zC} {pc : Nat} {L : List (Option Value)} {st : List Value} {hp : List zC} {x : Int64} {y : Int32} (n : Nat) (en : pc + 1 = n) (hdg : decode M.2.1 pc = .ok (.lushr, 1)) (k : Z X M d kc ks r hp' n L (.long (x.toUInt64 >>> (y.toInt64.toUInt64 &&& Int64.toUInt64 63)).toInt64 :: st) hp) : Z X M d kc ks r hp' pc L (.int y :: .long x :: st) hp := by
  subst en
  intro G B p l e R s m args below meth c Q H locs cells slots ls A F h hS h1 h2 h3 h4 hl
  exact lv_lushr A.1 A.2.1 hdg rfl (k G B p l e R s m args below meth c Q H locs cells slots ls A F h hS h1 h2 h3 h4 hl)
theorem z_l2i {X : zS} {M : zM} {d kc ks : Nat} {r : Option Value} {hp' : List zC} {pc : Nat} {L : List (Option Value)} {st : List Value} {hp : List zC} {x : Int64} (n : Nat) (en : pc + 1 = n) (hdg : decode M.2.1 pc = .ok (.l2i, 1)) (k : Z X M d kc ks r hp' n L (.int x.toInt32 :: st) hp) : Z X M d kc ks r hp' pc L (.long x :: st) hp := by
  subst en
  intro G B p l e R s m args below meth c Q H locs cells slots ls A F h hS h1 h2 h3 h4 hl
  exact lv_l2i A.1 A.2.1 hdg rfl (k G B p l e R s m args below meth c Q H locs cells slots ls A F h hS h1 h2 h3 h4 hl)
theorem z_i2l {X : zS} {M : zM} {d kc ks : Nat} {r : Option Value} {hp' : List zC} {pc : Nat} {L : List (Option Value)} {st : List Value} {hp : List zC} {x : Int32} (n : Nat) (en : pc + 1 = n) (hdg : decode M.2.1 pc = .ok (.i2l, 1)) (k : Z X M d kc ks r hp' n L (.long x.toInt64 :: st) hp) : Z X M d kc ks r hp' pc L (.int x :: st) hp := by
  subst en
  intro G B p l e R s m args below meth c Q H locs cells slots ls A F h hS h1 h2 h3 h4 hl
  exact lv_i2l A.1 A.2.1 hdg rfl (k G B p l e R s m args below meth c Q H locs cells slots ls A F h hS h1 h2 h3 h4 hl)
theorem z_i2c {X : zS} {M : zM} {d kc ks : Nat} {r : Option Value} {hp' : List zC} {pc : Nat} {L : List (Option Value)} {st : List Value} {hp : List zC} {x : Int32} (n : Nat) (en : pc + 1 = n) (hdg : decode M.2.1 pc = .ok (.i2c, 1)) (k : Z X M d kc ks r hp' n L (.int (x.toUInt32 % 65536).toInt32 :: st) hp) : Z X M d kc ks r hp' pc L (.int x :: st) hp := by
  subst en
  intro G B p l e R s m args below meth c Q H locs cells slots ls A F h hS h1 h2 h3 h4 hl
  exact lv_i2c A.1 A.2.1 hdg rfl (k G B p l e R s m args below meth c Q H locs cells slots ls A F h hS h1 h2 h3 h4 hl)
theorem z_dup {X : zS} {M : zM} {d kc ks : Nat} {r : Option Value} {hp' : List zC} {pc : Nat} {L : List (Option Value)} {st : List Value} {hp : List zC} {v : Value} (hv : v.category = 1) (n : Nat) (en : pc + 1 = n) (hdg : decode M.2.1 pc = .ok (.dup, 1)) (k : Z X M d kc ks r hp' n L (v :: v :: st) hp) : Z X M d kc ks r hp' pc L (v :: st) hp := by
  subst en
  intro G B p l e R s m args below meth c Q H locs cells slots ls A F h hS h1 h2 h3 h4 hl
  exact lv_dup A.1 A.2.1 hdg ((zr_cat _ _ _).trans hv) (k G B p l e R s m args below meth c Q H locs cells slots ls A F h hS h1 h2 h3 h4 hl)
theorem z_pop {X : zS} {M : zM} {d kc ks : Nat} {r : Option Value} {hp' : List zC} {pc : Nat} {L : List (Option Value)} {st : List Value} {hp : List zC} {v : Value} (hv : v.category = 1) (n : Nat) (en : pc + 1 = n) (hdg : decode M.2.1 pc = .ok (.pop, 1)) (k : Z X M d kc ks r hp' n L st hp) : Z X M d kc ks r hp' pc L (v :: st) hp := by
  subst en
  intro G B p l e R s m args below meth c Q H locs cells slots ls A F h hS h1 h2 h3 h4 hl
  exact lv_pop A.1 A.2.1 hdg ((zr_cat _ _ _).trans hv) (k G B p l e R s m args below meth c Q H locs cells slots ls A F h hS h1 h2 h3 h4 hl)
theorem z_dup2 {X : zS} {M : zM} {d kc ks : Nat} {r : Option Value} {hp' : List zC} {pc : Nat} {L : List (Option Value)} {st : List Value} {hp : List zC} {v w : Value} (hv : v.category = 1) (hw : w.category = 1) (n : Nat) (en : pc + 1 = n) (hdg : decode M.2.1 pc = .ok (.dup2, 1)) (k : Z X M d kc ks r hp' n L (v :: w :: v :: w :: st) hp) : Z X M d kc ks r hp' pc L (v :: w :: st) hp := by
  subst en
  intro G B p l e R s m args below meth c Q H locs cells slots ls A F h hS h1 h2 h3 h4 hl
  exact lv_dup2_11 A.1 A.2.1 hdg ((zr_cat _ _ _).trans hv) ((zr_cat _ _ _).trans hw) (k G B p l e R s m args below meth c Q H locs cells slots ls A F h hS h1 h2 h3 h4 hl)
theorem z_if_eq {X : zS} {M : zM} {d kc ks : Nat} {r : Option Value} {hp' : List zC} {pc : Nat} {L : List (Option Value)} {st : List Value} {hp : List zC} {x : Int32} {off : Int} (n1 n2 : Nat) (e1 : (pc : Int) + off = (n1 : Int)) (e2 : pc + 3 = n2) (hdg : decode M.2.1 pc = .ok (.ifCond .eq off, 3)) (kt : x = 0 → Z X M d kc ks r hp' n1 L st hp) (kf : ¬ x = 0 → Z X M d kc ks r hp' n2 L st hp) : Z X M d kc ks r hp' pc L (.int x :: st) hp := by
  subst e2
  intro G B p l e R s m args below meth c Q H locs cells slots ls A F h hS h1 h2 h3 h4 hl
  exact lv_if_eq A.1 A.2.1 hdg e1 (fun q => kt q G B p l e R s m args below meth c Q H locs cells slots ls A F h hS h1 h2 h3 h4 hl) (fun q => kf q G B p l e R s m args below meth c Q H locs cells slots ls A F h hS h1 h2 h3 h4 hl)
theorem z_icmp_eq {X : zS} {M : zM} {d kc ks : Nat} {r : Option Value} {hp' : List zC} {pc : Nat} {L : List (Option Value)} {st : List Value} {hp : List zC} {x y : Int32} {off : Int} (n1 n2 : Nat) (e1 : (pc : Int) + off = (n1 : Int)) (e2 : pc + 3 = n2) (hdg : decode M.2.1 pc = .ok (.if_icmp .eq off, 3)) (kt : x = y → Z X M d kc ks r hp' n1 L st hp) (kf : ¬ x = y → Z X M d kc ks r hp' n2 L st hp) : Z X M d kc ks r hp' pc L (.int y :: .int x :: st) hp := by
  subst e2
  intro G B p l e R s m args below meth c Q H locs cells slots ls A F h hS h1 h2 h3 h4 hl
  exact lv_icmp_eq A.1 A.2.1 hdg e1 (fun q => kt q G B p l e R s m args below meth c Q H locs cells slots ls A F h hS h1 h2 h3 h4 hl) (fun q => kf q G B p l e R s m args below meth c Q H locs cells slots ls A F h hS h1 h2 h3 h4 hl)
theorem z_if_ne {X : zS} {M : zM} {d kc ks : Nat} {r : Option Value} {hp' : List zC} {pc : Nat} {L : List (Option Value)} {st : List Value} {hp : List zC} {x : Int32} {off : Int} (n1 n2 : Nat) (e1 : (pc : Int) + off = (n1 : Int)) (e2 : pc + 3 = n2) (hdg : decode M.2.1 pc = .ok (.ifCond .ne off, 3)) (kt : ¬ x = 0 → Z X M d kc ks r hp' n1 L st hp) (kf : x = 0 → Z X M d kc ks r hp' n2 L st hp) : Z X M d kc ks r hp' pc L (.int x :: st) hp := by
  subst e2
  intro G B p l e R s m args below meth c Q H locs cells slots ls A F h hS h1 h2 h3 h4 hl
  exact lv_if_ne A.1 A.2.1 hdg e1 (fun q => kt q G B p l e R s m args below meth c Q H locs cells slots ls A F h hS h1 h2 h3 h4 hl) (fun q => kf q G B p l e R s m args below meth c Q H locs cells slots ls A F h hS h1 h2 h3 h4 hl)
theorem z_icmp_ne {X : zS} {M : zM} {d kc ks : Nat} {r : Option Value} {hp' : List zC} {pc : Nat} {L : List (Option Value)} {st : List Value} {hp : List zC} {x y : Int32} {off : Int} (n1 n2 : Nat) (e1 : (pc : Int) + off = (n1 : Int)) (e2 : pc + 3 = n2) (hdg : decode M.2.1 pc = .ok (.if_icmp .ne off, 3)) (kt : ¬ x = y → Z X M d kc ks r hp' n1 L st hp) (kf : x = y → Z X M d kc ks r hp' n2 L st hp) : Z X M d kc ks r hp' pc L (.int y :: .int x :: st) hp := by
  subst e2
  intro G B p l e R s m args below meth c Q H locs cells slots ls A F h hS h1 h2 h3 h4 hl
  exact lv_icmp_ne A.1 A.2.1 hdg e1 (fun q => kt q G B p l e R s m args below meth c Q H locs cells slots ls A F h hS h1 h2 h3 h4 hl) (fun q => kf q G B p l e R s m args below meth c Q H locs cells slots ls A F h hS h1 h2 h3 h4 hl)
theorem z_if_lt {X : zS} {M : zM} {d kc ks : Nat} {r : Option Value} {hp' : List zC} {pc : Nat} {L : List (Option Value)} {st : List Value} {hp : List zC} {x : Int32} {off : Int} (n1 n2 : Nat) (e1 : (pc : Int) + off = (n1 : Int)) (e2 : pc + 3 = n2) (hdg : decode M.2.1 pc = .ok (.ifCond .lt off, 3)) (kt : x < 0 → Z X M d kc ks r hp' n1 L st hp) (kf : ¬ x < 0 → Z X M d kc ks r hp' n2 L st hp) : Z X M d kc ks r hp' pc L (.int x :: st) hp := by
  subst e2
  intro G B p l e R s m args below meth c Q H locs cells slots ls A F h hS h1 h2 h3 h4 hl
  exact lv_if_lt A.1 A.2.1 hdg e1 (fun q => kt q G B p l e R s m args below meth c Q H locs cells slots ls A F h hS h1 h2 h3 h4 hl) (fun q => kf q G B p l e R s m args below meth c Q H locs cells slots ls A F h hS h1 h2 h3 h4 hl)
theorem z_icmp_lt {X : zS} {M : zM} {d kc ks : Nat} {r : Option Value} {hp' : List zC} {pc : Nat} {L : List (Option Value)} {st : List Value} {hp : List zC} {x y : Int32} {off : Int} (n1 n2 : Nat) (e1 : (pc : Int) + off = (n1 : Int)) (e2 : pc + 3 = n2) (hdg : decode M.2.1 pc = .ok (.if_icmp .lt off, 3)) (kt : x < y → Z X M d kc ks r hp' n1 L st hp) (kf : ¬ x < y → Z X M d kc ks r hp' n2 L st hp) : Z X M d kc ks r hp' pc L (.int y :: .int x :: st) hp := by
  subst e2
  intro G B p l e R s m args below meth c Q H locs cells slots ls A F h hS h1 h2 h3 h4 hl
  exact lv_icmp_lt A.1 A.2.1 hdg e1 (fun q => kt q G B p l e R s m args below meth c Q H locs cells slots ls A F h hS h1 h2 h3 h4 hl) (fun q => kf q G B p l e R s m args below meth c Q H locs cells slots ls A F h hS h1 h2 h3 h4 hl)
theorem z_if_ge {X : zS} {M : zM} {d kc ks : Nat} {r : Option Value} {hp' : List zC} {pc : Nat} {L : List (Option Value)} {st : List Value} {hp : List zC} {x : Int32} {off : Int} (n1 n2 : Nat) (e1 : (pc : Int) + off = (n1 : Int)) (e2 : pc + 3 = n2) (hdg : decode M.2.1 pc = .ok (.ifCond .ge off, 3)) (kt : 0 ≤ x → Z X M d kc ks r hp' n1 L st hp) (kf : ¬ 0 ≤ x → Z X M d kc ks r hp' n2 L st hp) : Z X M d kc ks r hp' pc L (.int x :: st) hp := by
  subst e2
  intro G B p l e R s m args below meth c Q H locs cells slots ls A F h hS h1 h2 h3 h4 hl
  exact lv_if_ge A.1 A.2.1 hdg e1 (fun q => kt q G B p l e R s m args below meth c Q H locs cells slots ls A F h hS h1 h2 h3 h4 hl) (fun q => kf q G B p l e R s m args below meth c Q H locs cells slots ls A F h hS h1 h2 h3 h4 hl)
theorem z_icmp_ge {X : zS} {M : zM} {d kc ks : Nat} {r : Option Value} {hp' : List zC} {pc : Nat} {L : List (Option Value)} {st : List Value} {hp : List zC} {x y : Int32} {off : Int} (n1 n2 : Nat) (e1 : (pc : Int) + off = (n1 : Int)) (e2 : pc + 3 = n2) (hdg : decode M.2.1 pc = .ok (.if_icmp .ge off, 3)) (kt : y ≤ x → Z X M d kc ks r hp' n1 L st hp) (kf : ¬ y ≤ x → Z X M d kc ks r hp' n2 L st hp) : Z X M d kc ks r hp' pc L (.int y :: .int x :: st) hp := by
  subst e2
  intro G B p l e R s m args below meth c Q H locs cells slots ls A F h hS h1 h2 h3 h4 hl
  exact lv_icmp_ge A.1 A.2.1 hdg e1 (fun q => kt q G B p l e R s m args below meth c Q H locs cells slots ls A F h hS h1 h2 h3 h4 hl) (fun q => kf q G B p l e R s m args below meth c Q H locs cells slots ls A F h hS h1 h2 h3 h4 hl)
theorem z_if_gt {X : zS} {M : zM} {d kc ks : Nat} {r : Option Value} {hp' : List zC} {pc : Nat} {L : List (Option Value)} {st : List Value} {hp : List zC} {x : Int32} {off : Int} (n1 n2 : Nat) (e1 : (pc : Int) + off = (n1 : Int)) (e2 : pc + 3 = n2) (hdg : decode M.2.1 pc = .ok (.ifCond .gt off, 3)) (kt : 0 < x → Z X M d kc ks r hp' n1 L st hp) (kf : ¬ 0 < x → Z X M d kc ks r hp' n2 L st hp) : Z X M d kc ks r hp' pc L (.int x :: st) hp := by
  subst e2
  intro G B p l e R s m args below meth c Q H locs cells slots ls A F h hS h1 h2 h3 h4 hl
  exact lv_if_gt A.1 A.2.1 hdg e1 (fun q => kt q G B p l e R s m args below meth c Q H locs cells slots ls A F h hS h1 h2 h3 h4 hl) (fun q => kf q G B p l e R s m args below meth c Q H locs cells slots ls A F h hS h1 h2 h3 h4 hl)
theorem z_icmp_gt {X : zS} {M : zM} {d kc ks : Nat} {r : Option Value} {hp' : List zC} {pc : Nat} {L : List (Option Value)} {st : List Value} {hp : List zC} {x y : Int32} {off : Int} (n1 n2 : Nat) (e1 : (pc : Int) + off = (n1 : Int)) (e2 : pc + 3 = n2) (hdg : decode M.2.1 pc = .ok (.if_icmp .gt off, 3)) (kt : y < x → Z X M d kc ks r hp' n1 L st hp) (kf : ¬ y < x → Z X M d kc ks r hp' n2 L st hp) : Z X M d kc ks r hp' pc L (.int y :: .int x :: st) hp := by
  subst e2
  intro G B p l e R s m args below meth c Q H locs cells slots ls A F h hS h1 h2 h3 h4 hl
  exact lv_icmp_gt A.1 A.2.1 hdg e1 (fun q => kt q G B p l e R s m args below meth c Q H locs cells slots ls A F h hS h1 h2 h3 h4 hl) (fun q => kf q G B p l e R s m args below meth c Q H locs cells slots ls A F h hS h1 h2 h3 h4 hl)
theorem z_if_le {X : zS} {M : zM} {d kc ks : Nat} {r : Option Value} {hp' : List zC} {pc : Nat} {L : List (Option Value)} {st : List Value} {hp : List zC} {x : Int32} {off : Int} (n1 n2 : Nat) (e1 : (pc : Int) + off = (n1 : Int)) (e2 : pc + 3 = n2) (hdg : decode M.2.1 pc = .ok (.ifCond .le off, 3)) (kt : x ≤ 0 → Z X M d kc ks r hp' n1 L st hp) (kf : ¬ x ≤ 0 → Z X M d kc ks r hp' n2 L st hp) : Z X M d kc ks r hp' pc L (.int x :: st) hp := by
  subst e2
  intro G B p l e R s m args below meth c Q H locs cells slots ls A F h hS h1 h2 h3 h4 hl
  exact lv_if_le A.1 A.2.1 hdg e1 (fun q => kt q G B p l e R s m args below meth c Q H locs cells slots ls A F h hS h1 h2 h3 h4 hl) (fun q => kf q G B p l e R s m args below meth c Q H locs cells slots ls A F h hS h1 h2 h3 h4 hl)
theorem z_icmp_le {X : zS} {M : zM} {d kc ks : Nat} {r : Option Value} {hp' : List zC} {pc : Nat} {L : List (Option Value)} {st : List Value} {hp : List zC} {x y : Int32} {off : Int} (n1 n2 : Nat) (e1 : (pc : Int) + off = (n1 : Int)) (e2 : pc + 3 = n2) (hdg : decode M.2.1 pc = .ok (.if_icmp .le off, 3)) (kt : x ≤ y → Z X M d kc ks r hp' n1 L st hp) (kf : ¬ x ≤ y → Z X M d kc ks r hp' n2 L st hp) : Z X M d kc ks r hp' pc L (.int y :: .int x :: st) hp := by
  subst e2
  intro G B p l e R s m args below meth c Q H locs cells slots ls A F h hS h1 h2 h3 h4 hl
  exact lv_icmp_le A.1 A.2.1 hdg e1 (fun q => kt q G B p l e R s m args below meth c Q H locs cells slots ls A F h hS h1 h2 h3 h4 hl) (fun q => kf q G B p l e R s m args below meth c Q H locs cells slots ls A F h hS h1 h2 h3 h4 hl)
theorem z_goto {X : zS} {M : zM} {d kc ks : Nat} {r : Option Value} {hp' : List zC} {pc : Nat} {L : List (Option Value)} {st : List Value} {hp : List zC} {off : Int} (n : Nat) (en : (pc : Int) + off = (n : Int)) (hdg : decode M.2.1 pc = .ok (.goto off, 3)) (k : Z X M d kc ks r hp' n L st hp) : Z X M d kc ks r hp' pc L st hp := by
  intro G B p l e R s m args below meth c Q H locs cells slots ls A F h hS h1 h2 h3 h4 hl
  exact lv_goto A.1 A.2.1 hdg en (k G B p l e R s m args below meth c Q H locs cells slots ls A F h hS h1 h2 h3 h4 hl)
theorem z_ifnonnull {X : zS} {M : zM} {d kc ks : Nat} {r : Option Value} {hp' : List zC} {pc : Nat} {L : List (Option Value)} {st : List Value} {hp : List zC} {x : Nat} {off : Int} (n : Nat) (en : (pc : Int) + off = (n : Int)) (hdg : decode M.2.1 pc = .ok (.ifnonnull off, 3)) (k : Z X M d kc ks r hp' n L st hp) : Z X M d kc ks r hp' pc L (.ref x :: st) hp := by
  intro G B p l e R s m args below meth c Q H locs cells slots ls A F h hS h1 h2 h3 h4 hl
  exact lv_ifnonnull A.1 A.2.1 hdg en (k G B p l e R s m args below meth c Q H locs cells slots ls A F h hS h1 h2 h3 h4 hl)
theorem z_ifnull {X : zS} {M : zM} {d kc ks : Nat} {r : Option Value} {hp' : List zC} {pc : Nat} {L : List (Option Value)} {st : List Value} {hp : List zC} {x : Nat} {off : Int} (n : Nat) (en : pc + 3 = n) (hdg : decode M.2.1 pc = .ok (.ifnull off, 3)) (k : Z X M d kc ks r hp' n L st hp) : Z X M d kc ks r hp' pc L (.ref x :: st) hp := by
  subst en
  intro G B p l e R s m args below meth c Q H locs cells slots ls A F h hS h1 h2 h3 h4 hl
  exact lv_ifnull A.1 A.2.1 hdg (k G B p l e R s m args below meth c Q H locs cells slots ls A F h hS h1 h2 h3 h4 hl)
theorem z_ifnullN {X : zS} {M : zM} {d kc ks : Nat} {r : Option Value} {hp' : List zC} {pc : Nat} {L : List (Option Value)} {st : List Value} {hp : List zC} {off : Int} (n : Nat) (en : (pc : Int) + off = (n : Int)) (hdg : decode M.2.1 pc = .ok (.ifnull off, 3)) (k : Z X M d kc ks r hp' n L st hp) : Z X M d kc ks r hp' pc L (.null :: st) hp := by
  intro G B p l e R s m args below meth c Q H locs cells slots ls A F h hS h1 h2 h3 h4 hl
  exact lv_ifnullN A.1 A.2.1 hdg en (k G B p l e R s m args below meth c Q H locs cells slots ls A F h hS h1 h2 h3 h4 hl)
theorem z_ifnonnullN {X : zS} {M : zM} {d kc ks : Nat} {r : Option Value} {hp' : List zC} {pc : Nat} {L : List (Option Value)} {st : List Value} {hp : List zC} {off : Int} (n : Nat) (en : pc + 3 = n) (hdg : decode M.2.1 pc = .ok (.ifnonnull off, 3)) (k : Z X M d kc ks r hp' n L st hp) : Z X M d kc ks r hp' pc L (.null :: st) hp := by
  subst en
  intro G B p l e R s m args below meth c Q H locs cells slots ls A F h hS h1 h2 h3 h4 hl
  exact lv_ifnonnullN A.1 A.2.1 hdg (k G B p l e R s m args below meth c Q H locs cells slots ls A F h hS h1 h2 h3 h4 hl)
theorem z_tabOut {X : zS} {M : zM} {d kc ks : Nat} {r : Option Value} {hp' : List zC} {pc : Nat} {L : List (Option Value)} {st : List Value} {hp : List zC} {dflt lo hi : Int} {offs : Array Int} {len : Nat} {x : Int32} (n : Nat) (hx : x.toInt < lo ∨ hi < x.toInt) (en : (pc : Int) + dflt = (n : Int)) (hdg : decode M.2.1 pc = .ok (.tableswitch dflt lo hi offs, len)) (k : Z X M d kc ks r hp' n L st hp) : Z X M d kc ks r hp' pc L (.int x :: st) hp := by
  intro G B p l e R s m args below meth c Q H locs cells slots ls A F h hS h1 h2 h3 h4 hl
  exact lv_tableOut A.1 A.2.1 hdg hx en (k G B p l e R s m args below meth c Q H locs cells slots ls A F h hS h1 h2 h3 h4 hl)
theorem z_tabIn {X : zS} {M : zM} {d kc ks : Nat} {r : Option Value} {hp' : List zC} {pc : Nat} {L : List (Option Value)} {st : List Value} {hp : List zC} {dflt lo hi : Int} {offs : Array Int} {len : Nat} {x : Int32} {off : Int} (n : Nat) (hx1 : ¬ x.toInt < lo) (hx2 : ¬ hi < x.toInt) (ho : offs[(x.toInt - lo).toNat]? = some off) (en : (pc : Int) + off = (n : Int)) (hdg : decode M.2.1 pc = .ok (.tableswitch dflt lo hi offs, len)) (k : Z X M d kc ks r hp' n L st hp) : Z X M d kc ks r hp' pc L (.int x :: st) hp := by
  intro G B p l e R s m args below meth c Q H locs cells slots ls A F h hS h1 h2 h3 h4 hl
  exact lv_tableIn A.1 A.2.1 hdg hx1 hx2 ho en (k G B p l e R s m args below meth c Q H locs cells slots ls A F h hS h1 h2 h3 h4 hl)
theorem z_ret {X : zS} {M : zM} {d kc ks : Nat} {r : Option Value} {hp' : List zC} {pc : Nat} {L : List (Option Value)} {hp : List zC} {v : Value} (hdg : decode M.2.1 pc = .ok (zri (some v), 1)) (hv : some v = r) (hh : hp = hp') : Z X M d kc ks r hp' pc L [v] hp := by
  subst hv
  subst hh
  intro G B p l e R s m args below meth c Q H locs cells slots ls A F h hS h1 h2 h3 h4 hl
  exact F H locs cells slots pc ls h hS (by omega) (by omega) hdg
theorem z_ireturn {X : zS} {M : zM} {d kc ks : Nat} {r : Option Value} {hp' : List zC} {pc : Nat} {L : List (Option Value)} {hp : List zC} {v : Int32} (hdg : decode M.2.1 pc = .ok (.ireturn, 1)) (hv : some (.int v) = r) (hh : hp = hp') : Z X M d kc ks r hp' pc L [.int v] hp := z_ret hdg hv hh
theorem z_areturn {X : zS} {M : zM} {d kc ks : Nat} {r : Option Value} {hp' : List zC} {pc : Nat} {L : List (Option Value)} {hp : List zC} {v : Nat} (hdg : decode M.2.1 pc = .ok (.areturn, 1)) (hv : some (.ref v) = r) (hh : hp = hp') : Z X M d kc ks r hp' pc L [.ref v] hp := z_ret hdg hv hh
theorem z_areturnN {X : zS} {M : zM} {d kc ks : Nat} {r : Option Value} {hp' : List zC} {pc : Nat} {L : List (Option Value)} {hp : List zC} (hdg : decode M.2.1 pc = .ok (.areturn, 1)) (hv : some .null = r) (hh : hp = hp') : Z X M d kc ks r hp' pc L [.null] hp := z_ret hdg hv hh
theorem z_return {X : zS} {M : zM} {d kc ks : Nat} {r : Option Value} {hp' : List zC} {pc : Nat} {L : List (Option Value)} {hp : List zC} (hdg : decode M.2.1 pc = .ok (.return_, 1)) (hv : none = r) (hh : hp = hp') : Z X M d kc ks r hp' pc L [] hp := by
  subst hv
  subst hh
  intro G B p l e R s m args below meth c Q H locs cells slots ls A F h hS h1 h2 h3 h4 hl
  exact F H locs cells slots pc ls h hS (by omega) (by omega) hdg
end
section
/-! rows on the heap -/
/-- a field link: own's entry ix names the field k of the class ci -/
def zfl (own : String) (ix ci k : Nat) : Prop := ∃ (ref C : String) (T : u_T) (N : Nat), zCl[ci]? = some (C, T, N) ∧ k < N ∧ (∀ w ∈ u_ws C T N, w ∈ zT) ∧ Cond.fieldLink own ix ref (T k).2.1 (T k).2.2.1 ∈ zT ∧ (ref = (T k).1 ∨ Cond.sameField ref (T k).1 (T k).2.1 (T k).2.2.1 ∈ zT)
theorem z_get {X : zS} {M : zM} {d kc ks : Nat} {r : Option Value} {hp' : List zC} {pc : Nat} {L : List (Option Value)} {st : List Value} {hp : List zC} {ix ci k o : Nat} {fs : List Value} {v : Value} (n : Nat) (en : pc + 3 = n) (hf : zfl M.1.cls ix ci k) (ho : hp[o]? = some (.inr (.inr (ci, fs)))) (hv : fs[k]? = some v) (hdg : decode M.2.1 pc = .ok (.getfield ix, 3)) (kk : Z X M d kc ks r hp' n L (v :: st) hp) : Z X M d kc ks r hp' pc L (.ref o :: st) hp := by
  subst en
  intro G B p l e R s m args below meth c Q H locs cells slots ls A F h hS h1 h2 h3 h4 hl
  obtain ⟨ref, C, T, N, hc, hk, hin, hlk, hsm⟩ := hf
  refine va_get (D := G.1) (C := C) (T := T) (N := N) (ref := ref) A.1 A.2.1 A.2.2.2.2.1 hin A.2.2.2.1 A.2.2.2.2.2.1 h.1 o (zw_at ho) hc k hk (A.2.2.2.2.1 _ hlk) ?_ (v := zr B G.2.2 v) (by rw [List.getElem?_map, hv]; rfl) hdg (kk G B p l e R s m args below meth c Q H locs cells slots ls A F h hS h1 h2 h3 h4 hl)
  intro x hx
  rcases hsm with rfl | hsm
  · exact hx
  · exact u_same (A.2.2.2.2.1 _ hsm) x hx
/-- a class's table words, types, names -/
def zfp (own : String) (ix ci k : Nat) (fin : Bool) (ty : FieldType) : Prop := ∃ (C : String) (T : u_T) (N : Nat) (t : Nat → FieldType), zCl[ci]? = some (C, T, N) ∧ k < N ∧ (∀ w ∈ u_ws C T N, w ∈ zT) ∧ (∀ k, k < N → parseFieldDescriptor (T k).2.2.1 = some (t k)) ∧ (∀ a, a < N → ∀ b, b < N → a ≠ b → (T a).2.1 ≠ (T b).2.1) ∧ Cond.fieldLink own ix (T k).1 (T k).2.1 (T k).2.2.1 ∈ zT ∧ (T k).2.2.2 = fin ∧ (fin = true → (T k).1 = own) ∧ parseFieldDescriptor (T k).2.2.1 = some ty
/-- one cell is written -/
theorem zH.put {G : zG} {B : Nat} {hp : List zC} {H H1 : Heap} {o : Nat} {c0 c1 : zC} (h : zH G B hp H) (ho : hp[o]? = some c0) (he : va_at G.1 zCl (B + o, zrel G B c1) H1) (z : H1.size = H.size) (oq : ∀ q : Nat, q ≠ B + o → H1[q]? = H[q]?) : zH G B (hp.set o c1) H1 := by
  refine ⟨?_, by rw [z, h.2, List.length_set]⟩
  rw [← zw_set]
  exact h.1.set (zw_D G B hp) (zw_at ho) he oq
theorem zrel_obj (G : zG) (B ci : Nat) (fs : List Value) : zrel G B (.inr (.inr (ci, fs))) = .inr (ci, fs.map (zr B G.2.2)) := rfl
theorem z_put {X : zS} {M : zM} {d kc ks : Nat} {r : Option Value} {hp' : List zC} {pc : Nat} {L : List (Option Value)} {st : List Value} {hp : List zC} {ix ci k o : Nat} {fin : Bool} {ty : FieldType} {fs : List Value} {v : Value} (n : Nat) (en : pc + 3 = n) (hf : zfp M.1.cls ix ci k fin ty) (hi : fin = false ∨ M.1.name = "<init>") (ho : hp[o]? = some (.inr (.inr (ci, fs)))) (hn : ∀ (B : Nat) (Y : Nat → Nat), narrow ty (zr B Y v) = zr B Y v) (hfit : ∀ (B : Nat) (Y : Nat → Nat), fits ty (zr B Y v) = true) (hk' : k < fs.length) (hdg : decode M.2.1 pc = .ok (.putfield ix, 3)) (kk : Z X M d kc ks r hp' n L st (hp.set o (.inr (.inr (ci, fs.set k v))))) : Z X M d kc ks r hp' pc L (v :: .ref o :: st) hp := by
  subst en
  intro G B p l e R s m args below meth c Q H locs cells slots ls A F h hS h1 h2 h3 h4 hl
  obtain ⟨C, T, N, t, hc, hk, hin, hty, hnm, hlk, hfin, hdecl, hd⟩ := hf
  have hts := A.2.2.2.2.1
  have hK : zK G s := A.2.2.2.2.2.1
  have hap := va_apart (own := M.1.cls) (D := G.1) hts hin t hty hnm hK hc
  obtain ⟨r0, g1, cell, q1, q2, q3, q4⟩ := h.1 o _ (zw_at ho)
  have hr0 : r0 = (C, T, N) := Option.some.inj (g1.symm.trans hc)
  subst hr0
  obtain ⟨hSl, hfc, kC, hkC, hkind⟩ := hK.1 ci _ hc
  obtain ⟨cf, kf, fi, f, hfi, hsl⟩ := hSl k hk
  have hlay := hts _ (hin _ (u_in_lay hk))
  unfold u_lay at hlay
  have hst := (u_facts hfc hkC (u_lays hts hin hk) hfi).1
  have hcell : ∀ H' : Heap, H'[B + o]? = some (cell.setSlot f.slot (zr B G.2.2 v)) → va_at G.1 zCl (B + o, zrel G B (.inr (.inr (ci, fs.set k v)))) H' := by
    intro H' e1
    rw [hsl] at e1
    refine ⟨_, hc, t_OB.to (V := updV (vp_V (fs.map (zr B G.2.2))) k (zr B G.2.2 v)) ⟨_, e1, q2, q3, t_set q4 hap hk _⟩ (fun j _ => ?_)⟩
    rw [vp_updV_set (by simpa using hk')]
    show vp_V _ j = vp_V ((fs.set k v).map _) j
    rw [List.map_set]
  have fin2 : ∀ (H' : Heap) (sl : Nat), H'[B + o]? = some (cell.setSlot f.slot (zr B G.2.2 v)) → H'.size = H.size → (∀ q, q ≠ B + o → H'[q]? = H[q]?) → W p l e R s m args below meth c H' (locs ++ [⟨B + o, sl⟩]) cells slots Q (F0 m (pc + 3) ls (st.map (zr B G.2.2))) := fun H' sl e1 e2 e3 =>
    kk G B p l e R s m args below meth c Q H' _ cells slots ls A F (h.put ho (hcell H' e1) e2 e3) (hS.put e2 e3 (Nat.le_add_right B o)) h1 h2 h3 h4 hl
  cases fin with
  | false =>
    rw [if_neg (by rw [hfin]; decide)] at hlay
    have h6 := u_store hfc hkC hkind hlay hfi hd (hn B G.2.2) (hfit B G.2.2)
    exact W.putK A.1 A.2.1 (f := f) ⟨A.2.2.2.1, hts _ hlk, ⟨_, _, _, hfi⟩, hst⟩ (by rw [q2]; exact h6) q1 q3 (by rw [hsl]; exact k2_hasslot (q4 k hk)) rfl rfl hdg fun H' e1 e2 e3 => fin2 H' _ e1 e2 e3
  | true =>
    rw [if_pos hfin] at hlay
    have hcf : m.cls = cf := by
      obtain ⟨_, _, c', _, _, _, -, -, hf', -, -, -, hown2, -⟩ := Cond.laysFinal_spec hlay
      have e1 : c' = cf := by have := hfi.symm.trans hf'; simp at this; exact this.1.symm
      rw [hdecl rfl] at hown2
      rw [← e1]; exact Option.some.inj (A.2.2.2.1.symm.trans hown2)
    have h6 := u_fits hfc hkC hkind (Or.inr hlay) hfi hd (hn B G.2.2) (hfit B G.2.2)
    have hin2 : meth.name = "<init>" := by
      rcases hi with hi | hi
      · cases hi
      · rw [← hi]; exact A.2.2.2.2.2.2.2.1
    exact W.putFinK A.1 A.2.1 A.2.2.2.1 (hts _ hlk) hfi hst hcf hin2 (by rw [q2]; exact h6) q1 q3 (by rw [hsl]; exact k2_hasslot (q4 k hk)) rfl rfl hdg fun H' e1 e2 e3 => fin2 H' _ e1 e2 e3
theorem z_putI {X : zS} {M : zM} {d kc ks : Nat} {r : Option Value} {hp' : List zC} {pc : Nat} {L : List (Option Value)} {st : List Value} {hp : List zC} {ix ci k o : Nat} {fin : Bool} {fs : List Value} {v : Int32} (n : Nat) (en : pc + 3 = n) (hf : zfp M.1.cls ix ci k fin .int) (hi : fin = false ∨ M.1.name = "<init>") (ho : hp[o]? = some (.inr (.inr (ci, fs)))) (hk' : k < fs.length) (hdg : decode M.2.1 pc = .ok (.putfield ix, 3)) (kk : Z X M d kc ks r hp' n L st (hp.set o (.inr (.inr (ci, fs.set k (.int v)))))) : Z X M d kc ks r hp' pc L (.int v :: .ref o :: st) hp :=
  z_put n en hf hi ho (fun _ _ => rfl) (fun _ _ => rfl) hk' hdg kk
theorem z_iaload {X : zS} {M : zM} {d kc ks : Nat} {r : Option Value} {hp' : List zC} {pc : Nat} {L : List (Option Value)} {st : List Value} {hp : List zC} {o N : Nat} {f : Nat → Int32} {i : Int32} (j n : Nat) (en : pc + 1 = n) (ho : hp[o]? = some (.inl (N, f))) (hj : i = nI j) (hb : j < N) (hN : N < 2 ^ 31) (hdg : decode M.2.1 pc = .ok (.iaload, 1)) (kk : Z X M d kc ks r hp' n L (.int (f j) :: st) hp) : Z X M d kc ks r hp' pc L (.int i :: .ref o :: st) hp := by
  subst en
  subst hj
  intro G B p l e R s m args below meth c Q H locs cells slots ls A F h hS h1 h2 h3 h4 hl
  have e0 : (nI j).toNatClampNeg = j := nI_clamp (by omega)
  refine va_iald (D := G.1) A.1 A.2.1 A.2.2.2.2.2.1 h.1 o 0 (zw_at ho) rfl (vp_in_nI hb hN) hdg ?_
  rw [e0]
  exact kk G B p l e R s m args below meth c Q H locs cells slots ls A F h hS h1 h2 h3 h4 hl
theorem z_aaload {X : zS} {M : zM} {d kc ks : Nat} {r : Option Value} {hp' : List zC} {pc : Nat} {L : List (Option Value)} {st : List Value} {hp : List zC} {o t N : Nat} {C : String} {f : Nat → Option Nat} {i : Int32} {v : Value} (j n : Nat) (en : pc + 1 = n) (ho : hp[o]? = some (.inr (.inl (t, N, f)))) (hC : (t, C) = (0, "LightInRoom$Law") ∨ (t, C) = (1, "LightInRoom$Telling")) (hj : i = nI j) (hb : j < N) (hN : N < 2 ^ 31) (hv : va_rf (f j) = v) (hdg : decode M.2.1 pc = .ok (.aaload, 1)) (kk : Z X M d kc ks r hp' n L (v :: st) hp) : Z X M d kc ks r hp' pc L (.int i :: .ref o :: st) hp := by
  subst en
  subst hj
  subst hv
  intro G B p l e R s m args below meth c Q H locs cells slots ls A F h hS h1 h2 h3 h4 hl
  have e0 : (nI j).toNatClampNeg = j := nI_clamp (by omega)
  have ht : (zTy G)[t + 1]? = some (G.2.1 (t + 1), .object C) := by
    rcases hC with hC | hC <;> cases hC <;> rfl
  refine va_aldq (D := G.1) (C := C) A.1 A.2.1 A.2.2.2.2.2.1 h.1 o (t + 1) (zw_at ho) ht (vp_in_nI hb hN) hdg ?_
  rw [e0]
  have e2 : va_rf ((f j).map (B + ·)) = zr B G.2.2 (va_rf (f j)) := by cases f j <;> rfl
  rw [e2]
  exact kk G B p l e R s m args below meth c Q H locs cells slots ls A F h hS h1 h2 h3 h4 hl
theorem z_alenI {X : zS} {M : zM} {d kc ks : Nat} {r : Option Value} {hp' : List zC} {pc : Nat} {L : List (Option Value)} {st : List Value} {hp : List zC} {o N : Nat} {f : Nat → Int32} (n : Nat) (en : pc + 1 = n) (ho : hp[o]? = some (.inl (N, f))) (v : Int32) (hv : Int32.ofNat N = v) (hdg : decode M.2.1 pc = .ok (.arraylength, 1)) (kk : Z X M d kc ks r hp' n L (.int v :: st) hp) : Z X M d kc ks r hp' pc L (.ref o :: st) hp := by
  subst en
  intro G B p l e R s m args below meth c Q H locs cells slots ls A F h hS h1 h2 h3 h4 hl
  exact va_alen (D := G.1) A.1 A.2.1 A.2.2.2.2.2.1 h.1 o 0 (zw_at ho) rfl hv hdg (kk G B p l e R s m args below meth c Q H locs cells slots ls A F h hS h1 h2 h3 h4 hl)
theorem z_alenR {X : zS} {M : zM} {d kc ks : Nat} {r : Option Value} {hp' : List zC} {pc : Nat} {L : List (Option Value)} {st : List Value} {hp : List zC} {o t N : Nat} {f : Nat → Option Nat} (n : Nat) (en : pc + 1 = n) (ho : hp[o]? = some (.inr (.inl (t, N, f)))) (ht : t = 0 ∨ t = 1) (v : Int32) (hv : Int32.ofNat N = v) (hdg : decode M.2.1 pc = .ok (.arraylength, 1)) (kk : Z X M d kc ks r hp' n L (.int v :: st) hp) : Z X M d kc ks r hp' pc L (.ref o :: st) hp := by
  subst en
  intro G B p l e R s m args below meth c Q H locs cells slots ls A F h hS h1 h2 h3 h4 hl
  rcases ht with rfl | rfl
  · exact va_alen (D := G.1) A.1 A.2.1 A.2.2.2.2.2.1 h.1 o 1 (zw_at ho) rfl hv hdg (kk G B p l e R s m args below meth c Q H locs cells slots ls A F h hS h1 h2 h3 h4 hl)
  · exact va_alen (D := G.1) A.1 A.2.1 A.2.2.2.2.2.1 h.1 o 2 (zw_at ho) rfl hv hdg (kk G B p l e R s m args below meth c Q H locs cells slots ls A F h hS h1 h2 h3 h4 hl)
theorem z_iastore {X : zS} {M : zM} {d kc ks : Nat} {r : Option Value} {hp' : List zC} {pc : Nat} {L : List (Option Value)} {st : List Value} {hp : List zC} {o N : Nat} {f : Nat → Int32} {i x : Int32} (j n : Nat) (en : pc + 1 = n) (ho : hp[o]? = some (.inl (N, f))) (hj : i = nI j) (hb : j < N) (hN : N < 2 ^ 31) (hdg : decode M.2.1 pc = .ok (.iastore, 1)) (kk : Z X M d kc ks r hp' n L st (hp.set o (.inl (N, upd f j x)))) : Z X M d kc ks r hp' pc L (.int x :: .int i :: .ref o :: st) hp := by
  subst en
  subst hj
  intro G B p l e R s m args below meth c Q H locs cells slots ls A F h hS h1 h2 h3 h4 hl
  have e0 : (nI j).toNatClampNeg = j := nI_clamp (by omega)
  have hK : zK G s := A.2.2.2.2.2.1
  refine W.iast A.1 A.2.1 (h.1 o _ (zw_at ho)) ((hK.2 0 _ rfl).1 N (fun j => .int (f j))) (fun q => by cases q) (by show ¬ (nI j < 0 ∨ (arrV _ _ _).slots.size ≤ _); rw [arrV_size]; exact vp_in_nI hb hN) rfl rfl hdg fun H1 ew z oq => ?_
  refine kk G B p l e R s m args below meth c Q H1 _ cells slots ls A F (h.put ho ?_ z oq) (hS.put z oq (Nat.le_add_right B o)) h1 h2 h3 h4 hl
  show H1[B + o]? = some (vp_cell _ _)
  rw [ew]
  show some ((vp_cell (G.2.1 0) (N, .inl f)).setSlot _ _) = _
  rw [vp_cell_i, vp_cell_i, arrV_store, e0]
  congr 2
  funext q
  by_cases hq : q = j
  · subst hq
    simp [updV, upd]
  · simp [updV, upd, hq]
theorem z_aastore {X : zS} {M : zM} {d kc ks : Nat} {r : Option Value} {hp' : List zC} {pc : Nat} {L : List (Option Value)} {st : List Value} {hp : List zC} {o t N v ci : Nat} {C C1 : String} {T : u_T} {N1 : Nat} {fs : List Value} {f : Nat → Option Nat} {i : Int32} (j n : Nat) (en : pc + 1 = n) (ho : hp[o]? = some (.inr (.inl (t, N, f)))) (hv : hp[v]? = some (.inr (.inr (ci, fs)))) (hc : zCl[ci]? = some (C1, T, N1)) (hC : (t = 0 ∧ C1 = "LightInRoom$Law") ∨ (t = 1 ∧ C1 ∈ zCast)) (hj : i = nI j) (hb : j < N) (hN : N < 2 ^ 31) (hdg : decode M.2.1 pc = .ok (.aastore, 1)) (kk : Z X M d kc ks r hp' n L st (hp.set o (.inr (.inl (t, N, va_up f j (some v)))))) : Z X M d kc ks r hp' pc L (.ref v :: .int i :: .ref o :: st) hp := by
  subst en
  subst hj
  intro G B p l e R s m args below meth c Q H locs cells slots ls A F h hS h1 h2 h3 h4 hl
  have e0 : (nI j).toNatClampNeg = j := nI_clamp (by omega)
  have hK : zK G s := A.2.2.2.2.2.1
  obtain ⟨r', hr', cellV, g1, g2, g3, -⟩ := h.1 v _ (zw_at hv)
  have hcls := (hK.1 ci _ hc).2
  obtain ⟨kC, hkC, -⟩ := hcls.2
  have hinA : ¬ nI j < 0 := nI_pos (by omega)
  have core : ∀ (C : String), (zTy G)[t + 1]? = some (G.2.1 (t + 1), .object C) → (∀ comp : ClassId, s.vm.findClass C = some comp → s.vm.assignable (G.1.1 ci) comp = true) → W p l e R s m args below meth c H locs cells slots Q (F0 m pc ls ((.ref v :: .int (nI j) :: .ref o :: st).map (zr B G.2.2))) := by
    intro C ht hasg
    obtain ⟨kA, comp, k1, k2, k3, -⟩ := (hK.2 (t + 1) _ ht).2
    obtain ⟨kE, hkE, -⟩ := Vm.findClass_spec k3
    refine W.aast A.1 A.2.1 (h.1 o _ (zw_at ho)) (fun q h => by cases h) (fun h => by cases h) k1 k2 rfl hkE ⟨hinA, by show _ < (arrV _ _ _).slots.size; rw [arrV_size, e0]; exact hb⟩ g1 (fun q h => by rw [g3] at h; cases h) (by rw [g2]; exact hkC) (by rw [g2]; exact hasg comp k3) rfl rfl hdg fun H1 ew z oq => ?_
    refine kk G B p l e R s m args below meth c Q H1 _ cells slots ls A F (h.put ho ?_ z oq) (hS.put z oq (Nat.le_add_right B o)) h1 h2 h3 h4 hl
    show H1[B + o]? = some (vp_cell _ _)
    rw [ew]
    show some ((vp_cell (G.2.1 (t + 1)) (N, .inr (.inr (.inr (.inr (fun j => (f j).map (B + ·))))))).setSlot _ _) = _
    rw [vp_cell_q, vp_cell_q, arrV_store, e0]
    congr 2
    funext q
    by_cases hq : q = j
    · subst hq
      simp [updV, va_up, va_rf]
    · simp [updV, va_up, hq]
  rcases hC with ⟨rfl, rfl⟩ | ⟨rfl, hC⟩
  · refine core _ rfl (fun comp hcomp => ?_)
    have : comp = G.1.1 ci := Option.some.inj (hcomp.symm.trans hcls.1)
    subst this
    exact va_assign hcls
  · refine core _ rfl (fun comp hcomp => ?_)
    obtain ⟨c0, t1, f1, f2, f3⟩ := Cond.castable_spec (va_Nw.use (A := args) rfl (A.2.2.2.2.2.2.1.2.1 _ hC))
    cases hcls.1.symm.trans f1
    cases hcomp.symm.trans f2
    exact f3
theorem z_aastoreN {X : zS} {M : zM} {d kc ks : Nat} {r : Option Value} {hp' : List zC} {pc : Nat} {L : List (Option Value)} {st : List Value} {hp : List zC} {o t N : Nat} {f : Nat → Option Nat} {i : Int32} (j n : Nat) (en : pc + 1 = n) (ho : hp[o]? = some (.inr (.inl (t, N, f)))) (ht : t = 0 ∨ t = 1) (hj : i = nI j) (hb : j < N) (hN : N < 2 ^ 31) (hdg : decode M.2.1 pc = .ok (.aastore, 1)) (kk : Z X M d kc ks r hp' n L st (hp.set o (.inr (.inl (t, N, va_up f j none))))) : Z X M d kc ks r hp' pc L (.null :: .int i :: .ref o :: st) hp := by
  subst en
  subst hj
  intro G B p l e R s m args below meth c Q H locs cells slots ls A F h hS h1 h2 h3 h4 hl
  have e0 : (nI j).toNatClampNeg = j := nI_clamp (by omega)
  have hK : zK G s := A.2.2.2.2.2.1
  have ht : ∃ C : String, (zTy G)[t + 1]? = some (G.2.1 (t + 1), .object C) := by rcases ht with rfl | rfl <;> exact ⟨_, rfl⟩
  obtain ⟨C, ht⟩ := ht
  refine va_WaastN (C := C) A.1 A.2.1 (h.1 o _ (zw_at ho)) ((hK.2 (t + 1) _ ht).1 N (fun j => va_rf ((f j).map (B + ·)))) (fun h => by cases h) (by show ¬ (nI j < 0 ∨ (arrV _ _ _).slots.size ≤ _); rw [arrV_size]; exact vp_in_nI hb hN) rfl rfl hdg fun H1 ew z oq => ?_
  refine kk G B p l e R s m args below meth c Q H1 _ cells slots ls A F (h.put ho ?_ z oq) (hS.put z oq (Nat.le_add_right B o)) h1 h2 h3 h4 hl
  show H1[B + o]? = some (vp_cell _ _)
  rw [ew]
  show some ((vp_cell (G.2.1 (t + 1)) (N, .inr (.inr (.inr (.inr (fun j => (f j).map (B + ·))))))).setSlot _ _) = _
  rw [vp_cell_q, vp_cell_q, arrV_store, e0]
  congr 2
  funext q
  by_cases hq : q = j
  · subst hq
    simp [updV, va_up, va_rf]
  · simp [updV, va_up, hq]
end
section
/-! rows that make cells; calls -/
theorem zH.push {G : zG} {B : Nat} {hp : List zC} {H H1 : Heap} {c1 : zC} (h : zH G B hp H) (he : va_at G.1 zCl (H.size, zrel G B c1) H1) (z : H1.size = H.size + 1) (oq : ∀ q : Nat, q < H.size → H1[q]? = H[q]?) : zH G B (hp ++ [c1]) H1 := by
  refine ⟨?_, by rw [z, h.2, List.length_append]; simp; omega⟩
  rw [zw_push, ← h.2]
  refine (h.1.kept (fun k x hx => oq x.1 ((h.1 k x hx).lt))).app (fun k x hx => ?_)
  have hz : k < 1 := (List.getElem?_eq_some_iff.mp hx).1
  rw [show k = 0 by omega] at hx
  cases hx
  exact he
theorem va_S.push {A : Nat → Prop} {H0 H H1 : Heap} {locs : List Loc} (h : va_S A H0 H locs) (z : H1.size = H.size + 1) (oq : ∀ q : Nat, q < H.size → H1[q]? = H[q]?) : va_S A H0 H1 locs :=
  ⟨Nat.le_trans h.1 (by omega), fun x g1 g2 => (oq x (Nat.lt_of_lt_of_le g1 h.1)).trans (h.2.1 x g1 g2), h.2.2⟩
def zcNew (own : String) (ix ci : Nat) (fs : List Value) : Prop := ∃ (C : String) (T : u_T) (N : Nat) (t : Nat → FieldType), zCl[ci]? = some (C, T, N) ∧ (∀ w ∈ u_ws C T N, w ∈ zT) ∧ (∀ k, k < N → parseFieldDescriptor (T k).2.2.1 = some (t k)) ∧ Cond.classLink own ix C ∈ zT ∧ Cond.instantiable C N ∈ zT ∧ Cond.initialized C ∈ zT ∧ (∀ j, j < N → defaultValue (t j) = vp_V fs j) ∧ fs.length = N
theorem z_new {X : zS} {M : zM} {d kc ks : Nat} {r : Option Value} {hp' : List zC} {pc : Nat} {L : List (Option Value)} {st : List Value} {hp : List zC} {ix ci kc1 ks1 : Nat} {fs : List Value} (n o : Nat) (hp1 : List zC) (en : pc + 3 = n) (hf : zcNew M.1.cls ix ci fs) (hfs : ∀ (B : Nat) (Y : Nat → Nat), fs.map (zr B Y) = fs) (hkc : kc = kc1 + 1) (hks : ks = ks1 + fs.length) (ho : hp.length = o) (hq : hp ++ [.inr (.inr (ci, fs))] = hp1) (hdg : decode M.2.1 pc = .ok (.new ix, 3)) (kk : Z X M d kc1 ks1 r hp' n L (.ref o :: st) hp1) : Z X M d kc ks r hp' pc L st hp := by
  subst en
  subst ho
  subst hq
  intro G B p l e R s m args below meth c Q H locs cells slots ls A F h hS h1 h2 h3 h4 hl
  obtain ⟨C, T, N, t, hc, hin, hty, hcl, hinst, hini, hd, hN⟩ := hf
  have hts := A.2.2.2.2.1
  have hK : zK G s := A.2.2.2.2.2.1
  have hKn := hK.1 ci _ hc
  refine W.newcK A.1 A.2.1 A.2.2.2.1 (hts _ hcl) (hts _ hinst) (hts _ hini) rfl hdg (by omega) (by omega) hKn.2.1 rfl fun H1 kC hkC e1 z1 o1 => ?_
  have hH1 : zH G B (hp ++ [.inr (.inr (ci, fs))]) H1 := by
    refine h.push ?_ z1 o1
    refine ⟨_, hc, (u_born t hts hin hKn hkC e1 hty).to (fun j hj => ?_)⟩
    rw [hd j hj]
    show _ = vp_V (fs.map _) j
    rw [hfs]
  have := kk G B p l e R s m args below meth c Q H1 locs (cells + 1) (slots + N) ls A F hH1 (hS.push z1 o1) h1 h2 (by omega) (by omega) hl
  rw [h.2]
  exact this
theorem z_newarray {X : zS} {M : zM} {d kc ks : Nat} {r : Option Value} {hp' : List zC} {pc : Nat} {L : List (Option Value)} {st : List Value} {hp : List zC} {kc1 ks1 : Nat} (N : Nat) {i : Int32} (n o : Nat) (hp1 : List zC) (en : pc + 2 = n) (hw : Cond.arrayClass .int ∈ zT) (hi : i = nI N) (hN : N < 1000) (hkc : kc = kc1 + 1) (hks : ks = ks1 + N) (ho : hp.length = o) (hq : hp ++ [.inl (N, fun _ => 0)] = hp1) (hdg : decode M.2.1 pc = .ok (.newarray .int, 2)) (kk : Z X M d kc1 ks1 r hp' n L (.ref o :: st) hp1) : Z X M d kc ks r hp' pc L (.int i :: st) hp := by
  subst en
  subst ho
  subst hq
  subst hi
  intro G B p l e R s m args below meth c Q H locs cells slots ls A F h hS h1 h2 h3 h4 hl
  have hts := A.2.2.2.2.1
  have hK : zK G s := A.2.2.2.2.2.1
  refine va_newaK (atype := .int) A.1 A.2.1 (hts _ hw) rfl hdg rfl (nI_pos (by omega)) (nI_clamp (by omega)) (by show N * 4 ≤ 536870912; omega) (by omega) (by omega) rfl fun H1 cA e1 z1 o1 hAr hNm => ?_
  have hcA : cA = G.2.1 0 := Option.some.inj (hNm.symm.trans (hK.2 0 _ rfl).2)
  subst hcA
  have hH1 : zH G B (hp ++ [.inl (N, fun _ => 0)]) H1 := h.push e1 z1 o1
  have := kk G B p l e R s m args below meth c Q H1 locs (cells + 1) (slots + N) ls A F hH1 (hS.push z1 o1) h1 h2 (by omega) (by omega) hl
  rw [h.2]
  exact this
theorem z_anewarray {X : zS} {M : zM} {d kc ks : Nat} {r : Option Value} {hp' : List zC} {pc : Nat} {L : List (Option Value)} {st : List Value} {hp : List zC} {kc1 ks1 t ix : Nat} {C : String} (N : Nat) {i : Int32} (n o : Nat) (hp1 : List zC) (en : pc + 3 = n) (hC : (t, C) = (0, "LightInRoom$Law") ∨ (t, C) = (1, "LightInRoom$Telling")) (hw : Cond.classLink M.1.cls ix C ∈ zT) (hi : i = nI N) (hN : N < 1000) (hkc : kc = kc1 + 1) (hks : ks = ks1 + N) (ho : hp.length = o) (hq : hp ++ [.inr (.inl (t, N, fun _ => none))] = hp1) (hdg : decode M.2.1 pc = .ok (.anewarray ix, 3)) (kk : Z X M d kc1 ks1 r hp' n L (.ref o :: st) hp1) : Z X M d kc ks r hp' pc L (.int i :: st) hp := by
  subst en
  subst ho
  subst hq
  subst hi
  intro G B p l e R s m args below meth c Q H locs cells slots ls A F h hS h1 h2 h3 h4 hl
  have hts := A.2.2.2.2.1
  have hK : zK G s := A.2.2.2.2.2.1
  have e0 : (nI N).toNatClampNeg = N := nI_clamp (by omega)
  have hA : va_AO C s := by
    rcases hC with hC | hC <;> cases hC
    · exact A.2.2.2.2.2.2.1.2.2.2.1
    · exact A.2.2.2.2.2.2.1.2.2.2.2.1
  have ht : (zTy G)[t + 1]? = some (G.2.1 (t + 1), .object C) := by
    rcases hC with hC | hC <;> cases hC <;> rfl
  refine W.anew A.1 A.2.1 A.2.2.2.1 (hts _ hw) (va_AO.use hA) rfl hdg rfl (nI_pos (by omega)) (by rw [e0]; omega) (by omega) (by rw [e0]; omega) fun cA kA comp f1 f2 f3 f4 => ?_
  obtain ⟨_, _, _, _, _, g4⟩ := (hK.2 (t + 1) _ ht).2
  have hcA : cA = G.2.1 (t + 1) := Option.some.inj (f1.symm.trans g4)
  subst hcA
  rw [e0]
  generalize hH1 : H.push ({ cls := G.2.1 (t + 1), slots := Array.replicate N .null, vm := .none } : Cell) = H1
  have z1 : H1.size = H.size + 1 := by rw [← hH1, Array.size_push]
  have o1 : ∀ q : Nat, q < H.size → H1[q]? = H[q]? := fun q hq => by rw [← hH1, Array.getElem?_push, if_neg (Nat.ne_of_lt hq)]
  have e1 : H1[H.size]? = some (arrV (G.2.1 (t + 1)) N (fun _ => .null)) := by rw [← hH1, Array.getElem?_push_size, ← arrV_new]
  have hH : zH G B (hp ++ [.inr (.inl (t, N, fun _ => none))]) H1 := h.push e1 z1 o1
  have := kk G B p l e R s m args below meth c Q H1 locs (cells + 1) (slots + N) ls A F hH (hS.push z1 o1) h1 h2 (by omega) (by omega) hl
  rw [h.2]
  exact this
theorem z_objInit {X : zS} {M : zM} {d kc ks : Nat} {r : Option Value} {hp' : List zC} {pc : Nat} {L : List (Option Value)} {st : List Value} {hp : List zC} {ix o : Nat} (n : Nat) (en : pc + 3 = n) (hw1 : Cond.methodLink M.1.cls ix objectInit ∈ zT) (hw2 : Cond.instanceMethod objectInit ∈ zT) (hw3 : Cond.code objectInit ⟨#[0xb1]⟩ 1 none ∈ zT) (hd : 1 ≤ d) (hst : (st.map fun v => v.category).sum ≤ 8) (hdg : decode M.2.1 pc = .ok (.invokespecial ix, 3)) (kk : Z X M d kc ks r hp' n L st hp) : Z X M d kc ks r hp' pc L (.ref o :: st) hp := by
  subst en
  intro G B p l e R s m args below meth c Q H locs cells slots ls A F h hS h1 h2 h3 h4 hl
  have hts := A.2.2.2.2.1
  have hcat : ((st.map (zr B G.2.2)).map fun v => v.category).sum ≤ 8 := by
    rw [List.map_map]
    have : ((fun v => Value.category v) ∘ zr B G.2.2) = fun v => Value.category v := funext fun v => zr_cat B G.2.2 v
    rw [this]; exact hst
  refine W.objInit A.1 A.2.1 A.2.2.2.1 (hts _ hw1) (hts _ hw2) (hts _ hw3) rfl (by rw [A.2.2.1]; exact hl.1) rfl hdg (by omega) (by show 2 * 0 + _ + 12 ≤ _; omega) ?_
  exact kk G B p l e R s m args below meth c Q H locs cells slots ls A F h hS h1 h2 h3 h4 hl
theorem z_cats {B : Nat} {Y : Nat → Nat} {st : List Value} (h : (st.map fun v => v.category).sum ≤ 8) : ((st.map (zr B Y)).map fun v => v.category).sum ≤ 8 := by
  rw [List.map_map]
  have : ((fun v => Value.category v) ∘ zr B Y) = fun v => Value.category v := funext fun v => zr_cat B Y v
  rw [this]; exact h
/-- what the words say of a method, for a call -/
def zcM (M' : zM) (n : Nat) : Prop := Cond.code M'.1 M'.2.1 M'.2.2.1 M'.2.2.2 ∈ zT ∧ Cond.initialized M'.1.cls ∈ zT ∧ (M'.1.cls ≠ "java/lang/invoke/MethodHandle" ∧ M'.1.cls ≠ "java/lang/invoke/VarHandle" ∧ (parseMethodDescriptor M'.1.desc).map (fun d => d.parameters.length) = some n) ∧ M'.2.2.1 ≤ 41
theorem z_callB {X : zS} {M M' : zM} {G : zG} {B : Nat} {p : Program} {R : Room} {s : State} {m : MethodId} {args : Array Value} {meth : Method} {c : Code} {ix nn d d' mc ms : Nat} (A : zAt X M G B p s m args meth c) (hm : zcM M' nn) (hlk : Cond.methodLink M.1.cls ix M'.1 ∈ zT) (hd : d' + 1 ≤ d) (h1 : d ≤ R.frames) (h2 : 60 * d ≤ R.locals) :
    CallB R s args M.1.cls ix M'.1 M'.2.1 M'.2.2.1 M'.2.2.2 (Cond.code M'.1 M'.2.1 M'.2.2.1 M'.2.2.2 :: zT) { frames := d', cells := mc, slots := ms, locals := 60 * d' } mc ms nn :=
  callB_of nn A.2.2.2.2.1 (zT_GI hm.1) rfl rfl rfl (A.2.2.2.2.1 _ hm.2.1) (A.2.2.2.2.1 _ hlk) hm.2.2.1 ⟨Nat.le_trans hd h1, by have := hm.2.2.2; show 8 + (_ + 11) + 60 * d' ≤ _; omega⟩
theorem z_preV {X : zS} {M : zM} {G : zG} {B : Nat} {p : Program} {s : State} {m : MethodId} {args : Array Value} {meth : Method} {c : Code} {H : Heap} {locs : List Loc} {hp : List zC} {o ci : Nat} {fs : List Value} {C : String} {T : u_T} {N : Nat} (A : zAt X M G B p s m args meth c) (hS : va_S (fun q => B ≤ q) s.heap H locs) (h : zH G B hp H) (ho : hp[o]? = some (.inr (.inr (ci, fs)))) (hc : zCl[ci]? = some (C, T, N)) (av : List Value) :
    PreV s H C (B + o) (va_Pc ((.ref o :: av).map (zr B G.2.2)) (fun U => zH G B hp U.heap ∧ zK G U ∧ zX X G B U U.heap)) (av.map (zr B G.2.2)) :=
  ⟨z_blind _, va_recv (D := G.1) A.2.2.2.2.2.1 h.1 hc (zw_at ho), (z_preS A hS h ((.ref o :: av).map (zr B G.2.2))).2⟩
theorem z_invs {X : zS} {M : zM} {d kc ks : Nat} {r : Option Value} {hp' : List zC} {pc : Nat} {L : List (Option Value)} {st : List Value} {hp : List zC} {as : List Value} {v : Value} {M' : zM} {ix nn d' mc ms kc1 ks1 : Nat} {hp1 : List zC} {st0 : List Value} (n : Nat) (en : pc + 3 = n) (hm : zcM M' nn) (hlk : Cond.methodLink M.1.cls ix M'.1 ∈ zT) (hs : Cond.static M'.1 ∈ zT) (hdg : decode M.2.1 pc = .ok (.invokestatic ix, 3)) (hr : Ret d' mc ms M' as hp (some v) hp1) (hst : st0 = (as.reverse ++ st)) (hn : as.length = nn) (hd : d' + 1 ≤ d) (hkc : kc = kc1 + mc) (hks : ks = ks1 + ms) (hw : (st.map fun v => v.category).sum ≤ 8) (kk : Z X M d kc1 ks1 r hp' n L (v :: st) hp1) : Z X M d kc ks r hp' pc L st0 hp := by
  subst en
  subst hst
  intro G B p l e R s m args below meth c Q H locs cells slots ls A F h hS h1 h2 h3 h4 hl
  have hsz : ls.size = M.2.2.1 := hl.1
  have hlen : (as.map (zr B G.2.2)).length = nn := by rw [List.length_map]; exact hn
  refine z_run (X := X) (M := M) (G := G) (av := #[]) (rest := st.map (zr B G.2.2)) (r := ((some v) : Option Value).map (zr B G.2.2)) (hp1 := hp1) hS (va_runS (As := as.map (zr B G.2.2)) ⟨A.1, A.2.1, A.2.2.1, A.2.2.2.1, A.2.2.2.2.1⟩ (hr X l G B) ⟨z_callB A hm hlk hd h1 h2, A.2.2.2.2.1 _ hs⟩ (z_preS A hS h _) rfl hlen hsz (by rw [List.map_append, List.map_reverse]) (lv_room (z_cats hw)) hdg ⟨by omega, by omega⟩) (fun H1 locs1 g1 g2 => ?_)
  exact kk G B p l e R s m args below meth c Q H1 locs1 (cells + mc) (slots + ms) ls A F g1 g2 h1 h2 (by omega) (by omega) hl
theorem z_invv {X : zS} {M : zM} {d kc ks : Nat} {r : Option Value} {hp' : List zC} {pc : Nat} {L : List (Option Value)} {st : List Value} {hp : List zC} {o : Nat} {as : List Value} {v : Value} {M' : zM} {ix nn d' mc ms kc1 ks1 : Nat} {hp1 : List zC} {st0 : List Value} {ci : Nat} {fs : List Value} {C : String} {T : u_T} {N : Nat} (n : Nat) (en : pc + 3 = n) (hm : zcM M' nn) (hlk : Cond.methodLink M.1.cls ix M'.1 ∈ zT) (hi : Cond.instanceMethod M'.1 ∈ zT) (hsel : Cond.selects C M'.1 M'.1 ∈ zT) (hc : zCl[ci]? = some (C, T, N)) (ho : hp[o]? = some (.inr (.inr (ci, fs)))) (hdg : decode M.2.1 pc = .ok (.invokevirtual ix, 3)) (hr : Ret d' mc ms M' (.ref o :: as) hp (some v) hp1) (hst : st0 = (as.reverse ++ .ref o :: st)) (hn : as.length = nn) (hd : d' + 1 ≤ d) (hkc : kc = kc1 + mc) (hks : ks = ks1 + ms) (hw : (st.map fun v => v.category).sum ≤ 8) (kk : Z X M d kc1 ks1 r hp' n L (v :: st) hp1) : Z X M d kc ks r hp' pc L st0 hp := by
  subst en
  subst hst
  intro G B p l e R s m args below meth c Q H locs cells slots ls A F h hS h1 h2 h3 h4 hl
  have hsz : ls.size = M.2.2.1 := hl.1
  have hlen : (as.map (zr B G.2.2)).length = nn := by rw [List.length_map]; exact hn
  refine z_run (X := X) (M := M) (G := G) (av := #[]) (rest := st.map (zr B G.2.2)) (r := ((some v) : Option Value).map (zr B G.2.2)) (hp1 := hp1) hS (va_runV (b := B + o) (C := C) (As := as.map (zr B G.2.2)) ⟨A.1, A.2.1, A.2.2.1, A.2.2.2.1, A.2.2.2.2.1⟩ (hr X l G B) ⟨z_callB A hm hlk hd h1 h2, A.2.2.2.2.1 _ hi, A.2.2.2.2.1 _ hsel⟩ (z_preV A hS h ho hc as) rfl hlen hsz (by rw [List.map_append, List.map_reverse]; rfl) (lv_room (z_cats hw)) hdg ⟨by omega, by omega⟩) (fun H1 locs1 g1 g2 => ?_)
  exact kk G B p l e R s m args below meth c Q H1 locs1 (cells + mc) (slots + ms) ls A F g1 g2 h1 h2 (by omega) (by omega) hl
theorem z_invSN {X : zS} {M : zM} {d kc ks : Nat} {r : Option Value} {hp' : List zC} {pc : Nat} {L : List (Option Value)} {st : List Value} {hp : List zC} {as : List Value} {v : Value} {M' : zM} {ix nn d' mc ms kc1 ks1 : Nat} {hp1 : List zC} {st0 : List Value} (n : Nat) (en : pc + 3 = n) (hm : zcM M' nn) (hlk : (M.1.cls, ix, M'.1) ∈ zNest) (hs : Cond.static M'.1 ∈ zT) (hdg : decode M.2.1 pc = .ok (.invokestatic ix, 3)) (hr : Ret d' mc ms M' as hp (some v) hp1) (hst : st0 = (as.reverse ++ st)) (hn : as.length = nn) (hd : d' + 1 ≤ d) (hkc : kc = kc1 + mc) (hks : ks = ks1 + ms) (hw : (st.map fun v => v.category).sum ≤ 8) (kk : Z X M d kc1 ks1 r hp' n L (v :: st) hp1) : Z X M d kc ks r hp' pc L st0 hp := by
  subst en
  subst hst
  intro G B p l e R s m args below meth c Q H locs cells slots ls A F h hS h1 h2 h3 h4 hl
  have hsz : ls.size = M.2.2.1 := hl.1
  have hlen : (as.map (zr B G.2.2)).length = nn := by rw [List.length_map]; exact hn
  refine z_run (X := X) (M := M) (G := G) (av := #[]) (rest := st.map (zr B G.2.2)) (r := ((some v) : Option Value).map (zr B G.2.2)) (hp1 := hp1) hS (va_runSN (host := "LightInRoom") (As := as.map (zr B G.2.2)) ⟨A.1, A.2.1, A.2.2.1, A.2.2.2.1, A.2.2.2.2.1⟩ (hr X l G B) ⟨va_cnB nn A.2.2.2.2.1 (zT_GI hm.1) rfl rfl rfl (A.2.2.2.2.2.2.1.1 _ hlk) (A.2.2.2.2.1 _ hm.2.1) hm.2.2.1 ⟨Nat.le_trans hd h1, by have := hm.2.2.2; show 8 + (_ + 11) + 60 * d' ≤ _; omega⟩, A.2.2.2.2.1 _ hs, trivial⟩ (z_preS A hS h _) rfl hlen hsz (by rw [List.map_append, List.map_reverse]) (lv_room (z_cats hw)) hdg ⟨by omega, by omega⟩) (fun H1 locs1 g1 g2 => ?_)
  exact kk G B p l e R s m args below meth c Q H1 locs1 (cells + mc) (slots + ms) ls A F g1 g2 h1 h2 (by omega) (by omega) hl
theorem z_invsv {X : zS} {M : zM} {d kc ks : Nat} {r : Option Value} {hp' : List zC} {pc : Nat} {L : List (Option Value)} {st : List Value} {hp : List zC} {as : List Value} {M' : zM} {ix nn d' mc ms kc1 ks1 : Nat} {hp1 : List zC} {st0 : List Value} (n : Nat) (en : pc + 3 = n) (hm : zcM M' nn) (hlk : Cond.methodLink M.1.cls ix M'.1 ∈ zT) (hs : Cond.static M'.1 ∈ zT) (hdg : decode M.2.1 pc = .ok (.invokestatic ix, 3)) (hr : Ret d' mc ms M' as hp none hp1) (hst : st0 = (as.reverse ++ st)) (hn : as.length = nn) (hd : d' + 1 ≤ d) (hkc : kc = kc1 + mc) (hks : ks = ks1 + ms) (hw : (st.map fun v => v.category).sum ≤ 8) (kk : Z X M d kc1 ks1 r hp' n L st hp1) : Z X M d kc ks r hp' pc L st0 hp := by
  subst en
  subst hst
  intro G B p l e R s m args below meth c Q H locs cells slots ls A F h hS h1 h2 h3 h4 hl
  have hsz : ls.size = M.2.2.1 := hl.1
  have hlen : (as.map (zr B G.2.2)).length = nn := by rw [List.length_map]; exact hn
  refine z_run (X := X) (M := M) (G := G) (av := #[]) (rest := st.map (zr B G.2.2)) (r := (none : Option Value).map (zr B G.2.2)) (hp1 := hp1) hS (va_runS (As := as.map (zr B G.2.2)) ⟨A.1, A.2.1, A.2.2.1, A.2.2.2.1, A.2.2.2.2.1⟩ (hr X l G B) ⟨z_callB A hm hlk hd h1 h2, A.2.2.2.2.1 _ hs⟩ (z_preS A hS h _) rfl hlen hsz (by rw [List.map_append, List.map_reverse]) (lv_room (z_cats hw)) hdg ⟨by omega, by omega⟩) (fun H1 locs1 g1 g2 => ?_)
  exact kk G B p l e R s m args below meth c Q H1 locs1 (cells + mc) (slots + ms) ls A F g1 g2 h1 h2 (by omega) (by omega) hl
theorem z_invvv {X : zS} {M : zM} {d kc ks : Nat} {r : Option Value} {hp' : List zC} {pc : Nat} {L : List (Option Value)} {st : List Value} {hp : List zC} {o : Nat} {as : List Value} {M' : zM} {ix nn d' mc ms kc1 ks1 : Nat} {hp1 : List zC} {st0 : List Value} {ci : Nat} {fs : List Value} {C : String} {T : u_T} {N : Nat} (n : Nat) (en : pc + 3 = n) (hm : zcM M' nn) (hlk : Cond.methodLink M.1.cls ix M'.1 ∈ zT) (hi : Cond.instanceMethod M'.1 ∈ zT) (hsel : Cond.selects C M'.1 M'.1 ∈ zT) (hc : zCl[ci]? = some (C, T, N)) (ho : hp[o]? = some (.inr (.inr (ci, fs)))) (hdg : decode M.2.1 pc = .ok (.invokevirtual ix, 3)) (hr : Ret d' mc ms M' (.ref o :: as) hp none hp1) (hst : st0 = (as.reverse ++ .ref o :: st)) (hn : as.length = nn) (hd : d' + 1 ≤ d) (hkc : kc = kc1 + mc) (hks : ks = ks1 + ms) (hw : (st.map fun v => v.category).sum ≤ 8) (kk : Z X M d kc1 ks1 r hp' n L st hp1) : Z X M d kc ks r hp' pc L st0 hp := by
  subst en
  subst hst
  intro G B p l e R s m args below meth c Q H locs cells slots ls A F h hS h1 h2 h3 h4 hl
  have hsz : ls.size = M.2.2.1 := hl.1
  have hlen : (as.map (zr B G.2.2)).length = nn := by rw [List.length_map]; exact hn
  refine z_run (X := X) (M := M) (G := G) (av := #[]) (rest := st.map (zr B G.2.2)) (r := (none : Option Value).map (zr B G.2.2)) (hp1 := hp1) hS (va_runV (b := B + o) (C := C) (As := as.map (zr B G.2.2)) ⟨A.1, A.2.1, A.2.2.1, A.2.2.2.1, A.2.2.2.2.1⟩ (hr X l G B) ⟨z_callB A hm hlk hd h1 h2, A.2.2.2.2.1 _ hi, A.2.2.2.2.1 _ hsel⟩ (z_preV A hS h ho hc as) rfl hlen hsz (by rw [List.map_append, List.map_reverse]; rfl) (lv_room (z_cats hw)) hdg ⟨by omega, by omega⟩) (fun H1 locs1 g1 g2 => ?_)
  exact kk G B p l e R s m args below meth c Q H1 locs1 (cells + mc) (slots + ms) ls A F g1 g2 h1 h2 (by omega) (by omega) hl
theorem z_invSNv {X : zS} {M : zM} {d kc ks : Nat} {r : Option Value} {hp' : List zC} {pc : Nat} {L : List (Option Value)} {st : List Value} {hp : List zC} {as : List Value} {M' : zM} {ix nn d' mc ms kc1 ks1 : Nat} {hp1 : List zC} {st0 : List Value} (n : Nat) (en : pc + 3 = n) (hm : zcM M' nn) (hlk : (M.1.cls, ix, M'.1) ∈ zNest) (hs : Cond.static M'.1 ∈ zT) (hdg : decode M.2.1 pc = .ok (.invokestatic ix, 3)) (hr : Ret d' mc ms M' as hp none hp1) (hst : st0 = (as.reverse ++ st)) (hn : as.length = nn) (hd : d' + 1 ≤ d) (hkc : kc = kc1 + mc) (hks : ks = ks1 + ms) (hw : (st.map fun v => v.category).sum ≤ 8) (kk : Z X M d kc1 ks1 r hp' n L st hp1) : Z X M d kc ks r hp' pc L st0 hp := by
  subst en
  subst hst
  intro G B p l e R s m args below meth c Q H locs cells slots ls A F h hS h1 h2 h3 h4 hl
  have hsz : ls.size = M.2.2.1 := hl.1
  have hlen : (as.map (zr B G.2.2)).length = nn := by rw [List.length_map]; exact hn
  refine z_run (X := X) (M := M) (G := G) (av := #[]) (rest := st.map (zr B G.2.2)) (r := (none : Option Value).map (zr B G.2.2)) (hp1 := hp1) hS (va_runSN (host := "LightInRoom") (As := as.map (zr B G.2.2)) ⟨A.1, A.2.1, A.2.2.1, A.2.2.2.1, A.2.2.2.2.1⟩ (hr X l G B) ⟨va_cnB nn A.2.2.2.2.1 (zT_GI hm.1) rfl rfl rfl (A.2.2.2.2.2.2.1.1 _ hlk) (A.2.2.2.2.1 _ hm.2.1) hm.2.2.1 ⟨Nat.le_trans hd h1, by have := hm.2.2.2; show 8 + (_ + 11) + 60 * d' ≤ _; omega⟩, A.2.2.2.2.1 _ hs, trivial⟩ (z_preS A hS h _) rfl hlen hsz (by rw [List.map_append, List.map_reverse]) (lv_room (z_cats hw)) hdg ⟨by omega, by omega⟩) (fun H1 locs1 g1 g2 => ?_)
  exact kk G B p l e R s m args below meth c Q H1 locs1 (cells + mc) (slots + ms) ls A F g1 g2 h1 h2 (by omega) (by omega) hl
theorem z_invI {X : zS} {M : zM} {d kc ks : Nat} {r : Option Value} {hp' : List zC} {pc : Nat} {L : List (Option Value)} {st : List Value} {hp : List zC} {o : Nat} {as : List Value} {M' : zM} {ix nn d' mc ms kc1 ks1 : Nat} {hp1 : List zC} {st0 : List Value} (n : Nat) (en : pc + 3 = n) (hm : zcM M' nn) (hlk : Cond.methodLink M.1.cls ix M'.1 ∈ zT) (hi : Cond.instanceMethod M'.1 ∈ zT) (hnm : M'.1.name = "<init>") (hvr : M'.2.2.2 = none) (hdg : decode M.2.1 pc = .ok (.invokespecial ix, 3)) (hr : Ret d' mc ms M' (.ref o :: as) hp none hp1) (hst : st0 = (as.reverse ++ .ref o :: st)) (hn : as.length = nn) (hd : d' + 1 ≤ d) (hkc : kc = kc1 + mc) (hks : ks = ks1 + ms) (hw : (st.map fun v => v.category).sum ≤ 8) (kk : Z X M d kc1 ks1 r hp' n L st hp1) : Z X M d kc ks r hp' pc L st0 hp := by
  subst en
  subst hst
  intro G B p l e R s m args below meth c Q H locs cells slots ls A F h hS h1 h2 h3 h4 hl
  have hsz : ls.size = M.2.2.1 := hl.1
  have hlen : (as.map (zr B G.2.2)).length = nn := by rw [List.length_map]; exact hn
  refine z_run (X := X) (M := M) (G := G) (av := #[]) (rest := st.map (zr B G.2.2)) (r := (none : Option Value).map (zr B G.2.2)) (hp1 := hp1) hS (va_runI (b := B + o) (As := as.map (zr B G.2.2)) ⟨A.1, A.2.1, A.2.2.1, A.2.2.2.1, A.2.2.2.2.1⟩ (hr X l G B) ⟨by have := z_callB (mc := mc) (ms := ms) A hm hlk hd h1 h2; rw [hvr] at this ⊢; exact this, hnm, A.2.2.2.2.1 _ hi⟩ (z_preS A hS h ((.ref o :: as).map (zr B G.2.2))) rfl hlen hsz (by rw [List.map_append, List.map_reverse]; rfl) (lv_room (z_cats hw)) hdg ⟨by omega, by omega⟩) (fun H1 locs1 g1 g2 => ?_)
  exact kk G B p l e R s m args below meth c Q H1 locs1 (cells + mc) (slots + ms) ls A F g1 g2 h1 h2 (by omega) (by omega) hl
theorem z_invIN {X : zS} {M : zM} {d kc ks : Nat} {r : Option Value} {hp' : List zC} {pc : Nat} {L : List (Option Value)} {st : List Value} {hp : List zC} {o : Nat} {as : List Value} {M' : zM} {ix nn d' mc ms kc1 ks1 : Nat} {hp1 : List zC} {st0 : List Value} (n : Nat) (en : pc + 3 = n) (hm : zcM M' nn) (hlk : (M.1.cls, ix, M'.1) ∈ zNest) (hi : Cond.instanceMethod M'.1 ∈ zT) (hnm : M'.1.name = "<init>") (hvr : M'.2.2.2 = none) (hdg : decode M.2.1 pc = .ok (.invokespecial ix, 3)) (hr : Ret d' mc ms M' (.ref o :: as) hp none hp1) (hst : st0 = (as.reverse ++ .ref o :: st)) (hn : as.length = nn) (hd : d' + 1 ≤ d) (hkc : kc = kc1 + mc) (hks : ks = ks1 + ms) (hw : (st.map fun v => v.category).sum ≤ 8) (kk : Z X M d kc1 ks1 r hp' n L st hp1) : Z X M d kc ks r hp' pc L st0 hp := by
  subst en
  subst hst
  intro G B p l e R s m args below meth c Q H locs cells slots ls A F h hS h1 h2 h3 h4 hl
  have hsz : ls.size = M.2.2.1 := hl.1
  have hlen : (as.map (zr B G.2.2)).length = nn := by rw [List.length_map]; exact hn
  refine z_run (X := X) (M := M) (G := G) (av := #[]) (rest := st.map (zr B G.2.2)) (r := (none : Option Value).map (zr B G.2.2)) (hp1 := hp1) hS (va_runIN (b := B + o) (host := "LightInRoom") (As := as.map (zr B G.2.2)) ⟨A.1, A.2.1, A.2.2.1, A.2.2.2.1, A.2.2.2.2.1⟩ (hr X l G B) ⟨by have := va_cnB (R := R) (mc := mc) (ms := ms) (rm := { frames := d', cells := mc, slots := ms, locals := 60 * d' }) nn A.2.2.2.2.1 (zT_GI hm.1) rfl rfl rfl (A.2.2.2.2.2.2.1.1 _ hlk) (A.2.2.2.2.1 _ hm.2.1) hm.2.2.1 ⟨Nat.le_trans hd h1, by have := hm.2.2.2; show 8 + (_ + 11) + 60 * d' ≤ _; omega⟩; rw [hvr] at this ⊢; exact this, hnm, A.2.2.2.2.1 _ hi⟩ (z_preS A hS h ((.ref o :: as).map (zr B G.2.2))) rfl hlen hsz (by rw [List.map_append, List.map_reverse]; rfl) (lv_room (z_cats hw)) hdg ⟨by omega, by omega⟩) (fun H1 locs1 g1 g2 => ?_)
  exact kk G B p l e R s m args below meth c Q H1 locs1 (cells + mc) (slots + ms) ls A F g1 g2 h1 h2 (by omega) (by omega) hl
theorem z_invU {X : zS} {M : zM} {d kc ks : Nat} {r : Option Value} {hp' : List zC} {pc : Nat} {L : List (Option Value)} {st : List Value} {hp : List zC} {o : Nat} {as : List Value} {v : Value} {M' : zM} {ix nn d' mc ms kc1 ks1 : Nat} {hp1 : List zC} {st0 : List Value} {ci : Nat} {fs : List Value} {C : String} {T : u_T} {N : Nat} {x : MethodName} (n : Nat) (en : pc + 3 = n) (hm : zcM M' nn) (hlk : Cond.methodLink M.1.cls ix x ∈ zT) (hsm : Cond.sameMethod x.cls x.cls x.name x.desc ∈ zT) (hsel : Cond.selects C x M'.1 ∈ zT) (hi : Cond.instanceMethod M'.1 ∈ zT) (hxd : x.cls ≠ "java/lang/invoke/MethodHandle" ∧ x.cls ≠ "java/lang/invoke/VarHandle" ∧ (parseMethodDescriptor x.desc).map (fun d => d.parameters.length) = some nn) (hxd2 : x ∈ zDecl ∨ x = M'.1) (hc : zCl[ci]? = some (C, T, N)) (ho : hp[o]? = some (.inr (.inr (ci, fs)))) (hdg : decode M.2.1 pc = .ok (.invokevirtual ix, 3)) (hr : Ret d' mc ms M' (.ref o :: as) hp (some v) hp1) (hst : st0 = (as.reverse ++ .ref o :: st)) (hn : as.length = nn) (hd : d' + 1 ≤ d) (hkc : kc = kc1 + mc) (hks : ks = ks1 + ms) (hw : (st.map fun v => v.category).sum ≤ 8) (kk : Z X M d kc1 ks1 r hp' n L (v :: st) hp1) : Z X M d kc ks r hp' pc L st0 hp := by
  subst en
  subst hst
  intro G B p l e R s m args below meth c Q H locs cells slots ls A F h hS h1 h2 h3 h4 hl
  have hsz : ls.size = M.2.2.1 := hl.1
  have hlen : (as.map (zr B G.2.2)).length = nn := by rw [List.length_map]; exact hn
  refine z_run (X := X) (M := M) (G := G) (av := #[]) (rest := st.map (zr B G.2.2)) (r := ((some v) : Option Value).map (zr B G.2.2)) (hp1 := hp1) hS (va_runU (b := B + o) (C := C) (owner := x.cls) (x := x) (As := as.map (zr B G.2.2)) ⟨A.1, A.2.1, A.2.2.1, A.2.2.2.1, A.2.2.2.2.1⟩ (hr X l G B) ⟨⟨rfl, rfl, Nat.le_trans hd h1, by have := hm.2.2.2; show 8 + (_ + 11) + 60 * d' ≤ _; omega, pay_in A.2.2.2.2.1 (zT_GI hm.1), List.mem_cons_self⟩, A.2.2.2.2.1 _ hm.1, A.2.2.2.2.1 _ hm.2.1, ⟨hxd.1, hxd.2.1⟩, (fun sig hsig => by have h2 := hxd.2.2; rw [hsig] at h2; exact (Option.some.inj h2).symm), A.2.2.2.2.1 _ hlk, A.2.2.2.2.1 _ hsm, (by
      rcases hxd2 with hxd2 | rfl
      · exact va_Decl.abs (A.2.2.2.2.2.2.1.2.2.1 _ hxd2)
      · exact va_Decl.of (A.2.2.2.2.1 _ hi) (A.2.2.2.2.1 _ hm.1)), A.2.2.2.2.1 _ hsel, A.2.2.2.2.1 _ hi⟩ (z_preV A hS h ho hc as) rfl hlen hsz (by rw [List.map_append, List.map_reverse]; rfl) (lv_room (z_cats hw)) hdg ⟨by omega, by omega⟩) (fun H1 locs1 g1 g2 => ?_)
  exact kk G B p l e R s m args below meth c Q H1 locs1 (cells + mc) (slots + ms) ls A F g1 g2 h1 h2 (by omega) (by omega) hl
theorem z_invSU {X : zS} {M : zM} {d kc ks : Nat} {r : Option Value} {hp' : List zC} {pc : Nat} {L : List (Option Value)} {st : List Value} {hp : List zC} {o : Nat} {as : List Value} {v : Value} {M' : zM} {ix nn d' mc ms kc1 ks1 : Nat} {hp1 : List zC} {st0 : List Value} {ci : Nat} {fs : List Value} {C : String} {T : u_T} {N : Nat} (n : Nat) (en : pc + 3 = n) (hm : zcM M' nn) (hlk : Cond.methodLink M.1.cls ix M'.1 ∈ zT) (hsm : Cond.sameMethod M'.1.cls M'.1.cls M'.1.name M'.1.desc ∈ zT) (hsup : Cond.superclass M.1.cls M'.1.cls ∈ zT) (hi : Cond.instanceMethod M'.1 ∈ zT) (hnm : M'.1.name ≠ "<init>") (hc : zCl[ci]? = some (C, T, N)) (ho : hp[o]? = some (.inr (.inr (ci, fs)))) (hdg : decode M.2.1 pc = .ok (.invokespecial ix, 3)) (hr : Ret d' mc ms M' (.ref o :: as) hp (some v) hp1) (hst : st0 = (as.reverse ++ .ref o :: st)) (hn : as.length = nn) (hd : d' + 1 ≤ d) (hkc : kc = kc1 + mc) (hks : ks = ks1 + ms) (hw : (st.map fun v => v.category).sum ≤ 8) (kk : Z X M d kc1 ks1 r hp' n L (v :: st) hp1) : Z X M d kc ks r hp' pc L st0 hp := by
  subst en
  subst hst
  intro G B p l e R s m args below meth c Q H locs cells slots ls A F h hS h1 h2 h3 h4 hl
  have hsz : ls.size = M.2.2.1 := hl.1
  have hlen : (as.map (zr B G.2.2)).length = nn := by rw [List.length_map]; exact hn
  refine z_run (X := X) (M := M) (G := G) (av := #[]) (rest := st.map (zr B G.2.2)) (r := ((some v) : Option Value).map (zr B G.2.2)) (hp1 := hp1) hS (va_runSU (b := B + o) (C := C) (As := as.map (zr B G.2.2)) (A.2.2.2.2.2.1.1 ci _ hc).2 ⟨A.1, A.2.1, A.2.2.1, A.2.2.2.1, A.2.2.2.2.1⟩ (hr X l G B) ⟨⟨rfl, rfl, Nat.le_trans hd h1, by have := hm.2.2.2; show 8 + (_ + 11) + 60 * d' ≤ _; omega, pay_in A.2.2.2.2.1 (zT_GI hm.1), List.mem_cons_self⟩, A.2.2.2.2.1 _ hlk, A.2.2.2.2.1 _ hsm, A.2.2.2.2.1 _ hsup, A.2.2.2.2.1 _ hi, A.2.2.2.2.1 _ hm.2.1, A.2.2.2.2.1 _ hm.1, hnm, (fun sig hsig => by have h2 := hm.2.2.1.2.2; rw [hsig] at h2; exact (Option.some.inj h2).symm)⟩ (z_preV A hS h ho hc as) rfl hlen hsz (by rw [List.map_append, List.map_reverse]; rfl) (lv_room (z_cats hw)) hdg ⟨by omega, by omega⟩) (fun H1 locs1 g1 g2 => ?_)
  exact kk G B p l e R s m args below meth c Q H1 locs1 (cells + mc) (slots + ms) ls A F g1 g2 h1 h2 (by omega) (by omega) hl
theorem z_mmax {X : zS} {M : zM} {d kc ks : Nat} {r : Option Value} {hp' : List zC} {pc : Nat} {L : List (Option Value)} {st : List Value} {hp : List zC} {ix : Nat} {x y : Int32} (n : Nat) (en : pc + 3 = n) (hw1 : Cond.methodLink M.1.cls ix Lib.Math.max.name ∈ zT) (hw2 : Cond.static Lib.Math.max.name ∈ zT) (hw3 : Cond.initialized "java/lang/Math" ∈ zT) (hw4 : Cond.code Lib.Math.max.name Lib.Math.max.code 2 (some .int) ∈ zT) (hd : 1 ≤ d) (hst : (st.map fun v => v.category).sum ≤ 8) (hdg : decode M.2.1 pc = .ok (.invokestatic ix, 3)) (kk : Z X M d kc ks r hp' n L (.int (if x < y then y else x) :: st) hp) : Z X M d kc ks r hp' pc L (.int y :: .int x :: st) hp := by
  subst en
  intro G B p l e R s m args below meth c Q H locs cells slots ls A F h hS h1 h2 h3 h4 hl
  have hts := A.2.2.2.2.1
  have hcat := z_cats (B := B) (Y := G.2.2) hst
  exact va_mmax A.1 A.2.1 (by rw [A.2.2.1]; exact hl.1.symm) A.2.2.2.1 (hts _ hw1) (hts _ hw2) (hts _ hw3) (hts _ hw4) (by omega) (by omega) (by omega) (by omega) hdg (kk G B p l e R s m args below meth c Q H locs cells slots ls A F h hS h1 h2 h3 h4 hl)
theorem z_mmin {X : zS} {M : zM} {d kc ks : Nat} {r : Option Value} {hp' : List zC} {pc : Nat} {L : List (Option Value)} {st : List Value} {hp : List zC} {ix : Nat} {x y : Int32} (n : Nat) (en : pc + 3 = n) (hw1 : Cond.methodLink M.1.cls ix Lib.Math.min.name ∈ zT) (hw2 : Cond.static Lib.Math.min.name ∈ zT) (hw3 : Cond.initialized "java/lang/Math" ∈ zT) (hw4 : Cond.code Lib.Math.min.name Lib.Math.min.code 2 (some .int) ∈ zT) (hd : 1 ≤ d) (hst : (st.map fun v => v.category).sum ≤ 8) (hdg : decode M.2.1 pc = .ok (.invokestatic ix, 3)) (kk : Z X M d kc ks r hp' n L (.int (if y < x then y else x) :: st) hp) : Z X M d kc ks r hp' pc L (.int y :: .int x :: st) hp := by
  subst en
  intro G B p l e R s m args below meth c Q H locs cells slots ls A F h hS h1 h2 h3 h4 hl
  have hts := A.2.2.2.2.1
  have hcat := z_cats (B := B) (Y := G.2.2) hst
  exact va_mmin A.1 A.2.1 (by rw [A.2.2.1]; exact hl.1.symm) A.2.2.2.1 (hts _ hw1) (hts _ hw2) (hts _ hw3) (hts _ hw4) (by omega) (by omega) (by omega) (by omega) hdg (kk G B p l e R s m args below meth c Q H locs cells slots ls A F h hS h1 h2 h3 h4 hl)
end
