section
-- ===== PART A: goes FIRST, ahead of the names: the tables' words, and 'selects' of the private methods out of them =====
/-- a private method of a class that the tables say can be made, by its rows of tables_1 -/
def lw_okq (q : MethodName × Nat) : Prop := (q.1.cls ≠ "java/lang/invoke/MethodHandle" ∧ q.1.cls ≠ "java/lang/invoke/VarHandle") ∧ Cond.instantiable q.1.cls q.2 ∈ tables_1 ∧ Cond.privateMethod q.1 ∈ tables_1 ∧ Cond.instanceMethod q.1 ∈ tables_1
theorem lw_p0 : lw_okq (⟨"LightInRoom", "refuse", "(I)I"⟩, 6) := ⟨⟨by decide +kernel, by decide +kernel⟩, List.mem_of_getElem? (i := 22) (by decide +kernel), List.mem_of_getElem? (i := 186) (by decide +kernel), List.mem_of_getElem? (i := 187) (by decide +kernel)⟩
theorem lw_p1 : lw_okq (⟨"LightInRoom$Tape", "readSize", "()Z"⟩, 9) := ⟨⟨by decide +kernel, by decide +kernel⟩, List.mem_of_getElem? (i := 30) (by decide +kernel), List.mem_of_getElem? (i := 207) (by decide +kernel), List.mem_of_getElem? (i := 208) (by decide +kernel)⟩
theorem lw_p2 : lw_okq (⟨"LightInRoom$Tape", "passes", "(C)Z"⟩, 9) := ⟨⟨by decide +kernel, by decide +kernel⟩, List.mem_of_getElem? (i := 30) (by decide +kernel), List.mem_of_getElem? (i := 211) (by decide +kernel), List.mem_of_getElem? (i := 212) (by decide +kernel)⟩
theorem lw_p3 : lw_okq (⟨"LightInRoom$Tape", "byteHere", "()I"⟩, 9) := ⟨⟨by decide +kernel, by decide +kernel⟩, List.mem_of_getElem? (i := 30) (by decide +kernel), List.mem_of_getElem? (i := 215) (by decide +kernel), List.mem_of_getElem? (i := 216) (by decide +kernel)⟩
theorem lw_p4 : lw_okq (⟨"LightInRoom$Tape", "readNumber", "(I)I"⟩, 9) := ⟨⟨by decide +kernel, by decide +kernel⟩, List.mem_of_getElem? (i := 30) (by decide +kernel), List.mem_of_getElem? (i := 219) (by decide +kernel), List.mem_of_getElem? (i := 220) (by decide +kernel)⟩
theorem lw_p5 : lw_okq (⟨"LightInRoom$Tape", "digitHere", "()Z"⟩, 9) := ⟨⟨by decide +kernel, by decide +kernel⟩, List.mem_of_getElem? (i := 30) (by decide +kernel), List.mem_of_getElem? (i := 223) (by decide +kernel), List.mem_of_getElem? (i := 224) (by decide +kernel)⟩
theorem lw_p6 : lw_okq (⟨"LightInRoom$Tape", "readSeconds", "()Z"⟩, 9) := ⟨⟨by decide +kernel, by decide +kernel⟩, List.mem_of_getElem? (i := 30) (by decide +kernel), List.mem_of_getElem? (i := 227) (by decide +kernel), List.mem_of_getElem? (i := 228) (by decide +kernel)⟩
theorem lw_p7 : lw_okq (⟨"LightInRoom$Tape", "readColour", "()Z"⟩, 9) := ⟨⟨by decide +kernel, by decide +kernel⟩, List.mem_of_getElem? (i := 30) (by decide +kernel), List.mem_of_getElem? (i := 231) (by decide +kernel), List.mem_of_getElem? (i := 232) (by decide +kernel)⟩
theorem lw_p8 : lw_okq (⟨"LightInRoom$Tape", "readMarks", "()Z"⟩, 9) := ⟨⟨by decide +kernel, by decide +kernel⟩, List.mem_of_getElem? (i := 30) (by decide +kernel), List.mem_of_getElem? (i := 235) (by decide +kernel), List.mem_of_getElem? (i := 236) (by decide +kernel)⟩
theorem lw_p9 : lw_okq (⟨"LightInRoom$Tape", "readYears", "()Z"⟩, 9) := ⟨⟨by decide +kernel, by decide +kernel⟩, List.mem_of_getElem? (i := 30) (by decide +kernel), List.mem_of_getElem? (i := 288) (by decide +kernel), List.mem_of_getElem? (i := 289) (by decide +kernel)⟩
theorem lw_p10 : lw_okq (⟨"LightInRoom$Tape", "readAsked", "()Z"⟩, 9) := ⟨⟨by decide +kernel, by decide +kernel⟩, List.mem_of_getElem? (i := 30) (by decide +kernel), List.mem_of_getElem? (i := 292) (by decide +kernel), List.mem_of_getElem? (i := 293) (by decide +kernel)⟩
theorem lw_p11 : lw_okq (⟨"LightInRoom$Room", "heldNumber", "(LLightInRoom$Telling;I)I"⟩, 11) := ⟨⟨by decide +kernel, by decide +kernel⟩, List.mem_of_getElem? (i := 73) (by decide +kernel), List.mem_of_getElem? (i := 549) (by decide +kernel), List.mem_of_getElem? (i := 550) (by decide +kernel)⟩
theorem lw_p12 : lw_okq (⟨"LightInRoom", "refuseAsTold", "(I)I"⟩, 6) := ⟨⟨by decide +kernel, by decide +kernel⟩, List.mem_of_getElem? (i := 22) (by decide +kernel), List.mem_of_getElem? (i := 563) (by decide +kernel), List.mem_of_getElem? (i := 564) (by decide +kernel)⟩
theorem lw_p13 : lw_okq (⟨"LightInRoom", "howManyFitOnly", "(II)I"⟩, 6) := ⟨⟨by decide +kernel, by decide +kernel⟩, List.mem_of_getElem? (i := 22) (by decide +kernel), List.mem_of_getElem? (i := 581) (by decide +kernel), List.mem_of_getElem? (i := 582) (by decide +kernel)⟩
theorem lw_p14 : lw_okq (⟨"LightInRoom", "noteLaws", "()V"⟩, 6) := ⟨⟨by decide +kernel, by decide +kernel⟩, List.mem_of_getElem? (i := 22) (by decide +kernel), List.mem_of_getElem? (i := 594) (by decide +kernel), List.mem_of_getElem? (i := 595) (by decide +kernel)⟩
theorem lw_p15 : lw_okq (⟨"LightInRoom", "coversAll", "(I)Z"⟩, 6) := ⟨⟨by decide +kernel, by decide +kernel⟩, List.mem_of_getElem? (i := 22) (by decide +kernel), List.mem_of_getElem? (i := 604) (by decide +kernel), List.mem_of_getElem? (i := 605) (by decide +kernel)⟩
def lw_privs_1 : List (MethodName × Nat) := [(⟨"LightInRoom", "refuse", "(I)I"⟩, 6), (⟨"LightInRoom$Tape", "readSize", "()Z"⟩, 9), (⟨"LightInRoom$Tape", "passes", "(C)Z"⟩, 9), (⟨"LightInRoom$Tape", "byteHere", "()I"⟩, 9), (⟨"LightInRoom$Tape", "readNumber", "(I)I"⟩, 9), (⟨"LightInRoom$Tape", "digitHere", "()Z"⟩, 9), (⟨"LightInRoom$Tape", "readSeconds", "()Z"⟩, 9), (⟨"LightInRoom$Tape", "readColour", "()Z"⟩, 9), (⟨"LightInRoom$Tape", "readMarks", "()Z"⟩, 9), (⟨"LightInRoom$Tape", "readYears", "()Z"⟩, 9), (⟨"LightInRoom$Tape", "readAsked", "()Z"⟩, 9), (⟨"LightInRoom$Room", "heldNumber", "(LLightInRoom$Telling;I)I"⟩, 11), (⟨"LightInRoom", "refuseAsTold", "(I)I"⟩, 6), (⟨"LightInRoom", "howManyFitOnly", "(II)I"⟩, 6), (⟨"LightInRoom", "noteLaws", "()V"⟩, 6), (⟨"LightInRoom", "coversAll", "(I)Z"⟩, 6)]
theorem lw_r1 : ∀ q ∈ lw_privs_1, lw_okq q := List.forall_mem_cons.mpr ⟨lw_p0, List.forall_mem_cons.mpr ⟨lw_p1, List.forall_mem_cons.mpr ⟨lw_p2, List.forall_mem_cons.mpr ⟨lw_p3, List.forall_mem_cons.mpr ⟨lw_p4, List.forall_mem_cons.mpr ⟨lw_p5, List.forall_mem_cons.mpr ⟨lw_p6, List.forall_mem_cons.mpr ⟨lw_p7, List.forall_mem_cons.mpr ⟨lw_p8, List.forall_mem_cons.mpr ⟨lw_p9, List.forall_mem_cons.mpr ⟨lw_p10, List.forall_mem_cons.mpr ⟨lw_p11, List.forall_mem_cons.mpr ⟨lw_p12, List.forall_mem_cons.mpr ⟨lw_p13, List.forall_mem_cons.mpr ⟨lw_p14, List.forall_mem_cons.mpr ⟨lw_p15, fun _ h => absurd h List.not_mem_nil⟩⟩⟩⟩⟩⟩⟩⟩⟩⟩⟩⟩⟩⟩⟩⟩
theorem lw_p16 : lw_okq (⟨"LightInRoom", "noteBroken", "(LLightInRoom$Law;)V"⟩, 6) := ⟨⟨by decide +kernel, by decide +kernel⟩, List.mem_of_getElem? (i := 22) (by decide +kernel), List.mem_of_getElem? (i := 612) (by decide +kernel), List.mem_of_getElem? (i := 613) (by decide +kernel)⟩
theorem lw_p17 : lw_okq (⟨"LightInRoom", "halfFitsWithout", "(I)Z"⟩, 6) := ⟨⟨by decide +kernel, by decide +kernel⟩, List.mem_of_getElem? (i := 22) (by decide +kernel), List.mem_of_getElem? (i := 616) (by decide +kernel), List.mem_of_getElem? (i := 617) (by decide +kernel)⟩
theorem lw_p18 : lw_okq (⟨"LightInRoom", "firstNotedLike", "(I)I"⟩, 6) := ⟨⟨by decide +kernel, by decide +kernel⟩, List.mem_of_getElem? (i := 22) (by decide +kernel), List.mem_of_getElem? (i := 624) (by decide +kernel), List.mem_of_getElem? (i := 625) (by decide +kernel)⟩
theorem lw_p19 : lw_okq (⟨"LightInRoom", "howManyNotedLike", "(I)I"⟩, 6) := ⟨⟨by decide +kernel, by decide +kernel⟩, List.mem_of_getElem? (i := 22) (by decide +kernel), List.mem_of_getElem? (i := 628) (by decide +kernel), List.mem_of_getElem? (i := 629) (by decide +kernel)⟩
theorem lw_p20 : lw_okq (⟨"LightInRoom", "refusalsCounted", "(I)I"⟩, 6) := ⟨⟨by decide +kernel, by decide +kernel⟩, List.mem_of_getElem? (i := 22) (by decide +kernel), List.mem_of_getElem? (i := 818) (by decide +kernel), List.mem_of_getElem? (i := 819) (by decide +kernel)⟩
theorem lw_p21 : lw_okq (⟨"LightInRoomModel", "refuse", "(I)I"⟩, 8) := ⟨⟨by decide +kernel, by decide +kernel⟩, List.mem_of_getElem? (i := 822) (by decide +kernel), List.mem_of_getElem? (i := 857) (by decide +kernel), List.mem_of_getElem? (i := 858) (by decide +kernel)⟩
theorem lw_p22 : lw_okq (⟨"LightInRoomModel", "reads", "()Z"⟩, 8) := ⟨⟨by decide +kernel, by decide +kernel⟩, List.mem_of_getElem? (i := 822) (by decide +kernel), List.mem_of_getElem? (i := 866) (by decide +kernel), List.mem_of_getElem? (i := 867) (by decide +kernel)⟩
theorem lw_p23 : lw_okq (⟨"LightInRoomModel", "takes", "(I)Z"⟩, 8) := ⟨⟨by decide +kernel, by decide +kernel⟩, List.mem_of_getElem? (i := 822) (by decide +kernel), List.mem_of_getElem? (i := 870) (by decide +kernel), List.mem_of_getElem? (i := 871) (by decide +kernel)⟩
theorem lw_p24 : lw_okq (⟨"LightInRoomModel", "sign", "()I"⟩, 8) := ⟨⟨by decide +kernel, by decide +kernel⟩, List.mem_of_getElem? (i := 822) (by decide +kernel), List.mem_of_getElem? (i := 874) (by decide +kernel), List.mem_of_getElem? (i := 875) (by decide +kernel)⟩
theorem lw_p25 : lw_okq (⟨"LightInRoomModel", "readsNumber", "(II)Z"⟩, 8) := ⟨⟨by decide +kernel, by decide +kernel⟩, List.mem_of_getElem? (i := 822) (by decide +kernel), List.mem_of_getElem? (i := 878) (by decide +kernel), List.mem_of_getElem? (i := 879) (by decide +kernel)⟩
theorem lw_p26 : lw_okq (⟨"LightInRoomModel", "isDigit", "()Z"⟩, 8) := ⟨⟨by decide +kernel, by decide +kernel⟩, List.mem_of_getElem? (i := 822) (by decide +kernel), List.mem_of_getElem? (i := 882) (by decide +kernel), List.mem_of_getElem? (i := 883) (by decide +kernel)⟩
theorem lw_p27 : lw_okq (⟨"LightInRoomModel", "isTelling", "(I)Z"⟩, 8) := ⟨⟨by decide +kernel, by decide +kernel⟩, List.mem_of_getElem? (i := 822) (by decide +kernel), List.mem_of_getElem? (i := 893) (by decide +kernel), List.mem_of_getElem? (i := 894) (by decide +kernel)⟩
theorem lw_p28 : lw_okq (⟨"LightInRoomModel", "get", "(II)I"⟩, 8) := ⟨⟨by decide +kernel, by decide +kernel⟩, List.mem_of_getElem? (i := 822) (by decide +kernel), List.mem_of_getElem? (i := 900) (by decide +kernel), List.mem_of_getElem? (i := 901) (by decide +kernel)⟩
theorem lw_p29 : lw_okq (⟨"LightInRoomModel", "kindOf", "(I)I"⟩, 8) := ⟨⟨by decide +kernel, by decide +kernel⟩, List.mem_of_getElem? (i := 822) (by decide +kernel), List.mem_of_getElem? (i := 908) (by decide +kernel), List.mem_of_getElem? (i := 909) (by decide +kernel)⟩
theorem lw_p30 : lw_okq (⟨"LightInRoomModel", "isMarked", "(II)Z"⟩, 8) := ⟨⟨by decide +kernel, by decide +kernel⟩, List.mem_of_getElem? (i := 822) (by decide +kernel), List.mem_of_getElem? (i := 912) (by decide +kernel), List.mem_of_getElem? (i := 913) (by decide +kernel)⟩
theorem lw_p31 : lw_okq (⟨"LightInRoomModel", "weightOf", "(I)I"⟩, 8) := ⟨⟨by decide +kernel, by decide +kernel⟩, List.mem_of_getElem? (i := 822) (by decide +kernel), List.mem_of_getElem? (i := 920) (by decide +kernel), List.mem_of_getElem? (i := 921) (by decide +kernel)⟩
def lw_privs_2 : List (MethodName × Nat) := [(⟨"LightInRoom", "noteBroken", "(LLightInRoom$Law;)V"⟩, 6), (⟨"LightInRoom", "halfFitsWithout", "(I)Z"⟩, 6), (⟨"LightInRoom", "firstNotedLike", "(I)I"⟩, 6), (⟨"LightInRoom", "howManyNotedLike", "(I)I"⟩, 6), (⟨"LightInRoom", "refusalsCounted", "(I)I"⟩, 6), (⟨"LightInRoomModel", "refuse", "(I)I"⟩, 8), (⟨"LightInRoomModel", "reads", "()Z"⟩, 8), (⟨"LightInRoomModel", "takes", "(I)Z"⟩, 8), (⟨"LightInRoomModel", "sign", "()I"⟩, 8), (⟨"LightInRoomModel", "readsNumber", "(II)Z"⟩, 8), (⟨"LightInRoomModel", "isDigit", "()Z"⟩, 8), (⟨"LightInRoomModel", "isTelling", "(I)Z"⟩, 8), (⟨"LightInRoomModel", "get", "(II)I"⟩, 8), (⟨"LightInRoomModel", "kindOf", "(I)I"⟩, 8), (⟨"LightInRoomModel", "isMarked", "(II)Z"⟩, 8), (⟨"LightInRoomModel", "weightOf", "(I)I"⟩, 8)]
theorem lw_r2 : ∀ q ∈ lw_privs_2, lw_okq q := List.forall_mem_cons.mpr ⟨lw_p16, List.forall_mem_cons.mpr ⟨lw_p17, List.forall_mem_cons.mpr ⟨lw_p18, List.forall_mem_cons.mpr ⟨lw_p19, List.forall_mem_cons.mpr ⟨lw_p20, List.forall_mem_cons.mpr ⟨lw_p21, List.forall_mem_cons.mpr ⟨lw_p22, List.forall_mem_cons.mpr ⟨lw_p23, List.forall_mem_cons.mpr ⟨lw_p24, List.forall_mem_cons.mpr ⟨lw_p25, List.forall_mem_cons.mpr ⟨lw_p26, List.forall_mem_cons.mpr ⟨lw_p27, List.forall_mem_cons.mpr ⟨lw_p28, List.forall_mem_cons.mpr ⟨lw_p29, List.forall_mem_cons.mpr ⟨lw_p30, List.forall_mem_cons.mpr ⟨lw_p31, fun _ h => absurd h List.not_mem_nil⟩⟩⟩⟩⟩⟩⟩⟩⟩⟩⟩⟩⟩⟩⟩⟩
theorem lw_p32 : lw_okq (⟨"LightInRoomModel", "becomes", "(II)I"⟩, 8) := ⟨⟨by decide +kernel, by decide +kernel⟩, List.mem_of_getElem? (i := 822) (by decide +kernel), List.mem_of_getElem? (i := 934) (by decide +kernel), List.mem_of_getElem? (i := 935) (by decide +kernel)⟩
theorem lw_p33 : lw_okq (⟨"LightInRoomModel", "rightOf", "(II)I"⟩, 8) := ⟨⟨by decide +kernel, by decide +kernel⟩, List.mem_of_getElem? (i := 822) (by decide +kernel), List.mem_of_getElem? (i := 950) (by decide +kernel), List.mem_of_getElem? (i := 951) (by decide +kernel)⟩
theorem lw_p34 : lw_okq (⟨"LightInRoomModel", "isFit", "(III)Z"⟩, 8) := ⟨⟨by decide +kernel, by decide +kernel⟩, List.mem_of_getElem? (i := 822) (by decide +kernel), List.mem_of_getElem? (i := 958) (by decide +kernel), List.mem_of_getElem? (i := 959) (by decide +kernel)⟩
theorem lw_p35 : lw_okq (⟨"LightInRoomModel", "meets", "(III)Z"⟩, 8) := ⟨⟨by decide +kernel, by decide +kernel⟩, List.mem_of_getElem? (i := 822) (by decide +kernel), List.mem_of_getElem? (i := 962) (by decide +kernel), List.mem_of_getElem? (i := 963) (by decide +kernel)⟩
theorem lw_p36 : lw_okq (⟨"LightInRoomModel", "lawsOf", "(I)I"⟩, 8) := ⟨⟨by decide +kernel, by decide +kernel⟩, List.mem_of_getElem? (i := 822) (by decide +kernel), List.mem_of_getElem? (i := 981) (by decide +kernel), List.mem_of_getElem? (i := 982) (by decide +kernel)⟩
theorem lw_p37 : lw_okq (⟨"LightInRoomModel", "isCover", "(I)Z"⟩, 8) := ⟨⟨by decide +kernel, by decide +kernel⟩, List.mem_of_getElem? (i := 822) (by decide +kernel), List.mem_of_getElem? (i := 992) (by decide +kernel), List.mem_of_getElem? (i := 993) (by decide +kernel)⟩
theorem lw_p38 : lw_okq (⟨"LightInRoomModel", "shouldOf", "(I)I"⟩, 8) := ⟨⟨by decide +kernel, by decide +kernel⟩, List.mem_of_getElem? (i := 822) (by decide +kernel), List.mem_of_getElem? (i := 1036) (by decide +kernel), List.mem_of_getElem? (i := 1037) (by decide +kernel)⟩
theorem lw_p39 : lw_okq (⟨"LightInRoomModel", "seenOf", "(I)I"⟩, 8) := ⟨⟨by decide +kernel, by decide +kernel⟩, List.mem_of_getElem? (i := 822) (by decide +kernel), List.mem_of_getElem? (i := 1044) (by decide +kernel), List.mem_of_getElem? (i := 1045) (by decide +kernel)⟩
theorem lw_p40 : lw_okq (⟨"LightInRoomModel", "hasLine", "(II)Z"⟩, 8) := ⟨⟨by decide +kernel, by decide +kernel⟩, List.mem_of_getElem? (i := 822) (by decide +kernel), List.mem_of_getElem? (i := 1068) (by decide +kernel), List.mem_of_getElem? (i := 1069) (by decide +kernel)⟩
def lw_privs_3 : List (MethodName × Nat) := [(⟨"LightInRoomModel", "becomes", "(II)I"⟩, 8), (⟨"LightInRoomModel", "rightOf", "(II)I"⟩, 8), (⟨"LightInRoomModel", "isFit", "(III)Z"⟩, 8), (⟨"LightInRoomModel", "meets", "(III)Z"⟩, 8), (⟨"LightInRoomModel", "lawsOf", "(I)I"⟩, 8), (⟨"LightInRoomModel", "isCover", "(I)Z"⟩, 8), (⟨"LightInRoomModel", "shouldOf", "(I)I"⟩, 8), (⟨"LightInRoomModel", "seenOf", "(I)I"⟩, 8), (⟨"LightInRoomModel", "hasLine", "(II)Z"⟩, 8)]
theorem lw_r3 : ∀ q ∈ lw_privs_3, lw_okq q := List.forall_mem_cons.mpr ⟨lw_p32, List.forall_mem_cons.mpr ⟨lw_p33, List.forall_mem_cons.mpr ⟨lw_p34, List.forall_mem_cons.mpr ⟨lw_p35, List.forall_mem_cons.mpr ⟨lw_p36, List.forall_mem_cons.mpr ⟨lw_p37, List.forall_mem_cons.mpr ⟨lw_p38, List.forall_mem_cons.mpr ⟨lw_p39, List.forall_mem_cons.mpr ⟨lw_p40, fun _ h => absurd h List.not_mem_nil⟩⟩⟩⟩⟩⟩⟩⟩⟩
def lw_privs : List (MethodName × Nat) := lw_privs_1 ++ (lw_privs_2 ++ (lw_privs_3))
def lw_tbl : List Cond := k2_sels lw_privs ++ tables_1
theorem lw_privs_ok : ∀ q ∈ lw_privs, lw_okq q := by
  show ∀ q ∈ lw_privs_1 ++ (lw_privs_2 ++ (lw_privs_3)), lw_okq q
  exact List.forall_mem_append.mpr ⟨lw_r1, List.forall_mem_append.mpr ⟨lw_r2, lw_r3⟩⟩
end
section
def zF_Ben : u_T := fun k => match k with
  | 0 => ("LightInRoom$Bench", "size", "I", false)
  | 1 => ("LightInRoom$Bench", "seconds", "I", false)
  | 2 => ("LightInRoom$Bench", "colour", "I", false)
  | _ => ("LightInRoom$Bench", "marks", "I", false)
def zt_Ben : Nat → FieldType := fun k => match k with
  | 0 => .int
  | 1 => .int
  | 2 => .int
  | _ => .int
theorem zn_Ben : ∀ a, a < 4 → ∀ b, b < 4 → a ≠ b → (zF_Ben a).2.1 ≠ (zF_Ben b).2.1 := by decide +kernel
theorem zy_Ben : ∀ k, k < 4 → parseFieldDescriptor (zF_Ben k).2.2.1 = some (zt_Ben k) := by decide +kernel
def zF_Cal : u_T := fun k => match k with
  | 0 => ("LightInRoom$Telling", "size", "I", true)
  | 1 => ("LightInRoom$Telling", "seconds", "I", true)
  | 2 => ("LightInRoom$Telling", "colour", "I", true)
  | 3 => ("LightInRoom$Telling", "marks", "I", true)
  | 4 => ("LightInRoom$Telling", "years", "I", true)
  | _ => ("LightInRoom$Telling", "asked", "Z", true)
def zt_Cal : Nat → FieldType := fun k => match k with
  | 0 => .int
  | 1 => .int
  | 2 => .int
  | 3 => .int
  | 4 => .int
  | _ => .boolean
theorem zn_Cal : ∀ a, a < 6 → ∀ b, b < 6 → a ≠ b → (zF_Cal a).2.1 ≠ (zF_Cal b).2.1 := by decide +kernel
theorem zy_Cal : ∀ k, k < 6 → parseFieldDescriptor (zF_Cal k).2.2.1 = some (zt_Cal k) := by decide +kernel
def zF_Eye : u_T := fun k => match k with
  | 0 => ("LightInRoom$Telling", "size", "I", true)
  | 1 => ("LightInRoom$Telling", "seconds", "I", true)
  | 2 => ("LightInRoom$Telling", "colour", "I", true)
  | 3 => ("LightInRoom$Telling", "marks", "I", true)
  | 4 => ("LightInRoom$Telling", "years", "I", true)
  | _ => ("LightInRoom$Telling", "asked", "Z", true)
def zt_Eye : Nat → FieldType := fun k => match k with
  | 0 => .int
  | 1 => .int
  | 2 => .int
  | 3 => .int
  | 4 => .int
  | _ => .boolean
theorem zn_Eye : ∀ a, a < 6 → ∀ b, b < 6 → a ≠ b → (zF_Eye a).2.1 ≠ (zF_Eye b).2.1 := by decide +kernel
theorem zy_Eye : ∀ k, k < 6 → parseFieldDescriptor (zF_Eye k).2.2.1 = some (zt_Eye k) := by decide +kernel
def zF_Gro : u_T := fun k => match k with
  | 0 => ("LightInRoom$Telling", "size", "I", true)
  | 1 => ("LightInRoom$Telling", "seconds", "I", true)
  | 2 => ("LightInRoom$Telling", "colour", "I", true)
  | 3 => ("LightInRoom$Telling", "marks", "I", true)
  | 4 => ("LightInRoom$Telling", "years", "I", true)
  | _ => ("LightInRoom$Telling", "asked", "Z", true)
def zt_Gro : Nat → FieldType := fun k => match k with
  | 0 => .int
  | 1 => .int
  | 2 => .int
  | 3 => .int
  | 4 => .int
  | _ => .boolean
theorem zn_Gro : ∀ a, a < 6 → ∀ b, b < 6 → a ≠ b → (zF_Gro a).2.1 ≠ (zF_Gro b).2.1 := by decide +kernel
theorem zy_Gro : ∀ k, k < 6 → parseFieldDescriptor (zF_Gro k).2.2.1 = some (zt_Gro k) := by decide +kernel
def zF_Law : u_T := fun k => match k with
  | 0 => ("LightInRoom$Law", "conditions", "[I", true)
  | _ => ("LightInRoom$Law", "ringsReached", "I", false)
def zt_Law : Nat → FieldType := fun k => match k with
  | 0 => .array .int
  | _ => .int
theorem zn_Law : ∀ a, a < 2 → ∀ b, b < 2 → a ≠ b → (zF_Law a).2.1 ≠ (zF_Law b).2.1 := by decide +kernel
theorem zy_Law : ∀ k, k < 2 → parseFieldDescriptor (zF_Law k).2.2.1 = some (zt_Law k) := by decide +kernel
def zF_Nea : u_T := fun k => match k with
  | 0 => ("LightInRoom$Telling", "size", "I", true)
  | 1 => ("LightInRoom$Telling", "seconds", "I", true)
  | 2 => ("LightInRoom$Telling", "colour", "I", true)
  | 3 => ("LightInRoom$Telling", "marks", "I", true)
  | 4 => ("LightInRoom$Telling", "years", "I", true)
  | _ => ("LightInRoom$Telling", "asked", "Z", true)
def zt_Nea : Nat → FieldType := fun k => match k with
  | 0 => .int
  | 1 => .int
  | 2 => .int
  | 3 => .int
  | 4 => .int
  | _ => .boolean
theorem zn_Nea : ∀ a, a < 6 → ∀ b, b < 6 → a ≠ b → (zF_Nea a).2.1 ≠ (zF_Nea b).2.1 := by decide +kernel
theorem zy_Nea : ∀ k, k < 6 → parseFieldDescriptor (zF_Nea k).2.2.1 = some (zt_Nea k) := by decide +kernel
def zF_Roo : u_T := fun k => match k with
  | 0 => ("LightInRoom$Room", "tellings", "[LLightInRoom$Telling;", true)
  | 1 => ("LightInRoom$Room", "laws", "[LLightInRoom$Law;", true)
  | 2 => ("LightInRoom$Room", "pairFirsts", "[LLightInRoom$Telling;", true)
  | 3 => ("LightInRoom$Room", "pairSeconds", "[LLightInRoom$Telling;", true)
  | 4 => ("LightInRoom$Room", "growths", "[I", true)
  | 5 => ("LightInRoom$Room", "ringPeople", "[I", true)
  | 6 => ("LightInRoom$Room", "benchMade", "LLightInRoom$Bench;", true)
  | 7 => ("LightInRoom$Room", "tellingCount", "I", false)
  | 8 => ("LightInRoom$Room", "pairCount", "I", false)
  | 9 => ("LightInRoom$Room", "strokeCount", "I", false)
  | _ => ("LightInRoom$Room", "putsRight", "Z", false)
def zt_Roo : Nat → FieldType := fun k => match k with
  | 0 => .array (.object "LightInRoom$Telling")
  | 1 => .array (.object "LightInRoom$Law")
  | 2 => .array (.object "LightInRoom$Telling")
  | 3 => .array (.object "LightInRoom$Telling")
  | 4 => .array .int
  | 5 => .array .int
  | 6 => .object "LightInRoom$Bench"
  | 7 => .int
  | 8 => .int
  | 9 => .int
  | _ => .boolean
theorem zn_Roo : ∀ a, a < 11 → ∀ b, b < 11 → a ≠ b → (zF_Roo a).2.1 ≠ (zF_Roo b).2.1 := by decide +kernel
theorem zy_Roo : ∀ k, k < 11 → parseFieldDescriptor (zF_Roo k).2.2.1 = some (zt_Roo k) := by decide +kernel
def zF_Tap : u_T := fun k => match k with
  | 0 => ("LightInRoom$Tape", "bytes", "[I", true)
  | 1 => ("LightInRoom$Tape", "length", "I", false)
  | 2 => ("LightInRoom$Tape", "place", "I", false)
  | 3 => ("LightInRoom$Tape", "size", "I", false)
  | 4 => ("LightInRoom$Tape", "seconds", "I", false)
  | 5 => ("LightInRoom$Tape", "colour", "I", false)
  | 6 => ("LightInRoom$Tape", "marks", "I", false)
  | 7 => ("LightInRoom$Tape", "years", "I", false)
  | _ => ("LightInRoom$Tape", "asked", "Z", false)
def zt_Tap : Nat → FieldType := fun k => match k with
  | 0 => .array .int
  | 1 => .int
  | 2 => .int
  | 3 => .int
  | 4 => .int
  | 5 => .int
  | 6 => .int
  | 7 => .int
  | _ => .boolean
theorem zn_Tap : ∀ a, a < 9 → ∀ b, b < 9 → a ≠ b → (zF_Tap a).2.1 ≠ (zF_Tap b).2.1 := by decide +kernel
theorem zy_Tap : ∀ k, k < 9 → parseFieldDescriptor (zF_Tap k).2.2.1 = some (zt_Tap k) := by decide +kernel
def zF_Thr : u_T := fun k => match k with
  | 0 => ("LightInRoom$Telling", "size", "I", true)
  | 1 => ("LightInRoom$Telling", "seconds", "I", true)
  | 2 => ("LightInRoom$Telling", "colour", "I", true)
  | 3 => ("LightInRoom$Telling", "marks", "I", true)
  | 4 => ("LightInRoom$Telling", "years", "I", true)
  | _ => ("LightInRoom$Telling", "asked", "Z", true)
def zt_Thr : Nat → FieldType := fun k => match k with
  | 0 => .int
  | 1 => .int
  | 2 => .int
  | 3 => .int
  | 4 => .int
  | _ => .boolean
theorem zn_Thr : ∀ a, a < 6 → ∀ b, b < 6 → a ≠ b → (zF_Thr a).2.1 ≠ (zF_Thr b).2.1 := by decide +kernel
theorem zy_Thr : ∀ k, k < 6 → parseFieldDescriptor (zF_Thr k).2.2.1 = some (zt_Thr k) := by decide +kernel
def zF_Wit : u_T := fun k => match k with
  | 0 => ("LightInRoom$Telling", "size", "I", true)
  | 1 => ("LightInRoom$Telling", "seconds", "I", true)
  | 2 => ("LightInRoom$Telling", "colour", "I", true)
  | 3 => ("LightInRoom$Telling", "marks", "I", true)
  | 4 => ("LightInRoom$Telling", "years", "I", true)
  | _ => ("LightInRoom$Telling", "asked", "Z", true)
def zt_Wit : Nat → FieldType := fun k => match k with
  | 0 => .int
  | 1 => .int
  | 2 => .int
  | 3 => .int
  | 4 => .int
  | _ => .boolean
theorem zn_Wit : ∀ a, a < 6 → ∀ b, b < 6 → a ≠ b → (zF_Wit a).2.1 ≠ (zF_Wit b).2.1 := by decide +kernel
theorem zy_Wit : ∀ k, k < 6 → parseFieldDescriptor (zF_Wit k).2.2.1 = some (zt_Wit k) := by decide +kernel
def zF_Lir : u_T := fun k => match k with
  | 0 => ("LightInRoom", "tape", "LLightInRoom$Tape;", true)
  | 1 => ("LightInRoom", "now", "LLightInRoom$Room;", true)
  | 2 => ("LightInRoom", "then", "LLightInRoom$Room;", true)
  | 3 => ("LightInRoom", "refusals", "[I", true)
  | 4 => ("LightInRoom", "notes", "[I", true)
  | _ => ("LightInRoom", "taken", "Z", false)
def zt_Lir : Nat → FieldType := fun k => match k with
  | 0 => .object "LightInRoom$Tape"
  | 1 => .object "LightInRoom$Room"
  | 2 => .object "LightInRoom$Room"
  | 3 => .array .int
  | 4 => .array .int
  | _ => .boolean
theorem zn_Lir : ∀ a, a < 6 → ∀ b, b < 6 → a ≠ b → (zF_Lir a).2.1 ≠ (zF_Lir b).2.1 := by decide +kernel
theorem zy_Lir : ∀ k, k < 6 → parseFieldDescriptor (zF_Lir k).2.2.1 = some (zt_Lir k) := by decide +kernel
def zF_Mod : u_T := fun k => match k with
  | 0 => ("LightInRoomModel", "refusals", "[I", true)
  | 1 => ("LightInRoomModel", "s", "[I", true)
  | 2 => ("LightInRoomModel", "image", "[I", true)
  | 3 => ("LightInRoomModel", "isImage", "Z", false)
  | 4 => ("LightInRoomModel", "tape", "[I", true)
  | 5 => ("LightInRoomModel", "read", "[I", true)
  | 6 => ("LightInRoomModel", "taped", "I", false)
  | _ => ("LightInRoomModel", "at", "I", false)
def zt_Mod : Nat → FieldType := fun k => match k with
  | 0 => .array .int
  | 1 => .array .int
  | 2 => .array .int
  | 3 => .boolean
  | 4 => .array .int
  | 5 => .array .int
  | 6 => .int
  | _ => .int
theorem zn_Mod : ∀ a, a < 8 → ∀ b, b < 8 → a ≠ b → (zF_Mod a).2.1 ≠ (zF_Mod b).2.1 := by decide +kernel
theorem zy_Mod : ∀ k, k < 8 → parseFieldDescriptor (zF_Mod k).2.2.1 = some (zt_Mod k) := by decide +kernel
/-- the classes whose objects the heap holds, by number -/
abbrev zCl : List vw_C := [("LightInRoom$Bench", zF_Ben, 4), ("LightInRoom$Called", zF_Cal, 6), ("LightInRoom$Eye", zF_Eye, 6), ("LightInRoom$Grown", zF_Gro, 6), ("LightInRoom$Law", zF_Law, 2), ("LightInRoom$Near", zF_Nea, 6), ("LightInRoom$Room", zF_Roo, 11), ("LightInRoom$Tape", zF_Tap, 9), ("LightInRoom$Through", zF_Thr, 6), ("LightInRoom$Without", zF_Wit, 6), ("LightInRoom", zF_Lir, 6), ("LightInRoomModel", zF_Mod, 8)]
abbrev m_Lir_init : MethodName × ByteArray × Nat × Option FieldType := (⟨"LightInRoom", "<init>", "()V"⟩, prog_1_method_1_code, 1, none)
abbrev m_Tap_init : MethodName × ByteArray × Nat × Option FieldType := (⟨"LightInRoom$Tape", "<init>", "()V"⟩, prog_9_method_1_code, 1, none)
abbrev m_Roo_init : MethodName × ByteArray × Nat × Option FieldType := (⟨"LightInRoom$Room", "<init>", "()V"⟩, prog_8_method_1_code, 2, none)
abbrev m_Law_init : MethodName × ByteArray × Nat × Option FieldType := (⟨"LightInRoom$Law", "<init>", "()V"⟩, prog_6_method_1_code, 1, none)
abbrev m_Ben_init : MethodName × ByteArray × Nat × Option FieldType := (⟨"LightInRoom$Bench", "<init>", "()V"⟩, prog_2_method_1_code, 1, none)
abbrev m_Lir_feed : MethodName × ByteArray × Nat × Option FieldType := (⟨"LightInRoom", "feed", "(IJ)I"⟩, prog_1_method_2_code, 4, some .int)
abbrev m_Lir_refuse : MethodName × ByteArray × Nat × Option FieldType := (⟨"LightInRoom", "refuse", "(I)I"⟩, prog_1_method_37_code, 3, some .int)
abbrev m_Tap_roomLeft : MethodName × ByteArray × Nat × Option FieldType := (⟨"LightInRoom$Tape", "roomLeft", "()I"⟩, prog_9_method_2_code, 1, some .int)
abbrev m_Tap_add : MethodName × ByteArray × Nat × Option FieldType := (⟨"LightInRoom$Tape", "add", "(IJ)V"⟩, prog_9_method_3_code, 5, none)
abbrev m_Lir_telling : MethodName × ByteArray × Nat × Option FieldType := (⟨"LightInRoom", "telling", "()I"⟩, prog_1_method_3_code, 2, some .int)
abbrev m_Tap_read : MethodName × ByteArray × Nat × Option FieldType := (⟨"LightInRoom$Tape", "read", "()Z"⟩, prog_9_method_5_code, 1, some .boolean)
abbrev m_Tap_readSize : MethodName × ByteArray × Nat × Option FieldType := (⟨"LightInRoom$Tape", "readSize", "()Z"⟩, prog_9_method_11_code, 1, some .boolean)
abbrev m_Tap_passes : MethodName × ByteArray × Nat × Option FieldType := (⟨"LightInRoom$Tape", "passes", "(C)Z"⟩, prog_9_method_8_code, 2, some .boolean)
abbrev m_Tap_byteHere : MethodName × ByteArray × Nat × Option FieldType := (⟨"LightInRoom$Tape", "byteHere", "()I"⟩, prog_9_method_7_code, 1, some .int)
abbrev m_Tap_readNumber : MethodName × ByteArray × Nat × Option FieldType := (⟨"LightInRoom$Tape", "readNumber", "(I)I"⟩, prog_9_method_10_code, 4, some .int)
abbrev m_Tap_digitHere : MethodName × ByteArray × Nat × Option FieldType := (⟨"LightInRoom$Tape", "digitHere", "()Z"⟩, prog_9_method_9_code, 1, some .boolean)
abbrev m_Tap_readSeconds : MethodName × ByteArray × Nat × Option FieldType := (⟨"LightInRoom$Tape", "readSeconds", "()Z"⟩, prog_9_method_12_code, 1, some .boolean)
abbrev m_Tap_readColour : MethodName × ByteArray × Nat × Option FieldType := (⟨"LightInRoom$Tape", "readColour", "()Z"⟩, prog_9_method_13_code, 1, some .boolean)
abbrev m_Tap_readMarks : MethodName × ByteArray × Nat × Option FieldType := (⟨"LightInRoom$Tape", "readMarks", "()Z"⟩, prog_9_method_14_code, 2, some .boolean)
abbrev m_Str_length : MethodName × ByteArray × Nat × Option FieldType := (⟨"java/lang/String", "length", "()I"⟩, prog_17_method_54_code, 1, some .int)
abbrev m_Str_coder : MethodName × ByteArray × Nat × Option FieldType := (⟨"java/lang/String", "coder", "()B"⟩, prog_17_method_152_code, 1, some .byte)
abbrev m_Str_charAt : MethodName × ByteArray × Nat × Option FieldType := (⟨"java/lang/String", "charAt", "(I)C"⟩, prog_17_method_56_code, 2, some .char)
abbrev m_Str_isLatin1 : MethodName × ByteArray × Nat × Option FieldType := (⟨"java/lang/String", "isLatin1", "()Z"⟩, prog_17_method_154_code, 1, some .boolean)
abbrev m_SLa_charAt : MethodName × ByteArray × Nat × Option FieldType := (⟨"java/lang/StringLatin1", "charAt", "([BI)C"⟩, prog_18_method_2_code, 2, some .char)
abbrev m_Str_checkIndex : MethodName × ByteArray × Nat × Option FieldType := (⟨"java/lang/String", "checkIndex", "(II)V"⟩, prog_17_method_155_code, 2, none)
abbrev m_Pre_checkIndex : MethodName × ByteArray × Nat × Option FieldType := (⟨"jdk/internal/util/Preconditions", "checkIndex", "(IILjava/util/function/BiFunction;)I"⟩, prog_21_method_11_code, 3, some .int)
abbrev m_SUt_charAt : MethodName × ByteArray × Nat × Option FieldType := (⟨"java/lang/StringUTF16", "charAt", "([BI)C"⟩, prog_19_method_83_code, 2, some .char)
abbrev m_SUt_checkIndex : MethodName × ByteArray × Nat × Option FieldType := (⟨"java/lang/StringUTF16", "checkIndex", "(I[B)V"⟩, prog_19_method_91_code, 2, none)
abbrev m_SUt_length : MethodName × ByteArray × Nat × Option FieldType := (⟨"java/lang/StringUTF16", "length", "([B)I"⟩, prog_19_method_6_code, 1, some .int)
abbrev m_SUt_getChar : MethodName × ByteArray × Nat × Option FieldType := (⟨"java/lang/StringUTF16", "getChar", "([BI)C"⟩, prog_19_method_5_code, 2, some .char)
abbrev m_Tap_readYears : MethodName × ByteArray × Nat × Option FieldType := (⟨"LightInRoom$Tape", "readYears", "()Z"⟩, prog_9_method_15_code, 1, some .boolean)
abbrev m_Tap_readAsked : MethodName × ByteArray × Nat × Option FieldType := (⟨"LightInRoom$Tape", "readAsked", "()Z"⟩, prog_9_method_16_code, 1, some .boolean)
abbrev m_Tap_clear : MethodName × ByteArray × Nat × Option FieldType := (⟨"LightInRoom$Tape", "clear", "()V"⟩, prog_9_method_4_code, 1, none)
abbrev m_Tap_newTelling : MethodName × ByteArray × Nat × Option FieldType := (⟨"LightInRoom$Tape", "newTelling", "()LLightInRoom$Telling;"⟩, prog_9_method_6_code, 1, some (.object "LightInRoom$Telling"))
abbrev m_Cal_init : MethodName × ByteArray × Nat × Option FieldType := (⟨"LightInRoom$Called", "<init>", "(LLightInRoom$Tape;)V"⟩, prog_3_method_1_code, 2, none)
abbrev m_Tel_init : MethodName × ByteArray × Nat × Option FieldType := (⟨"LightInRoom$Telling", "<init>", "(LLightInRoom$Tape;)V"⟩, prog_10_method_1_code, 2, none)
abbrev m_Lir_hasBit : MethodName × ByteArray × Nat × Option FieldType := (⟨"LightInRoom", "hasBit", "(II)Z"⟩, prog_1_method_44_code, 2, some .boolean)
abbrev m_Eye_init : MethodName × ByteArray × Nat × Option FieldType := (⟨"LightInRoom$Eye", "<init>", "(LLightInRoom$Tape;)V"⟩, prog_4_method_1_code, 2, none)
abbrev m_Thr_init : MethodName × ByteArray × Nat × Option FieldType := (⟨"LightInRoom$Through", "<init>", "(LLightInRoom$Tape;)V"⟩, prog_11_method_1_code, 2, none)
abbrev m_Nea_init : MethodName × ByteArray × Nat × Option FieldType := (⟨"LightInRoom$Near", "<init>", "(LLightInRoom$Tape;)V"⟩, prog_7_method_1_code, 2, none)
abbrev m_Gro_init : MethodName × ByteArray × Nat × Option FieldType := (⟨"LightInRoom$Grown", "<init>", "(LLightInRoom$Tape;)V"⟩, prog_5_method_1_code, 2, none)
abbrev m_Wit_init : MethodName × ByteArray × Nat × Option FieldType := (⟨"LightInRoom$Without", "<init>", "(LLightInRoom$Tape;)V"⟩, prog_12_method_1_code, 2, none)
abbrev m_Roo_addTelling : MethodName × ByteArray × Nat × Option FieldType := (⟨"LightInRoom$Room", "addTelling", "(LLightInRoom$Telling;)I"⟩, prog_8_method_9_code, 2, some .int)
abbrev m_Lir_tellingOf : MethodName × ByteArray × Nat × Option FieldType := (⟨"LightInRoom", "tellingOf", "(II)I"⟩, prog_1_method_4_code, 4, some .int)
abbrev m_Roo_tellingAt : MethodName × ByteArray × Nat × Option FieldType := (⟨"LightInRoom$Room", "tellingAt", "(I)LLightInRoom$Telling;"⟩, prog_8_method_4_code, 2, some (.object "LightInRoom$Telling"))
abbrev m_Roo_inRow : MethodName × ByteArray × Nat × Option FieldType := (⟨"LightInRoom$Room", "inRow", "([LLightInRoom$Telling;I)LLightInRoom$Telling;"⟩, prog_8_method_7_code, 2, some (.object "LightInRoom$Telling"))
abbrev m_Lir_kind : MethodName × ByteArray × Nat × Option FieldType := (⟨"LightInRoom", "kind", "(I)I"⟩, prog_1_method_5_code, 3, some .int)
abbrev m_Cal_kindNumber : MethodName × ByteArray × Nat × Option FieldType := (⟨"LightInRoom$Called", "kindNumber", "()I"⟩, prog_3_method_2_code, 1, some .int)
abbrev m_Eye_kindNumber : MethodName × ByteArray × Nat × Option FieldType := (⟨"LightInRoom$Eye", "kindNumber", "()I"⟩, prog_4_method_2_code, 1, some .int)
abbrev m_Gro_kindNumber : MethodName × ByteArray × Nat × Option FieldType := (⟨"LightInRoom$Grown", "kindNumber", "()I"⟩, prog_5_method_2_code, 1, some .int)
abbrev m_Nea_kindNumber : MethodName × ByteArray × Nat × Option FieldType := (⟨"LightInRoom$Near", "kindNumber", "()I"⟩, prog_7_method_2_code, 1, some .int)
abbrev m_Thr_kindNumber : MethodName × ByteArray × Nat × Option FieldType := (⟨"LightInRoom$Through", "kindNumber", "()I"⟩, prog_11_method_2_code, 1, some .int)
abbrev m_Wit_kindNumber : MethodName × ByteArray × Nat × Option FieldType := (⟨"LightInRoom$Without", "kindNumber", "()I"⟩, prog_12_method_2_code, 1, some .int)
abbrev m_Lir_weight : MethodName × ByteArray × Nat × Option FieldType := (⟨"LightInRoom", "weight", "(I)I"⟩, prog_1_method_6_code, 3, some .int)
abbrev m_Cal_ownWeight : MethodName × ByteArray × Nat × Option FieldType := (⟨"LightInRoom$Called", "ownWeight", "()I"⟩, prog_3_method_3_code, 1, some .int)
abbrev m_Eye_ownWeight : MethodName × ByteArray × Nat × Option FieldType := (⟨"LightInRoom$Eye", "ownWeight", "()I"⟩, prog_4_method_3_code, 1, some .int)
abbrev m_Gro_ownWeight : MethodName × ByteArray × Nat × Option FieldType := (⟨"LightInRoom$Grown", "ownWeight", "()I"⟩, prog_5_method_3_code, 1, some .int)
abbrev m_Wit_ownWeight : MethodName × ByteArray × Nat × Option FieldType := (⟨"LightInRoom$Without", "ownWeight", "()I"⟩, prog_12_method_3_code, 1, some .int)
abbrev m_Nea_ownWeight : MethodName × ByteArray × Nat × Option FieldType := (⟨"LightInRoom$Near", "ownWeight", "()I"⟩, prog_7_method_3_code, 1, some .int)
abbrev m_Thr_ownWeight : MethodName × ByteArray × Nat × Option FieldType := (⟨"LightInRoom$Through", "ownWeight", "()I"⟩, prog_11_method_3_code, 1, some .int)
abbrev m_Lir_law : MethodName × ByteArray × Nat × Option FieldType := (⟨"LightInRoom", "law", "(III)I"⟩, prog_1_method_7_code, 7, some .int)
abbrev m_Roo_lawAt : MethodName × ByteArray × Nat × Option FieldType := (⟨"LightInRoom$Room", "lawAt", "(I)LLightInRoom$Law;"⟩, prog_8_method_8_code, 2, some (.object "LightInRoom$Law"))
abbrev m_Lir_outside : MethodName × ByteArray × Nat × Option FieldType := (⟨"LightInRoom", "outside", "(III)I"⟩, prog_1_method_40_code, 3, some .int)
abbrev m_Lir_exchange : MethodName × ByteArray × Nat × Option FieldType := (⟨"LightInRoom", "exchange", "([III)I"⟩, prog_1_method_45_code, 4, some .int)
abbrev m_Lir_right : MethodName × ByteArray × Nat × Option FieldType := (⟨"LightInRoom", "right", "(Z)I"⟩, prog_1_method_8_code, 2, some .int)
abbrev m_Lir_growth : MethodName × ByteArray × Nat × Option FieldType := (⟨"LightInRoom", "growth", "(II)I"⟩, prog_1_method_9_code, 4, some .int)
abbrev m_Lir_isSizeOrSeconds : MethodName × ByteArray × Nat × Option FieldType := (⟨"LightInRoom", "isSizeOrSeconds", "(I)Z"⟩, prog_1_method_41_code, 1, some .boolean)
abbrev m_Lir_put : MethodName × ByteArray × Nat × Option FieldType := (⟨"LightInRoom", "put", "(II)I"⟩, prog_1_method_10_code, 4, some .int)
abbrev m_Roo_rightNumber : MethodName × ByteArray × Nat × Option FieldType := (⟨"LightInRoom$Room", "rightNumber", "(LLightInRoom$Telling;I)I"⟩, prog_8_method_11_code, 4, some .int)
abbrev m_Tel_lacks : MethodName × ByteArray × Nat × Option FieldType := (⟨"LightInRoom$Telling", "lacks", "(I)Z"⟩, prog_10_method_6_code, 2, some .boolean)
abbrev m_Tel_numberTold : MethodName × ByteArray × Nat × Option FieldType := (⟨"LightInRoom$Telling", "numberTold", "(I)I"⟩, prog_10_method_5_code, 2, some .int)
abbrev m_Lir_fits : MethodName × ByteArray × Nat × Option FieldType := (⟨"LightInRoom", "fits", "(II)I"⟩, prog_1_method_11_code, 5, some .int)
abbrev m_Roo_brokenBy : MethodName × ByteArray × Nat × Option FieldType := (⟨"LightInRoom$Room", "brokenBy", "(LLightInRoom$Telling;LLightInRoom$Law;)I"⟩, prog_8_method_13_code, 3, some .int)
abbrev m_Roo_heldNumber : MethodName × ByteArray × Nat × Option FieldType := (⟨"LightInRoom$Room", "heldNumber", "(LLightInRoom$Telling;I)I"⟩, prog_8_method_12_code, 3, some .int)
abbrev m_Law_brokenBy : MethodName × ByteArray × Nat × Option FieldType := (⟨"LightInRoom$Law", "brokenBy", "(LLightInRoom$Telling;II)I"⟩, prog_6_method_3_code, 5, some .int)
abbrev m_Lir_share : MethodName × ByteArray × Nat × Option FieldType := (⟨"LightInRoom", "share", "(II)I"⟩, prog_1_method_12_code, 11, some .int)
abbrev m_Lir_refuseAsTold : MethodName × ByteArray × Nat × Option FieldType := (⟨"LightInRoom", "refuseAsTold", "(I)I"⟩, prog_1_method_38_code, 2, some .int)
abbrev m_Lir_isPart : MethodName × ByteArray × Nat × Option FieldType := (⟨"LightInRoom", "isPart", "(I)Z"⟩, prog_1_method_42_code, 1, some .boolean)
abbrev m_Lir_leastTerms : MethodName × ByteArray × Nat × Option FieldType := (⟨"LightInRoom", "leastTerms", "(III)I"⟩, prog_1_method_47_code, 4, some .int)
abbrev m_Lir_greatestCommon : MethodName × ByteArray × Nat × Option FieldType := (⟨"LightInRoom", "greatestCommon", "(II)I"⟩, prog_1_method_48_code, 6, some .int)
abbrev m_Lir_only : MethodName × ByteArray × Nat × Option FieldType := (⟨"LightInRoom", "only", "(I)I"⟩, prog_1_method_13_code, 2, some .int)
abbrev m_Lir_howManyFitOnly : MethodName × ByteArray × Nat × Option FieldType := (⟨"LightInRoom", "howManyFitOnly", "(II)I"⟩, prog_1_method_50_code, 8, some .int)
abbrev m_Roo_lawsFitted : MethodName × ByteArray × Nat × Option FieldType := (⟨"LightInRoom$Room", "lawsFitted", "(LLightInRoom$Telling;)I"⟩, prog_8_method_14_code, 7, some .int)
abbrev m_Lir_cover : MethodName × ByteArray × Nat × Option FieldType := (⟨"LightInRoom", "cover", "()I"⟩, prog_1_method_14_code, 3, some .int)
abbrev m_Lir_noteLaws : MethodName × ByteArray × Nat × Option FieldType := (⟨"LightInRoom", "noteLaws", "()V"⟩, prog_1_method_51_code, 3, none)
abbrev m_Int_bitCount : MethodName × ByteArray × Nat × Option FieldType := (⟨"java/lang/Integer", "bitCount", "(I)I"⟩, prog_15_method_49_code, 1, some .int)
abbrev m_Lir_coversAll : MethodName × ByteArray × Nat × Option FieldType := (⟨"LightInRoom", "coversAll", "(I)Z"⟩, prog_1_method_53_code, 3, some .boolean)
abbrev m_Lir_half : MethodName × ByteArray × Nat × Option FieldType := (⟨"LightInRoom", "half", "(I)I"⟩, prog_1_method_15_code, 5, some .int)
abbrev m_Lir_noteBroken : MethodName × ByteArray × Nat × Option FieldType := (⟨"LightInRoom", "noteBroken", "(LLightInRoom$Law;)V"⟩, prog_1_method_52_code, 4, none)
abbrev m_Lir_halfFitsWithout : MethodName × ByteArray × Nat × Option FieldType := (⟨"LightInRoom", "halfFitsWithout", "(I)Z"⟩, prog_1_method_54_code, 4, some .boolean)
abbrev m_Lir_sorts : MethodName × ByteArray × Nat × Option FieldType := (⟨"LightInRoom", "sorts", "(I)I"⟩, prog_1_method_16_code, 5, some .int)
abbrev m_Lir_firstNotedLike : MethodName × ByteArray × Nat × Option FieldType := (⟨"LightInRoom", "firstNotedLike", "(I)I"⟩, prog_1_method_55_code, 3, some .int)
abbrev m_Lir_howManyNotedLike : MethodName × ByteArray × Nat × Option FieldType := (⟨"LightInRoom", "howManyNotedLike", "(I)I"⟩, prog_1_method_56_code, 4, some .int)
abbrev m_Mat_max : MethodName × ByteArray × Nat × Option FieldType := (⟨"java/lang/Math", "max", "(II)I"⟩, prog_16_method_65_code, 2, some .int)
abbrev m_Lir_alike : MethodName × ByteArray × Nat × Option FieldType := (⟨"LightInRoom", "alike", "(I)I"⟩, prog_1_method_17_code, 2, some .int)
abbrev m_Lir_together : MethodName × ByteArray × Nat × Option FieldType := (⟨"LightInRoom", "together", "(II)I"⟩, prog_1_method_18_code, 12, some .int)
abbrev m_Lir_isMark : MethodName × ByteArray × Nat × Option FieldType := (⟨"LightInRoom", "isMark", "(I)Z"⟩, prog_1_method_43_code, 1, some .boolean)
abbrev m_Tel_has : MethodName × ByteArray × Nat × Option FieldType := (⟨"LightInRoom$Telling", "has", "(I)Z"⟩, prog_10_method_4_code, 2, some .boolean)
abbrev m_Lir_hundredths : MethodName × ByteArray × Nat × Option FieldType := (⟨"LightInRoom", "hundredths", "(II)I"⟩, prog_1_method_46_code, 2, some .int)
abbrev m_Lir_twice : MethodName × ByteArray × Nat × Option FieldType := (⟨"LightInRoom", "twice", "(II)I"⟩, prog_1_method_19_code, 5, some .int)
abbrev m_Roo_addPair : MethodName × ByteArray × Nat × Option FieldType := (⟨"LightInRoom$Room", "addPair", "(LLightInRoom$Telling;LLightInRoom$Telling;)I"⟩, prog_8_method_10_code, 3, some .int)
abbrev m_Lir_grows : MethodName × ByteArray × Nat × Option FieldType := (⟨"LightInRoom", "grows", "(II)I"⟩, prog_1_method_20_code, 8, some .int)
abbrev m_Roo_firstOfPair : MethodName × ByteArray × Nat × Option FieldType := (⟨"LightInRoom$Room", "firstOfPair", "(I)LLightInRoom$Telling;"⟩, prog_8_method_5_code, 2, some (.object "LightInRoom$Telling"))
abbrev m_Roo_secondOfPair : MethodName × ByteArray × Nat × Option FieldType := (⟨"LightInRoom$Room", "secondOfPair", "(I)LLightInRoom$Telling;"⟩, prog_8_method_6_code, 2, some (.object "LightInRoom$Telling"))
abbrev m_Lir_people : MethodName × ByteArray × Nat × Option FieldType := (⟨"LightInRoom", "people", "(II)I"⟩, prog_1_method_21_code, 4, some .int)
abbrev m_Lir_strokes : MethodName × ByteArray × Nat × Option FieldType := (⟨"LightInRoom", "strokes", "(I)I"⟩, prog_1_method_22_code, 4, some .int)
abbrev m_Lir_reach : MethodName × ByteArray × Nat × Option FieldType := (⟨"LightInRoom", "reach", "(II)I"⟩, prog_1_method_23_code, 6, some .int)
abbrev m_Lir_should : MethodName × ByteArray × Nat × Option FieldType := (⟨"LightInRoom", "should", "(I)I"⟩, prog_1_method_24_code, 3, some .int)
abbrev m_Roo_shownTo : MethodName × ByteArray × Nat × Option FieldType := (⟨"LightInRoom$Room", "shownTo", "(LLightInRoom$Law;)I"⟩, prog_8_method_20_code, 4, some .int)
abbrev m_Lir_seen : MethodName × ByteArray × Nat × Option FieldType := (⟨"LightInRoom", "seen", "(I)I"⟩, prog_1_method_25_code, 3, some .int)
abbrev m_Roo_howManyFit : MethodName × ByteArray × Nat × Option FieldType := (⟨"LightInRoom$Room", "howManyFit", "(LLightInRoom$Law;)I"⟩, prog_8_method_15_code, 7, some .int)
abbrev m_Lir_beyond : MethodName × ByteArray × Nat × Option FieldType := (⟨"LightInRoom", "beyond", "(II)I"⟩, prog_1_method_26_code, 5, some .int)
abbrev m_Lir_leads : MethodName × ByteArray × Nat × Option FieldType := (⟨"LightInRoom", "leads", "()I"⟩, prog_1_method_27_code, 10, some .int)
abbrev m_Roo_howManyAsked : MethodName × ByteArray × Nat × Option FieldType := (⟨"LightInRoom$Room", "howManyAsked", "()I"⟩, prog_8_method_17_code, 6, some .int)
abbrev m_Roo_howManyAskedFit : MethodName × ByteArray × Nat × Option FieldType := (⟨"LightInRoom$Room", "howManyAskedFit", "(LLightInRoom$Law;)I"⟩, prog_8_method_16_code, 7, some .int)
abbrev m_Lir_pictures : MethodName × ByteArray × Nat × Option FieldType := (⟨"LightInRoom", "pictures", "(I)I"⟩, prog_1_method_28_code, 2, some .int)
abbrev m_Lir_bench : MethodName × ByteArray × Nat × Option FieldType := (⟨"LightInRoom", "bench", "(IIII)I"⟩, prog_1_method_29_code, 5, some .int)
abbrev m_Ben_tell : MethodName × ByteArray × Nat × Option FieldType := (⟨"LightInRoom$Bench", "tell", "(IIII)V"⟩, prog_2_method_2_code, 5, none)
abbrev m_Lir_lines : MethodName × ByteArray × Nat × Option FieldType := (⟨"LightInRoom", "lines", "(I)I"⟩, prog_1_method_30_code, 3, some .int)
abbrev m_Ben_linesLacking : MethodName × ByteArray × Nat × Option FieldType := (⟨"LightInRoom$Bench", "linesLacking", "(LLightInRoom$Telling;)I"⟩, prog_2_method_3_code, 3, some .int)
abbrev m_Lir_misses : MethodName × ByteArray × Nat × Option FieldType := (⟨"LightInRoom", "misses", "(I)I"⟩, prog_1_method_31_code, 5, some .int)
abbrev m_Lir_barred : MethodName × ByteArray × Nat × Option FieldType := (⟨"LightInRoom", "barred", "(I)I"⟩, prog_1_method_32_code, 5, some .int)
abbrev m_Lir_glasses : MethodName × ByteArray × Nat × Option FieldType := (⟨"LightInRoom", "glasses", "(II)I"⟩, prog_1_method_33_code, 8, some .int)
abbrev m_Roo_fullestRing : MethodName × ByteArray × Nat × Option FieldType := (⟨"LightInRoom$Room", "fullestRing", "(II)I"⟩, prog_8_method_21_code, 6, some .int)
abbrev m_Lir_image : MethodName × ByteArray × Nat × Option FieldType := (⟨"LightInRoom", "image", "()I"⟩, prog_1_method_34_code, 1, some .int)
abbrev m_Roo_becomeLike : MethodName × ByteArray × Nat × Option FieldType := (⟨"LightInRoom$Room", "becomeLike", "(LLightInRoom$Room;)V"⟩, prog_8_method_2_code, 5, none)
abbrev m_Roo_copyTellings : MethodName × ByteArray × Nat × Option FieldType := (⟨"LightInRoom$Room", "copyTellings", "([LLightInRoom$Telling;[LLightInRoom$Telling;)V"⟩, prog_8_method_3_code, 3, none)
abbrev m_Law_becomeLike : MethodName × ByteArray × Nat × Option FieldType := (⟨"LightInRoom$Law", "becomeLike", "(LLightInRoom$Law;)V"⟩, prog_6_method_2_code, 2, none)
abbrev m_Lir_copyRow : MethodName × ByteArray × Nat × Option FieldType := (⟨"LightInRoom", "copyRow", "([I[I)V"⟩, prog_1_method_49_code, 2, none)
abbrev m_Mat_min : MethodName × ByteArray × Nat × Option FieldType := (⟨"java/lang/Math", "min", "(II)I"⟩, prog_16_method_69_code, 2, some .int)
abbrev m_Lir_on : MethodName × ByteArray × Nat × Option FieldType := (⟨"LightInRoom", "on", "()I"⟩, prog_1_method_35_code, 1, some .int)
abbrev m_Lir_count : MethodName × ByteArray × Nat × Option FieldType := (⟨"LightInRoom", "count", "(I)I"⟩, prog_1_method_36_code, 2, some .int)
abbrev m_Roo_howManyGaps : MethodName × ByteArray × Nat × Option FieldType := (⟨"LightInRoom$Room", "howManyGaps", "()I"⟩, prog_8_method_18_code, 6, some .int)
abbrev m_Tel_gaps : MethodName × ByteArray × Nat × Option FieldType := (⟨"LightInRoom$Telling", "gaps", "()I"⟩, prog_10_method_7_code, 1, some .int)
abbrev m_Roo_howManyMarks : MethodName × ByteArray × Nat × Option FieldType := (⟨"LightInRoom$Room", "howManyMarks", "()I"⟩, prog_8_method_19_code, 6, some .int)
abbrev m_Lir_refusalsCounted : MethodName × ByteArray × Nat × Option FieldType := (⟨"LightInRoom", "refusalsCounted", "(I)I"⟩, prog_1_method_39_code, 2, some .int)
abbrev m_Mod_init : MethodName × ByteArray × Nat × Option FieldType := (⟨"LightInRoomModel", "<init>", "()V"⟩, prog_14_method_1_code, 2, none)
abbrev m_Mod_feed : MethodName × ByteArray × Nat × Option FieldType := (⟨"LightInRoomModel", "feed", "(IJ)I"⟩, prog_14_method_9_code, 5, some .int)
abbrev m_Mod_refuse : MethodName × ByteArray × Nat × Option FieldType := (⟨"LightInRoomModel", "refuse", "(I)I"⟩, prog_14_method_2_code, 2, some .int)
abbrev m_Mod_telling : MethodName × ByteArray × Nat × Option FieldType := (⟨"LightInRoomModel", "telling", "()I"⟩, prog_14_method_16_code, 3, some .int)
abbrev m_Mod_reads : MethodName × ByteArray × Nat × Option FieldType := (⟨"LightInRoomModel", "reads", "()Z"⟩, prog_14_method_15_code, 2, some .boolean)
abbrev m_Mod_takes : MethodName × ByteArray × Nat × Option FieldType := (⟨"LightInRoomModel", "takes", "(I)Z"⟩, prog_14_method_14_code, 2, some .boolean)
abbrev m_Mod_sign : MethodName × ByteArray × Nat × Option FieldType := (⟨"LightInRoomModel", "sign", "()I"⟩, prog_14_method_10_code, 1, some .int)
abbrev m_Mod_readsNumber : MethodName × ByteArray × Nat × Option FieldType := (⟨"LightInRoomModel", "readsNumber", "(II)Z"⟩, prog_14_method_12_code, 4, some .boolean)
abbrev m_Mod_isDigit : MethodName × ByteArray × Nat × Option FieldType := (⟨"LightInRoomModel", "isDigit", "()Z"⟩, prog_14_method_11_code, 1, some .boolean)
abbrev m_Mod_markOf : MethodName × ByteArray × Nat × Option FieldType := (⟨"LightInRoomModel", "markOf", "(I)I"⟩, prog_14_method_13_code, 1, some .int)
abbrev m_Mod_tellingOf : MethodName × ByteArray × Nat × Option FieldType := (⟨"LightInRoomModel", "tellingOf", "(II)I"⟩, prog_14_method_17_code, 3, some .int)
abbrev m_Mod_isTelling : MethodName × ByteArray × Nat × Option FieldType := (⟨"LightInRoomModel", "isTelling", "(I)Z"⟩, prog_14_method_5_code, 2, some .boolean)
abbrev m_Mod_isIn : MethodName × ByteArray × Nat × Option FieldType := (⟨"LightInRoomModel", "isIn", "(II)Z"⟩, prog_14_method_3_code, 2, some .boolean)
abbrev m_Mod_get : MethodName × ByteArray × Nat × Option FieldType := (⟨"LightInRoomModel", "get", "(II)I"⟩, prog_14_method_7_code, 3, some .int)
abbrev m_Mod_kind : MethodName × ByteArray × Nat × Option FieldType := (⟨"LightInRoomModel", "kind", "(I)I"⟩, prog_14_method_20_code, 2, some .int)
abbrev m_Mod_kindOf : MethodName × ByteArray × Nat × Option FieldType := (⟨"LightInRoomModel", "kindOf", "(I)I"⟩, prog_14_method_19_code, 2, some .int)
abbrev m_Mod_isMarked : MethodName × ByteArray × Nat × Option FieldType := (⟨"LightInRoomModel", "isMarked", "(II)Z"⟩, prog_14_method_18_code, 3, some .boolean)
abbrev m_Mod_weight : MethodName × ByteArray × Nat × Option FieldType := (⟨"LightInRoomModel", "weight", "(I)I"⟩, prog_14_method_22_code, 2, some .int)
abbrev m_Mod_weightOf : MethodName × ByteArray × Nat × Option FieldType := (⟨"LightInRoomModel", "weightOf", "(I)I"⟩, prog_14_method_21_code, 2, some .int)
abbrev m_Mod_law : MethodName × ByteArray × Nat × Option FieldType := (⟨"LightInRoomModel", "law", "(III)I"⟩, prog_14_method_23_code, 5, some .int)
abbrev m_Mod_isLaw : MethodName × ByteArray × Nat × Option FieldType := (⟨"LightInRoomModel", "isLaw", "(I)Z"⟩, prog_14_method_6_code, 1, some .boolean)
abbrev m_Mod_within : MethodName × ByteArray × Nat × Option FieldType := (⟨"LightInRoomModel", "within", "(III)I"⟩, prog_14_method_4_code, 3, some .int)
abbrev m_Mod_becomes : MethodName × ByteArray × Nat × Option FieldType := (⟨"LightInRoomModel", "becomes", "(II)I"⟩, prog_14_method_8_code, 4, some .int)
abbrev m_Mod_right : MethodName × ByteArray × Nat × Option FieldType := (⟨"LightInRoomModel", "right", "(Z)I"⟩, prog_14_method_24_code, 3, some .int)
abbrev m_Mod_growth : MethodName × ByteArray × Nat × Option FieldType := (⟨"LightInRoomModel", "growth", "(II)I"⟩, prog_14_method_25_code, 4, some .int)
abbrev m_Mod_put : MethodName × ByteArray × Nat × Option FieldType := (⟨"LightInRoomModel", "put", "(II)I"⟩, prog_14_method_27_code, 3, some .int)
abbrev m_Mod_rightOf : MethodName × ByteArray × Nat × Option FieldType := (⟨"LightInRoomModel", "rightOf", "(II)I"⟩, prog_14_method_26_code, 3, some .int)
abbrev m_Mod_fits : MethodName × ByteArray × Nat × Option FieldType := (⟨"LightInRoomModel", "fits", "(II)I"⟩, prog_14_method_31_code, 3, some .int)
abbrev m_Mod_isFit : MethodName × ByteArray × Nat × Option FieldType := (⟨"LightInRoomModel", "isFit", "(III)Z"⟩, prog_14_method_29_code, 5, some .boolean)
abbrev m_Mod_meets : MethodName × ByteArray × Nat × Option FieldType := (⟨"LightInRoomModel", "meets", "(III)Z"⟩, prog_14_method_28_code, 7, some .boolean)
abbrev m_Mod_share : MethodName × ByteArray × Nat × Option FieldType := (⟨"LightInRoomModel", "share", "(II)I"⟩, prog_14_method_34_code, 6, some .int)
abbrev m_Mod_partOf : MethodName × ByteArray × Nat × Option FieldType := (⟨"LightInRoomModel", "partOf", "(III)I"⟩, prog_14_method_33_code, 4, some .int)
abbrev m_Mod_common : MethodName × ByteArray × Nat × Option FieldType := (⟨"LightInRoomModel", "common", "(II)I"⟩, prog_14_method_32_code, 2, some .int)
abbrev m_Mod_only : MethodName × ByteArray × Nat × Option FieldType := (⟨"LightInRoomModel", "only", "(I)I"⟩, prog_14_method_35_code, 4, some .int)
abbrev m_Mod_lawsOf : MethodName × ByteArray × Nat × Option FieldType := (⟨"LightInRoomModel", "lawsOf", "(I)I"⟩, prog_14_method_30_code, 4, some .int)
abbrev m_Mod_cover : MethodName × ByteArray × Nat × Option FieldType := (⟨"LightInRoomModel", "cover", "()I"⟩, prog_14_method_38_code, 3, some .int)
abbrev m_Mod_bits : MethodName × ByteArray × Nat × Option FieldType := (⟨"LightInRoomModel", "bits", "(I)I"⟩, prog_14_method_36_code, 3, some .int)
abbrev m_Mod_isCover : MethodName × ByteArray × Nat × Option FieldType := (⟨"LightInRoomModel", "isCover", "(I)Z"⟩, prog_14_method_37_code, 3, some .boolean)
abbrev m_Mod_half : MethodName × ByteArray × Nat × Option FieldType := (⟨"LightInRoomModel", "half", "(I)I"⟩, prog_14_method_39_code, 6, some .int)
abbrev m_Mod_sorts : MethodName × ByteArray × Nat × Option FieldType := (⟨"LightInRoomModel", "sorts", "(I)I"⟩, prog_14_method_40_code, 7, some .int)
abbrev m_Mod_alike : MethodName × ByteArray × Nat × Option FieldType := (⟨"LightInRoomModel", "alike", "(I)I"⟩, prog_14_method_41_code, 3, some .int)
abbrev m_Mod_together : MethodName × ByteArray × Nat × Option FieldType := (⟨"LightInRoomModel", "together", "(II)I"⟩, prog_14_method_42_code, 8, some .int)
abbrev m_Mod_twice : MethodName × ByteArray × Nat × Option FieldType := (⟨"LightInRoomModel", "twice", "(II)I"⟩, prog_14_method_43_code, 4, some .int)
abbrev m_Mod_grows : MethodName × ByteArray × Nat × Option FieldType := (⟨"LightInRoomModel", "grows", "(II)I"⟩, prog_14_method_44_code, 8, some .int)
abbrev m_Mod_people : MethodName × ByteArray × Nat × Option FieldType := (⟨"LightInRoomModel", "people", "(II)I"⟩, prog_14_method_45_code, 4, some .int)
abbrev m_Mod_strokes : MethodName × ByteArray × Nat × Option FieldType := (⟨"LightInRoomModel", "strokes", "(I)I"⟩, prog_14_method_46_code, 3, some .int)
abbrev m_Mod_reach : MethodName × ByteArray × Nat × Option FieldType := (⟨"LightInRoomModel", "reach", "(II)I"⟩, prog_14_method_47_code, 4, some .int)
abbrev m_Mod_should : MethodName × ByteArray × Nat × Option FieldType := (⟨"LightInRoomModel", "should", "(I)I"⟩, prog_14_method_49_code, 2, some .int)
abbrev m_Mod_shouldOf : MethodName × ByteArray × Nat × Option FieldType := (⟨"LightInRoomModel", "shouldOf", "(I)I"⟩, prog_14_method_48_code, 4, some .int)
abbrev m_Mod_seen : MethodName × ByteArray × Nat × Option FieldType := (⟨"LightInRoomModel", "seen", "(I)I"⟩, prog_14_method_51_code, 2, some .int)
abbrev m_Mod_seenOf : MethodName × ByteArray × Nat × Option FieldType := (⟨"LightInRoomModel", "seenOf", "(I)I"⟩, prog_14_method_50_code, 4, some .int)
abbrev m_Mod_beyond : MethodName × ByteArray × Nat × Option FieldType := (⟨"LightInRoomModel", "beyond", "(II)I"⟩, prog_14_method_52_code, 4, some .int)
abbrev m_Mod_leads : MethodName × ByteArray × Nat × Option FieldType := (⟨"LightInRoomModel", "leads", "()I"⟩, prog_14_method_53_code, 7, some .int)
abbrev m_Mod_pictures : MethodName × ByteArray × Nat × Option FieldType := (⟨"LightInRoomModel", "pictures", "(I)I"⟩, prog_14_method_54_code, 4, some .int)
abbrev m_Mod_bench : MethodName × ByteArray × Nat × Option FieldType := (⟨"LightInRoomModel", "bench", "(IIII)I"⟩, prog_14_method_55_code, 6, some .int)
abbrev m_Mod_lines : MethodName × ByteArray × Nat × Option FieldType := (⟨"LightInRoomModel", "lines", "(I)I"⟩, prog_14_method_57_code, 4, some .int)
abbrev m_Mod_hasLine : MethodName × ByteArray × Nat × Option FieldType := (⟨"LightInRoomModel", "hasLine", "(II)Z"⟩, prog_14_method_56_code, 4, some .boolean)
abbrev m_Mod_misses : MethodName × ByteArray × Nat × Option FieldType := (⟨"LightInRoomModel", "misses", "(I)I"⟩, prog_14_method_58_code, 3, some .int)
abbrev m_Mod_barred : MethodName × ByteArray × Nat × Option FieldType := (⟨"LightInRoomModel", "barred", "(I)I"⟩, prog_14_method_59_code, 4, some .int)
abbrev m_Mod_glasses : MethodName × ByteArray × Nat × Option FieldType := (⟨"LightInRoomModel", "glasses", "(II)I"⟩, prog_14_method_60_code, 11, some .int)
abbrev m_Mod_image : MethodName × ByteArray × Nat × Option FieldType := (⟨"LightInRoomModel", "image", "()I"⟩, prog_14_method_61_code, 2, some .int)
abbrev m_Mod_on : MethodName × ByteArray × Nat × Option FieldType := (⟨"LightInRoomModel", "on", "()I"⟩, prog_14_method_62_code, 2, some .int)
abbrev m_Mod_count : MethodName × ByteArray × Nat × Option FieldType := (⟨"LightInRoomModel", "count", "(I)I"⟩, prog_14_method_63_code, 5, some .int)
abbrev m_LLL_law : MethodName × ByteArray × Nat × Option FieldType := (x, code, 4, some .boolean)
end
section
/-! MY OWN MACHINE OVER THE KIT: the heap from the law's entry on is a list of cells; a reference is its place in that list (an old cell is .retAddr n); a method answers and leaves a list -/
def zT : List Cond := lw_tbl.filter goodWord
theorem zT_good : ∀ w ∈ zT, goodWord w = true := fun w h => (List.mem_filter.mp h).2
theorem zT_sub : ∀ w ∈ zT, w ∈ lw_tbl := fun w h => (List.mem_filter.mp h).1
theorem zT_in {w : Cond} (i : Nat) (h : lw_tbl[i]? = some w) (g : goodWord w = true) : w ∈ zT := List.mem_filter.mpr ⟨List.mem_of_getElem? h, g⟩
theorem zT_GI {w : Cond} (hw : w ∈ zT) : GoodIn zT (w :: zT) := fun v h => by
  rcases List.mem_cons.mp h with rfl | h
  · exact ⟨hw, good_of_word (zT_good _ hw)⟩
  · exact ⟨h, good_of_word (zT_good _ h)⟩
/-- a cell: an array of ints; an array of references (kind 0 Law, 1 Telling); an object -/
abbrev zC : Type := (Nat × (Nat → Int32)) ⊕ ((Nat × Nat × (Nat → Option Nat)) ⊕ (Nat × List Value))
/-- (classes, slots), array classes (0 int, 1 Law, 2 Telling), old addresses (0 script, 1 string, 2 its bytes) -/
abbrev zG : Type := va_G × (Nat → ClassId) × (Nat → Nat)
/-- the script: how many, which -/
abbrev zS : Type := Nat × (Nat → Int32)
abbrev zM : Type := MethodName × ByteArray × Nat × Option FieldType
def zr (B : Nat) (Y : Nat → Nat) : Value → Value
  | .ref k => .ref (B + k)
  | .retAddr n => .ref (Y n)
  | v => v
def zrel (G : zG) (B : Nat) : zC → va_E
  | .inl a => .inl (G.2.1 0, a.1, .inl a.2)
  | .inr (.inl a) => .inl (G.2.1 (a.1 + 1), a.2.1, .inr (.inr (.inr (.inr (fun j => (a.2.2 j).map (B + ·))))))
  | .inr (.inr a) => .inr (a.1, a.2.map (zr B G.2.2))
def zw (G : zG) (B : Nat) (hp : List zC) : va_W := hp.mapIdx (fun k c => (B + k, zrel G B c))
theorem zw_get (G : zG) (B : Nat) (hp : List zC) (k : Nat) : (zw G B hp)[k]? = (hp[k]?).map (fun c => (B + k, zrel G B c)) := List.getElem?_mapIdx
theorem zw_at {G : zG} {B : Nat} {hp : List zC} {k : Nat} {c : zC} (h : hp[k]? = some c) : (zw G B hp)[k]? = some (B + k, zrel G B c) := by rw [zw_get, h]; rfl
theorem zw_inv {G : zG} {B : Nat} {hp : List zC} {k : Nat} {q : Nat × va_E} (h : (zw G B hp)[k]? = some q) : ∃ c, hp[k]? = some c ∧ q = (B + k, zrel G B c) := by
  rw [zw_get] at h
  cases hc : hp[k]? with
  | none => rw [hc] at h; cases h
  | some c => rw [hc] at h; exact ⟨c, rfl, (Option.some.inj h).symm⟩
theorem zw_D (G : zG) (B : Nat) (hp : List zC) : va_D (fun q : Nat => B ≤ q) (zw G B hp) := by
  refine ⟨fun i j p q hi hj hpq => ?_, fun k q hk => ?_⟩
  · obtain ⟨c1, -, rfl⟩ := zw_inv hi
    obtain ⟨c2, -, rfl⟩ := zw_inv hj
    have : B + i = B + j := hpq
    omega
  · obtain ⟨c, -, rfl⟩ := zw_inv hk
    exact Nat.le_add_right B k
theorem zw_set (G : zG) (B : Nat) (hp : List zC) (k : Nat) (c : zC) : (zw G B hp).set k (B + k, zrel G B c) = zw G B (hp.set k c) := by
  apply List.ext_getElem?
  intro i
  rw [zw_get]
  by_cases h : i = k
  · subst h
    by_cases hl : i < hp.length
    · rw [List.getElem?_set_self (by simpa [zw] using hl), List.getElem?_set_self hl]; rfl
    · rw [List.getElem?_eq_none (by simpa [zw] using hl), List.getElem?_eq_none (by simpa using hl)]; rfl
  · rw [List.getElem?_set_ne (Ne.symm h), List.getElem?_set_ne (Ne.symm h), zw_get]
theorem zw_push (G : zG) (B : Nat) (hp : List zC) (c : zC) : zw G B (hp ++ [c]) = zw G B hp ++ [(B + hp.length, zrel G B c)] := by
  simp [zw, List.mapIdx_append]
/-- the heap H holds the list hp from B on, and nothing more -/
def zH (G : zG) (B : Nat) (hp : List zC) (H : Heap) : Prop := va_P G.1 zCl (zw G B hp) H ∧ H.size = B + hp.length
abbrev zTy (G : zG) : List (ClassId × FieldType) := [(G.2.1 0, .int), (G.2.1 1, .object "LightInRoom$Law"), (G.2.1 2, .object "LightInRoom$Telling")]
abbrev zK (G : zG) (U : State) : Prop := va_K G.1 zCl (zTy G) U
def zNest : List (String × Nat × MethodName) := [("LightInRoom$Room", 39, m_Ben_init.1), ("LightInRoom$Tape", 55, m_Lir_hasBit.1), ("LightInRoom$Law", 28, m_Lir_hasBit.1), ("LightInRoom$Telling", 39, m_Lir_hasBit.1), ("LightInRoom$Room", 135, m_Lir_hasBit.1), ("LightInRoom$Law", 19, m_Lir_copyRow.1), ("LightInRoom$Room", 56, m_Lir_copyRow.1)]
def zCast : List String := ["LightInRoom$Called", "LightInRoom$Eye", "LightInRoom$Through", "LightInRoom$Near", "LightInRoom$Grown", "LightInRoom$Without"]
def zDecl : List MethodName := [⟨"LightInRoom$Telling", "kindNumber", "()I"⟩, ⟨"LightInRoom$Telling", "ownWeight", "()I"⟩]
def zStr : List Int32 := [98, 104, 117, 119, 110, 109, 111, 112]
/-- what else is known of the tables and of the old heap -/
def zX (X : zS) (G : zG) (B : Nat) (U : State) (H : Heap) : Prop :=
  (∀ q ∈ zNest, va_Nw (.methodLinkNest q.1 q.2.1 q.2.2 "LightInRoom") U) ∧ (∀ q ∈ zCast, va_Nw (.castable q "LightInRoom$Telling") U) ∧ (∀ q ∈ zDecl, va_Nw (.declares q) U) ∧ va_AO "LightInRoom$Law" U ∧ va_AO "LightInRoom$Telling" U ∧ vk_R "LightInRoom$Tape" 101 "bhuwnmop" (G.2.2 1) U ∧ vk_S 1 [8] [zStr] (fun _ => G.2.2 1) (fun _ => G.2.2 2) (fun q => B ≤ q) U H ∧ va_Z "java/lang/String" "COMPACT_STRINGS" "Z" (.int 1) (fun q => B ≤ q) U H ∧ va_X (G.2.2 0) X.1 X.2 U H ∧ G.2.2 0 < B
theorem zX.moved {X : zS} {G : zG} {B : Nat} {s U : State} {H : Heap} (hW : s.WarmedH U.vm) (h : zX X G B s H) : zX X G B U H :=
  ⟨fun q hq => (h.1 q hq).warmM hW, fun q hq => (h.2.1 q hq).warmC hW, fun q hq => (h.2.2.1 q hq).warmD hW, h.2.2.2.1.moved hW.alike, h.2.2.2.2.1.moved hW.alike, h.2.2.2.2.2.1.warm hW, h.2.2.2.2.2.2.1.moved hW.alike, h.2.2.2.2.2.2.2.1.moved hW.alike, h.2.2.2.2.2.2.2.2.1.moved hW.alike, h.2.2.2.2.2.2.2.2.2⟩
theorem zX.kept {X : zS} {G : zG} {B : Nat} {U : State} {H H1 : Heap} (hq : ∀ a : Nat, a < H.size → ¬ B ≤ a → H1[a]? = H[a]?) (hB : B ≤ H.size) (h : zX X G B U H) : zX X G B U H1 :=
  ⟨h.1, h.2.1, h.2.2.1, h.2.2.2.1, h.2.2.2.2.1, h.2.2.2.2.2.1, h.2.2.2.2.2.2.1.kept hq, h.2.2.2.2.2.2.2.1.kept hq, h.2.2.2.2.2.2.2.2.1.kept (hq _ (Nat.lt_of_lt_of_le h.2.2.2.2.2.2.2.2.2 hB) (Nat.not_le.mpr h.2.2.2.2.2.2.2.2.2)), h.2.2.2.2.2.2.2.2.2⟩
/-- the locals as a list -/
def zl (B : Nat) (Y : Nat → Nat) : Nat → List (Option Value) → List (Nat × Value)
  | _, [] => []
  | i, none :: L => zl B Y (i + 1) L
  | i, some v :: L => (i, zr B Y v) :: zl B Y (i + 1) L
theorem zl_mem (B : Nat) (Y : Nat → Nat) : ∀ (L : List (Option Value)) (i k : Nat) (v : Value), L[k]? = some (some v) → (i + k, zr B Y v) ∈ zl B Y i L
  | [], i, k, v, h => by simp at h
  | none :: L, i, 0, v, h => by simp at h
  | some w :: L, i, 0, v, h => by
    simp at h
    subst h
    exact List.mem_cons_self
  | none :: L, i, k + 1, v, h => by
    have := zl_mem B Y L (i + 1) k v (by simpa using h)
    rw [show i + (k + 1) = i + 1 + k by omega]
    exact this
  | some w :: L, i, k + 1, v, h => by
    have := zl_mem B Y L (i + 1) k v (by simpa using h)
    rw [show i + (k + 1) = i + 1 + k by omega]
    exact List.mem_cons_of_mem _ this
theorem zl_inv (B : Nat) (Y : Nat → Nat) : ∀ (L : List (Option Value)) (i : Nat) (q : Nat × Value), q ∈ zl B Y i L → ∃ k v, L[k]? = some (some v) ∧ q = (i + k, zr B Y v)
  | [], i, q, h => by simp [zl] at h
  | none :: L, i, q, h => by
    obtain ⟨k, v, h1, h2⟩ := zl_inv B Y L (i + 1) q h
    exact ⟨k + 1, v, by simpa using h1, by rw [h2, show i + (k + 1) = i + 1 + k by omega]⟩
  | some w :: L, i, q, h => by
    rcases List.mem_cons.mp h with rfl | h
    · exact ⟨0, w, rfl, rfl⟩
    · obtain ⟨k, v, h1, h2⟩ := zl_inv B Y L (i + 1) q h
      exact ⟨k + 1, v, by simpa using h1, by rw [h2, show i + (k + 1) = i + 1 + k by omega]⟩
/-- a value of two slots before place i? -/
def zlong (L : List (Option Value)) : Nat → Bool
  | 0 => false
  | i + 1 => match L[i]? with
    | some (some (.long _)) => true
    | some (some (.double _)) => true
    | _ => false
theorem zr_cat (B : Nat) (Y : Nat → Nat) (v : Value) : (zr B Y v).category = v.category := by cases v <;> rfl
theorem zl_set {B : Nat} {Y : Nat → Nat} {ls : Array Slot} {nL i : Nat} {L : List (Option Value)} {v : Value} (hn : zlong L i = false)
    (h : lv_has ls nL ((i, zr B Y v) :: (zl B Y 0 L).filter (fun q => !(q.1 == i) && !(q.1 + 1 == i && q.2.category == 2)))) : lv_has ls nL (zl B Y 0 (L.set i (some v))) := by
  refine ⟨h.1, h.2.1, fun q hq => h.2.2 q ?_⟩
  obtain ⟨k, w, hk, rfl⟩ := zl_inv B Y _ 0 q hq
  rw [Nat.zero_add] at hq ⊢
  by_cases hki : k = i
  · subst hki
    have hl : k < L.length := by
      have := (List.getElem?_eq_some_iff.mp hk).1
      simpa using this
    rw [List.getElem?_set_self hl] at hk
    have hw : v = w := Option.some.inj (Option.some.inj hk)
    subst hw
    exact List.mem_cons_self
  · rw [List.getElem?_set_ne (Ne.symm hki)] at hk
    refine List.mem_cons_of_mem _ (List.mem_filter.mpr ⟨?_, ?_⟩)
    · have := zl_mem B Y L 0 k w hk
      rwa [Nat.zero_add] at this
    · simp only [Bool.and_eq_true, Bool.not_eq_true', beq_eq_false_iff_ne, ne_eq, Bool.and_eq_false_iff]
      refine ⟨hki, ?_⟩
      by_cases h2 : k + 1 = i
      · right
        subst h2
        rw [zr_cat]
        intro hc
        simp only [zlong, hk] at hn
        cases w <;> simp [Value.category] at hc hn
      · exact Or.inl h2
def zri : Option Value → Instr
  | none => .return_
  | some (.int _) => .ireturn
  | some _ => .areturn
def zAt (X : zS) (M : zM) (G : zG) (B : Nat) (p : Program) (s : State) (m : MethodId) (args : Array Value) (meth : Method) (c : Code) : Prop :=
  p.tables.exec = Jvm.exec ∧ c.code = M.2.1 ∧ c.maxLocals = M.2.2.1 ∧ s.vm.findClass M.1.cls = some m.cls ∧ (∀ w ∈ zT, w.before args s = true) ∧ zK G s ∧ zX X G B s s.heap ∧ meth.name = M.1.name ∧ B ≤ s.heap.size
def zFin (M : zM) (G : zG) (B : Nat) (p : Program) (l : Launch) (e : Env) (R : Room) (s : State) (m : MethodId) (args : Array Value) (below : List Frame) (meth : Method) (c : Code) (Q : State → Prop) (r : Option Value) (hp' : List zC) : Prop :=
  ∀ (H : Heap) (locs : List Loc) (cells slots pc : Nat) (ls : Array Slot), zH G B hp' H → va_S (fun q => B ≤ q) s.heap H locs → cells ≤ R.cells → slots ≤ R.slots → decode M.2.1 pc = .ok (zri r, 1) → W p l e R s m args below meth c H locs cells slots Q (F0 m pc ls (r.map (zr B G.2.2)).toList)
/-- from pc, with these locals, this stack and this heap, the method M answers r and leaves hp'; d more frames, kc more cells of ks slots are enough -/
def Z (X : zS) (M : zM) (d kc ks : Nat) (r : Option Value) (hp' : List zC) (pc : Nat) (L : List (Option Value)) (st : List Value) (hp : List zC) : Prop :=
  ∀ (G : zG) (B : Nat) (p : Program) (l : Launch) (e : Env) (R : Room) (s : State) (m : MethodId) (args : Array Value) (below : List Frame) (meth : Method) (c : Code) (Q : State → Prop) (H : Heap) (locs : List Loc) (cells slots : Nat) (ls : Array Slot),
    zAt X M G B p s m args meth c → zFin M G B p l e R s m args below meth c Q r hp' → zH G B hp H → va_S (fun q => B ≤ q) s.heap H locs → d ≤ R.frames → 60 * d ≤ R.locals → cells + kc ≤ R.cells → slots + ks ≤ R.slots → lv_has ls M.2.2.1 (zl B G.2.2 0 L) →
    W p l e R s m args below meth c H locs cells slots Q (F0 m pc ls (st.map (zr B G.2.2)))
/-- what a method called with av over hp answers and leaves -/
def Ret (d mc ms : Nat) (M : zM) (av : List Value) (hp : List zC) (r : Option Value) (hp' : List zC) : Prop :=
  ∀ (X : zS) (l : Launch) (G : zG) (B : Nat), Met l M.1 (Cond.code M.1 M.2.1 M.2.2.1 M.2.2.2 :: zT) { frames := d, cells := mc, slots := ms, locals := 60 * d } (va_Pc (av.map (zr B G.2.2)) (fun U => zH G B hp U.heap ∧ zK G U ∧ zX X G B U U.heap))
    (fun _ st o t => (o = .returned (r.map (zr B G.2.2)) ∧ zH G B hp' t.heap) ∧ va_F (fun q => B ≤ q) st t) mc ms (fun q => B ≤ q)
/-- what a method may answer -/
def zrt : Option FieldType → Option Value → Prop
  | none, none => True
  | some ty, some (.int v) => narrow ty (.int v) = .int v
  | some (.object _), some .null => True
  | some (.object _), some (.ref _) => True
  | _, _ => False
/-- the arguments as locals -/
def zargs : List Value → List (Option Value)
  | [] => []
  | .long v :: l => some (.long v) :: none :: zargs l
  | .double v :: l => some (.double v) :: none :: zargs l
  | v :: l => some v :: zargs l
theorem zargs_mem (B : Nat) (Y : Nat → Nat) : ∀ (av : List Value) (i : Nat) (q : Nat × Value), q ∈ zl B Y i (zargs av) → q ∈ lv_args i (av.map (zr B Y))
  | [], i, q, h => by simp [zl, zargs] at h
  | v :: l, i, q, h => by
    have ih1 := zargs_mem B Y l (i + 1) q
    have ih2 := zargs_mem B Y l (i + 2) q
    cases v <;> simp only [zargs, zl, List.map_cons, lv_args, zr, Value.category, List.mem_cons] at h ⊢ <;>
      first
      | (rcases h with h | h
         · exact Or.inl h
         · exact Or.inr (by simpa using ih1 h))
      | (rcases h with h | h
         · exact Or.inl h
         · exact Or.inr (by simpa using ih2 h))
theorem zl_pad (B : Nat) (Y : Nat → Nat) : ∀ (L : List (Option Value)) (i n : Nat), zl B Y i (L ++ List.replicate n none) = zl B Y i L
  | [], i, 0 => rfl
  | [], i, n + 1 => by
    have := zl_pad B Y [] (i + 1) n
    simpa [zl, List.replicate_succ] using this
  | none :: L, i, n => by simp only [List.cons_append, zl]; exact zl_pad B Y L (i + 1) n
  | some v :: L, i, n => by simp only [List.cons_append, zl, zl_pad B Y L (i + 1) n]
theorem lg_sl_z (B : Nat) (Y : Nat → Nat) : ∀ av : List Value, (lg_sl (av.map (zr B Y))).length = (zargs av).length
  | [] => rfl
  | v :: l => by
    have ih := lg_sl_z B Y l
    cases v <;> simp [lg_sl, zargs, zr, Value.category] at ih ⊢ <;> omega
theorem Ret.of {d mc ms : Nat} {M : zM} {av : List Value} {hp hp' : List zC} {r : Option Value} (hy : plainName M.1.cls = true) (hr : zrt M.2.2.2 r) {n : Nat} (hn : (zargs av).length + n = M.2.2.1)
    (h : ∀ X : zS, Z X M d mc ms r hp' 0 (zargs av ++ List.replicate n none) [] hp) : Ret d mc ms M av hp r hp' := by
  intro X l G B
  refine Met.ofW (cc := M.2.1) (maxL := M.2.2.1) (ret := M.2.2.2) hy rfl ?_
  intro p e s m args below meth c s₁ Bd hml hv
  obtain ⟨rfl, hH, hK, hX⟩ := hv
  have hx := Bd.exec
  have hb := Bd.bytes
  have hret := Bd.returns
  have hts := atoms_spec (ws := Cond.code M.1 M.2.1 M.2.2.1 M.2.2.2 :: zT) Bd.pre
  have hown : s.vm.findClass M.1.cls = some m.cls := findClass_of_methodNamed Bd.named
  have hlocks := Bd.notSynchronized
  have hnm : meth.name = M.1.name := (name_of_methodNamed Bd.named Bd.method).1
  have hl := lv_entry (av.map (zr B G.2.2)) (n := M.2.2.1) (by rw [lg_sl_z]; omega)
  rw [lg_entry_eq]
  generalize (lg_sl (av.map (zr B G.2.2)) ++ List.replicate (M.2.2.1 - (lg_sl (av.map (zr B G.2.2))).length) Slot.unset).toArray = ls at hl ⊢
  have hl2 : lv_has ls M.2.2.1 (zl B G.2.2 0 (zargs av ++ List.replicate n none)) := ⟨hl.1, hl.2.1, fun q hq => hl.2.2 q (zargs_mem B G.2.2 av 0 q (by rwa [zl_pad] at hq))⟩
  refine h X G B p l e _ s m _ below meth c _ s.heap [] 0 0 ls ⟨hx, hb, hml, hown, fun w hw => hts w (List.mem_cons_of_mem _ hw), hK, hX, hnm, by rw [hH.2]; exact Nat.le_add_right _ _⟩ ?_ hH va_S.rf (Nat.le_refl _) (Nat.le_refl _) (by show 0 + mc ≤ mc; omega) (by show 0 + ms ≤ ms; omega) hl2
  intro H locs cells slots pc ls' hH' hS hc hs hdg
  refine W.widen (k := mc) (n := ms) hc hs ?_
  generalize hM : M.2.2.2 = rt at hr hret
  match rt, r, hr, hdg with
  | none, none, _, hdg => exact W.vret hx hb hret (fun t ht hW => ⟨⟨rfl, by rw [ht]; exact hH'⟩, hS.F ht⟩) hS.2.2 hdg
  | some ty, some (.int v), hr, hdg => exact W.zret (v := v) hx hb hret hr (fun t ht hW => ⟨⟨rfl, by rw [ht]; exact hH'⟩, hS.F ht⟩) hS.2.2 hdg
  | some (.object n), some .null, _, hdg => exact W.aret hx hb hret (Or.inl ⟨n, rfl⟩) (Or.inl rfl) (fun t ht hW => ⟨⟨rfl, by rw [ht]; exact hH'⟩, hS.F ht⟩) hS.2.2 hdg
  | some (.object n), some (.ref k), _, hdg => exact W.aret hx hb hret (Or.inl ⟨n, rfl⟩) (Or.inr ⟨_, rfl⟩) (fun t ht hW => ⟨⟨rfl, by rw [ht]; exact hH'⟩, hS.F ht⟩) hS.2.2 hdg
/-- behind a call -/
theorem z_run {X : zS} {M : zM} {G : zG} {B : Nat} {p : Program} {l : Launch} {e : Env} {R : Room} {s : State} {m : MethodId} {args : Array Value} {below : List Frame} {meth : Method} {c : Code} {Q : State → Prop} {H : Heap} {locs : List Loc} {cells slots mc ms pc : Nat} {ls : Array Slot} {st0 rest : List Value} {r : Option Value} {hp1 : List zC} {av : Array Value}
    (hS : va_S (fun q => B ≤ q) s.heap H locs)
    (hr : va_Run p l e R s m args below meth c H locs cells slots mc ms (F0 m pc ls st0) rest ((fun (_ : Array Value) (st : State) (o : Outcome) (t : State) => (o = .returned r ∧ zH G B hp1 t.heap) ∧ va_F (fun q => B ≤ q) st t) av) (fun q => B ≤ q))
    (kk : ∀ (H1 : Heap) (locs1 : List Loc), zH G B hp1 H1 → va_S (fun q => B ≤ q) s.heap H1 locs1 → W p l e R s m args below meth c H1 locs1 (cells + mc) (slots + ms) Q (F0 m (pc + 3) ls (r.toList ++ rest))) : W p l e R s m args below meth c H locs cells slots Q (F0 m pc ls st0) := by
  intro T hT X'
  obtain ⟨v, st₀, t, T', L, h0, X', hL, e1, e2, ⟨⟨hv, hz1⟩, hz, hk⟩, st⟩ := hr T hT X'
  cases hv
  rw [h0] at hz hk
  obtain ⟨t2, a1, b1⟩ := kk T'.heap (locs ++ L) (by rw [e1]; exact hz1)
    ⟨Nat.le_trans hS.1 (by rw [e1]; exact hz), fun q h1 h2 => by rw [e1, hk q (Nat.lt_of_lt_of_le h1 hS.1) h2]; exact hS.2.1 q h1 h2, fun q hq => by
      rcases List.mem_append.mp hq with h | h
      · exact hS.2.2 q h
      · exact hL q h⟩ T' rfl X'
  exact ⟨t2, st t2 a1, b1⟩
theorem zX.at {X : zS} {M : zM} {G : zG} {B : Nat} {p : Program} {s : State} {m : MethodId} {args : Array Value} {meth : Method} {c : Code} {H : Heap} {locs : List Loc} (A : zAt X M G B p s m args meth c) (hS : va_S (fun q => B ≤ q) s.heap H locs) : zX X G B s H :=
  zX.kept (fun a h1 h2 => hS.2.1 a h1 h2) A.2.2.2.2.2.2.2.2 A.2.2.2.2.2.2.1
theorem z_blind {X : zS} {G : zG} {B : Nat} {hp : List zC} (av : List Value) : FrameBlind (va_Pc av (fun U => zH G B hp U.heap ∧ zK G U ∧ zX X G B U U.heap)) :=
  fun a U g mk h => ⟨h.1, h.2.1, va_K.moved (u := U) (U := U.calling g mk a) (Vm.Alike.refl U.vm) h.2.2.1, zX.moved (U := U.calling g mk a) (State.WarmedH.refl U) h.2.2.2⟩
theorem z_preS {X : zS} {M : zM} {G : zG} {B : Nat} {p : Program} {s : State} {m : MethodId} {args : Array Value} {meth : Method} {c : Code} {H : Heap} {locs : List Loc} {hp : List zC} (A : zAt X M G B p s m args meth c) (hS : va_S (fun q => B ≤ q) s.heap H locs) (h : zH G B hp H) (av : List Value) :
    PreS s H (va_Pc av (fun U => zH G B hp U.heap ∧ zK G U ∧ zX X G B U U.heap)) av :=
  ⟨z_blind av, fun U hU hW => ⟨rfl, by rw [hU]; exact h, va_K.moved hW.alike A.2.2.2.2.2.1, by rw [hU]; exact (zX.at A hS).moved hW⟩⟩
end
section
theorem zl_at {B : Nat} {Y : Nat → Nat} {ls : Array Slot} {nL i : Nat} {L : List (Option Value)} {v : Value} (h : lv_has ls nL (zl B Y 0 L)) (hk : L[i]? = some (some v)) : ls[i]? = some (.val (zr B Y v)) := by
  have := zl_mem B Y L 0 i v hk
  rw [Nat.zero_add] at this
  exact h.2.2 _ this
theorem z_iconst {X : zS} {M : zM} {d kc ks : Nat} {r : Option Value} {hp' : List zC} {pc : Nat} {L : List (Option Value)} {st : List Value} {hp : List zC} {n0 : Int} (v : Int32) (hv : Int32.ofInt n0 = v) (n : Nat) (en : pc + 1 = n) (hdg : decode M.2.1 pc = .ok (.iconst n0, 1)) (k : Z X M d kc ks r hp' n L (.int v :: st) hp) : Z X M d kc ks r hp' pc L st hp := by
  subst en
  intro G B p l e R s m args below meth c Q H locs cells slots ls A F h hS h1 h2 h3 h4 hl
  exact lv_iconst A.1 A.2.1 hdg hv (k G B p l e R s m args below meth c Q H locs cells slots ls A F h hS h1 h2 h3 h4 hl)
theorem z_bipush {X : zS} {M : zM} {d kc ks : Nat} {r : Option Value} {hp' : List zC} {pc : Nat} {L : List (Option Value)} {st : List Value} {hp : List zC} {n0 : Int} (v : Int32) (hv : (Int8.ofInt n0).toInt32 = v) (n : Nat) (en : pc + 2 = n) (hdg : decode M.2.1 pc = .ok (.bipush n0, 2)) (k : Z X M d kc ks r hp' n L (.int v :: st) hp) : Z X M d kc ks r hp' pc L st hp := by
  subst en
  intro G B p l e R s m args below meth c Q H locs cells slots ls A F h hS h1 h2 h3 h4 hl
  exact lv_bipush A.1 A.2.1 hdg hv (k G B p l e R s m args below meth c Q H locs cells slots ls A F h hS h1 h2 h3 h4 hl)
theorem z_sipush {X : zS} {M : zM} {d kc ks : Nat} {r : Option Value} {hp' : List zC} {pc : Nat} {L : List (Option Value)} {st : List Value} {hp : List zC} {n0 : Int} (v : Int32) (hv : (Int16.ofInt n0).toInt32 = v) (n : Nat) (en : pc + 3 = n) (hdg : decode M.2.1 pc = .ok (.sipush n0, 3)) (k : Z X M d kc ks r hp' n L (.int v :: st) hp) : Z X M d kc ks r hp' pc L st hp := by
  subst en
  intro G B p l e R s m args below meth c Q H locs cells slots ls A F h hS h1 h2 h3 h4 hl
  exact lv_sipush A.1 A.2.1 hdg hv (k G B p l e R s m args below meth c Q H locs cells slots ls A F h hS h1 h2 h3 h4 hl)
theorem z_ldc {X : zS} {M : zM} {d kc ks : Nat} {r : Option Value} {hp' : List zC} {pc : Nat} {L : List (Option Value)} {st : List Value} {hp : List zC} {ix : Nat} {v : Int32} (hw : Cond.constant M.1.cls ix v ∈ zT) (n : Nat) (en : pc + 2 = n) (hdg : decode M.2.1 pc = .ok (.ldc ix, 2)) (k : Z X M d kc ks r hp' n L (.int v :: st) hp) : Z X M d kc ks r hp' pc L st hp := by
  subst en
  intro G B p l e R s m args below meth c Q H locs cells slots ls A F h hS h1 h2 h3 h4 hl
  exact lv_ldc A.1 A.2.1 A.2.2.2.1 (A.2.2.2.2.1 _ hw) hdg (k G B p l e R s m args below meth c Q H locs cells slots ls A F h hS h1 h2 h3 h4 hl)
theorem z_ldc_w {X : zS} {M : zM} {d kc ks : Nat} {r : Option Value} {hp' : List zC} {pc : Nat} {L : List (Option Value)} {st : List Value} {hp : List zC} {ix : Nat} {v : Int32} (hw : Cond.constant M.1.cls ix v ∈ zT) (n : Nat) (en : pc + 3 = n) (hdg : decode M.2.1 pc = .ok (.ldc_w ix, 3)) (k : Z X M d kc ks r hp' n L (.int v :: st) hp) : Z X M d kc ks r hp' pc L st hp := by
  subst en
  intro G B p l e R s m args below meth c Q H locs cells slots ls A F h hS h1 h2 h3 h4 hl
  exact lv_ldcw A.1 A.2.1 A.2.2.2.1 (A.2.2.2.2.1 _ hw) hdg (k G B p l e R s m args below meth c Q H locs cells slots ls A F h hS h1 h2 h3 h4 hl)
theorem z_ldc2_w {X : zS} {M : zM} {d kc ks : Nat} {r : Option Value} {hp' : List zC} {pc : Nat} {L : List (Option Value)} {st : List Value} {hp : List zC} {ix : Nat} {v : Int64} (hw : Cond.constantLong M.1.cls ix v ∈ zT) (n : Nat) (en : pc + 3 = n) (hdg : decode M.2.1 pc = .ok (.ldc2_w ix, 3)) (k : Z X M d kc ks r hp' n L (.long v :: st) hp) : Z X M d kc ks r hp' pc L st hp := by
  subst en
  intro G B p l e R s m args below meth c Q H locs cells slots ls A F h hS h1 h2 h3 h4 hl
  exact lv_ldc2 A.1 A.2.1 A.2.2.2.1 (A.2.2.2.2.1 _ hw) hdg (k G B p l e R s m args below meth c Q H locs cells slots ls A F h hS h1 h2 h3 h4 hl)
theorem z_aconst_null {X : zS} {M : zM} {d kc ks : Nat} {r : Option Value} {hp' : List zC} {pc : Nat} {L : List (Option Value)} {st : List Value} {hp : List zC} (n : Nat) (en : pc + 1 = n) (hdg : decode M.2.1 pc = .ok (.aconst_null, 1)) (k : Z X M d kc ks r hp' n L (.null :: st) hp) : Z X M d kc ks r hp' pc L st hp := by
  subst en
  intro G B p l e R s m args below meth c Q H locs cells slots ls A F h hS h1 h2 h3 h4 hl
  exact lv_null A.1 A.2.1 hdg (k G B p l e R s m args below meth c Q H locs cells slots ls A F h hS h1 h2 h3 h4 hl)
theorem z_iload_n {X : zS} {M : zM} {d kc ks : Nat} {r : Option Value} {hp' : List zC} {pc : Nat} {L : List (Option Value)} {st : List Value} {hp : List zC} {i : Fin 4} {x : Int32} (hi : L[(i : Nat)]? = some (some (.int x))) (n : Nat) (en : pc + 1 = n) (hdg : decode M.2.1 pc = .ok (.iload_n i, 1)) (k : Z X M d kc ks r hp' n L (.int x :: st) hp) : Z X M d kc ks r hp' pc L st hp := by
  subst en
  intro G B p l e R s m args below meth c Q H locs cells slots ls A F h hS h1 h2 h3 h4 hl
  exact lv_iload_n A.1 A.2.1 hdg rfl (zl_at hl hi) (k G B p l e R s m args below meth c Q H locs cells slots ls A F h hS h1 h2 h3 h4 hl)
theorem z_iload {X : zS} {M : zM} {d kc ks : Nat} {r : Option Value} {hp' : List zC} {pc : Nat} {L : List (Option Value)} {st : List Value} {hp : List zC} {i : Nat} {x : Int32} (hi : L[i]? = some (some (.int x))) (n : Nat) (en : pc + 2 = n) (hdg : decode M.2.1 pc = .ok (.iload i, 2)) (k : Z X M d kc ks r hp' n L (.int x :: st) hp) : Z X M d kc ks r hp' pc L st hp := by
  subst en
  intro G B p l e R s m args below meth c Q H locs cells slots ls A F h hS h1 h2 h3 h4 hl
  exact lv_iload A.1 A.2.1 hdg (zl_at hl hi) (k G B p l e R s m args below meth c Q H locs cells slots ls A F h hS h1 h2 h3 h4 hl)
theorem z_lload_n {X : zS} {M : zM} {d kc ks : Nat} {r : Option Value} {hp' : List zC} {pc : Nat} {L : List (Option Value)} {st : List Value} {hp : List zC} {i : Fin 4} {x : Int64} (hi : L[(i : Nat)]? = some (some (.long x))) (n : Nat) (en : pc + 1 = n) (hdg : decode M.2.1 pc = .ok (.lload_n i, 1)) (k : Z X M d kc ks r hp' n L (.long x :: st) hp) : Z X M d kc ks r hp' pc L st hp := by
  subst en
  intro G B p l e R s m args below meth c Q H locs cells slots ls A F h hS h1 h2 h3 h4 hl
  exact lv_lload_n A.1 A.2.1 hdg rfl (zl_at hl hi) (k G B p l e R s m args below meth c Q H locs cells slots ls A F h hS h1 h2 h3 h4 hl)
theorem z_lload {X : zS} {M : zM} {d kc ks : Nat} {r : Option Value} {hp' : List zC} {pc : Nat} {L : List (Option Value)} {st : List Value} {hp : List zC} {i : Nat} {x : Int64} (hi : L[i]? = some (some (.long x))) (n : Nat) (en : pc + 2 = n) (hdg : decode M.2.1 pc = .ok (.lload i, 2)) (k : Z X M d kc ks r hp' n L (.long x :: st) hp) : Z X M d kc ks r hp' pc L st hp := by
  subst en
  intro G B p l e R s m args below meth c Q H locs cells slots ls A F h hS h1 h2 h3 h4 hl
  exact lv_lload A.1 A.2.1 hdg (zl_at hl hi) (k G B p l e R s m args below meth c Q H locs cells slots ls A F h hS h1 h2 h3 h4 hl)
theorem z_aload_n {X : zS} {M : zM} {d kc ks : Nat} {r : Option Value} {hp' : List zC} {pc : Nat} {L : List (Option Value)} {st : List Value} {hp : List zC} {i : Fin 4} {x : Nat} (hi : L[(i : Nat)]? = some (some (.ref x))) (n : Nat) (en : pc + 1 = n) (hdg : decode M.2.1 pc = .ok (.aload_n i, 1)) (k : Z X M d kc ks r hp' n L (.ref x :: st) hp) : Z X M d kc ks r hp' pc L st hp := by
  subst en
  intro G B p l e R s m args below meth c Q H locs cells slots ls A F h hS h1 h2 h3 h4 hl
  exact lv_aload_n A.1 A.2.1 hdg rfl (zl_at hl hi) (k G B p l e R s m args below meth c Q H locs cells slots ls A F h hS h1 h2 h3 h4 hl)
theorem z_aload {X : zS} {M : zM} {d kc ks : Nat} {r : Option Value} {hp' : List zC} {pc : Nat} {L : List (Option Value)} {st : List Value} {hp : List zC} {i : Nat} {x : Nat} (hi : L[i]? = some (some (.ref x))) (n : Nat) (en : pc + 2 = n) (hdg : decode M.2.1 pc = .ok (.aload i, 2)) (k : Z X M d kc ks r hp' n L (.ref x :: st) hp) : Z X M d kc ks r hp' pc L st hp := by
  subst en
  intro G B p l e R s m args below meth c Q H locs cells slots ls A F h hS h1 h2 h3 h4 hl
  exact lv_aload A.1 A.2.1 hdg (zl_at hl hi) (k G B p l e R s m args below meth c Q H locs cells slots ls A F h hS h1 h2 h3 h4 hl)
theorem z_aload_nX {X : zS} {M : zM} {d kc ks : Nat} {r : Option Value} {hp' : List zC} {pc : Nat} {L : List (Option Value)} {st : List Value} {hp : List zC} {i : Fin 4} {x : Nat} (hi : L[(i : Nat)]? = some (some (.retAddr x))) (n : Nat) (en : pc + 1 = n) (hdg : decode M.2.1 pc = .ok (.aload_n i, 1)) (k : Z X M d kc ks r hp' n L (.retAddr x :: st) hp) : Z X M d kc ks r hp' pc L st hp := by
  subst en
  intro G B p l e R s m args below meth c Q H locs cells slots ls A F h hS h1 h2 h3 h4 hl
  exact lv_aload_n A.1 A.2.1 hdg rfl (zl_at hl hi) (k G B p l e R s m args below meth c Q H locs cells slots ls A F h hS h1 h2 h3 h4 hl)
theorem z_aload_nN {X : zS} {M : zM} {d kc ks : Nat} {r : Option Value} {hp' : List zC} {pc : Nat} {L : List (Option Value)} {st : List Value} {hp : List zC} {i : Fin 4} (hi : L[(i : Nat)]? = some (some .null)) (n : Nat) (en : pc + 1 = n) (hdg : decode M.2.1 pc = .ok (.aload_n i, 1)) (k : Z X M d kc ks r hp' n L (.null :: st) hp) : Z X M d kc ks r hp' pc L st hp := by
  subst en
  intro G B p l e R s m args below meth c Q H locs cells slots ls A F h hS h1 h2 h3 h4 hl
  exact lv_aload_nN A.1 A.2.1 hdg rfl (zl_at hl hi) (k G B p l e R s m args below meth c Q H locs cells slots ls A F h hS h1 h2 h3 h4 hl)
theorem z_aloadN {X : zS} {M : zM} {d kc ks : Nat} {r : Option Value} {hp' : List zC} {pc : Nat} {L : List (Option Value)} {st : List Value} {hp : List zC} {i : Nat} (hi : L[i]? = some (some .null)) (n : Nat) (en : pc + 2 = n) (hdg : decode M.2.1 pc = .ok (.aload i, 2)) (k : Z X M d kc ks r hp' n L (.null :: st) hp) : Z X M d kc ks r hp' pc L st hp := by
  subst en
  intro G B p l e R s m args below meth c Q H locs cells slots ls A F h hS h1 h2 h3 h4 hl
  exact lv_aloadN A.1 A.2.1 hdg (zl_at hl hi) (k G B p l e R s m args below meth c Q H locs cells slots ls A F h hS h1 h2 h3 h4 hl)
theorem z_istore_n {X : zS} {M : zM} {d kc ks : Nat} {r : Option Value} {hp' : List zC} {pc : Nat} {L : List (Option Value)} {st : List Value} {hp : List zC} {i : Fin 4} {x : Int32} (n : Nat) (en : pc + 1 = n) (hi : (i : Nat) < M.2.2.1) (hz : zlong L (i : Nat) = false) (hdg : decode M.2.1 pc = .ok (.istore_n i, 1)) (k : Z X M d kc ks r hp' n (L.set (i : Nat) (some (.int x))) st hp) : Z X M d kc ks r hp' pc L (.int x :: st) hp := by
  subst en
  intro G B p l e R s m args below meth c Q H locs cells slots ls A F h hS h1 h2 h3 h4 hl
  exact lv_istore_n A.1 A.2.1 hdg rfl hl hi rfl (fun ls' hl' => k G B p l e R s m args below meth c Q H locs cells slots ls' A F h hS h1 h2 h3 h4 (zl_set (v := .int x) hz hl'))
theorem z_istore {X : zS} {M : zM} {d kc ks : Nat} {r : Option Value} {hp' : List zC} {pc : Nat} {L : List (Option Value)} {st : List Value} {hp : List zC} {i : Nat} {x : Int32} (n : Nat) (en : pc + 2 = n) (hi : i < M.2.2.1) (hz : zlong L i = false) (hdg : decode M.2.1 pc = .ok (.istore i, 2)) (k : Z X M d kc ks r hp' n (L.set i (some (.int x))) st hp) : Z X M d kc ks r hp' pc L (.int x :: st) hp := by
  subst en
  intro G B p l e R s m args below meth c Q H locs cells slots ls A F h hS h1 h2 h3 h4 hl
  exact lv_istore A.1 A.2.1 hdg hl hi rfl (fun ls' hl' => k G B p l e R s m args below meth c Q H locs cells slots ls' A F h hS h1 h2 h3 h4 (zl_set (v := .int x) hz hl'))
theorem z_astore_n {X : zS} {M : zM} {d kc ks : Nat} {r : Option Value} {hp' : List zC} {pc : Nat} {L : List (Option Value)} {st : List Value} {hp : List zC} {i : Fin 4} {x : Nat} (n : Nat) (en : pc + 1 = n) (hi : (i : Nat) < M.2.2.1) (hz : zlong L (i : Nat) = false) (hdg : decode M.2.1 pc = .ok (.astore_n i, 1)) (k : Z X M d kc ks r hp' n (L.set (i : Nat) (some (.ref x))) st hp) : Z X M d kc ks r hp' pc L (.ref x :: st) hp := by
  subst en
  intro G B p l e R s m args below meth c Q H locs cells slots ls A F h hS h1 h2 h3 h4 hl
  exact lv_astore_n A.1 A.2.1 hdg rfl hl hi rfl (fun ls' hl' => k G B p l e R s m args below meth c Q H locs cells slots ls' A F h hS h1 h2 h3 h4 (zl_set (v := .ref x) hz hl'))
theorem z_astore {X : zS} {M : zM} {d kc ks : Nat} {r : Option Value} {hp' : List zC} {pc : Nat} {L : List (Option Value)} {st : List Value} {hp : List zC} {i : Nat} {x : Nat} (n : Nat) (en : pc + 2 = n) (hi : i < M.2.2.1) (hz : zlong L i = false) (hdg : decode M.2.1 pc = .ok (.astore i, 2)) (k : Z X M d kc ks r hp' n (L.set i (some (.ref x))) st hp) : Z X M d kc ks r hp' pc L (.ref x :: st) hp := by
  subst en
  intro G B p l e R s m args below meth c Q H locs cells slots ls A F h hS h1 h2 h3 h4 hl
  exact lv_astore A.1 A.2.1 hdg hl hi rfl (fun ls' hl' => k G B p l e R s m args below meth c Q H locs cells slots ls' A F h hS h1 h2 h3 h4 (zl_set (v := .ref x) hz hl'))
theorem z_astore_nN {X : zS} {M : zM} {d kc ks : Nat} {r : Option Value} {hp' : List zC} {pc : Nat} {L : List (Option Value)} {st : List Value} {hp : List zC} {i : Fin 4} (n : Nat) (en : pc + 1 = n) (hi : (i : Nat) < M.2.2.1) (hz : zlong L (i : Nat) = false) (hdg : decode M.2.1 pc = .ok (.astore_n i, 1)) (k : Z X M d kc ks r hp' n (L.set (i : Nat) (some (.null))) st hp) : Z X M d kc ks r hp' pc L (.null :: st) hp := by
  subst en
  intro G B p l e R s m args below meth c Q H locs cells slots ls A F h hS h1 h2 h3 h4 hl
  exact lv_astore_nN A.1 A.2.1 hdg rfl hl hi rfl (fun ls' hl' => k G B p l e R s m args below meth c Q H locs cells slots ls' A F h hS h1 h2 h3 h4 (zl_set (v := .null) hz hl'))
theorem z_astoreN {X : zS} {M : zM} {d kc ks : Nat} {r : Option Value} {hp' : List zC} {pc : Nat} {L : List (Option Value)} {st : List Value} {hp : List zC} {i : Nat} (n : Nat) (en : pc + 2 = n) (hi : i < M.2.2.1) (hz : zlong L i = false) (hdg : decode M.2.1 pc = .ok (.astore i, 2)) (k : Z X M d kc ks r hp' n (L.set i (some (.null))) st hp) : Z X M d kc ks r hp' pc L (.null :: st) hp := by
  subst en
  intro G B p l e R s m args below meth c Q H locs cells slots ls A F h hS h1 h2 h3 h4 hl
  exact lv_astoreN A.1 A.2.1 hdg hl hi rfl (fun ls' hl' => k G B p l e R s m args below meth c Q H locs cells slots ls' A F h hS h1 h2 h3 h4 (zl_set (v := .null) hz hl'))
theorem zl_ix {B : Nat} {Y : Nat → Nat} {L : List (Option Value)} {i : Nat} {v : Value} (hk : L[i]? = some (some v)) : ∃ k : Nat, (zl B Y 0 L)[k]? = some (i, zr B Y v) := by
  have := zl_mem B Y L 0 i v hk
  rw [Nat.zero_add] at this
  exact List.getElem?_of_mem this
theorem z_iinc {X : zS} {M : zM} {d kc ks : Nat} {r : Option Value} {hp' : List zC} {pc : Nat} {L : List (Option Value)} {st : List Value} {hp : List zC} {i : Nat} {n0 : Int} {x : Int32} (v : Int32) (hv : Int32.ofInt n0 = v) (n : Nat) (en : pc + 3 = n) (hi : L[i]? = some (some (.int x))) (hb : i < M.2.2.1) (hz : zlong L i = false) (hdg : decode M.2.1 pc = .ok (.iinc i n0, 3)) (k : Z X M d kc ks r hp' n (L.set i (some (.int (x + v)))) st hp) : Z X M d kc ks r hp' pc L st hp := by
  subst en
  subst hv
  intro G B p l e R s m args below meth c Q H locs cells slots ls A F h hS h1 h2 h3 h4 hl
  obtain ⟨q, hq⟩ := zl_ix (B := B) (Y := G.2.2) hi
  exact lv_iinc A.1 A.2.1 hdg hl hq rfl hb rfl (fun ls' hl' => k G B p l e R s m args below meth c Q H locs cells slots ls' A F h hS h1 h2 h3 h4 (zl_set (v := .int (x + Int32.ofInt n0)) hz hl'))
theorem z_iadd {X : zS} {M : zM} {d kc ks : Nat} {r : Option Value} {hp' : List zC} {pc : Nat} {L : List (Option Value)} {st : List Value} {hp : List zC} {x y : Int32} (n : Nat) (en : pc + 1 = n) (hdg : decode M.2.1 pc = .ok (.iadd, 1)) (k : Z X M d kc ks r hp' n L (.int (x + y) :: st) hp) : Z X M d kc ks r hp' pc L (.int y :: .int x :: st) hp := by
  subst en
  intro G B p l e R s m args below meth c Q H locs cells slots ls A F h hS h1 h2 h3 h4 hl
  exact lv_iadd A.1 A.2.1 hdg (k G B p l e R s m args below meth c Q H locs cells slots ls A F h hS h1 h2 h3 h4 hl)
theorem z_isub {X : zS} {M : zM} {d kc ks : Nat} {r : Option Value} {hp' : List zC} {pc : Nat} {L : List (Option Value)} {st : List Value} {hp : List zC} {x y : Int32} (n : Nat) (en : pc + 1 = n) (hdg : decode M.2.1 pc = .ok (.isub, 1)) (k : Z X M d kc ks r hp' n L (.int (x - y) :: st) hp) : Z X M d kc ks r hp' pc L (.int y :: .int x :: st) hp := by
  subst en
  intro G B p l e R s m args below meth c Q H locs cells slots ls A F h hS h1 h2 h3 h4 hl
  exact lv_isub A.1 A.2.1 hdg (k G B p l e R s m args below meth c Q H locs cells slots ls A F h hS h1 h2 h3 h4 hl)
theorem z_imul {X : zS} {M : zM} {d kc ks : Nat} {r : Option Value} {hp' : List zC} {pc : Nat} {L : List (Option Value)} {st : List Value} {hp : List zC} {x y : Int32} (n : Nat) (en : pc + 1 = n) (hdg : decode M.2.1 pc = .ok (.imul, 1)) (k : Z X M d kc ks r hp' n L (.int (x * y) :: st) hp) : Z X M d kc ks r hp' pc L (.int y :: .int x :: st) hp := by
  subst en
  intro G B p l e R s m args below meth c Q H locs cells slots ls A F h hS h1 h2 h3 h4 hl
  exact lv_imul A.1 A.2.1 hdg (k G B p l e R s m args below meth c Q H locs cells slots ls A F h hS h1 h2 h3 h4 hl)
theorem z_iand {X : zS} {M : zM} {d kc ks : Nat} {r : Option Value} {hp' : List zC} {pc : Nat} {L : List (Option Value)} {st : List Value} {hp : List zC} {x y : Int32} (n : Nat) (en : pc + 1 = n) (hdg : decode M.2.1 pc = .ok (.iand, 1)) (k : Z X M d kc ks r hp' n L (.int (x &&& y) :: st) hp) : Z X M d kc ks r hp' pc L (.int y :: .int x :: st) hp := by
  subst en
  intro G B p l e R s m args below meth c Q H locs cells slots ls A F h hS h1 h2 h3 h4 hl
  exact lv_iand A.1 A.2.1 hdg (k G B p l e R s m args below meth c Q H locs cells slots ls A F h hS h1 h2 h3 h4 hl)
theorem z_ior {X : zS} {M : zM} {d kc ks : Nat} {r : Option Value} {hp' : List zC} {pc : Nat} {L : List (Option Value)} {st : List Value} {hp : List zC} {x y : Int32} (n : Nat) (en : pc + 1 = n) (hdg : decode M.2.1 pc = .ok (.ior, 1)) (k : Z X M d kc ks r hp' n L (.int (x ||| y) :: st) hp) : Z X M d kc ks r hp' pc L (.int y :: .int x :: st) hp := by
  subst en
  intro G B p l e R s m args below meth c Q H locs cells slots ls A F h hS h1 h2 h3 h4 hl
  exact lv_ior A.1 A.2.1 hdg (k G B p l e R s m args below meth c Q H locs cells slots ls A F h hS h1 h2 h3 h4 hl)
theorem z_ixor {X : zS} {M : zM} {d kc ks : Nat} {r : Option Value} {hp' : List zC} {pc : Nat} {L : List (Option Value)} {st : List Value} {hp : List zC} {x y : Int32} (n : Nat) (en : pc + 1 = n) (hdg : decode M.2.1 pc = .ok (.ixor, 1)) (k : Z X M d kc ks r hp' n L (.int (x ^^^ y) :: st) hp) : Z X M d kc ks r hp' pc L (.int y :: .int x :: st) hp := by
  subst en
  intro G B p l e R s m args below meth c Q H locs cells slots ls A F h hS h1 h2 h3 h4 hl
  exact lv_ixor A.1 A.2.1 hdg (k G B p l e R s m args below meth c Q H locs cells slots ls A F h hS h1 h2 h3 h4 hl)
theorem z_ishl {X : zS} {M : zM} {d kc ks : Nat} {r : Option Value} {hp' : List zC} {pc : Nat} {L : List (Option Value)} {st : List Value} {hp : List zC} {x y : Int32} (n : Nat) (en : pc + 1 = n) (hdg : decode M.2.1 pc = .ok (.ishl, 1)) (k : Z X M d kc ks r hp' n L (.int (x <<< (y &&& 31)) :: st) hp) : Z X M d kc ks r hp' pc L (.int y :: .int x :: st) hp := by
  subst en
  intro G B p l e R s m args below meth c Q H locs cells slots ls A F h hS h1 h2 h3 h4 hl
  exact lv_ishl A.1 A.2.1 hdg (k G B p l e R s m args below meth c Q H locs cells slots ls A F h hS h1 h2 h3 h4 hl)
theorem z_ishr {X : zS} {M : zM} {d kc ks : Nat} {r : Option Value} {hp' : List zC} {pc : Nat} {L : List (Option Value)} {st : List Value} {hp : List zC} {x y : Int32} (n : Nat) (en : pc + 1 = n) (hdg : decode M.2.1 pc = .ok (.ishr, 1)) (k : Z X M d kc ks r hp' n L (.int (x >>> (y &&& 31)) :: st) hp) : Z X M d kc ks r hp' pc L (.int y :: .int x :: st) hp := by
  subst en
  intro G B p l e R s m args below meth c Q H locs cells slots ls A F h hS h1 h2 h3 h4 hl
  exact lv_ishr A.1 A.2.1 hdg (k G B p l e R s m args below meth c Q H locs cells slots ls A F h hS h1 h2 h3 h4 hl)
theorem z_idiv {X : zS} {M : zM} {d kc ks : Nat} {r : Option Value} {hp' : List zC} {pc : Nat} {L : List (Option Value)} {st : List Value} {hp : List zC} {x y : Int32} (hne : ¬ y = 0) (n : Nat) (en : pc + 1 = n) (hdg : decode M.2.1 pc = .ok (.idiv, 1)) (k : Z X M d kc ks r hp' n L (.int (x / y) :: st) hp) : Z X M d kc ks r hp' pc L (.int y :: .int x :: st) hp := by
  subst en
  intro G B p l e R s m args below meth c Q H locs cells slots ls A F h hS h1 h2 h3 h4 hl
  exact lv_idiv A.1 A.2.1 hdg hne (k G B p l e R s m args below meth c Q H locs cells slots ls A F h hS h1 h2 h3 h4 hl)
theorem z_irem {X : zS} {M : zM} {d kc ks : Nat} {r : Option Value} {hp' : List zC} {pc : Nat} {L : List (Option Value)} {st : List Value} {hp : List zC} {x y : Int32} (hne : ¬ y = 0) (n : Nat) (en : pc + 1 = n) (hdg : decode M.2.1 pc = .ok (.irem, 1)) (k : Z X M d kc ks r hp' n L (.int (x - x / y * y) :: st) hp) : Z X M d kc ks r hp' pc L (.int y :: .int x :: st) hp := by
  subst en
  intro G B p l e R s m args below meth c Q H locs cells slots ls A F h hS h1 h2 h3 h4 hl
  exact lv_irem A.1 A.2.1 hdg hne (k G B p l e R s m args below meth c Q H locs cells slots ls A F h hS h1 h2 h3 h4 hl)
theorem z_ineg {X : zS} {M : zM} {d kc ks : Nat} {r : Option Value} {hp' : List zC} {pc : Nat} {L : List (Option Value)} {st : List Value} {hp : List zC} {x : Int32} (n : Nat) (en : pc + 1 = n) (hdg : decode M.2.1 pc = .ok (.ineg, 1)) (k : Z X M d kc ks r hp' n L (.int (-x) :: st) hp) : Z X M d kc ks r hp' pc L (.int x :: st) hp := by
  subst en
  intro G B p l e R s m args below meth c Q H locs cells slots ls A F h hS h1 h2 h3 h4 hl
  exact lv_ineg A.1 A.2.1 hdg (k G B p l e R s m args below meth c Q H locs cells slots ls A F h hS h1 h2 h3 h4 hl)
theorem z_iushr {X : zS} {M : zM} {d kc ks : Nat} {r : Option Value} {hp' : List zC} {pc : Nat} {L : List (Option Value)} {st : List Value} {hp : List zC} {x y : Int32} (n : Nat) (en : pc + 1 = n) (hdg : decode M.2.1 pc = .ok (.iushr, 1)) (k : Z X M d kc ks r hp' n L (.int (x.toUInt32 >>> (y.toUInt32 &&& Int32.toUInt32 31)).toInt32 :: st) hp) : Z X M d kc ks r hp' pc L (.int y :: .int x :: st) hp := by
  subst en
  intro G B p l e R s m args below meth c Q H locs cells slots ls A F h hS h1 h2 h3 h4 hl
  exact lv_iushr A.1 A.2.1 hdg rfl (k G B p l e R s m args below meth c Q H locs cells slots ls A F h hS h1 h2 h3 h4 hl)
theorem z_land {X : zS} {M : zM} {d kc ks : Nat} {r : Option Value} {hp' : List zC} {pc : Nat} {L : List (Option Value)} {st : List Value} {hp : List zC} {x y : Int64} (n : Nat) (en : pc + 1 = n) (hdg : decode M.2.1 pc = .ok (.land, 1)) (k : Z X M d kc ks r hp' n L (.long (x &&& y) :: st) hp) : Z X M d kc ks r hp' pc L (.long y :: .long x :: st) hp := by
  subst en
  intro G B p l e R s m args below meth c Q H locs cells slots ls A F h hS h1 h2 h3 h4 hl
  exact lv_land A.1 A.2.1 hdg (k G B p l e R s m args below meth c Q H locs cells slots ls A F h hS h1 h2 h3 h4 hl)
theorem z_lor {X : zS} {M : zM} {d kc ks : Nat} {r : Option Value} {hp' : List zC} {pc : Nat} {L : List (Option Value)} {st : List Value} {hp : List zC} {x y : Int64} (n : Nat) (en : pc + 1 = n) (hdg : decode M.2.1 pc = .ok (.lor, 1)) (k : Z X M d kc ks r hp' n L (.long (x ||| y) :: st) hp) : Z X M d kc ks r hp' pc L (.long y :: .long x :: st) hp := by
  subst en
  intro G B p l e R s m args below meth c Q H locs cells slots ls A F h hS h1 h2 h3 h4 hl
  exact lv_lor A.1 A.2.1 hdg (k G B p l e R s m args below meth c Q H locs cells slots ls A F h hS h1 h2 h3 h4 hl)
theorem z_lshl {X : zS} {M : zM} {d kc ks : Nat} {r : Option Value} {hp' : List zC} {pc : Nat} {L : List (Option Value)} {st : List Value} {hp : List zC} {x : Int64} {y : Int32} (n : Nat) (en : pc + 1 = n) (hdg : decode M.2.1 pc = .ok (.lshl, 1)) (k : Z X M d kc ks r hp' n L (.long (x <<< (y.toInt64 &&& 63)) :: st) hp) : Z X M d kc ks r hp' pc L (.int y :: .long x :: st) hp := by
  subst en
  intro G B p l e R s m args below meth c Q H locs cells slots ls A F h hS h1 h2 h3 h4 hl
  exact lv_lshl A.1 A.2.1 hdg rfl (k G B p l e R s m args below meth c Q H locs cells slots ls A F h hS h1 h2 h3 h4 hl)
theorem z_lshr {X : zS} {M : zM} {d kc ks : Nat} {r : Option Value} {hp' : List zC} {pc : Nat} {L : List (Option Value)} {st : List Value} {hp : List zC} {x : Int64} {y : Int32} (n : Nat) (en : pc + 1 = n) (hdg : decode M.2.1 pc = .ok (.lshr, 1)) (k : Z X M d kc ks r hp' n L (.long (x >>> (y.toInt64 &&& 63)) :: st) hp) : Z X M d kc ks r hp' pc L (.int y :: .long x :: st) hp := by
  subst en
  intro G B p l e R s m args below meth c Q H locs cells slots ls A F h hS h1 h2 h3 h4 hl
  exact lv_lshr A.1 A.2.1 hdg rfl (k G B p l e R s m args below meth c Q H locs cells slots ls A F h hS h1 h2 h3 h4 hl)
theorem z_lushr {X : zS} {M : zM} {d kc ks : Nat} {r : Option Value} {hp' : List zC} {pc : Nat} {L : List (Option Value)} {st : List Value} {hp : List zC} {x : Int64} {y : Int32} (n : Nat) (en : pc + 1 = n) (hdg : decode M.2.1 pc = .ok (.lushr, 1)) (k : Z X M d kc ks r hp' n L (.long (x.toUInt64 >>> (y.toInt64.toUInt64 &&& Int64.toUInt64 63)).toInt64 :: st) hp) : Z X M d kc ks r hp' pc L (.int y :: .long x :: st) hp := by
  subst en
  intro G B p l e R s m args below meth c Q H locs cells slots ls A F h hS h1 h2 h3 h4 hl
  exact lv_lushr A.1 A.2.1 hdg rfl (k G B p l e R s m args below meth c Q H locs cells slots ls A F h hS h1 h2 h3 h4 hl)
theorem z_l2i {X : zS} {M : zM} {d kc ks : Nat} {r : Option Value} {hp' : List zC} {pc : Nat} {L : List (Option Value)} {st : List Value} {hp : List zC} {x : Int64} (n : Nat) (en : pc + 1 = n) (hdg : decode M.2.1 pc = .ok (.l2i, 1)) (k : Z X M d kc ks r hp' n L (.int x.toInt32 :: st) hp) : Z X M d kc ks r hp' pc L (.long x :: st) hp := by
  subst en
  intro G B p l e R s m args below meth c Q H locs cells slots ls A F h hS h1 h2 h3 h4 hl
  exact lv_l2i A.1 A.2.1 hdg rfl (k G B p l e R s m args below meth c Q H locs cells slots ls A F h hS h1 h2 h3 h4 hl)
theorem z_i2l {X : zS} {M : zM} {d kc ks : Nat} {r : Option Value} {hp' : List zC} {pc : Nat} {L : List (Option Value)} {st : List Value} {hp : List zC} {x : Int32} (n : Nat) (en : pc + 1 = n) (hdg : decode M.2.1 pc = .ok (.i2l, 1)) (k : Z X M d kc ks r hp' n L (.long x.toInt64 :: st) hp) : Z X M d kc ks r hp' pc L (.int x :: st) hp := by
  subst en
  intro G B p l e R s m args below meth c Q H locs cells slots ls A F h hS h1 h2 h3 h4 hl
  exact lv_i2l A.1 A.2.1 hdg rfl (k G B p l e R s m args below meth c Q H locs cells slots ls A F h hS h1 h2 h3 h4 hl)
theorem z_i2c {X : zS} {M : zM} {d kc ks : Nat} {r : Option Value} {hp' : List zC} {pc : Nat} {L : List (Option Value)} {st : List Value} {hp : List zC} {x : Int32} (n : Nat) (en : pc + 1 = n) (hdg : decode M.2.1 pc = .ok (.i2c, 1)) (k : Z X M d kc ks r hp' n L (.int (x.toUInt32 % 65536).toInt32 :: st) hp) : Z X M d kc ks r hp' pc L (.int x :: st) hp := by
  subst en
  intro G B p l e R s m args below meth c Q H locs cells slots ls A F h hS h1 h2 h3 h4 hl
  exact lv_i2c A.1 A.2.1 hdg rfl (k G B p l e R s m args below meth c Q H locs cells slots ls A F h hS h1 h2 h3 h4 hl)
theorem z_dup {X : zS} {M : zM} {d kc ks : Nat} {r : Option Value} {hp' : List zC} {pc : Nat} {L : List (Option Value)} {st : List Value} {hp : List zC} {v : Value} (hv : v.category = 1) (n : Nat) (en : pc + 1 = n) (hdg : decode M.2.1 pc = .ok (.dup, 1)) (k : Z X M d kc ks r hp' n L (v :: v :: st) hp) : Z X M d kc ks r hp' pc L (v :: st) hp := by
  subst en
  intro G B p l e R s m args below meth c Q H locs cells slots ls A F h hS h1 h2 h3 h4 hl
  exact lv_dup A.1 A.2.1 hdg ((zr_cat _ _ _).trans hv) (k G B p l e R s m args below meth c Q H locs cells slots ls A F h hS h1 h2 h3 h4 hl)
theorem z_pop {X : zS} {M : zM} {d kc ks : Nat} {r : Option Value} {hp' : List zC} {pc : Nat} {L : List (Option Value)} {st : List Value} {hp : List zC} {v : Value} (hv : v.category = 1) (n : Nat) (en : pc + 1 = n) (hdg : decode M.2.1 pc = .ok (.pop, 1)) (k : Z X M d kc ks r hp' n L st hp) : Z X M d kc ks r hp' pc L (v :: st) hp := by
  subst en
  intro G B p l e R s m args below meth c Q H locs cells slots ls A F h hS h1 h2 h3 h4 hl
  exact lv_pop A.1 A.2.1 hdg ((zr_cat _ _ _).trans hv) (k G B p l e R s m args below meth c Q H locs cells slots ls A F h hS h1 h2 h3 h4 hl)
theorem z_dup2 {X : zS} {M : zM} {d kc ks : Nat} {r : Option Value} {hp' : List zC} {pc : Nat} {L : List (Option Value)} {st : List Value} {hp : List zC} {v w : Value} (hv : v.category = 1) (hw : w.category = 1) (n : Nat) (en : pc + 1 = n) (hdg : decode M.2.1 pc = .ok (.dup2, 1)) (k : Z X M d kc ks r hp' n L (v :: w :: v :: w :: st) hp) : Z X M d kc ks r hp' pc L (v :: w :: st) hp := by
  subst en
  intro G B p l e R s m args below meth c Q H locs cells slots ls A F h hS h1 h2 h3 h4 hl
  exact lv_dup2_11 A.1 A.2.1 hdg ((zr_cat _ _ _).trans hv) ((zr_cat _ _ _).trans hw) (k G B p l e R s m args below meth c Q H locs cells slots ls A F h hS h1 h2 h3 h4 hl)
theorem z_if_eq {X : zS} {M : zM} {d kc ks : Nat} {r : Option Value} {hp' : List zC} {pc : Nat} {L : List (Option Value)} {st : List Value} {hp : List zC} {x : Int32} {off : Int} (n1 n2 : Nat) (e1 : (pc : Int) + off = (n1 : Int)) (e2 : pc + 3 = n2) (hdg : decode M.2.1 pc = .ok (.ifCond .eq off, 3)) (kt : x = 0 → Z X M d kc ks r hp' n1 L st hp) (kf : ¬ x = 0 → Z X M d kc ks r hp' n2 L st hp) : Z X M d kc ks r hp' pc L (.int x :: st) hp := by
  subst e2
  intro G B p l e R s m args below meth c Q H locs cells slots ls A F h hS h1 h2 h3 h4 hl
  exact lv_if_eq A.1 A.2.1 hdg e1 (fun q => kt q G B p l e R s m args below meth c Q H locs cells slots ls A F h hS h1 h2 h3 h4 hl) (fun q => kf q G B p l e R s m args below meth c Q H locs cells slots ls A F h hS h1 h2 h3 h4 hl)
theorem z_icmp_eq {X : zS} {M : zM} {d kc ks : Nat} {r : Option Value} {hp' : List zC} {pc : Nat} {L : List (Option Value)} {st : List Value} {hp : List zC} {x y : Int32} {off : Int} (n1 n2 : Nat) (e1 : (pc : Int) + off = (n1 : Int)) (e2 : pc + 3 = n2) (hdg : decode M.2.1 pc = .ok (.if_icmp .eq off, 3)) (kt : x = y → Z X M d kc ks r hp' n1 L st hp) (kf : ¬ x = y → Z X M d kc ks r hp' n2 L st hp) : Z X M d kc ks r hp' pc L (.int y :: .int x :: st) hp := by
  subst e2
  intro G B p l e R s m args below meth c Q H locs cells slots ls A F h hS h1 h2 h3 h4 hl
  exact lv_icmp_eq A.1 A.2.1 hdg e1 (fun q => kt q G B p l e R s m args below meth c Q H locs cells slots ls A F h hS h1 h2 h3 h4 hl) (fun q => kf q G B p l e R s m args below meth c Q H locs cells slots ls A F h hS h1 h2 h3 h4 hl)
theorem z_if_ne {X : zS} {M : zM} {d kc ks : Nat} {r : Option Value} {hp' : List zC} {pc : Nat} {L : List (Option Value)} {st : List Value} {hp : List zC} {x : Int32} {off : Int} (n1 n2 : Nat) (e1 : (pc : Int) + off = (n1 : Int)) (e2 : pc + 3 = n2) (hdg : decode M.2.1 pc = .ok (.ifCond .ne off, 3)) (kt : ¬ x = 0 → Z X M d kc ks r hp' n1 L st hp) (kf : x = 0 → Z X M d kc ks r hp' n2 L st hp) : Z X M d kc ks r hp' pc L (.int x :: st) hp := by
  subst e2
  intro G B p l e R s m args below meth c Q H locs cells slots ls A F h hS h1 h2 h3 h4 hl
  exact lv_if_ne A.1 A.2.1 hdg e1 (fun q => kt q G B p l e R s m args below meth c Q H locs cells slots ls A F h hS h1 h2 h3 h4 hl) (fun q => kf q G B p l e R s m args below meth c Q H locs cells slots ls A F h hS h1 h2 h3 h4 hl)
theorem z_icmp_ne {X : zS} {M : zM} {d kc ks : Nat} {r : Option Value} {hp' : List zC} {pc : Nat} {L : List (Option Value)} {st : List Value} {hp : List zC} {x y : Int32} {off : Int} (n1 n2 : Nat) (e1 : (pc : Int) + off = (n1 : Int)) (e2 : pc + 3 = n2) (hdg : decode M.2.1 pc = .ok (.if_icmp .ne off, 3)) (kt : ¬ x = y → Z X M d kc ks r hp' n1 L st hp) (kf : x = y → Z X M d kc ks r hp' n2 L st hp) : Z X M d kc ks r hp' pc L (.int y :: .int x :: st) hp := by
  subst e2
  intro G B p l e R s m args below meth c Q H locs cells slots ls A F h hS h1 h2 h3 h4 hl
  exact lv_icmp_ne A.1 A.2.1 hdg e1 (fun q => kt q G B p l e R s m args below meth c Q H locs cells slots ls A F h hS h1 h2 h3 h4 hl) (fun q => kf q G B p l e R s m args below meth c Q H locs cells slots ls A F h hS h1 h2 h3 h4 hl)
theorem z_if_lt {X : zS} {M : zM} {d kc ks : Nat} {r : Option Value} {hp' : List zC} {pc : Nat} {L : List (Option Value)} {st : List Value} {hp : List zC} {x : Int32} {off : Int} (n1 n2 : Nat) (e1 : (pc : Int) + off = (n1 : Int)) (e2 : pc + 3 = n2) (hdg : decode M.2.1 pc = .ok (.ifCond .lt off, 3)) (kt : x < 0 → Z X M d kc ks r hp' n1 L st hp) (kf : ¬ x < 0 → Z X M d kc ks r hp' n2 L st hp) : Z X M d kc ks r hp' pc L (.int x :: st) hp := by
  subst e2
  intro G B p l e R s m args below meth c Q H locs cells slots ls A F h hS h1 h2 h3 h4 hl
  exact lv_if_lt A.1 A.2.1 hdg e1 (fun q => kt q G B p l e R s m args below meth c Q H locs cells slots ls A F h hS h1 h2 h3 h4 hl) (fun q => kf q G B p l e R s m args below meth c Q H locs cells slots ls A F h hS h1 h2 h3 h4 hl)
theorem z_icmp_lt {X : zS} {M : zM} {d kc ks : Nat} {r : Option Value} {hp' : List zC} {pc : Nat} {L : List (Option Value)} {st : List Value} {hp : List zC} {x y : Int32} {off : Int} (n1 n2 : Nat) (e1 : (pc : Int) + off = (n1 : Int)) (e2 : pc + 3 = n2) (hdg : decode M.2.1 pc = .ok (.if_icmp .lt off, 3)) (kt : x < y → Z X M d kc ks r hp' n1 L st hp) (kf : ¬ x < y → Z X M d kc ks r hp' n2 L st hp) : Z X M d kc ks r hp' pc L (.int y :: .int x :: st) hp := by
  subst e2
  intro G B p l e R s m args below meth c Q H locs cells slots ls A F h hS h1 h2 h3 h4 hl
  exact lv_icmp_lt A.1 A.2.1 hdg e1 (fun q => kt q G B p l e R s m args below meth c Q H locs cells slots ls A F h hS h1 h2 h3 h4 hl) (fun q => kf q G B p l e R s m args below meth c Q H locs cells slots ls A F h hS h1 h2 h3 h4 hl)
theorem z_if_ge {X : zS} {M : zM} {d kc ks : Nat} {r : Option Value} {hp' : List zC} {pc : Nat} {L : List (Option Value)} {st : List Value} {hp : List zC} {x : Int32} {off : Int} (n1 n2 : Nat) (e1 : (pc : Int) + off = (n1 : Int)) (e2 : pc + 3 = n2) (hdg : decode M.2.1 pc = .ok (.ifCond .ge off, 3)) (kt : 0 ≤ x → Z X M d kc ks r hp' n1 L st hp) (kf : ¬ 0 ≤ x → Z X M d kc ks r hp' n2 L st hp) : Z X M d kc ks r hp' pc L (.int x :: st) hp := by
  subst e2
  intro G B p l e R s m args below meth c Q H locs cells slots ls A F h hS h1 h2 h3 h4 hl
  exact lv_if_ge A.1 A.2.1 hdg e1 (fun q => kt q G B p l e R s m args below meth c Q H locs cells slots ls A F h hS h1 h2 h3 h4 hl) (fun q => kf q G B p l e R s m args below meth c Q H locs cells slots ls A F h hS h1 h2 h3 h4 hl)
theorem z_icmp_ge {X : zS} {M : zM} {d kc ks : Nat} {r : Option Value} {hp' : List zC} {pc : Nat} {L : List (Option Value)} {st : List Value} {hp : List zC} {x y : Int32} {off : Int} (n1 n2 : Nat) (e1 : (pc : Int) + off = (n1 : Int)) (e2 : pc + 3 = n2) (hdg : decode M.2.1 pc = .ok (.if_icmp .ge off, 3)) (kt : y ≤ x → Z X M d kc ks r hp' n1 L st hp) (kf : ¬ y ≤ x → Z X M d kc ks r hp' n2 L st hp) : Z X M d kc ks r hp' pc L (.int y :: .int x :: st) hp := by
  subst e2
  intro G B p l e R s m args below meth c Q H locs cells slots ls A F h hS h1 h2 h3 h4 hl
  exact lv_icmp_ge A.1 A.2.1 hdg e1 (fun q => kt q G B p l e R s m args below meth c Q H locs cells slots ls A F h hS h1 h2 h3 h4 hl) (fun q => kf q G B p l e R s m args below meth c Q H locs cells slots ls A F h hS h1 h2 h3 h4 hl)
theorem z_if_gt {X : zS} {M : zM} {d kc ks : Nat} {r : Option Value} {hp' : List zC} {pc : Nat} {L : List (Option Value)} {st : List Value} {hp : List zC} {x : Int32} {off : Int} (n1 n2 : Nat) (e1 : (pc : Int) + off = (n1 : Int)) (e2 : pc + 3 = n2) (hdg : decode M.2.1 pc = .ok (.ifCond .gt off, 3)) (kt : 0 < x → Z X M d kc ks r hp' n1 L st hp) (kf : ¬ 0 < x → Z X M d kc ks r hp' n2 L st hp) : Z X M d kc ks r hp' pc L (.int x :: st) hp := by
  subst e2
  intro G B p l e R s m args below meth c Q H locs cells slots ls A F h hS h1 h2 h3 h4 hl
  exact lv_if_gt A.1 A.2.1 hdg e1 (fun q => kt q G B p l e R s m args below meth c Q H locs cells slots ls A F h hS h1 h2 h3 h4 hl) (fun q => kf q G B p l e R s m args below meth c Q H locs cells slots ls A F h hS h1 h2 h3 h4 hl)
theorem z_icmp_gt {X : zS} {M : zM} {d kc ks : Nat} {r : Option Value} {hp' : List zC} {pc : Nat} {L : List (Option Value)} {st : List Value} {hp : List zC} {x y : Int32} {off : Int} (n1 n2 : Nat) (e1 : (pc : Int) + off = (n1 : Int)) (e2 : pc + 3 = n2) (hdg : decode M.2.1 pc = .ok (.if_icmp .gt off, 3)) (kt : y < x → Z X M d kc ks r hp' n1 L st hp) (kf : ¬ y < x → Z X M d kc ks r hp' n2 L st hp) : Z X M d kc ks r hp' pc L (.int y :: .int x :: st) hp := by
  subst e2
  intro G B p l e R s m args below meth c Q H locs cells slots ls A F h hS h1 h2 h3 h4 hl
  exact lv_icmp_gt A.1 A.2.1 hdg e1 (fun q => kt q G B p l e R s m args below meth c Q H locs cells slots ls A F h hS h1 h2 h3 h4 hl) (fun q => kf q G B p l e R s m args below meth c Q H locs cells slots ls A F h hS h1 h2 h3 h4 hl)
theorem z_if_le {X : zS} {M : zM} {d kc ks : Nat} {r : Option Value} {hp' : List zC} {pc : Nat} {L : List (Option Value)} {st : List Value} {hp : List zC} {x : Int32} {off : Int} (n1 n2 : Nat) (e1 : (pc : Int) + off = (n1 : Int)) (e2 : pc + 3 = n2) (hdg : decode M.2.1 pc = .ok (.ifCond .le off, 3)) (kt : x ≤ 0 → Z X M d kc ks r hp' n1 L st hp) (kf : ¬ x ≤ 0 → Z X M d kc ks r hp' n2 L st hp) : Z X M d kc ks r hp' pc L (.int x :: st) hp := by
  subst e2
  intro G B p l e R s m args below meth c Q H locs cells slots ls A F h hS h1 h2 h3 h4 hl
  exact lv_if_le A.1 A.2.1 hdg e1 (fun q => kt q G B p l e R s m args below meth c Q H locs cells slots ls A F h hS h1 h2 h3 h4 hl) (fun q => kf q G B p l e R s m args below meth c Q H locs cells slots ls A F h hS h1 h2 h3 h4 hl)
theorem z_icmp_le {X : zS} {M : zM} {d kc ks : Nat} {r : Option Value} {hp' : List zC} {pc : Nat} {L : List (Option Value)} {st : List Value} {hp : List zC} {x y : Int32} {off : Int} (n1 n2 : Nat) (e1 : (pc : Int) + off = (n1 : Int)) (e2 : pc + 3 = n2) (hdg : decode M.2.1 pc = .ok (.if_icmp .le off, 3)) (kt : x ≤ y → Z X M d kc ks r hp' n1 L st hp) (kf : ¬ x ≤ y → Z X M d kc ks r hp' n2 L st hp) : Z X M d kc ks r hp' pc L (.int y :: .int x :: st) hp := by
  subst e2
  intro G B p l e R s m args below meth c Q H locs cells slots ls A F h hS h1 h2 h3 h4 hl
  exact lv_icmp_le A.1 A.2.1 hdg e1 (fun q => kt q G B p l e R s m args below meth c Q H locs cells slots ls A F h hS h1 h2 h3 h4 hl) (fun q => kf q G B p l e R s m args below meth c Q H locs cells slots ls A F h hS h1 h2 h3 h4 hl)
theorem z_goto {X : zS} {M : zM} {d kc ks : Nat} {r : Option Value} {hp' : List zC} {pc : Nat} {L : List (Option Value)} {st : List Value} {hp : List zC} {off : Int} (n : Nat) (en : (pc : Int) + off = (n : Int)) (hdg : decode M.2.1 pc = .ok (.goto off, 3)) (k : Z X M d kc ks r hp' n L st hp) : Z X M d kc ks r hp' pc L st hp := by
  intro G B p l e R s m args below meth c Q H locs cells slots ls A F h hS h1 h2 h3 h4 hl
  exact lv_goto A.1 A.2.1 hdg en (k G B p l e R s m args below meth c Q H locs cells slots ls A F h hS h1 h2 h3 h4 hl)
theorem z_ifnonnull {X : zS} {M : zM} {d kc ks : Nat} {r : Option Value} {hp' : List zC} {pc : Nat} {L : List (Option Value)} {st : List Value} {hp : List zC} {x : Nat} {off : Int} (n : Nat) (en : (pc : Int) + off = (n : Int)) (hdg : decode M.2.1 pc = .ok (.ifnonnull off, 3)) (k : Z X M d kc ks r hp' n L st hp) : Z X M d kc ks r hp' pc L (.ref x :: st) hp := by
  intro G B p l e R s m args below meth c Q H locs cells slots ls A F h hS h1 h2 h3 h4 hl
  exact lv_ifnonnull A.1 A.2.1 hdg en (k G B p l e R s m args below meth c Q H locs cells slots ls A F h hS h1 h2 h3 h4 hl)
theorem z_ifnull {X : zS} {M : zM} {d kc ks : Nat} {r : Option Value} {hp' : List zC} {pc : Nat} {L : List (Option Value)} {st : List Value} {hp : List zC} {x : Nat} {off : Int} (n : Nat) (en : pc + 3 = n) (hdg : decode M.2.1 pc = .ok (.ifnull off, 3)) (k : Z X M d kc ks r hp' n L st hp) : Z X M d kc ks r hp' pc L (.ref x :: st) hp := by
  subst en
  intro G B p l e R s m args below meth c Q H locs cells slots ls A F h hS h1 h2 h3 h4 hl
  exact lv_ifnull A.1 A.2.1 hdg (k G B p l e R s m args below meth c Q H locs cells slots ls A F h hS h1 h2 h3 h4 hl)
theorem z_ifnullN {X : zS} {M : zM} {d kc ks : Nat} {r : Option Value} {hp' : List zC} {pc : Nat} {L : List (Option Value)} {st : List Value} {hp : List zC} {off : Int} (n : Nat) (en : (pc : Int) + off = (n : Int)) (hdg : decode M.2.1 pc = .ok (.ifnull off, 3)) (k : Z X M d kc ks r hp' n L st hp) : Z X M d kc ks r hp' pc L (.null :: st) hp := by
  intro G B p l e R s m args below meth c Q H locs cells slots ls A F h hS h1 h2 h3 h4 hl
  exact lv_ifnullN A.1 A.2.1 hdg en (k G B p l e R s m args below meth c Q H locs cells slots ls A F h hS h1 h2 h3 h4 hl)
theorem z_ifnonnullN {X : zS} {M : zM} {d kc ks : Nat} {r : Option Value} {hp' : List zC} {pc : Nat} {L : List (Option Value)} {st : List Value} {hp : List zC} {off : Int} (n : Nat) (en : pc + 3 = n) (hdg : decode M.2.1 pc = .ok (.ifnonnull off, 3)) (k : Z X M d kc ks r hp' n L st hp) : Z X M d kc ks r hp' pc L (.null :: st) hp := by
  subst en
  intro G B p l e R s m args below meth c Q H locs cells slots ls A F h hS h1 h2 h3 h4 hl
  exact lv_ifnonnullN A.1 A.2.1 hdg (k G B p l e R s m args below meth c Q H locs cells slots ls A F h hS h1 h2 h3 h4 hl)
theorem z_tabOut {X : zS} {M : zM} {d kc ks : Nat} {r : Option Value} {hp' : List zC} {pc : Nat} {L : List (Option Value)} {st : List Value} {hp : List zC} {dflt lo hi : Int} {offs : Array Int} {len : Nat} {x : Int32} (n : Nat) (hx : x.toInt < lo ∨ hi < x.toInt) (en : (pc : Int) + dflt = (n : Int)) (hdg : decode M.2.1 pc = .ok (.tableswitch dflt lo hi offs, len)) (k : Z X M d kc ks r hp' n L st hp) : Z X M d kc ks r hp' pc L (.int x :: st) hp := by
  intro G B p l e R s m args below meth c Q H locs cells slots ls A F h hS h1 h2 h3 h4 hl
  exact lv_tableOut A.1 A.2.1 hdg hx en (k G B p l e R s m args below meth c Q H locs cells slots ls A F h hS h1 h2 h3 h4 hl)
theorem z_tabIn {X : zS} {M : zM} {d kc ks : Nat} {r : Option Value} {hp' : List zC} {pc : Nat} {L : List (Option Value)} {st : List Value} {hp : List zC} {dflt lo hi : Int} {offs : Array Int} {len : Nat} {x : Int32} {off : Int} (n : Nat) (hx1 : ¬ x.toInt < lo) (hx2 : ¬ hi < x.toInt) (ho : offs[(x.toInt - lo).toNat]? = some off) (en : (pc : Int) + off = (n : Int)) (hdg : decode M.2.1 pc = .ok (.tableswitch dflt lo hi offs, len)) (k : Z X M d kc ks r hp' n L st hp) : Z X M d kc ks r hp' pc L (.int x :: st) hp := by
  intro G B p l e R s m args below meth c Q H locs cells slots ls A F h hS h1 h2 h3 h4 hl
  exact lv_tableIn A.1 A.2.1 hdg hx1 hx2 ho en (k G B p l e R s m args below meth c Q H locs cells slots ls A F h hS h1 h2 h3 h4 hl)
theorem z_ret {X : zS} {M : zM} {d kc ks : Nat} {r : Option Value} {hp' : List zC} {pc : Nat} {L : List (Option Value)} {hp : List zC} {v : Value} (hdg : decode M.2.1 pc = .ok (zri (some v), 1)) (hv : some v = r) (hh : hp = hp') : Z X M d kc ks r hp' pc L [v] hp := by
  subst hv
  subst hh
  intro G B p l e R s m args below meth c Q H locs cells slots ls A F h hS h1 h2 h3 h4 hl
  exact F H locs cells slots pc ls h hS (by omega) (by omega) hdg
theorem z_ireturn {X : zS} {M : zM} {d kc ks : Nat} {r : Option Value} {hp' : List zC} {pc : Nat} {L : List (Option Value)} {hp : List zC} {v : Int32} (hdg : decode M.2.1 pc = .ok (.ireturn, 1)) (hv : some (.int v) = r) (hh : hp = hp') : Z X M d kc ks r hp' pc L [.int v] hp := z_ret hdg hv hh
theorem z_areturn {X : zS} {M : zM} {d kc ks : Nat} {r : Option Value} {hp' : List zC} {pc : Nat} {L : List (Option Value)} {hp : List zC} {v : Nat} (hdg : decode M.2.1 pc = .ok (.areturn, 1)) (hv : some (.ref v) = r) (hh : hp = hp') : Z X M d kc ks r hp' pc L [.ref v] hp := z_ret hdg hv hh
theorem z_areturnN {X : zS} {M : zM} {d kc ks : Nat} {r : Option Value} {hp' : List zC} {pc : Nat} {L : List (Option Value)} {hp : List zC} (hdg : decode M.2.1 pc = .ok (.areturn, 1)) (hv : some .null = r) (hh : hp = hp') : Z X M d kc ks r hp' pc L [.null] hp := z_ret hdg hv hh
theorem z_return {X : zS} {M : zM} {d kc ks : Nat} {r : Option Value} {hp' : List zC} {pc : Nat} {L : List (Option Value)} {hp : List zC} (hdg : decode M.2.1 pc = .ok (.return_, 1)) (hv : none = r) (hh : hp = hp') : Z X M d kc ks r hp' pc L [] hp := by
  subst hv
  subst hh
  intro G B p l e R s m args below meth c Q H locs cells slots ls A F h hS h1 h2 h3 h4 hl
  exact F H locs cells slots pc ls h hS (by omega) (by omega) hdg
end
section
/-! rows on the heap -/
/-- a field link: own's entry ix names the field k of the class ci -/
def zfl (own : String) (ix ci k : Nat) : Prop := ∃ (ref C : String) (T : u_T) (N : Nat), zCl[ci]? = some (C, T, N) ∧ k < N ∧ (∀ w ∈ u_ws C T N, w ∈ zT) ∧ Cond.fieldLink own ix ref (T k).2.1 (T k).2.2.1 ∈ zT ∧ (ref = (T k).1 ∨ Cond.sameField ref (T k).1 (T k).2.1 (T k).2.2.1 ∈ zT)
theorem z_get {X : zS} {M : zM} {d kc ks : Nat} {r : Option Value} {hp' : List zC} {pc : Nat} {L : List (Option Value)} {st : List Value} {hp : List zC} {ix ci k o : Nat} {fs : List Value} {v : Value} (n : Nat) (en : pc + 3 = n) (hf : zfl M.1.cls ix ci k) (ho : hp[o]? = some (.inr (.inr (ci, fs)))) (hv : fs[k]? = some v) (hdg : decode M.2.1 pc = .ok (.getfield ix, 3)) (kk : Z X M d kc ks r hp' n L (v :: st) hp) : Z X M d kc ks r hp' pc L (.ref o :: st) hp := by
  subst en
  intro G B p l e R s m args below meth c Q H locs cells slots ls A F h hS h1 h2 h3 h4 hl
  obtain ⟨ref, C, T, N, hc, hk, hin, hlk, hsm⟩ := hf
  refine va_get (D := G.1) (C := C) (T := T) (N := N) (ref := ref) A.1 A.2.1 A.2.2.2.2.1 hin A.2.2.2.1 A.2.2.2.2.2.1 h.1 o (zw_at ho) hc k hk (A.2.2.2.2.1 _ hlk) ?_ (v := zr B G.2.2 v) (by rw [List.getElem?_map, hv]; rfl) hdg (kk G B p l e R s m args below meth c Q H locs cells slots ls A F h hS h1 h2 h3 h4 hl)
  intro x hx
  rcases hsm with rfl | hsm
  · exact hx
  · exact u_same (A.2.2.2.2.1 _ hsm) x hx
/-- a class's table words, types, names -/
def zfp (own : String) (ix ci k : Nat) (fin : Bool) (ty : FieldType) : Prop := ∃ (C : String) (T : u_T) (N : Nat) (t : Nat → FieldType), zCl[ci]? = some (C, T, N) ∧ k < N ∧ (∀ w ∈ u_ws C T N, w ∈ zT) ∧ (∀ k, k < N → parseFieldDescriptor (T k).2.2.1 = some (t k)) ∧ (∀ a, a < N → ∀ b, b < N → a ≠ b → (T a).2.1 ≠ (T b).2.1) ∧ Cond.fieldLink own ix (T k).1 (T k).2.1 (T k).2.2.1 ∈ zT ∧ (T k).2.2.2 = fin ∧ (fin = true → (T k).1 = own) ∧ parseFieldDescriptor (T k).2.2.1 = some ty
/-- one cell is written -/
theorem zH.put {G : zG} {B : Nat} {hp : List zC} {H H1 : Heap} {o : Nat} {c0 c1 : zC} (h : zH G B hp H) (ho : hp[o]? = some c0) (he : va_at G.1 zCl (B + o, zrel G B c1) H1) (z : H1.size = H.size) (oq : ∀ q : Nat, q ≠ B + o → H1[q]? = H[q]?) : zH G B (hp.set o c1) H1 := by
  refine ⟨?_, by rw [z, h.2, List.length_set]⟩
  rw [← zw_set]
  exact h.1.set (zw_D G B hp) (zw_at ho) he oq
theorem zrel_obj (G : zG) (B ci : Nat) (fs : List Value) : zrel G B (.inr (.inr (ci, fs))) = .inr (ci, fs.map (zr B G.2.2)) := rfl
theorem z_put {X : zS} {M : zM} {d kc ks : Nat} {r : Option Value} {hp' : List zC} {pc : Nat} {L : List (Option Value)} {st : List Value} {hp : List zC} {ix ci k o : Nat} {fin : Bool} {ty : FieldType} {fs : List Value} {v : Value} (n : Nat) (en : pc + 3 = n) (hf : zfp M.1.cls ix ci k fin ty) (hi : fin = false ∨ M.1.name = "<init>") (ho : hp[o]? = some (.inr (.inr (ci, fs)))) (hn : ∀ (B : Nat) (Y : Nat → Nat), narrow ty (zr B Y v) = zr B Y v) (hfit : ∀ (B : Nat) (Y : Nat → Nat), fits ty (zr B Y v) = true) (hk' : k < fs.length) (hdg : decode M.2.1 pc = .ok (.putfield ix, 3)) (kk : Z X M d kc ks r hp' n L st (hp.set o (.inr (.inr (ci, fs.set k v))))) : Z X M d kc ks r hp' pc L (v :: .ref o :: st) hp := by
  subst en
  intro G B p l e R s m args below meth c Q H locs cells slots ls A F h hS h1 h2 h3 h4 hl
  obtain ⟨C, T, N, t, hc, hk, hin, hty, hnm, hlk, hfin, hdecl, hd⟩ := hf
  have hts := A.2.2.2.2.1
  have hK : zK G s := A.2.2.2.2.2.1
  have hap := va_apart (own := M.1.cls) (D := G.1) hts hin t hty hnm hK hc
  obtain ⟨r0, g1, cell, q1, q2, q3, q4⟩ := h.1 o _ (zw_at ho)
  have hr0 : r0 = (C, T, N) := Option.some.inj (g1.symm.trans hc)
  subst hr0
  obtain ⟨hSl, hfc, kC, hkC, hkind⟩ := hK.1 ci _ hc
  obtain ⟨cf, kf, fi, f, hfi, hsl⟩ := hSl k hk
  have hlay := hts _ (hin _ (u_in_lay hk))
  unfold u_lay at hlay
  have hst := (u_facts hfc hkC (u_lays hts hin hk) hfi).1
  have hcell : ∀ H' : Heap, H'[B + o]? = some (cell.setSlot f.slot (zr B G.2.2 v)) → va_at G.1 zCl (B + o, zrel G B (.inr (.inr (ci, fs.set k v)))) H' := by
    intro H' e1
    rw [hsl] at e1
    refine ⟨_, hc, t_OB.to (V := updV (vp_V (fs.map (zr B G.2.2))) k (zr B G.2.2 v)) ⟨_, e1, q2, q3, t_set q4 hap hk _⟩ (fun j _ => ?_)⟩
    rw [vp_updV_set (by simpa using hk')]
    show vp_V _ j = vp_V ((fs.set k v).map _) j
    rw [List.map_set]
  have fin2 : ∀ (H' : Heap) (sl : Nat), H'[B + o]? = some (cell.setSlot f.slot (zr B G.2.2 v)) → H'.size = H.size → (∀ q, q ≠ B + o → H'[q]? = H[q]?) → W p l e R s m args below meth c H' (locs ++ [⟨B + o, sl⟩]) cells slots Q (F0 m (pc + 3) ls (st.map (zr B G.2.2))) := fun H' sl e1 e2 e3 =>
    kk G B p l e R s m args below meth c Q H' _ cells slots ls A F (h.put ho (hcell H' e1) e2 e3) (hS.put e2 e3 (Nat.le_add_right B o)) h1 h2 h3 h4 hl
  cases fin with
  | false =>
    rw [if_neg (by rw [hfin]; decide)] at hlay
    have h6 := u_store hfc hkC hkind hlay hfi hd (hn B G.2.2) (hfit B G.2.2)
    exact W.putK A.1 A.2.1 (f := f) ⟨A.2.2.2.1, hts _ hlk, ⟨_, _, _, hfi⟩, hst⟩ (by rw [q2]; exact h6) q1 q3 (by rw [hsl]; exact k2_hasslot (q4 k hk)) rfl rfl hdg fun H' e1 e2 e3 => fin2 H' _ e1 e2 e3
  | true =>
    rw [if_pos hfin] at hlay
    have hcf : m.cls = cf := by
      obtain ⟨_, _, c', _, _, _, -, -, hf', -, -, -, hown2, -⟩ := Cond.laysFinal_spec hlay
      have e1 : c' = cf := by have := hfi.symm.trans hf'; simp at this; exact this.1.symm
      rw [hdecl rfl] at hown2
      rw [← e1]; exact Option.some.inj (A.2.2.2.1.symm.trans hown2)
    have h6 := u_fits hfc hkC hkind (Or.inr hlay) hfi hd (hn B G.2.2) (hfit B G.2.2)
    have hin2 : meth.name = "<init>" := by
      rcases hi with hi | hi
      · cases hi
      · rw [← hi]; exact A.2.2.2.2.2.2.2.1
    exact W.putFinK A.1 A.2.1 A.2.2.2.1 (hts _ hlk) hfi hst hcf hin2 (by rw [q2]; exact h6) q1 q3 (by rw [hsl]; exact k2_hasslot (q4 k hk)) rfl rfl hdg fun H' e1 e2 e3 => fin2 H' _ e1 e2 e3
theorem z_putI {X : zS} {M : zM} {d kc ks : Nat} {r : Option Value} {hp' : List zC} {pc : Nat} {L : List (Option Value)} {st : List Value} {hp : List zC} {ix ci k o : Nat} {fin : Bool} {fs : List Value} {v : Int32} (n : Nat) (en : pc + 3 = n) (hf : zfp M.1.cls ix ci k fin .int) (hi : fin = false ∨ M.1.name = "<init>") (ho : hp[o]? = some (.inr (.inr (ci, fs)))) (hk' : k < fs.length) (hdg : decode M.2.1 pc = .ok (.putfield ix, 3)) (kk : Z X M d kc ks r hp' n L st (hp.set o (.inr (.inr (ci, fs.set k (.int v)))))) : Z X M d kc ks r hp' pc L (.int v :: .ref o :: st) hp :=
  z_put n en hf hi ho (fun _ _ => rfl) (fun _ _ => rfl) hk' hdg kk
theorem z_iaload {X : zS} {M : zM} {d kc ks : Nat} {r : Option Value} {hp' : List zC} {pc : Nat} {L : List (Option Value)} {st : List Value} {hp : List zC} {o N : Nat} {f : Nat → Int32} {i : Int32} (j n : Nat) (en : pc + 1 = n) (ho : hp[o]? = some (.inl (N, f))) (hj : i = nI j) (hb : j < N) (hN : N < 2 ^ 31) (hdg : decode M.2.1 pc = .ok (.iaload, 1)) (kk : Z X M d kc ks r hp' n L (.int (f j) :: st) hp) : Z X M d kc ks r hp' pc L (.int i :: .ref o :: st) hp := by
  subst en
  subst hj
  intro G B p l e R s m args below meth c Q H locs cells slots ls A F h hS h1 h2 h3 h4 hl
  have e0 : (nI j).toNatClampNeg = j := nI_clamp (by omega)
  refine va_iald (D := G.1) A.1 A.2.1 A.2.2.2.2.2.1 h.1 o 0 (zw_at ho) rfl (vp_in_nI hb hN) hdg ?_
  rw [e0]
  exact kk G B p l e R s m args below meth c Q H locs cells slots ls A F h hS h1 h2 h3 h4 hl
theorem z_aaload {X : zS} {M : zM} {d kc ks : Nat} {r : Option Value} {hp' : List zC} {pc : Nat} {L : List (Option Value)} {st : List Value} {hp : List zC} {o t N : Nat} {C : String} {f : Nat → Option Nat} {i : Int32} {v : Value} (j n : Nat) (en : pc + 1 = n) (ho : hp[o]? = some (.inr (.inl (t, N, f)))) (hC : (t, C) = (0, "LightInRoom$Law") ∨ (t, C) = (1, "LightInRoom$Telling")) (hj : i = nI j) (hb : j < N) (hN : N < 2 ^ 31) (hv : va_rf (f j) = v) (hdg : decode M.2.1 pc = .ok (.aaload, 1)) (kk : Z X M d kc ks r hp' n L (v :: st) hp) : Z X M d kc ks r hp' pc L (.int i :: .ref o :: st) hp := by
  subst en
  subst hj
  subst hv
  intro G B p l e R s m args below meth c Q H locs cells slots ls A F h hS h1 h2 h3 h4 hl
  have e0 : (nI j).toNatClampNeg = j := nI_clamp (by omega)
  have ht : (zTy G)[t + 1]? = some (G.2.1 (t + 1), .object C) := by
    rcases hC with hC | hC <;> cases hC <;> rfl
  refine va_aldq (D := G.1) (C := C) A.1 A.2.1 A.2.2.2.2.2.1 h.1 o (t + 1) (zw_at ho) ht (vp_in_nI hb hN) hdg ?_
  rw [e0]
  have e2 : va_rf ((f j).map (B + ·)) = zr B G.2.2 (va_rf (f j)) := by cases f j <;> rfl
  rw [e2]
  exact kk G B p l e R s m args below meth c Q H locs cells slots ls A F h hS h1 h2 h3 h4 hl
theorem z_alenI {X : zS} {M : zM} {d kc ks : Nat} {r : Option Value} {hp' : List zC} {pc : Nat} {L : List (Option Value)} {st : List Value} {hp : List zC} {o N : Nat} {f : Nat → Int32} (n : Nat) (en : pc + 1 = n) (ho : hp[o]? = some (.inl (N, f))) (v : Int32) (hv : Int32.ofNat N = v) (hdg : decode M.2.1 pc = .ok (.arraylength, 1)) (kk : Z X M d kc ks r hp' n L (.int v :: st) hp) : Z X M d kc ks r hp' pc L (.ref o :: st) hp := by
  subst en
  intro G B p l e R s m args below meth c Q H locs cells slots ls A F h hS h1 h2 h3 h4 hl
  exact va_alen (D := G.1) A.1 A.2.1 A.2.2.2.2.2.1 h.1 o 0 (zw_at ho) rfl hv hdg (kk G B p l e R s m args below meth c Q H locs cells slots ls A F h hS h1 h2 h3 h4 hl)
theorem z_alenR {X : zS} {M : zM} {d kc ks : Nat} {r : Option Value} {hp' : List zC} {pc : Nat} {L : List (Option Value)} {st : List Value} {hp : List zC} {o t N : Nat} {f : Nat → Option Nat} (n : Nat) (en : pc + 1 = n) (ho : hp[o]? = some (.inr (.inl (t, N, f)))) (ht : t = 0 ∨ t = 1) (v : Int32) (hv : Int32.ofNat N = v) (hdg : decode M.2.1 pc = .ok (.arraylength, 1)) (kk : Z X M d kc ks r hp' n L (.int v :: st) hp) : Z X M d kc ks r hp' pc L (.ref o :: st) hp := by
  subst en
  intro G B p l e R s m args below meth c Q H locs cells slots ls A F h hS h1 h2 h3 h4 hl
  rcases ht with rfl | rfl
  · exact va_alen (D := G.1) A.1 A.2.1 A.2.2.2.2.2.1 h.1 o 1 (zw_at ho) rfl hv hdg (kk G B p l e R s m args below meth c Q H locs cells slots ls A F h hS h1 h2 h3 h4 hl)
  · exact va_alen (D := G.1) A.1 A.2.1 A.2.2.2.2.2.1 h.1 o 2 (zw_at ho) rfl hv hdg (kk G B p l e R s m args below meth c Q H locs cells slots ls A F h hS h1 h2 h3 h4 hl)
theorem z_iastore {X : zS} {M : zM} {d kc ks : Nat} {r : Option Value} {hp' : List zC} {pc : Nat} {L : List (Option Value)} {st : List Value} {hp : List zC} {o N : Nat} {f : Nat → Int32} {i x : Int32} (j n : Nat) (en : pc + 1 = n) (ho : hp[o]? = some (.inl (N, f))) (hj : i = nI j) (hb : j < N) (hN : N < 2 ^ 31) (hdg : decode M.2.1 pc = .ok (.iastore, 1)) (kk : Z X M d kc ks r hp' n L st (hp.set o (.inl (N, upd f j x)))) : Z X M d kc ks r hp' pc L (.int x :: .int i :: .ref o :: st) hp := by
  subst en
  subst hj
  intro G B p l e R s m args below meth c Q H locs cells slots ls A F h hS h1 h2 h3 h4 hl
  have e0 : (nI j).toNatClampNeg = j := nI_clamp (by omega)
  have hK : zK G s := A.2.2.2.2.2.1
  refine W.iast A.1 A.2.1 (h.1 o _ (zw_at ho)) ((hK.2 0 _ rfl).1 N (fun j => .int (f j))) (fun q => by cases q) (by show ¬ (nI j < 0 ∨ (arrV _ _ _).slots.size ≤ _); rw [arrV_size]; exact vp_in_nI hb hN) rfl rfl hdg fun H1 ew z oq => ?_
  refine kk G B p l e R s m args below meth c Q H1 _ cells slots ls A F (h.put ho ?_ z oq) (hS.put z oq (Nat.le_add_right B o)) h1 h2 h3 h4 hl
  show H1[B + o]? = some (vp_cell _ _)
  rw [ew]
  show some ((vp_cell (G.2.1 0) (N, .inl f)).setSlot _ _) = _
  rw [vp_cell_i, vp_cell_i, arrV_store, e0]
  congr 2
  funext q
  by_cases hq : q = j
  · subst hq
    simp [updV, upd]
  · simp [updV, upd, hq]
theorem z_aastore {X : zS} {M : zM} {d kc ks : Nat} {r : Option Value} {hp' : List zC} {pc : Nat} {L : List (Option Value)} {st : List Value} {hp : List zC} {o t N v ci : Nat} {C C1 : String} {T : u_T} {N1 : Nat} {fs : List Value} {f : Nat → Option Nat} {i : Int32} (j n : Nat) (en : pc + 1 = n) (ho : hp[o]? = some (.inr (.inl (t, N, f)))) (hv : hp[v]? = some (.inr (.inr (ci, fs)))) (hc : zCl[ci]? = some (C1, T, N1)) (hC : (t = 0 ∧ C1 = "LightInRoom$Law") ∨ (t = 1 ∧ C1 ∈ zCast)) (hj : i = nI j) (hb : j < N) (hN : N < 2 ^ 31) (hdg : decode M.2.1 pc = .ok (.aastore, 1)) (kk : Z X M d kc ks r hp' n L st (hp.set o (.inr (.inl (t, N, va_up f j (some v)))))) : Z X M d kc ks r hp' pc L (.ref v :: .int i :: .ref o :: st) hp := by
  subst en
  subst hj
  intro G B p l e R s m args below meth c Q H locs cells slots ls A F h hS h1 h2 h3 h4 hl
  have e0 : (nI j).toNatClampNeg = j := nI_clamp (by omega)
  have hK : zK G s := A.2.2.2.2.2.1
  obtain ⟨r', hr', cellV, g1, g2, g3, -⟩ := h.1 v _ (zw_at hv)
  have hcls := (hK.1 ci _ hc).2
  obtain ⟨kC, hkC, -⟩ := hcls.2
  have hinA : ¬ nI j < 0 := nI_pos (by omega)
  have core : ∀ (C : String), (zTy G)[t + 1]? = some (G.2.1 (t + 1), .object C) → (∀ comp : ClassId, s.vm.findClass C = some comp → s.vm.assignable (G.1.1 ci) comp = true) → W p l e R s m args below meth c H locs cells slots Q (F0 m pc ls ((.ref v :: .int (nI j) :: .ref o :: st).map (zr B G.2.2))) := by
    intro C ht hasg
    obtain ⟨kA, comp, k1, k2, k3, -⟩ := (hK.2 (t + 1) _ ht).2
    obtain ⟨kE, hkE, -⟩ := Vm.findClass_spec k3
    refine W.aast A.1 A.2.1 (h.1 o _ (zw_at ho)) (fun q h => by cases h) (fun h => by cases h) k1 k2 rfl hkE ⟨hinA, by show _ < (arrV _ _ _).slots.size; rw [arrV_size, e0]; exact hb⟩ g1 (fun q h => by rw [g3] at h; cases h) (by rw [g2]; exact hkC) (by rw [g2]; exact hasg comp k3) rfl rfl hdg fun H1 ew z oq => ?_
    refine kk G B p l e R s m args below meth c Q H1 _ cells slots ls A F (h.put ho ?_ z oq) (hS.put z oq (Nat.le_add_right B o)) h1 h2 h3 h4 hl
    show H1[B + o]? = some (vp_cell _ _)
    rw [ew]
    show some ((vp_cell (G.2.1 (t + 1)) (N, .inr (.inr (.inr (.inr (fun j => (f j).map (B + ·))))))).setSlot _ _) = _
    rw [vp_cell_q, vp_cell_q, arrV_store, e0]
    congr 2
    funext q
    by_cases hq : q = j
    · subst hq
      simp [updV, va_up, va_rf]
    · simp [updV, va_up, hq]
  rcases hC with ⟨rfl, rfl⟩ | ⟨rfl, hC⟩
  · refine core _ rfl (fun comp hcomp => ?_)
    have : comp = G.1.1 ci := Option.some.inj (hcomp.symm.trans hcls.1)
    subst this
    exact va_assign hcls
  · refine core _ rfl (fun comp hcomp => ?_)
    obtain ⟨c0, t1, f1, f2, f3⟩ := Cond.castable_spec (va_Nw.use (A := args) rfl (A.2.2.2.2.2.2.1.2.1 _ hC))
    cases hcls.1.symm.trans f1
    cases hcomp.symm.trans f2
    exact f3
theorem z_aastoreN {X : zS} {M : zM} {d kc ks : Nat} {r : Option Value} {hp' : List zC} {pc : Nat} {L : List (Option Value)} {st : List Value} {hp : List zC} {o t N : Nat} {f : Nat → Option Nat} {i : Int32} (j n : Nat) (en : pc + 1 = n) (ho : hp[o]? = some (.inr (.inl (t, N, f)))) (ht : t = 0 ∨ t = 1) (hj : i = nI j) (hb : j < N) (hN : N < 2 ^ 31) (hdg : decode M.2.1 pc = .ok (.aastore, 1)) (kk : Z X M d kc ks r hp' n L st (hp.set o (.inr (.inl (t, N, va_up f j none))))) : Z X M d kc ks r hp' pc L (.null :: .int i :: .ref o :: st) hp := by
  subst en
  subst hj
  intro G B p l e R s m args below meth c Q H locs cells slots ls A F h hS h1 h2 h3 h4 hl
  have e0 : (nI j).toNatClampNeg = j := nI_clamp (by omega)
  have hK : zK G s := A.2.2.2.2.2.1
  have ht : ∃ C : String, (zTy G)[t + 1]? = some (G.2.1 (t + 1), .object C) := by rcases ht with rfl | rfl <;> exact ⟨_, rfl⟩
  obtain ⟨C, ht⟩ := ht
  refine va_WaastN (C := C) A.1 A.2.1 (h.1 o _ (zw_at ho)) ((hK.2 (t + 1) _ ht).1 N (fun j => va_rf ((f j).map (B + ·)))) (fun h => by cases h) (by show ¬ (nI j < 0 ∨ (arrV _ _ _).slots.size ≤ _); rw [arrV_size]; exact vp_in_nI hb hN) rfl rfl hdg fun H1 ew z oq => ?_
  refine kk G B p l e R s m args below meth c Q H1 _ cells slots ls A F (h.put ho ?_ z oq) (hS.put z oq (Nat.le_add_right B o)) h1 h2 h3 h4 hl
  show H1[B + o]? = some (vp_cell _ _)
  rw [ew]
  show some ((vp_cell (G.2.1 (t + 1)) (N, .inr (.inr (.inr (.inr (fun j => (f j).map (B + ·))))))).setSlot _ _) = _
  rw [vp_cell_q, vp_cell_q, arrV_store, e0]
  congr 2
  funext q
  by_cases hq : q = j
  · subst hq
    simp [updV, va_up, va_rf]
  · simp [updV, va_up, hq]
end
section
/-! rows that make cells; calls -/
theorem zH.push {G : zG} {B : Nat} {hp : List zC} {H H1 : Heap} {c1 : zC} (h : zH G B hp H) (he : va_at G.1 zCl (H.size, zrel G B c1) H1) (z : H1.size = H.size + 1) (oq : ∀ q : Nat, q < H.size → H1[q]? = H[q]?) : zH G B (hp ++ [c1]) H1 := by
  refine ⟨?_, by rw [z, h.2, List.length_append]; simp; omega⟩
  rw [zw_push, ← h.2]
  refine (h.1.kept (fun k x hx => oq x.1 ((h.1 k x hx).lt))).app (fun k x hx => ?_)
  have hz : k < 1 := (List.getElem?_eq_some_iff.mp hx).1
  rw [show k = 0 by omega] at hx
  cases hx
  exact he
theorem va_S.push {A : Nat → Prop} {H0 H H1 : Heap} {locs : List Loc} (h : va_S A H0 H locs) (z : H1.size = H.size + 1) (oq : ∀ q : Nat, q < H.size → H1[q]? = H[q]?) : va_S A H0 H1 locs :=
  ⟨Nat.le_trans h.1 (by omega), fun x g1 g2 => (oq x (Nat.lt_of_lt_of_le g1 h.1)).trans (h.2.1 x g1 g2), h.2.2⟩
def zcNew (own : String) (ix ci : Nat) (fs : List Value) : Prop := ∃ (C : String) (T : u_T) (N : Nat) (t : Nat → FieldType), zCl[ci]? = some (C, T, N) ∧ (∀ w ∈ u_ws C T N, w ∈ zT) ∧ (∀ k, k < N → parseFieldDescriptor (T k).2.2.1 = some (t k)) ∧ Cond.classLink own ix C ∈ zT ∧ Cond.instantiable C N ∈ zT ∧ Cond.initialized C ∈ zT ∧ (∀ j, j < N → defaultValue (t j) = vp_V fs j) ∧ fs.length = N
theorem z_new {X : zS} {M : zM} {d kc ks : Nat} {r : Option Value} {hp' : List zC} {pc : Nat} {L : List (Option Value)} {st : List Value} {hp : List zC} {ix ci kc1 ks1 : Nat} {fs : List Value} (n o : Nat) (hp1 : List zC) (en : pc + 3 = n) (hf : zcNew M.1.cls ix ci fs) (hfs : ∀ (B : Nat) (Y : Nat → Nat), fs.map (zr B Y) = fs) (hkc : kc = kc1 + 1) (hks : ks = ks1 + fs.length) (ho : hp.length = o) (hq : hp ++ [.inr (.inr (ci, fs))] = hp1) (hdg : decode M.2.1 pc = .ok (.new ix, 3)) (kk : Z X M d kc1 ks1 r hp' n L (.ref o :: st) hp1) : Z X M d kc ks r hp' pc L st hp := by
  subst en
  subst ho
  subst hq
  intro G B p l e R s m args below meth c Q H locs cells slots ls A F h hS h1 h2 h3 h4 hl
  obtain ⟨C, T, N, t, hc, hin, hty, hcl, hinst, hini, hd, hN⟩ := hf
  have hts := A.2.2.2.2.1
  have hK : zK G s := A.2.2.2.2.2.1
  have hKn := hK.1 ci _ hc
  refine W.newcK A.1 A.2.1 A.2.2.2.1 (hts _ hcl) (hts _ hinst) (hts _ hini) rfl hdg (by omega) (by omega) hKn.2.1 rfl fun H1 kC hkC e1 z1 o1 => ?_
  have hH1 : zH G B (hp ++ [.inr (.inr (ci, fs))]) H1 := by
    refine h.push ?_ z1 o1
    refine ⟨_, hc, (u_born t hts hin hKn hkC e1 hty).to (fun j hj => ?_)⟩
    rw [hd j hj]
    show _ = vp_V (fs.map _) j
    rw [hfs]
  have := kk G B p l e R s m args below meth c Q H1 locs (cells + 1) (slots + N) ls A F hH1 (hS.push z1 o1) h1 h2 (by omega) (by omega) hl
  rw [h.2]
  exact this
theorem z_newarray {X : zS} {M : zM} {d kc ks : Nat} {r : Option Value} {hp' : List zC} {pc : Nat} {L : List (Option Value)} {st : List Value} {hp : List zC} {kc1 ks1 : Nat} (N : Nat) {i : Int32} (n o : Nat) (hp1 : List zC) (en : pc + 2 = n) (hw : Cond.arrayClass .int ∈ zT) (hi : i = nI N) (hN : N < 1000) (hkc : kc = kc1 + 1) (hks : ks = ks1 + N) (ho : hp.length = o) (hq : hp ++ [.inl (N, fun _ => 0)] = hp1) (hdg : decode M.2.1 pc = .ok (.newarray .int, 2)) (kk : Z X M d kc1 ks1 r hp' n L (.ref o :: st) hp1) : Z X M d kc ks r hp' pc L (.int i :: st) hp := by
  subst en
  subst ho
  subst hq
  subst hi
  intro G B p l e R s m args below meth c Q H locs cells slots ls A F h hS h1 h2 h3 h4 hl
  have hts := A.2.2.2.2.1
  have hK : zK G s := A.2.2.2.2.2.1
  refine va_newaK (atype := .int) A.1 A.2.1 (hts _ hw) rfl hdg rfl (nI_pos (by omega)) (nI_clamp (by omega)) (by show N * 4 ≤ 536870912; omega) (by omega) (by omega) rfl fun H1 cA e1 z1 o1 hAr hNm => ?_
  have hcA : cA = G.2.1 0 := Option.some.inj (hNm.symm.trans (hK.2 0 _ rfl).2)
  subst hcA
  have hH1 : zH G B (hp ++ [.inl (N, fun _ => 0)]) H1 := h.push e1 z1 o1
  have := kk G B p l e R s m args below meth c Q H1 locs (cells + 1) (slots + N) ls A F hH1 (hS.push z1 o1) h1 h2 (by omega) (by omega) hl
  rw [h.2]
  exact this
theorem z_anewarray {X : zS} {M : zM} {d kc ks : Nat} {r : Option Value} {hp' : List zC} {pc : Nat} {L : List (Option Value)} {st : List Value} {hp : List zC} {kc1 ks1 t ix : Nat} {C : String} (N : Nat) {i : Int32} (n o : Nat) (hp1 : List zC) (en : pc + 3 = n) (hC : (t, C) = (0, "LightInRoom$Law") ∨ (t, C) = (1, "LightInRoom$Telling")) (hw : Cond.classLink M.1.cls ix C ∈ zT) (hi : i = nI N) (hN : N < 1000) (hkc : kc = kc1 + 1) (hks : ks = ks1 + N) (ho : hp.length = o) (hq : hp ++ [.inr (.inl (t, N, fun _ => none))] = hp1) (hdg : decode M.2.1 pc = .ok (.anewarray ix, 3)) (kk : Z X M d kc1 ks1 r hp' n L (.ref o :: st) hp1) : Z X M d kc ks r hp' pc L (.int i :: st) hp := by
  subst en
  subst ho
  subst hq
  subst hi
  intro G B p l e R s m args below meth c Q H locs cells slots ls A F h hS h1 h2 h3 h4 hl
  have hts := A.2.2.2.2.1
  have hK : zK G s := A.2.2.2.2.2.1
  have e0 : (nI N).toNatClampNeg = N := nI_clamp (by omega)
  have hA : va_AO C s := by
    rcases hC with hC | hC <;> cases hC
    · exact A.2.2.2.2.2.2.1.2.2.2.1
    · exact A.2.2.2.2.2.2.1.2.2.2.2.1
  have ht : (zTy G)[t + 1]? = some (G.2.1 (t + 1), .object C) := by
    rcases hC with hC | hC <;> cases hC <;> rfl
  refine W.anew A.1 A.2.1 A.2.2.2.1 (hts _ hw) (va_AO.use hA) rfl hdg rfl (nI_pos (by omega)) (by rw [e0]; omega) (by omega) (by rw [e0]; omega) fun cA kA comp f1 f2 f3 f4 => ?_
  obtain ⟨_, _, _, _, _, g4⟩ := (hK.2 (t + 1) _ ht).2
  have hcA : cA = G.2.1 (t + 1) := Option.some.inj (f1.symm.trans g4)
  subst hcA
  rw [e0]
  generalize hH1 : H.push ({ cls := G.2.1 (t + 1), slots := Array.replicate N .null, vm := .none } : Cell) = H1
  have z1 : H1.size = H.size + 1 := by rw [← hH1, Array.size_push]
  have o1 : ∀ q : Nat, q < H.size → H1[q]? = H[q]? := fun q hq => by rw [← hH1, Array.getElem?_push, if_neg (Nat.ne_of_lt hq)]
  have e1 : H1[H.size]? = some (arrV (G.2.1 (t + 1)) N (fun _ => .null)) := by rw [← hH1, Array.getElem?_push_size, ← arrV_new]
  have hH : zH G B (hp ++ [.inr (.inl (t, N, fun _ => none))]) H1 := h.push e1 z1 o1
  have := kk G B p l e R s m args below meth c Q H1 locs (cells + 1) (slots + N) ls A F hH (hS.push z1 o1) h1 h2 (by omega) (by omega) hl
  rw [h.2]
  exact this
theorem z_objInit {X : zS} {M : zM} {d kc ks : Nat} {r : Option Value} {hp' : List zC} {pc : Nat} {L : List (Option Value)} {st : List Value} {hp : List zC} {ix o : Nat} (n : Nat) (en : pc + 3 = n) (hw1 : Cond.methodLink M.1.cls ix objectInit ∈ zT) (hw2 : Cond.instanceMethod objectInit ∈ zT) (hw3 : Cond.code objectInit ⟨#[0xb1]⟩ 1 none ∈ zT) (hd : 1 ≤ d) (hst : (st.map fun v => v.category).sum ≤ 8) (hdg : decode M.2.1 pc = .ok (.invokespecial ix, 3)) (kk : Z X M d kc ks r hp' n L st hp) : Z X M d kc ks r hp' pc L (.ref o :: st) hp := by
  subst en
  intro G B p l e R s m args below meth c Q H locs cells slots ls A F h hS h1 h2 h3 h4 hl
  have hts := A.2.2.2.2.1
  have hcat : ((st.map (zr B G.2.2)).map fun v => v.category).sum ≤ 8 := by
    rw [List.map_map]
    have : ((fun v => Value.category v) ∘ zr B G.2.2) = fun v => Value.category v := funext fun v => zr_cat B G.2.2 v
    rw [this]; exact hst
  refine W.objInit A.1 A.2.1 A.2.2.2.1 (hts _ hw1) (hts _ hw2) (hts _ hw3) rfl (by rw [A.2.2.1]; exact hl.1) rfl hdg (by omega) (by show 2 * 0 + _ + 12 ≤ _; omega) ?_
  exact kk G B p l e R s m args below meth c Q H locs cells slots ls A F h hS h1 h2 h3 h4 hl
theorem z_cats {B : Nat} {Y : Nat → Nat} {st : List Value} (h : (st.map fun v => v.category).sum ≤ 8) : ((st.map (zr B Y)).map fun v => v.category).sum ≤ 8 := by
  rw [List.map_map]
  have : ((fun v => Value.category v) ∘ zr B Y) = fun v => Value.category v := funext fun v => zr_cat B Y v
  rw [this]; exact h
/-- what the words say of a method, for a call -/
def zcM (M' : zM) (n : Nat) : Prop := Cond.code M'.1 M'.2.1 M'.2.2.1 M'.2.2.2 ∈ zT ∧ Cond.initialized M'.1.cls ∈ zT ∧ (M'.1.cls ≠ "java/lang/invoke/MethodHandle" ∧ M'.1.cls ≠ "java/lang/invoke/VarHandle" ∧ (parseMethodDescriptor M'.1.desc).map (fun d => d.parameters.length) = some n) ∧ M'.2.2.1 ≤ 41
theorem z_callB {X : zS} {M M' : zM} {G : zG} {B : Nat} {p : Program} {R : Room} {s : State} {m : MethodId} {args : Array Value} {meth : Method} {c : Code} {ix nn d d' mc ms : Nat} (A : zAt X M G B p s m args meth c) (hm : zcM M' nn) (hlk : Cond.methodLink M.1.cls ix M'.1 ∈ zT) (hd : d' + 1 ≤ d) (h1 : d ≤ R.frames) (h2 : 60 * d ≤ R.locals) :
    CallB R s args M.1.cls ix M'.1 M'.2.1 M'.2.2.1 M'.2.2.2 (Cond.code M'.1 M'.2.1 M'.2.2.1 M'.2.2.2 :: zT) { frames := d', cells := mc, slots := ms, locals := 60 * d' } mc ms nn :=
  callB_of nn A.2.2.2.2.1 (zT_GI hm.1) rfl rfl rfl (A.2.2.2.2.1 _ hm.2.1) (A.2.2.2.2.1 _ hlk) hm.2.2.1 ⟨Nat.le_trans hd h1, by have := hm.2.2.2; show 8 + (_ + 11) + 60 * d' ≤ _; omega⟩
theorem z_preV {X : zS} {M : zM} {G : zG} {B : Nat} {p : Program} {s : State} {m : MethodId} {args : Array Value} {meth : Method} {c : Code} {H : Heap} {locs : List Loc} {hp : List zC} {o ci : Nat} {fs : List Value} {C : String} {T : u_T} {N : Nat} (A : zAt X M G B p s m args meth c) (hS : va_S (fun q => B ≤ q) s.heap H locs) (h : zH G B hp H) (ho : hp[o]? = some (.inr (.inr (ci, fs)))) (hc : zCl[ci]? = some (C, T, N)) (av : List Value) :
    PreV s H C (B + o) (va_Pc ((.ref o :: av).map (zr B G.2.2)) (fun U => zH G B hp U.heap ∧ zK G U ∧ zX X G B U U.heap)) (av.map (zr B G.2.2)) :=
  ⟨z_blind _, va_recv (D := G.1) A.2.2.2.2.2.1 h.1 hc (zw_at ho), (z_preS A hS h ((.ref o :: av).map (zr B G.2.2))).2⟩
theorem z_invs {X : zS} {M : zM} {d kc ks : Nat} {r : Option Value} {hp' : List zC} {pc : Nat} {L : List (Option Value)} {st : List Value} {hp : List zC} {as : List Value} {v : Value} {M' : zM} {ix nn d' mc ms kc1 ks1 : Nat} {hp1 : List zC} {st0 : List Value} (n : Nat) (en : pc + 3 = n) (hm : zcM M' nn) (hlk : Cond.methodLink M.1.cls ix M'.1 ∈ zT) (hs : Cond.static M'.1 ∈ zT) (hdg : decode M.2.1 pc = .ok (.invokestatic ix, 3)) (hr : Ret d' mc ms M' as hp (some v) hp1) (hst : st0 = (as.reverse ++ st)) (hn : as.length = nn) (hd : d' + 1 ≤ d) (hkc : kc = kc1 + mc) (hks : ks = ks1 + ms) (hw : (st.map fun v => v.category).sum ≤ 8) (kk : Z X M d kc1 ks1 r hp' n L (v :: st) hp1) : Z X M d kc ks r hp' pc L st0 hp := by
  subst en
  subst hst
  intro G B p l e R s m args below meth c Q H locs cells slots ls A F h hS h1 h2 h3 h4 hl
  have hsz : ls.size = M.2.2.1 := hl.1
  have hlen : (as.map (zr B G.2.2)).length = nn := by rw [List.length_map]; exact hn
  refine z_run (X := X) (M := M) (G := G) (av := #[]) (rest := st.map (zr B G.2.2)) (r := ((some v) : Option Value).map (zr B G.2.2)) (hp1 := hp1) hS (va_runS (As := as.map (zr B G.2.2)) ⟨A.1, A.2.1, A.2.2.1, A.2.2.2.1, A.2.2.2.2.1⟩ (hr X l G B) ⟨z_callB A hm hlk hd h1 h2, A.2.2.2.2.1 _ hs⟩ (z_preS A hS h _) rfl hlen hsz (by rw [List.map_append, List.map_reverse]) (lv_room (z_cats hw)) hdg ⟨by omega, by omega⟩) (fun H1 locs1 g1 g2 => ?_)
  exact kk G B p l e R s m args below meth c Q H1 locs1 (cells + mc) (slots + ms) ls A F g1 g2 h1 h2 (by omega) (by omega) hl
theorem z_invv {X : zS} {M : zM} {d kc ks : Nat} {r : Option Value} {hp' : List zC} {pc : Nat} {L : List (Option Value)} {st : List Value} {hp : List zC} {o : Nat} {as : List Value} {v : Value} {M' : zM} {ix nn d' mc ms kc1 ks1 : Nat} {hp1 : List zC} {st0 : List Value} {ci : Nat} {fs : List Value} {C : String} {T : u_T} {N : Nat} (n : Nat) (en : pc + 3 = n) (hm : zcM M' nn) (hlk : Cond.methodLink M.1.cls ix M'.1 ∈ zT) (hi : Cond.instanceMethod M'.1 ∈ zT) (hsel : Cond.selects C M'.1 M'.1 ∈ zT) (hc : zCl[ci]? = some (C, T, N)) (ho : hp[o]? = some (.inr (.inr (ci, fs)))) (hdg : decode M.2.1 pc = .ok (.invokevirtual ix, 3)) (hr : Ret d' mc ms M' (.ref o :: as) hp (some v) hp1) (hst : st0 = (as.reverse ++ .ref o :: st)) (hn : as.length = nn) (hd : d' + 1 ≤ d) (hkc : kc = kc1 + mc) (hks : ks = ks1 + ms) (hw : (st.map fun v => v.category).sum ≤ 8) (kk : Z X M d kc1 ks1 r hp' n L (v :: st) hp1) : Z X M d kc ks r hp' pc L st0 hp := by
  subst en
  subst hst
  intro G B p l e R s m args below meth c Q H locs cells slots ls A F h hS h1 h2 h3 h4 hl
  have hsz : ls.size = M.2.2.1 := hl.1
  have hlen : (as.map (zr B G.2.2)).length = nn := by rw [List.length_map]; exact hn
  refine z_run (X := X) (M := M) (G := G) (av := #[]) (rest := st.map (zr B G.2.2)) (r := ((some v) : Option Value).map (zr B G.2.2)) (hp1 := hp1) hS (va_runV (b := B + o) (C := C) (As := as.map (zr B G.2.2)) ⟨A.1, A.2.1, A.2.2.1, A.2.2.2.1, A.2.2.2.2.1⟩ (hr X l G B) ⟨z_callB A hm hlk hd h1 h2, A.2.2.2.2.1 _ hi, A.2.2.2.2.1 _ hsel⟩ (z_preV A hS h ho hc as) rfl hlen hsz (by rw [List.map_append, List.map_reverse]; rfl) (lv_room (z_cats hw)) hdg ⟨by omega, by omega⟩) (fun H1 locs1 g1 g2 => ?_)
  exact kk G B p l e R s m args below meth c Q H1 locs1 (cells + mc) (slots + ms) ls A F g1 g2 h1 h2 (by omega) (by omega) hl
theorem z_invSN {X : zS} {M : zM} {d kc ks : Nat} {r : Option Value} {hp' : List zC} {pc : Nat} {L : List (Option Value)} {st : List Value} {hp : List zC} {as : List Value} {v : Value} {M' : zM} {ix nn d' mc ms kc1 ks1 : Nat} {hp1 : List zC} {st0 : List Value} (n : Nat) (en : pc + 3 = n) (hm : zcM M' nn) (hlk : (M.1.cls, ix, M'.1) ∈ zNest) (hs : Cond.static M'.1 ∈ zT) (hdg : decode M.2.1 pc = .ok (.invokestatic ix, 3)) (hr : Ret d' mc ms M' as hp (some v) hp1) (hst : st0 = (as.reverse ++ st)) (hn : as.length = nn) (hd : d' + 1 ≤ d) (hkc : kc = kc1 + mc) (hks : ks = ks1 + ms) (hw : (st.map fun v => v.category).sum ≤ 8) (kk : Z X M d kc1 ks1 r hp' n L (v :: st) hp1) : Z X M d kc ks r hp' pc L st0 hp := by
  subst en
  subst hst
  intro G B p l e R s m args below meth c Q H locs cells slots ls A F h hS h1 h2 h3 h4 hl
  have hsz : ls.size = M.2.2.1 := hl.1
  have hlen : (as.map (zr B G.2.2)).length = nn := by rw [List.length_map]; exact hn
  refine z_run (X := X) (M := M) (G := G) (av := #[]) (rest := st.map (zr B G.2.2)) (r := ((some v) : Option Value).map (zr B G.2.2)) (hp1 := hp1) hS (va_runSN (host := "LightInRoom") (As := as.map (zr B G.2.2)) ⟨A.1, A.2.1, A.2.2.1, A.2.2.2.1, A.2.2.2.2.1⟩ (hr X l G B) ⟨va_cnB nn A.2.2.2.2.1 (zT_GI hm.1) rfl rfl rfl (A.2.2.2.2.2.2.1.1 _ hlk) (A.2.2.2.2.1 _ hm.2.1) hm.2.2.1 ⟨Nat.le_trans hd h1, by have := hm.2.2.2; show 8 + (_ + 11) + 60 * d' ≤ _; omega⟩, A.2.2.2.2.1 _ hs, trivial⟩ (z_preS A hS h _) rfl hlen hsz (by rw [List.map_append, List.map_reverse]) (lv_room (z_cats hw)) hdg ⟨by omega, by omega⟩) (fun H1 locs1 g1 g2 => ?_)
  exact kk G B p l e R s m args below meth c Q H1 locs1 (cells + mc) (slots + ms) ls A F g1 g2 h1 h2 (by omega) (by omega) hl
theorem z_invsv {X : zS} {M : zM} {d kc ks : Nat} {r : Option Value} {hp' : List zC} {pc : Nat} {L : List (Option Value)} {st : List Value} {hp : List zC} {as : List Value} {M' : zM} {ix nn d' mc ms kc1 ks1 : Nat} {hp1 : List zC} {st0 : List Value} (n : Nat) (en : pc + 3 = n) (hm : zcM M' nn) (hlk : Cond.methodLink M.1.cls ix M'.1 ∈ zT) (hs : Cond.static M'.1 ∈ zT) (hdg : decode M.2.1 pc = .ok (.invokestatic ix, 3)) (hr : Ret d' mc ms M' as hp none hp1) (hst : st0 = (as.reverse ++ st)) (hn : as.length = nn) (hd : d' + 1 ≤ d) (hkc : kc = kc1 + mc) (hks : ks = ks1 + ms) (hw : (st.map fun v => v.category).sum ≤ 8) (kk : Z X M d kc1 ks1 r hp' n L st hp1) : Z X M d kc ks r hp' pc L st0 hp := by
  subst en
  subst hst
  intro G B p l e R s m args below meth c Q H locs cells slots ls A F h hS h1 h2 h3 h4 hl
  have hsz : ls.size = M.2.2.1 := hl.1
  have hlen : (as.map (zr B G.2.2)).length = nn := by rw [List.length_map]; exact hn
  refine z_run (X := X) (M := M) (G := G) (av := #[]) (rest := st.map (zr B G.2.2)) (r := (none : Option Value).map (zr B G.2.2)) (hp1 := hp1) hS (va_runS (As := as.map (zr B G.2.2)) ⟨A.1, A.2.1, A.2.2.1, A.2.2.2.1, A.2.2.2.2.1⟩ (hr X l G B) ⟨z_callB A hm hlk hd h1 h2, A.2.2.2.2.1 _ hs⟩ (z_preS A hS h _) rfl hlen hsz (by rw [List.map_append, List.map_reverse]) (lv_room (z_cats hw)) hdg ⟨by omega, by omega⟩) (fun H1 locs1 g1 g2 => ?_)
  exact kk G B p l e R s m args below meth c Q H1 locs1 (cells + mc) (slots + ms) ls A F g1 g2 h1 h2 (by omega) (by omega) hl
theorem z_invvv {X : zS} {M : zM} {d kc ks : Nat} {r : Option Value} {hp' : List zC} {pc : Nat} {L : List (Option Value)} {st : List Value} {hp : List zC} {o : Nat} {as : List Value} {M' : zM} {ix nn d' mc ms kc1 ks1 : Nat} {hp1 : List zC} {st0 : List Value} {ci : Nat} {fs : List Value} {C : String} {T : u_T} {N : Nat} (n : Nat) (en : pc + 3 = n) (hm : zcM M' nn) (hlk : Cond.methodLink M.1.cls ix M'.1 ∈ zT) (hi : Cond.instanceMethod M'.1 ∈ zT) (hsel : Cond.selects C M'.1 M'.1 ∈ zT) (hc : zCl[ci]? = some (C, T, N)) (ho : hp[o]? = some (.inr (.inr (ci, fs)))) (hdg : decode M.2.1 pc = .ok (.invokevirtual ix, 3)) (hr : Ret d' mc ms M' (.ref o :: as) hp none hp1) (hst : st0 = (as.reverse ++ .ref o :: st)) (hn : as.length = nn) (hd : d' + 1 ≤ d) (hkc : kc = kc1 + mc) (hks : ks = ks1 + ms) (hw : (st.map fun v => v.category).sum ≤ 8) (kk : Z X M d kc1 ks1 r hp' n L st hp1) : Z X M d kc ks r hp' pc L st0 hp := by
  subst en
  subst hst
  intro G B p l e R s m args below meth c Q H locs cells slots ls A F h hS h1 h2 h3 h4 hl
  have hsz : ls.size = M.2.2.1 := hl.1
  have hlen : (as.map (zr B G.2.2)).length = nn := by rw [List.length_map]; exact hn
  refine z_run (X := X) (M := M) (G := G) (av := #[]) (rest := st.map (zr B G.2.2)) (r := (none : Option Value).map (zr B G.2.2)) (hp1 := hp1) hS (va_runV (b := B + o) (C := C) (As := as.map (zr B G.2.2)) ⟨A.1, A.2.1, A.2.2.1, A.2.2.2.1, A.2.2.2.2.1⟩ (hr X l G B) ⟨z_callB A hm hlk hd h1 h2, A.2.2.2.2.1 _ hi, A.2.2.2.2.1 _ hsel⟩ (z_preV A hS h ho hc as) rfl hlen hsz (by rw [List.map_append, List.map_reverse]; rfl) (lv_room (z_cats hw)) hdg ⟨by omega, by omega⟩) (fun H1 locs1 g1 g2 => ?_)
  exact kk G B p l e R s m args below meth c Q H1 locs1 (cells + mc) (slots + ms) ls A F g1 g2 h1 h2 (by omega) (by omega) hl
theorem z_invSNv {X : zS} {M : zM} {d kc ks : Nat} {r : Option Value} {hp' : List zC} {pc : Nat} {L : List (Option Value)} {st : List Value} {hp : List zC} {as : List Value} {M' : zM} {ix nn d' mc ms kc1 ks1 : Nat} {hp1 : List zC} {st0 : List Value} (n : Nat) (en : pc + 3 = n) (hm : zcM M' nn) (hlk : (M.1.cls, ix, M'.1) ∈ zNest) (hs : Cond.static M'.1 ∈ zT) (hdg : decode M.2.1 pc = .ok (.invokestatic ix, 3)) (hr : Ret d' mc ms M' as hp none hp1) (hst : st0 = (as.reverse ++ st)) (hn : as.length = nn) (hd : d' + 1 ≤ d) (hkc : kc = kc1 + mc) (hks : ks = ks1 + ms) (hw : (st.map fun v => v.category).sum ≤ 8) (kk : Z X M d kc1 ks1 r hp' n L st hp1) : Z X M d kc ks r hp' pc L st0 hp := by
  subst en
  subst hst
  intro G B p l e R s m args below meth c Q H locs cells slots ls A F h hS h1 h2 h3 h4 hl
  have hsz : ls.size = M.2.2.1 := hl.1
  have hlen : (as.map (zr B G.2.2)).length = nn := by rw [List.length_map]; exact hn
  refine z_run (X := X) (M := M) (G := G) (av := #[]) (rest := st.map (zr B G.2.2)) (r := (none : Option Value).map (zr B G.2.2)) (hp1 := hp1) hS (va_runSN (host := "LightInRoom") (As := as.map (zr B G.2.2)) ⟨A.1, A.2.1, A.2.2.1, A.2.2.2.1, A.2.2.2.2.1⟩ (hr X l G B) ⟨va_cnB nn A.2.2.2.2.1 (zT_GI hm.1) rfl rfl rfl (A.2.2.2.2.2.2.1.1 _ hlk) (A.2.2.2.2.1 _ hm.2.1) hm.2.2.1 ⟨Nat.le_trans hd h1, by have := hm.2.2.2; show 8 + (_ + 11) + 60 * d' ≤ _; omega⟩, A.2.2.2.2.1 _ hs, trivial⟩ (z_preS A hS h _) rfl hlen hsz (by rw [List.map_append, List.map_reverse]) (lv_room (z_cats hw)) hdg ⟨by omega, by omega⟩) (fun H1 locs1 g1 g2 => ?_)
  exact kk G B p l e R s m args below meth c Q H1 locs1 (cells + mc) (slots + ms) ls A F g1 g2 h1 h2 (by omega) (by omega) hl
theorem z_invI {X : zS} {M : zM} {d kc ks : Nat} {r : Option Value} {hp' : List zC} {pc : Nat} {L : List (Option Value)} {st : List Value} {hp : List zC} {o : Nat} {as : List Value} {M' : zM} {ix nn d' mc ms kc1 ks1 : Nat} {hp1 : List zC} {st0 : List Value} (n : Nat) (en : pc + 3 = n) (hm : zcM M' nn) (hlk : Cond.methodLink M.1.cls ix M'.1 ∈ zT) (hi : Cond.instanceMethod M'.1 ∈ zT) (hnm : M'.1.name = "<init>") (hvr : M'.2.2.2 = none) (hdg : decode M.2.1 pc = .ok (.invokespecial ix, 3)) (hr : Ret d' mc ms M' (.ref o :: as) hp none hp1) (hst : st0 = (as.reverse ++ .ref o :: st)) (hn : as.length = nn) (hd : d' + 1 ≤ d) (hkc : kc = kc1 + mc) (hks : ks = ks1 + ms) (hw : (st.map fun v => v.category).sum ≤ 8) (kk : Z X M d kc1 ks1 r hp' n L st hp1) : Z X M d kc ks r hp' pc L st0 hp := by
  subst en
  subst hst
  intro G B p l e R s m args below meth c Q H locs cells slots ls A F h hS h1 h2 h3 h4 hl
  have hsz : ls.size = M.2.2.1 := hl.1
  have hlen : (as.map (zr B G.2.2)).length = nn := by rw [List.length_map]; exact hn
  refine z_run (X := X) (M := M) (G := G) (av := #[]) (rest := st.map (zr B G.2.2)) (r := (none : Option Value).map (zr B G.2.2)) (hp1 := hp1) hS (va_runI (b := B + o) (As := as.map (zr B G.2.2)) ⟨A.1, A.2.1, A.2.2.1, A.2.2.2.1, A.2.2.2.2.1⟩ (hr X l G B) ⟨by have := z_callB (mc := mc) (ms := ms) A hm hlk hd h1 h2; rw [hvr] at this ⊢; exact this, hnm, A.2.2.2.2.1 _ hi⟩ (z_preS A hS h ((.ref o :: as).map (zr B G.2.2))) rfl hlen hsz (by rw [List.map_append, List.map_reverse]; rfl) (lv_room (z_cats hw)) hdg ⟨by omega, by omega⟩) (fun H1 locs1 g1 g2 => ?_)
  exact kk G B p l e R s m args below meth c Q H1 locs1 (cells + mc) (slots + ms) ls A F g1 g2 h1 h2 (by omega) (by omega) hl
theorem z_invIN {X : zS} {M : zM} {d kc ks : Nat} {r : Option Value} {hp' : List zC} {pc : Nat} {L : List (Option Value)} {st : List Value} {hp : List zC} {o : Nat} {as : List Value} {M' : zM} {ix nn d' mc ms kc1 ks1 : Nat} {hp1 : List zC} {st0 : List Value} (n : Nat) (en : pc + 3 = n) (hm : zcM M' nn) (hlk : (M.1.cls, ix, M'.1) ∈ zNest) (hi : Cond.instanceMethod M'.1 ∈ zT) (hnm : M'.1.name = "<init>") (hvr : M'.2.2.2 = none) (hdg : decode M.2.1 pc = .ok (.invokespecial ix, 3)) (hr : Ret d' mc ms M' (.ref o :: as) hp none hp1) (hst : st0 = (as.reverse ++ .ref o :: st)) (hn : as.length = nn) (hd : d' + 1 ≤ d) (hkc : kc = kc1 + mc) (hks : ks = ks1 + ms) (hw : (st.map fun v => v.category).sum ≤ 8) (kk : Z X M d kc1 ks1 r hp' n L st hp1) : Z X M d kc ks r hp' pc L st0 hp := by
  subst en
  subst hst
  intro G B p l e R s m args below meth c Q H locs cells slots ls A F h hS h1 h2 h3 h4 hl
  have hsz : ls.size = M.2.2.1 := hl.1
  have hlen : (as.map (zr B G.2.2)).length = nn := by rw [List.length_map]; exact hn
  refine z_run (X := X) (M := M) (G := G) (av := #[]) (rest := st.map (zr B G.2.2)) (r := (none : Option Value).map (zr B G.2.2)) (hp1 := hp1) hS (va_runIN (b := B + o) (host := "LightInRoom") (As := as.map (zr B G.2.2)) ⟨A.1, A.2.1, A.2.2.1, A.2.2.2.1, A.2.2.2.2.1⟩ (hr X l G B) ⟨by have := va_cnB (R := R) (mc := mc) (ms := ms) (rm := { frames := d', cells := mc, slots := ms, locals := 60 * d' }) nn A.2.2.2.2.1 (zT_GI hm.1) rfl rfl rfl (A.2.2.2.2.2.2.1.1 _ hlk) (A.2.2.2.2.1 _ hm.2.1) hm.2.2.1 ⟨Nat.le_trans hd h1, by have := hm.2.2.2; show 8 + (_ + 11) + 60 * d' ≤ _; omega⟩; rw [hvr] at this ⊢; exact this, hnm, A.2.2.2.2.1 _ hi⟩ (z_preS A hS h ((.ref o :: as).map (zr B G.2.2))) rfl hlen hsz (by rw [List.map_append, List.map_reverse]; rfl) (lv_room (z_cats hw)) hdg ⟨by omega, by omega⟩) (fun H1 locs1 g1 g2 => ?_)
  exact kk G B p l e R s m args below meth c Q H1 locs1 (cells + mc) (slots + ms) ls A F g1 g2 h1 h2 (by omega) (by omega) hl
theorem z_invU {X : zS} {M : zM} {d kc ks : Nat} {r : Option Value} {hp' : List zC} {pc : Nat} {L : List (Option Value)} {st : List Value} {hp : List zC} {o : Nat} {as : List Value} {v : Value} {M' : zM} {ix nn d' mc ms kc1 ks1 : Nat} {hp1 : List zC} {st0 : List Value} {ci : Nat} {fs : List Value} {C : String} {T : u_T} {N : Nat} {x : MethodName} (n : Nat) (en : pc + 3 = n) (hm : zcM M' nn) (hlk : Cond.methodLink M.1.cls ix x ∈ zT) (hsm : Cond.sameMethod x.cls x.cls x.name x.desc ∈ zT) (hsel : Cond.selects C x M'.1 ∈ zT) (hi : Cond.instanceMethod M'.1 ∈ zT) (hxd : x.cls ≠ "java/lang/invoke/MethodHandle" ∧ x.cls ≠ "java/lang/invoke/VarHandle" ∧ (parseMethodDescriptor x.desc).map (fun d => d.parameters.length) = some nn) (hxd2 : x ∈ zDecl ∨ x = M'.1) (hc : zCl[ci]? = some (C, T, N)) (ho : hp[o]? = some (.inr (.inr (ci, fs)))) (hdg : decode M.2.1 pc = .ok (.invokevirtual ix, 3)) (hr : Ret d' mc ms M' (.ref o :: as) hp (some v) hp1) (hst : st0 = (as.reverse ++ .ref o :: st)) (hn : as.length = nn) (hd : d' + 1 ≤ d) (hkc : kc = kc1 + mc) (hks : ks = ks1 + ms) (hw : (st.map fun v => v.category).sum ≤ 8) (kk : Z X M d kc1 ks1 r hp' n L (v :: st) hp1) : Z X M d kc ks r hp' pc L st0 hp := by
  subst en
  subst hst
  intro G B p l e R s m args below meth c Q H locs cells slots ls A F h hS h1 h2 h3 h4 hl
  have hsz : ls.size = M.2.2.1 := hl.1
  have hlen : (as.map (zr B G.2.2)).length = nn := by rw [List.length_map]; exact hn
  refine z_run (X := X) (M := M) (G := G) (av := #[]) (rest := st.map (zr B G.2.2)) (r := ((some v) : Option Value).map (zr B G.2.2)) (hp1 := hp1) hS (va_runU (b := B + o) (C := C) (owner := x.cls) (x := x) (As := as.map (zr B G.2.2)) ⟨A.1, A.2.1, A.2.2.1, A.2.2.2.1, A.2.2.2.2.1⟩ (hr X l G B) ⟨⟨rfl, rfl, Nat.le_trans hd h1, by have := hm.2.2.2; show 8 + (_ + 11) + 60 * d' ≤ _; omega, pay_in A.2.2.2.2.1 (zT_GI hm.1), List.mem_cons_self⟩, A.2.2.2.2.1 _ hm.1, A.2.2.2.2.1 _ hm.2.1, ⟨hxd.1, hxd.2.1⟩, (fun sig hsig => by have h2 := hxd.2.2; rw [hsig] at h2; exact (Option.some.inj h2).symm), A.2.2.2.2.1 _ hlk, A.2.2.2.2.1 _ hsm, (by
      rcases hxd2 with hxd2 | rfl
      · exact va_Decl.abs (A.2.2.2.2.2.2.1.2.2.1 _ hxd2)
      · exact va_Decl.of (A.2.2.2.2.1 _ hi) (A.2.2.2.2.1 _ hm.1)), A.2.2.2.2.1 _ hsel, A.2.2.2.2.1 _ hi⟩ (z_preV A hS h ho hc as) rfl hlen hsz (by rw [List.map_append, List.map_reverse]; rfl) (lv_room (z_cats hw)) hdg ⟨by omega, by omega⟩) (fun H1 locs1 g1 g2 => ?_)
  exact kk G B p l e R s m args below meth c Q H1 locs1 (cells + mc) (slots + ms) ls A F g1 g2 h1 h2 (by omega) (by omega) hl
theorem z_invSU {X : zS} {M : zM} {d kc ks : Nat} {r : Option Value} {hp' : List zC} {pc : Nat} {L : List (Option Value)} {st : List Value} {hp : List zC} {o : Nat} {as : List Value} {v : Value} {M' : zM} {ix nn d' mc ms kc1 ks1 : Nat} {hp1 : List zC} {st0 : List Value} {ci : Nat} {fs : List Value} {C : String} {T : u_T} {N : Nat} (n : Nat) (en : pc + 3 = n) (hm : zcM M' nn) (hlk : Cond.methodLink M.1.cls ix M'.1 ∈ zT) (hsm : Cond.sameMethod M'.1.cls M'.1.cls M'.1.name M'.1.desc ∈ zT) (hsup : Cond.superclass M.1.cls M'.1.cls ∈ zT) (hi : Cond.instanceMethod M'.1 ∈ zT) (hnm : M'.1.name ≠ "<init>") (hc : zCl[ci]? = some (C, T, N)) (ho : hp[o]? = some (.inr (.inr (ci, fs)))) (hdg : decode M.2.1 pc = .ok (.invokespecial ix, 3)) (hr : Ret d' mc ms M' (.ref o :: as) hp (some v) hp1) (hst : st0 = (as.reverse ++ .ref o :: st)) (hn : as.length = nn) (hd : d' + 1 ≤ d) (hkc : kc = kc1 + mc) (hks : ks = ks1 + ms) (hw : (st.map fun v => v.category).sum ≤ 8) (kk : Z X M d kc1 ks1 r hp' n L (v :: st) hp1) : Z X M d kc ks r hp' pc L st0 hp := by
  subst en
  subst hst
  intro G B p l e R s m args below meth c Q H locs cells slots ls A F h hS h1 h2 h3 h4 hl
  have hsz : ls.size = M.2.2.1 := hl.1
  have hlen : (as.map (zr B G.2.2)).length = nn := by rw [List.length_map]; exact hn
  refine z_run (X := X) (M := M) (G := G) (av := #[]) (rest := st.map (zr B G.2.2)) (r := ((some v) : Option Value).map (zr B G.2.2)) (hp1 := hp1) hS (va_runSU (b := B + o) (C := C) (As := as.map (zr B G.2.2)) (A.2.2.2.2.2.1.1 ci _ hc).2 ⟨A.1, A.2.1, A.2.2.1, A.2.2.2.1, A.2.2.2.2.1⟩ (hr X l G B) ⟨⟨rfl, rfl, Nat.le_trans hd h1, by have := hm.2.2.2; show 8 + (_ + 11) + 60 * d' ≤ _; omega, pay_in A.2.2.2.2.1 (zT_GI hm.1), List.mem_cons_self⟩, A.2.2.2.2.1 _ hlk, A.2.2.2.2.1 _ hsm, A.2.2.2.2.1 _ hsup, A.2.2.2.2.1 _ hi, A.2.2.2.2.1 _ hm.2.1, A.2.2.2.2.1 _ hm.1, hnm, (fun sig hsig => by have h2 := hm.2.2.1.2.2; rw [hsig] at h2; exact (Option.some.inj h2).symm)⟩ (z_preV A hS h ho hc as) rfl hlen hsz (by rw [List.map_append, List.map_reverse]; rfl) (lv_room (z_cats hw)) hdg ⟨by omega, by omega⟩) (fun H1 locs1 g1 g2 => ?_)
  exact kk G B p l e R s m args below meth c Q H1 locs1 (cells + mc) (slots + ms) ls A F g1 g2 h1 h2 (by omega) (by omega) hl
theorem z_mmax {X : zS} {M : zM} {d kc ks : Nat} {r : Option Value} {hp' : List zC} {pc : Nat} {L : List (Option Value)} {st : List Value} {hp : List zC} {ix : Nat} {x y : Int32} (n : Nat) (en : pc + 3 = n) (hw1 : Cond.methodLink M.1.cls ix Lib.Math.max.name ∈ zT) (hw2 : Cond.static Lib.Math.max.name ∈ zT) (hw3 : Cond.initialized "java/lang/Math" ∈ zT) (hw4 : Cond.code Lib.Math.max.name Lib.Math.max.code 2 (some .int) ∈ zT) (hd : 1 ≤ d) (hst : (st.map fun v => v.category).sum ≤ 8) (hdg : decode M.2.1 pc = .ok (.invokestatic ix, 3)) (kk : Z X M d kc ks r hp' n L (.int (if x < y then y else x) :: st) hp) : Z X M d kc ks r hp' pc L (.int y :: .int x :: st) hp := by
  subst en
  intro G B p l e R s m args below meth c Q H locs cells slots ls A F h hS h1 h2 h3 h4 hl
  have hts := A.2.2.2.2.1
  have hcat := z_cats (B := B) (Y := G.2.2) hst
  exact va_mmax A.1 A.2.1 (by rw [A.2.2.1]; exact hl.1.symm) A.2.2.2.1 (hts _ hw1) (hts _ hw2) (hts _ hw3) (hts _ hw4) (by omega) (by omega) (by omega) (by omega) hdg (kk G B p l e R s m args below meth c Q H locs cells slots ls A F h hS h1 h2 h3 h4 hl)
theorem z_mmin {X : zS} {M : zM} {d kc ks : Nat} {r : Option Value} {hp' : List zC} {pc : Nat} {L : List (Option Value)} {st : List Value} {hp : List zC} {ix : Nat} {x y : Int32} (n : Nat) (en : pc + 3 = n) (hw1 : Cond.methodLink M.1.cls ix Lib.Math.min.name ∈ zT) (hw2 : Cond.static Lib.Math.min.name ∈ zT) (hw3 : Cond.initialized "java/lang/Math" ∈ zT) (hw4 : Cond.code Lib.Math.min.name Lib.Math.min.code 2 (some .int) ∈ zT) (hd : 1 ≤ d) (hst : (st.map fun v => v.category).sum ≤ 8) (hdg : decode M.2.1 pc = .ok (.invokestatic ix, 3)) (kk : Z X M d kc ks r hp' n L (.int (if y < x then y else x) :: st) hp) : Z X M d kc ks r hp' pc L (.int y :: .int x :: st) hp := by
  subst en
  intro G B p l e R s m args below meth c Q H locs cells slots ls A F h hS h1 h2 h3 h4 hl
  have hts := A.2.2.2.2.1
  have hcat := z_cats (B := B) (Y := G.2.2) hst
  exact va_mmin A.1 A.2.1 (by rw [A.2.2.1]; exact hl.1.symm) A.2.2.2.1 (hts _ hw1) (hts _ hw2) (hts _ hw3) (hts _ hw4) (by omega) (by omega) (by omega) (by omega) hdg (kk G B p l e R s m args below meth c Q H locs cells slots ls A F h hS h1 h2 h3 h4 hl)
end
section
theorem zc_Ben : ∀ w ∈ u_ws "LightInRoom$Bench" zF_Ben 4, w ∈ zT := by decide +kernel
theorem zc_Cal : ∀ w ∈ u_ws "LightInRoom$Called" zF_Cal 6, w ∈ zT := by decide +kernel
theorem zc_Eye : ∀ w ∈ u_ws "LightInRoom$Eye" zF_Eye 6, w ∈ zT := by decide +kernel
theorem zc_Gro : ∀ w ∈ u_ws "LightInRoom$Grown" zF_Gro 6, w ∈ zT := by decide +kernel
theorem zc_Law : ∀ w ∈ u_ws "LightInRoom$Law" zF_Law 2, w ∈ zT := by decide +kernel
theorem zc_Nea : ∀ w ∈ u_ws "LightInRoom$Near" zF_Nea 6, w ∈ zT := by decide +kernel
theorem zc_Roo : ∀ w ∈ u_ws "LightInRoom$Room" zF_Roo 11, w ∈ zT := by decide +kernel
theorem zc_Tap : ∀ w ∈ u_ws "LightInRoom$Tape" zF_Tap 9, w ∈ zT := by decide +kernel
theorem zc_Thr : ∀ w ∈ u_ws "LightInRoom$Through" zF_Thr 6, w ∈ zT := by decide +kernel
theorem zc_Wit : ∀ w ∈ u_ws "LightInRoom$Without" zF_Wit 6, w ∈ zT := by decide +kernel
theorem zc_Lir : ∀ w ∈ u_ws "LightInRoom" zF_Lir 6, w ∈ zT := by decide +kernel
theorem zc_Mod : ∀ w ∈ u_ws "LightInRoomModel" zF_Mod 8, w ∈ zT := by decide +kernel
theorem zi_Lir : Cond.initialized "LightInRoom" ∈ zT := zT_in 42 (by decide +kernel) (by decide +kernel)
theorem zi_Ben : Cond.initialized "LightInRoom$Bench" ∈ zT := zT_in 46 (by decide +kernel) (by decide +kernel)
theorem zi_Cal : Cond.initialized "LightInRoom$Called" ∈ zT := zT_in 53 (by decide +kernel) (by decide +kernel)
theorem zi_Eye : Cond.initialized "LightInRoom$Eye" ∈ zT := zT_in 54 (by decide +kernel) (by decide +kernel)
theorem zi_Gro : Cond.initialized "LightInRoom$Grown" ∈ zT := zT_in 58 (by decide +kernel) (by decide +kernel)
theorem zi_Law : Cond.initialized "LightInRoom$Law" ∈ zT := zT_in 45 (by decide +kernel) (by decide +kernel)
theorem zi_Nea : Cond.initialized "LightInRoom$Near" ∈ zT := zT_in 55 (by decide +kernel) (by decide +kernel)
theorem zi_Roo : Cond.initialized "LightInRoom$Room" ∈ zT := zT_in 44 (by decide +kernel) (by decide +kernel)
theorem zi_Tap : Cond.initialized "LightInRoom$Tape" ∈ zT := zT_in 43 (by decide +kernel) (by decide +kernel)
theorem zi_Tel : Cond.initialized "LightInRoom$Telling" ∈ zT := zT_in 52 (by decide +kernel) (by decide +kernel)
theorem zi_Thr : Cond.initialized "LightInRoom$Through" ∈ zT := zT_in 56 (by decide +kernel) (by decide +kernel)
theorem zi_Wit : Cond.initialized "LightInRoom$Without" ∈ zT := zT_in 57 (by decide +kernel) (by decide +kernel)
theorem zi_Mod : Cond.initialized "LightInRoomModel" ∈ zT := zT_in 47 (by decide +kernel) (by decide +kernel)
theorem zi_Int : Cond.initialized "java/lang/Integer" ∈ zT := zT_in 59 (by decide +kernel) (by decide +kernel)
theorem zi_Mat : Cond.initialized "java/lang/Math" ∈ zT := zT_in 60 (by decide +kernel) (by decide +kernel)
theorem zi_Str : Cond.initialized "java/lang/String" ∈ zT := zT_in 48 (by decide +kernel) (by decide +kernel)
theorem zi_SLa : Cond.initialized "java/lang/StringLatin1" ∈ zT := zT_in 49 (by decide +kernel) (by decide +kernel)
theorem zi_SUt : Cond.initialized "java/lang/StringUTF16" ∈ zT := zT_in 51 (by decide +kernel) (by decide +kernel)
theorem zi_Pre : Cond.initialized "jdk/internal/util/Preconditions" ∈ zT := zT_in 50 (by decide +kernel) (by decide +kernel)
theorem hm_Lir_init : zcM m_Lir_init 0 := ⟨zT_in 66 (by decide +kernel) (by decide +kernel), zi_Lir, by decide +kernel, by decide⟩
theorem im_Lir_init : Cond.instanceMethod m_Lir_init.1 ∈ zT := zT_in 65 (by decide +kernel) (by decide +kernel)
theorem hm_Tap_init : zcM m_Tap_init 0 := ⟨zT_in 74 (by decide +kernel) (by decide +kernel), zi_Tap, by decide +kernel, by decide⟩
theorem im_Tap_init : Cond.instanceMethod m_Tap_init.1 ∈ zT := zT_in 73 (by decide +kernel) (by decide +kernel)
theorem hm_Roo_init : zcM m_Roo_init 0 := ⟨zT_in 117 (by decide +kernel) (by decide +kernel), zi_Roo, by decide +kernel, by decide⟩
theorem im_Roo_init : Cond.instanceMethod m_Roo_init.1 ∈ zT := zT_in 116 (by decide +kernel) (by decide +kernel)
theorem hm_Law_init : zcM m_Law_init 0 := ⟨zT_in 126 (by decide +kernel) (by decide +kernel), zi_Law, by decide +kernel, by decide⟩
theorem im_Law_init : Cond.instanceMethod m_Law_init.1 ∈ zT := zT_in 125 (by decide +kernel) (by decide +kernel)
theorem hm_Ben_init : zcM m_Ben_init 0 := ⟨zT_in 142 (by decide +kernel) (by decide +kernel), zi_Ben, by decide +kernel, by decide⟩
theorem im_Ben_init : Cond.instanceMethod m_Ben_init.1 ∈ zT := zT_in 141 (by decide +kernel) (by decide +kernel)
theorem hm_Lir_feed : zcM m_Lir_feed 2 := ⟨zT_in 225 (by decide +kernel) (by decide +kernel), zi_Lir, by decide +kernel, by decide⟩
theorem im_Lir_feed : Cond.instanceMethod m_Lir_feed.1 ∈ zT := zT_in 223 (by decide +kernel) (by decide +kernel)
theorem hm_Lir_refuse : zcM m_Lir_refuse 1 := ⟨zT_in 229 (by decide +kernel) (by decide +kernel), zi_Lir, by decide +kernel, by decide⟩
theorem im_Lir_refuse : Cond.instanceMethod m_Lir_refuse.1 ∈ zT := zT_in 228 (by decide +kernel) (by decide +kernel)
theorem hm_Tap_roomLeft : zcM m_Tap_roomLeft 0 := ⟨zT_in 233 (by decide +kernel) (by decide +kernel), zi_Tap, by decide +kernel, by decide⟩
theorem im_Tap_roomLeft : Cond.instanceMethod m_Tap_roomLeft.1 ∈ zT := zT_in 231 (by decide +kernel) (by decide +kernel)
theorem hm_Tap_add : zcM m_Tap_add 2 := ⟨zT_in 237 (by decide +kernel) (by decide +kernel), zi_Tap, by decide +kernel, by decide⟩
theorem im_Tap_add : Cond.instanceMethod m_Tap_add.1 ∈ zT := zT_in 235 (by decide +kernel) (by decide +kernel)
theorem hm_Lir_telling : zcM m_Lir_telling 0 := ⟨zT_in 242 (by decide +kernel) (by decide +kernel), zi_Lir, by decide +kernel, by decide⟩
theorem im_Lir_telling : Cond.instanceMethod m_Lir_telling.1 ∈ zT := zT_in 240 (by decide +kernel) (by decide +kernel)
theorem hm_Tap_read : zcM m_Tap_read 0 := ⟨zT_in 246 (by decide +kernel) (by decide +kernel), zi_Tap, by decide +kernel, by decide⟩
theorem im_Tap_read : Cond.instanceMethod m_Tap_read.1 ∈ zT := zT_in 244 (by decide +kernel) (by decide +kernel)
theorem hm_Tap_readSize : zcM m_Tap_readSize 0 := ⟨zT_in 250 (by decide +kernel) (by decide +kernel), zi_Tap, by decide +kernel, by decide⟩
theorem im_Tap_readSize : Cond.instanceMethod m_Tap_readSize.1 ∈ zT := zT_in 249 (by decide +kernel) (by decide +kernel)
theorem hm_Tap_passes : zcM m_Tap_passes 1 := ⟨zT_in 254 (by decide +kernel) (by decide +kernel), zi_Tap, by decide +kernel, by decide⟩
theorem im_Tap_passes : Cond.instanceMethod m_Tap_passes.1 ∈ zT := zT_in 253 (by decide +kernel) (by decide +kernel)
theorem hm_Tap_byteHere : zcM m_Tap_byteHere 0 := ⟨zT_in 258 (by decide +kernel) (by decide +kernel), zi_Tap, by decide +kernel, by decide⟩
theorem im_Tap_byteHere : Cond.instanceMethod m_Tap_byteHere.1 ∈ zT := zT_in 257 (by decide +kernel) (by decide +kernel)
theorem hm_Tap_readNumber : zcM m_Tap_readNumber 1 := ⟨zT_in 262 (by decide +kernel) (by decide +kernel), zi_Tap, by decide +kernel, by decide⟩
theorem im_Tap_readNumber : Cond.instanceMethod m_Tap_readNumber.1 ∈ zT := zT_in 261 (by decide +kernel) (by decide +kernel)
theorem hm_Tap_digitHere : zcM m_Tap_digitHere 0 := ⟨zT_in 266 (by decide +kernel) (by decide +kernel), zi_Tap, by decide +kernel, by decide⟩
theorem im_Tap_digitHere : Cond.instanceMethod m_Tap_digitHere.1 ∈ zT := zT_in 265 (by decide +kernel) (by decide +kernel)
theorem hm_Tap_readSeconds : zcM m_Tap_readSeconds 0 := ⟨zT_in 270 (by decide +kernel) (by decide +kernel), zi_Tap, by decide +kernel, by decide⟩
theorem im_Tap_readSeconds : Cond.instanceMethod m_Tap_readSeconds.1 ∈ zT := zT_in 269 (by decide +kernel) (by decide +kernel)
theorem hm_Tap_readColour : zcM m_Tap_readColour 0 := ⟨zT_in 274 (by decide +kernel) (by decide +kernel), zi_Tap, by decide +kernel, by decide⟩
theorem im_Tap_readColour : Cond.instanceMethod m_Tap_readColour.1 ∈ zT := zT_in 273 (by decide +kernel) (by decide +kernel)
theorem hm_Tap_readMarks : zcM m_Tap_readMarks 0 := ⟨zT_in 278 (by decide +kernel) (by decide +kernel), zi_Tap, by decide +kernel, by decide⟩
theorem im_Tap_readMarks : Cond.instanceMethod m_Tap_readMarks.1 ∈ zT := zT_in 277 (by decide +kernel) (by decide +kernel)
theorem hm_Str_length : zcM m_Str_length 0 := ⟨zT_in 283 (by decide +kernel) (by decide +kernel), zi_Str, by decide +kernel, by decide⟩
theorem im_Str_length : Cond.instanceMethod m_Str_length.1 ∈ zT := zT_in 281 (by decide +kernel) (by decide +kernel)
theorem hm_Str_coder : zcM m_Str_coder 0 := ⟨zT_in 287 (by decide +kernel) (by decide +kernel), zi_Str, by decide +kernel, by decide⟩
theorem im_Str_coder : Cond.instanceMethod m_Str_coder.1 ∈ zT := zT_in 285 (by decide +kernel) (by decide +kernel)
theorem hm_Str_charAt : zcM m_Str_charAt 1 := ⟨zT_in 293 (by decide +kernel) (by decide +kernel), zi_Str, by decide +kernel, by decide⟩
theorem im_Str_charAt : Cond.instanceMethod m_Str_charAt.1 ∈ zT := zT_in 291 (by decide +kernel) (by decide +kernel)
theorem hm_Str_isLatin1 : zcM m_Str_isLatin1 0 := ⟨zT_in 297 (by decide +kernel) (by decide +kernel), zi_Str, by decide +kernel, by decide⟩
theorem im_Str_isLatin1 : Cond.instanceMethod m_Str_isLatin1.1 ∈ zT := zT_in 295 (by decide +kernel) (by decide +kernel)
theorem hm_SLa_charAt : zcM m_SLa_charAt 2 := ⟨zT_in 300 (by decide +kernel) (by decide +kernel), zi_SLa, by decide +kernel, by decide⟩
theorem st_SLa_charAt : Cond.static m_SLa_charAt.1 ∈ zT := zT_in 299 (by decide +kernel) (by decide +kernel)
theorem hm_Str_checkIndex : zcM m_Str_checkIndex 2 := ⟨zT_in 303 (by decide +kernel) (by decide +kernel), zi_Str, by decide +kernel, by decide⟩
theorem st_Str_checkIndex : Cond.static m_Str_checkIndex.1 ∈ zT := zT_in 302 (by decide +kernel) (by decide +kernel)
theorem hm_Pre_checkIndex : zcM m_Pre_checkIndex 3 := ⟨zT_in 308 (by decide +kernel) (by decide +kernel), zi_Pre, by decide +kernel, by decide⟩
theorem st_Pre_checkIndex : Cond.static m_Pre_checkIndex.1 ∈ zT := zT_in 307 (by decide +kernel) (by decide +kernel)
theorem hm_SUt_charAt : zcM m_SUt_charAt 2 := ⟨zT_in 311 (by decide +kernel) (by decide +kernel), zi_SUt, by decide +kernel, by decide⟩
theorem st_SUt_charAt : Cond.static m_SUt_charAt.1 ∈ zT := zT_in 310 (by decide +kernel) (by decide +kernel)
theorem hm_SUt_checkIndex : zcM m_SUt_checkIndex 2 := ⟨zT_in 314 (by decide +kernel) (by decide +kernel), zi_SUt, by decide +kernel, by decide⟩
theorem st_SUt_checkIndex : Cond.static m_SUt_checkIndex.1 ∈ zT := zT_in 313 (by decide +kernel) (by decide +kernel)
theorem hm_SUt_length : zcM m_SUt_length 1 := ⟨zT_in 317 (by decide +kernel) (by decide +kernel), zi_SUt, by decide +kernel, by decide⟩
theorem st_SUt_length : Cond.static m_SUt_length.1 ∈ zT := zT_in 316 (by decide +kernel) (by decide +kernel)
theorem hm_SUt_getChar : zcM m_SUt_getChar 2 := ⟨zT_in 321 (by decide +kernel) (by decide +kernel), zi_SUt, by decide +kernel, by decide⟩
theorem st_SUt_getChar : Cond.static m_SUt_getChar.1 ∈ zT := zT_in 320 (by decide +kernel) (by decide +kernel)
theorem hm_Tap_readYears : zcM m_Tap_readYears 0 := ⟨zT_in 331 (by decide +kernel) (by decide +kernel), zi_Tap, by decide +kernel, by decide⟩
theorem im_Tap_readYears : Cond.instanceMethod m_Tap_readYears.1 ∈ zT := zT_in 330 (by decide +kernel) (by decide +kernel)
theorem hm_Tap_readAsked : zcM m_Tap_readAsked 0 := ⟨zT_in 335 (by decide +kernel) (by decide +kernel), zi_Tap, by decide +kernel, by decide⟩
theorem im_Tap_readAsked : Cond.instanceMethod m_Tap_readAsked.1 ∈ zT := zT_in 334 (by decide +kernel) (by decide +kernel)
theorem hm_Tap_clear : zcM m_Tap_clear 0 := ⟨zT_in 339 (by decide +kernel) (by decide +kernel), zi_Tap, by decide +kernel, by decide⟩
theorem im_Tap_clear : Cond.instanceMethod m_Tap_clear.1 ∈ zT := zT_in 337 (by decide +kernel) (by decide +kernel)
theorem hm_Tap_newTelling : zcM m_Tap_newTelling 0 := ⟨zT_in 343 (by decide +kernel) (by decide +kernel), zi_Tap, by decide +kernel, by decide⟩
theorem im_Tap_newTelling : Cond.instanceMethod m_Tap_newTelling.1 ∈ zT := zT_in 341 (by decide +kernel) (by decide +kernel)
theorem hm_Cal_init : zcM m_Cal_init 1 := ⟨zT_in 348 (by decide +kernel) (by decide +kernel), zi_Cal, by decide +kernel, by decide⟩
theorem im_Cal_init : Cond.instanceMethod m_Cal_init.1 ∈ zT := zT_in 347 (by decide +kernel) (by decide +kernel)
theorem hm_Tel_init : zcM m_Tel_init 1 := ⟨zT_in 351 (by decide +kernel) (by decide +kernel), zi_Tel, by decide +kernel, by decide⟩
theorem im_Tel_init : Cond.instanceMethod m_Tel_init.1 ∈ zT := zT_in 350 (by decide +kernel) (by decide +kernel)
theorem hm_Lir_hasBit : zcM m_Lir_hasBit 2 := ⟨zT_in 394 (by decide +kernel) (by decide +kernel), zi_Lir, by decide +kernel, by decide⟩
theorem st_Lir_hasBit : Cond.static m_Lir_hasBit.1 ∈ zT := zT_in 393 (by decide +kernel) (by decide +kernel)
theorem hm_Eye_init : zcM m_Eye_init 1 := ⟨zT_in 399 (by decide +kernel) (by decide +kernel), zi_Eye, by decide +kernel, by decide⟩
theorem im_Eye_init : Cond.instanceMethod m_Eye_init.1 ∈ zT := zT_in 398 (by decide +kernel) (by decide +kernel)
theorem hm_Thr_init : zcM m_Thr_init 1 := ⟨zT_in 412 (by decide +kernel) (by decide +kernel), zi_Thr, by decide +kernel, by decide⟩
theorem im_Thr_init : Cond.instanceMethod m_Thr_init.1 ∈ zT := zT_in 411 (by decide +kernel) (by decide +kernel)
theorem hm_Nea_init : zcM m_Nea_init 1 := ⟨zT_in 415 (by decide +kernel) (by decide +kernel), zi_Nea, by decide +kernel, by decide⟩
theorem im_Nea_init : Cond.instanceMethod m_Nea_init.1 ∈ zT := zT_in 414 (by decide +kernel) (by decide +kernel)
theorem hm_Gro_init : zcM m_Gro_init 1 := ⟨zT_in 438 (by decide +kernel) (by decide +kernel), zi_Gro, by decide +kernel, by decide⟩
theorem im_Gro_init : Cond.instanceMethod m_Gro_init.1 ∈ zT := zT_in 437 (by decide +kernel) (by decide +kernel)
theorem hm_Wit_init : zcM m_Wit_init 1 := ⟨zT_in 441 (by decide +kernel) (by decide +kernel), zi_Wit, by decide +kernel, by decide⟩
theorem im_Wit_init : Cond.instanceMethod m_Wit_init.1 ∈ zT := zT_in 440 (by decide +kernel) (by decide +kernel)
theorem hm_Roo_addTelling : zcM m_Roo_addTelling 1 := ⟨zT_in 463 (by decide +kernel) (by decide +kernel), zi_Roo, by decide +kernel, by decide⟩
theorem im_Roo_addTelling : Cond.instanceMethod m_Roo_addTelling.1 ∈ zT := zT_in 461 (by decide +kernel) (by decide +kernel)
theorem hm_Lir_tellingOf : zcM m_Lir_tellingOf 2 := ⟨zT_in 467 (by decide +kernel) (by decide +kernel), zi_Lir, by decide +kernel, by decide⟩
theorem im_Lir_tellingOf : Cond.instanceMethod m_Lir_tellingOf.1 ∈ zT := zT_in 465 (by decide +kernel) (by decide +kernel)
theorem hm_Roo_tellingAt : zcM m_Roo_tellingAt 1 := ⟨zT_in 471 (by decide +kernel) (by decide +kernel), zi_Roo, by decide +kernel, by decide⟩
theorem im_Roo_tellingAt : Cond.instanceMethod m_Roo_tellingAt.1 ∈ zT := zT_in 469 (by decide +kernel) (by decide +kernel)
theorem hm_Roo_inRow : zcM m_Roo_inRow 2 := ⟨zT_in 474 (by decide +kernel) (by decide +kernel), zi_Roo, by decide +kernel, by decide⟩
theorem st_Roo_inRow : Cond.static m_Roo_inRow.1 ∈ zT := zT_in 473 (by decide +kernel) (by decide +kernel)
theorem hm_Lir_kind : zcM m_Lir_kind 1 := ⟨zT_in 478 (by decide +kernel) (by decide +kernel), zi_Lir, by decide +kernel, by decide⟩
theorem im_Lir_kind : Cond.instanceMethod m_Lir_kind.1 ∈ zT := zT_in 476 (by decide +kernel) (by decide +kernel)
theorem hm_Cal_kindNumber : zcM m_Cal_kindNumber 0 := ⟨zT_in 484 (by decide +kernel) (by decide +kernel), zi_Cal, by decide +kernel, by decide⟩
theorem im_Cal_kindNumber : Cond.instanceMethod m_Cal_kindNumber.1 ∈ zT := zT_in 483 (by decide +kernel) (by decide +kernel)
theorem hm_Eye_kindNumber : zcM m_Eye_kindNumber 0 := ⟨zT_in 487 (by decide +kernel) (by decide +kernel), zi_Eye, by decide +kernel, by decide⟩
theorem im_Eye_kindNumber : Cond.instanceMethod m_Eye_kindNumber.1 ∈ zT := zT_in 486 (by decide +kernel) (by decide +kernel)
theorem hm_Gro_kindNumber : zcM m_Gro_kindNumber 0 := ⟨zT_in 490 (by decide +kernel) (by decide +kernel), zi_Gro, by decide +kernel, by decide⟩
theorem im_Gro_kindNumber : Cond.instanceMethod m_Gro_kindNumber.1 ∈ zT := zT_in 489 (by decide +kernel) (by decide +kernel)
theorem hm_Nea_kindNumber : zcM m_Nea_kindNumber 0 := ⟨zT_in 493 (by decide +kernel) (by decide +kernel), zi_Nea, by decide +kernel, by decide⟩
theorem im_Nea_kindNumber : Cond.instanceMethod m_Nea_kindNumber.1 ∈ zT := zT_in 492 (by decide +kernel) (by decide +kernel)
theorem hm_Thr_kindNumber : zcM m_Thr_kindNumber 0 := ⟨zT_in 496 (by decide +kernel) (by decide +kernel), zi_Thr, by decide +kernel, by decide⟩
theorem im_Thr_kindNumber : Cond.instanceMethod m_Thr_kindNumber.1 ∈ zT := zT_in 495 (by decide +kernel) (by decide +kernel)
theorem hm_Wit_kindNumber : zcM m_Wit_kindNumber 0 := ⟨zT_in 499 (by decide +kernel) (by decide +kernel), zi_Wit, by decide +kernel, by decide⟩
theorem im_Wit_kindNumber : Cond.instanceMethod m_Wit_kindNumber.1 ∈ zT := zT_in 498 (by decide +kernel) (by decide +kernel)
theorem hm_Lir_weight : zcM m_Lir_weight 1 := ⟨zT_in 503 (by decide +kernel) (by decide +kernel), zi_Lir, by decide +kernel, by decide⟩
theorem im_Lir_weight : Cond.instanceMethod m_Lir_weight.1 ∈ zT := zT_in 501 (by decide +kernel) (by decide +kernel)
theorem hm_Cal_ownWeight : zcM m_Cal_ownWeight 0 := ⟨zT_in 509 (by decide +kernel) (by decide +kernel), zi_Cal, by decide +kernel, by decide⟩
theorem im_Cal_ownWeight : Cond.instanceMethod m_Cal_ownWeight.1 ∈ zT := zT_in 508 (by decide +kernel) (by decide +kernel)
theorem hm_Eye_ownWeight : zcM m_Eye_ownWeight 0 := ⟨zT_in 512 (by decide +kernel) (by decide +kernel), zi_Eye, by decide +kernel, by decide⟩
theorem im_Eye_ownWeight : Cond.instanceMethod m_Eye_ownWeight.1 ∈ zT := zT_in 511 (by decide +kernel) (by decide +kernel)
theorem hm_Gro_ownWeight : zcM m_Gro_ownWeight 0 := ⟨zT_in 515 (by decide +kernel) (by decide +kernel), zi_Gro, by decide +kernel, by decide⟩
theorem im_Gro_ownWeight : Cond.instanceMethod m_Gro_ownWeight.1 ∈ zT := zT_in 514 (by decide +kernel) (by decide +kernel)
theorem hm_Wit_ownWeight : zcM m_Wit_ownWeight 0 := ⟨zT_in 518 (by decide +kernel) (by decide +kernel), zi_Wit, by decide +kernel, by decide⟩
theorem im_Wit_ownWeight : Cond.instanceMethod m_Wit_ownWeight.1 ∈ zT := zT_in 517 (by decide +kernel) (by decide +kernel)
theorem hm_Nea_ownWeight : zcM m_Nea_ownWeight 0 := ⟨zT_in 521 (by decide +kernel) (by decide +kernel), zi_Nea, by decide +kernel, by decide⟩
theorem im_Nea_ownWeight : Cond.instanceMethod m_Nea_ownWeight.1 ∈ zT := zT_in 520 (by decide +kernel) (by decide +kernel)
theorem hm_Thr_ownWeight : zcM m_Thr_ownWeight 0 := ⟨zT_in 524 (by decide +kernel) (by decide +kernel), zi_Thr, by decide +kernel, by decide⟩
theorem im_Thr_ownWeight : Cond.instanceMethod m_Thr_ownWeight.1 ∈ zT := zT_in 523 (by decide +kernel) (by decide +kernel)
theorem hm_Lir_law : zcM m_Lir_law 3 := ⟨zT_in 530 (by decide +kernel) (by decide +kernel), zi_Lir, by decide +kernel, by decide⟩
theorem im_Lir_law : Cond.instanceMethod m_Lir_law.1 ∈ zT := zT_in 528 (by decide +kernel) (by decide +kernel)
theorem hm_Roo_lawAt : zcM m_Roo_lawAt 1 := ⟨zT_in 534 (by decide +kernel) (by decide +kernel), zi_Roo, by decide +kernel, by decide⟩
theorem im_Roo_lawAt : Cond.instanceMethod m_Roo_lawAt.1 ∈ zT := zT_in 532 (by decide +kernel) (by decide +kernel)
theorem hm_Lir_outside : zcM m_Lir_outside 3 := ⟨zT_in 537 (by decide +kernel) (by decide +kernel), zi_Lir, by decide +kernel, by decide⟩
theorem st_Lir_outside : Cond.static m_Lir_outside.1 ∈ zT := zT_in 536 (by decide +kernel) (by decide +kernel)
theorem hm_Lir_exchange : zcM m_Lir_exchange 3 := ⟨zT_in 540 (by decide +kernel) (by decide +kernel), zi_Lir, by decide +kernel, by decide⟩
theorem st_Lir_exchange : Cond.static m_Lir_exchange.1 ∈ zT := zT_in 539 (by decide +kernel) (by decide +kernel)
theorem hm_Lir_right : zcM m_Lir_right 1 := ⟨zT_in 544 (by decide +kernel) (by decide +kernel), zi_Lir, by decide +kernel, by decide⟩
theorem im_Lir_right : Cond.instanceMethod m_Lir_right.1 ∈ zT := zT_in 542 (by decide +kernel) (by decide +kernel)
theorem hm_Lir_growth : zcM m_Lir_growth 2 := ⟨zT_in 548 (by decide +kernel) (by decide +kernel), zi_Lir, by decide +kernel, by decide⟩
theorem im_Lir_growth : Cond.instanceMethod m_Lir_growth.1 ∈ zT := zT_in 546 (by decide +kernel) (by decide +kernel)
theorem hm_Lir_isSizeOrSeconds : zcM m_Lir_isSizeOrSeconds 1 := ⟨zT_in 551 (by decide +kernel) (by decide +kernel), zi_Lir, by decide +kernel, by decide⟩
theorem st_Lir_isSizeOrSeconds : Cond.static m_Lir_isSizeOrSeconds.1 ∈ zT := zT_in 550 (by decide +kernel) (by decide +kernel)
theorem hm_Lir_put : zcM m_Lir_put 2 := ⟨zT_in 555 (by decide +kernel) (by decide +kernel), zi_Lir, by decide +kernel, by decide⟩
theorem im_Lir_put : Cond.instanceMethod m_Lir_put.1 ∈ zT := zT_in 553 (by decide +kernel) (by decide +kernel)
theorem hm_Roo_rightNumber : zcM m_Roo_rightNumber 2 := ⟨zT_in 559 (by decide +kernel) (by decide +kernel), zi_Roo, by decide +kernel, by decide⟩
theorem im_Roo_rightNumber : Cond.instanceMethod m_Roo_rightNumber.1 ∈ zT := zT_in 557 (by decide +kernel) (by decide +kernel)
theorem hm_Tel_lacks : zcM m_Tel_lacks 1 := ⟨zT_in 569 (by decide +kernel) (by decide +kernel), zi_Tel, by decide +kernel, by decide⟩
theorem im_Tel_lacks : Cond.instanceMethod m_Tel_lacks.1 ∈ zT := zT_in 561 (by decide +kernel) (by decide +kernel)
theorem hm_Tel_numberTold : zcM m_Tel_numberTold 1 := ⟨zT_in 579 (by decide +kernel) (by decide +kernel), zi_Tel, by decide +kernel, by decide⟩
theorem im_Tel_numberTold : Cond.instanceMethod m_Tel_numberTold.1 ∈ zT := zT_in 571 (by decide +kernel) (by decide +kernel)
theorem hm_Lir_fits : zcM m_Lir_fits 2 := ⟨zT_in 584 (by decide +kernel) (by decide +kernel), zi_Lir, by decide +kernel, by decide⟩
theorem im_Lir_fits : Cond.instanceMethod m_Lir_fits.1 ∈ zT := zT_in 582 (by decide +kernel) (by decide +kernel)
theorem hm_Roo_brokenBy : zcM m_Roo_brokenBy 2 := ⟨zT_in 588 (by decide +kernel) (by decide +kernel), zi_Roo, by decide +kernel, by decide⟩
theorem im_Roo_brokenBy : Cond.instanceMethod m_Roo_brokenBy.1 ∈ zT := zT_in 586 (by decide +kernel) (by decide +kernel)
theorem hm_Roo_heldNumber : zcM m_Roo_heldNumber 2 := ⟨zT_in 592 (by decide +kernel) (by decide +kernel), zi_Roo, by decide +kernel, by decide⟩
theorem im_Roo_heldNumber : Cond.instanceMethod m_Roo_heldNumber.1 ∈ zT := zT_in 591 (by decide +kernel) (by decide +kernel)
theorem hm_Law_brokenBy : zcM m_Law_brokenBy 3 := ⟨zT_in 597 (by decide +kernel) (by decide +kernel), zi_Law, by decide +kernel, by decide⟩
theorem im_Law_brokenBy : Cond.instanceMethod m_Law_brokenBy.1 ∈ zT := zT_in 595 (by decide +kernel) (by decide +kernel)
theorem hm_Lir_share : zcM m_Lir_share 2 := ⟨zT_in 602 (by decide +kernel) (by decide +kernel), zi_Lir, by decide +kernel, by decide⟩
theorem im_Lir_share : Cond.instanceMethod m_Lir_share.1 ∈ zT := zT_in 600 (by decide +kernel) (by decide +kernel)
theorem hm_Lir_refuseAsTold : zcM m_Lir_refuseAsTold 1 := ⟨zT_in 606 (by decide +kernel) (by decide +kernel), zi_Lir, by decide +kernel, by decide⟩
theorem im_Lir_refuseAsTold : Cond.instanceMethod m_Lir_refuseAsTold.1 ∈ zT := zT_in 605 (by decide +kernel) (by decide +kernel)
theorem hm_Lir_isPart : zcM m_Lir_isPart 1 := ⟨zT_in 610 (by decide +kernel) (by decide +kernel), zi_Lir, by decide +kernel, by decide⟩
theorem st_Lir_isPart : Cond.static m_Lir_isPart.1 ∈ zT := zT_in 609 (by decide +kernel) (by decide +kernel)
theorem hm_Lir_leastTerms : zcM m_Lir_leastTerms 3 := ⟨zT_in 613 (by decide +kernel) (by decide +kernel), zi_Lir, by decide +kernel, by decide⟩
theorem st_Lir_leastTerms : Cond.static m_Lir_leastTerms.1 ∈ zT := zT_in 612 (by decide +kernel) (by decide +kernel)
theorem hm_Lir_greatestCommon : zcM m_Lir_greatestCommon 2 := ⟨zT_in 616 (by decide +kernel) (by decide +kernel), zi_Lir, by decide +kernel, by decide⟩
theorem st_Lir_greatestCommon : Cond.static m_Lir_greatestCommon.1 ∈ zT := zT_in 615 (by decide +kernel) (by decide +kernel)
theorem hm_Lir_only : zcM m_Lir_only 1 := ⟨zT_in 620 (by decide +kernel) (by decide +kernel), zi_Lir, by decide +kernel, by decide⟩
theorem im_Lir_only : Cond.instanceMethod m_Lir_only.1 ∈ zT := zT_in 618 (by decide +kernel) (by decide +kernel)
theorem hm_Lir_howManyFitOnly : zcM m_Lir_howManyFitOnly 2 := ⟨zT_in 624 (by decide +kernel) (by decide +kernel), zi_Lir, by decide +kernel, by decide⟩
theorem im_Lir_howManyFitOnly : Cond.instanceMethod m_Lir_howManyFitOnly.1 ∈ zT := zT_in 623 (by decide +kernel) (by decide +kernel)
theorem hm_Roo_lawsFitted : zcM m_Roo_lawsFitted 1 := ⟨zT_in 628 (by decide +kernel) (by decide +kernel), zi_Roo, by decide +kernel, by decide⟩
theorem im_Roo_lawsFitted : Cond.instanceMethod m_Roo_lawsFitted.1 ∈ zT := zT_in 626 (by decide +kernel) (by decide +kernel)
theorem hm_Lir_cover : zcM m_Lir_cover 0 := ⟨zT_in 633 (by decide +kernel) (by decide +kernel), zi_Lir, by decide +kernel, by decide⟩
theorem im_Lir_cover : Cond.instanceMethod m_Lir_cover.1 ∈ zT := zT_in 631 (by decide +kernel) (by decide +kernel)
theorem hm_Lir_noteLaws : zcM m_Lir_noteLaws 0 := ⟨zT_in 637 (by decide +kernel) (by decide +kernel), zi_Lir, by decide +kernel, by decide⟩
theorem im_Lir_noteLaws : Cond.instanceMethod m_Lir_noteLaws.1 ∈ zT := zT_in 636 (by decide +kernel) (by decide +kernel)
theorem hm_Int_bitCount : zcM m_Int_bitCount 1 := ⟨zT_in 640 (by decide +kernel) (by decide +kernel), zi_Int, by decide +kernel, by decide⟩
theorem st_Int_bitCount : Cond.static m_Int_bitCount.1 ∈ zT := zT_in 639 (by decide +kernel) (by decide +kernel)
theorem hm_Lir_coversAll : zcM m_Lir_coversAll 1 := ⟨zT_in 647 (by decide +kernel) (by decide +kernel), zi_Lir, by decide +kernel, by decide⟩
theorem im_Lir_coversAll : Cond.instanceMethod m_Lir_coversAll.1 ∈ zT := zT_in 646 (by decide +kernel) (by decide +kernel)
theorem hm_Lir_half : zcM m_Lir_half 1 := ⟨zT_in 651 (by decide +kernel) (by decide +kernel), zi_Lir, by decide +kernel, by decide⟩
theorem im_Lir_half : Cond.instanceMethod m_Lir_half.1 ∈ zT := zT_in 649 (by decide +kernel) (by decide +kernel)
theorem hm_Lir_noteBroken : zcM m_Lir_noteBroken 1 := ⟨zT_in 655 (by decide +kernel) (by decide +kernel), zi_Lir, by decide +kernel, by decide⟩
theorem im_Lir_noteBroken : Cond.instanceMethod m_Lir_noteBroken.1 ∈ zT := zT_in 654 (by decide +kernel) (by decide +kernel)
theorem hm_Lir_halfFitsWithout : zcM m_Lir_halfFitsWithout 1 := ⟨zT_in 659 (by decide +kernel) (by decide +kernel), zi_Lir, by decide +kernel, by decide⟩
theorem im_Lir_halfFitsWithout : Cond.instanceMethod m_Lir_halfFitsWithout.1 ∈ zT := zT_in 658 (by decide +kernel) (by decide +kernel)
theorem hm_Lir_sorts : zcM m_Lir_sorts 1 := ⟨zT_in 663 (by decide +kernel) (by decide +kernel), zi_Lir, by decide +kernel, by decide⟩
theorem im_Lir_sorts : Cond.instanceMethod m_Lir_sorts.1 ∈ zT := zT_in 661 (by decide +kernel) (by decide +kernel)
theorem hm_Lir_firstNotedLike : zcM m_Lir_firstNotedLike 1 := ⟨zT_in 667 (by decide +kernel) (by decide +kernel), zi_Lir, by decide +kernel, by decide⟩
theorem im_Lir_firstNotedLike : Cond.instanceMethod m_Lir_firstNotedLike.1 ∈ zT := zT_in 666 (by decide +kernel) (by decide +kernel)
theorem hm_Lir_howManyNotedLike : zcM m_Lir_howManyNotedLike 1 := ⟨zT_in 671 (by decide +kernel) (by decide +kernel), zi_Lir, by decide +kernel, by decide⟩
theorem im_Lir_howManyNotedLike : Cond.instanceMethod m_Lir_howManyNotedLike.1 ∈ zT := zT_in 670 (by decide +kernel) (by decide +kernel)
theorem hm_Mat_max : zcM m_Mat_max 2 := ⟨zT_in 674 (by decide +kernel) (by decide +kernel), zi_Mat, by decide +kernel, by decide⟩
theorem st_Mat_max : Cond.static m_Mat_max.1 ∈ zT := zT_in 673 (by decide +kernel) (by decide +kernel)
theorem hm_Lir_alike : zcM m_Lir_alike 1 := ⟨zT_in 678 (by decide +kernel) (by decide +kernel), zi_Lir, by decide +kernel, by decide⟩
theorem im_Lir_alike : Cond.instanceMethod m_Lir_alike.1 ∈ zT := zT_in 676 (by decide +kernel) (by decide +kernel)
theorem hm_Lir_together : zcM m_Lir_together 2 := ⟨zT_in 682 (by decide +kernel) (by decide +kernel), zi_Lir, by decide +kernel, by decide⟩
theorem im_Lir_together : Cond.instanceMethod m_Lir_together.1 ∈ zT := zT_in 680 (by decide +kernel) (by decide +kernel)
theorem hm_Lir_isMark : zcM m_Lir_isMark 1 := ⟨zT_in 685 (by decide +kernel) (by decide +kernel), zi_Lir, by decide +kernel, by decide⟩
theorem st_Lir_isMark : Cond.static m_Lir_isMark.1 ∈ zT := zT_in 684 (by decide +kernel) (by decide +kernel)
theorem hm_Tel_has : zcM m_Tel_has 1 := ⟨zT_in 695 (by decide +kernel) (by decide +kernel), zi_Tel, by decide +kernel, by decide⟩
theorem im_Tel_has : Cond.instanceMethod m_Tel_has.1 ∈ zT := zT_in 687 (by decide +kernel) (by decide +kernel)
theorem hm_Lir_hundredths : zcM m_Lir_hundredths 2 := ⟨zT_in 699 (by decide +kernel) (by decide +kernel), zi_Lir, by decide +kernel, by decide⟩
theorem st_Lir_hundredths : Cond.static m_Lir_hundredths.1 ∈ zT := zT_in 698 (by decide +kernel) (by decide +kernel)
theorem hm_Lir_twice : zcM m_Lir_twice 2 := ⟨zT_in 703 (by decide +kernel) (by decide +kernel), zi_Lir, by decide +kernel, by decide⟩
theorem im_Lir_twice : Cond.instanceMethod m_Lir_twice.1 ∈ zT := zT_in 701 (by decide +kernel) (by decide +kernel)
theorem hm_Roo_addPair : zcM m_Roo_addPair 2 := ⟨zT_in 707 (by decide +kernel) (by decide +kernel), zi_Roo, by decide +kernel, by decide⟩
theorem im_Roo_addPair : Cond.instanceMethod m_Roo_addPair.1 ∈ zT := zT_in 705 (by decide +kernel) (by decide +kernel)
theorem hm_Lir_grows : zcM m_Lir_grows 2 := ⟨zT_in 711 (by decide +kernel) (by decide +kernel), zi_Lir, by decide +kernel, by decide⟩
theorem im_Lir_grows : Cond.instanceMethod m_Lir_grows.1 ∈ zT := zT_in 709 (by decide +kernel) (by decide +kernel)
theorem hm_Roo_firstOfPair : zcM m_Roo_firstOfPair 1 := ⟨zT_in 715 (by decide +kernel) (by decide +kernel), zi_Roo, by decide +kernel, by decide⟩
theorem im_Roo_firstOfPair : Cond.instanceMethod m_Roo_firstOfPair.1 ∈ zT := zT_in 713 (by decide +kernel) (by decide +kernel)
theorem hm_Roo_secondOfPair : zcM m_Roo_secondOfPair 1 := ⟨zT_in 719 (by decide +kernel) (by decide +kernel), zi_Roo, by decide +kernel, by decide⟩
theorem im_Roo_secondOfPair : Cond.instanceMethod m_Roo_secondOfPair.1 ∈ zT := zT_in 717 (by decide +kernel) (by decide +kernel)
theorem hm_Lir_people : zcM m_Lir_people 2 := ⟨zT_in 725 (by decide +kernel) (by decide +kernel), zi_Lir, by decide +kernel, by decide⟩
theorem im_Lir_people : Cond.instanceMethod m_Lir_people.1 ∈ zT := zT_in 723 (by decide +kernel) (by decide +kernel)
theorem hm_Lir_strokes : zcM m_Lir_strokes 1 := ⟨zT_in 729 (by decide +kernel) (by decide +kernel), zi_Lir, by decide +kernel, by decide⟩
theorem im_Lir_strokes : Cond.instanceMethod m_Lir_strokes.1 ∈ zT := zT_in 727 (by decide +kernel) (by decide +kernel)
theorem hm_Lir_reach : zcM m_Lir_reach 2 := ⟨zT_in 733 (by decide +kernel) (by decide +kernel), zi_Lir, by decide +kernel, by decide⟩
theorem im_Lir_reach : Cond.instanceMethod m_Lir_reach.1 ∈ zT := zT_in 731 (by decide +kernel) (by decide +kernel)
theorem hm_Lir_should : zcM m_Lir_should 1 := ⟨zT_in 737 (by decide +kernel) (by decide +kernel), zi_Lir, by decide +kernel, by decide⟩
theorem im_Lir_should : Cond.instanceMethod m_Lir_should.1 ∈ zT := zT_in 735 (by decide +kernel) (by decide +kernel)
theorem hm_Roo_shownTo : zcM m_Roo_shownTo 1 := ⟨zT_in 741 (by decide +kernel) (by decide +kernel), zi_Roo, by decide +kernel, by decide⟩
theorem im_Roo_shownTo : Cond.instanceMethod m_Roo_shownTo.1 ∈ zT := zT_in 739 (by decide +kernel) (by decide +kernel)
theorem hm_Lir_seen : zcM m_Lir_seen 1 := ⟨zT_in 745 (by decide +kernel) (by decide +kernel), zi_Lir, by decide +kernel, by decide⟩
theorem im_Lir_seen : Cond.instanceMethod m_Lir_seen.1 ∈ zT := zT_in 743 (by decide +kernel) (by decide +kernel)
theorem hm_Roo_howManyFit : zcM m_Roo_howManyFit 1 := ⟨zT_in 749 (by decide +kernel) (by decide +kernel), zi_Roo, by decide +kernel, by decide⟩
theorem im_Roo_howManyFit : Cond.instanceMethod m_Roo_howManyFit.1 ∈ zT := zT_in 747 (by decide +kernel) (by decide +kernel)
theorem hm_Lir_beyond : zcM m_Lir_beyond 2 := ⟨zT_in 754 (by decide +kernel) (by decide +kernel), zi_Lir, by decide +kernel, by decide⟩
theorem im_Lir_beyond : Cond.instanceMethod m_Lir_beyond.1 ∈ zT := zT_in 752 (by decide +kernel) (by decide +kernel)
theorem hm_Lir_leads : zcM m_Lir_leads 0 := ⟨zT_in 758 (by decide +kernel) (by decide +kernel), zi_Lir, by decide +kernel, by decide⟩
theorem im_Lir_leads : Cond.instanceMethod m_Lir_leads.1 ∈ zT := zT_in 756 (by decide +kernel) (by decide +kernel)
theorem hm_Roo_howManyAsked : zcM m_Roo_howManyAsked 0 := ⟨zT_in 762 (by decide +kernel) (by decide +kernel), zi_Roo, by decide +kernel, by decide⟩
theorem im_Roo_howManyAsked : Cond.instanceMethod m_Roo_howManyAsked.1 ∈ zT := zT_in 760 (by decide +kernel) (by decide +kernel)
theorem hm_Roo_howManyAskedFit : zcM m_Roo_howManyAskedFit 1 := ⟨zT_in 766 (by decide +kernel) (by decide +kernel), zi_Roo, by decide +kernel, by decide⟩
theorem im_Roo_howManyAskedFit : Cond.instanceMethod m_Roo_howManyAskedFit.1 ∈ zT := zT_in 764 (by decide +kernel) (by decide +kernel)
theorem hm_Lir_pictures : zcM m_Lir_pictures 1 := ⟨zT_in 770 (by decide +kernel) (by decide +kernel), zi_Lir, by decide +kernel, by decide⟩
theorem im_Lir_pictures : Cond.instanceMethod m_Lir_pictures.1 ∈ zT := zT_in 768 (by decide +kernel) (by decide +kernel)
theorem hm_Lir_bench : zcM m_Lir_bench 4 := ⟨zT_in 774 (by decide +kernel) (by decide +kernel), zi_Lir, by decide +kernel, by decide⟩
theorem im_Lir_bench : Cond.instanceMethod m_Lir_bench.1 ∈ zT := zT_in 772 (by decide +kernel) (by decide +kernel)
theorem hm_Ben_tell : zcM m_Ben_tell 4 := ⟨zT_in 778 (by decide +kernel) (by decide +kernel), zi_Ben, by decide +kernel, by decide⟩
theorem im_Ben_tell : Cond.instanceMethod m_Ben_tell.1 ∈ zT := zT_in 776 (by decide +kernel) (by decide +kernel)
theorem hm_Lir_lines : zcM m_Lir_lines 1 := ⟨zT_in 782 (by decide +kernel) (by decide +kernel), zi_Lir, by decide +kernel, by decide⟩
theorem im_Lir_lines : Cond.instanceMethod m_Lir_lines.1 ∈ zT := zT_in 780 (by decide +kernel) (by decide +kernel)
theorem hm_Ben_linesLacking : zcM m_Ben_linesLacking 1 := ⟨zT_in 786 (by decide +kernel) (by decide +kernel), zi_Ben, by decide +kernel, by decide⟩
theorem im_Ben_linesLacking : Cond.instanceMethod m_Ben_linesLacking.1 ∈ zT := zT_in 784 (by decide +kernel) (by decide +kernel)
theorem hm_Lir_misses : zcM m_Lir_misses 1 := ⟨zT_in 790 (by decide +kernel) (by decide +kernel), zi_Lir, by decide +kernel, by decide⟩
theorem im_Lir_misses : Cond.instanceMethod m_Lir_misses.1 ∈ zT := zT_in 788 (by decide +kernel) (by decide +kernel)
theorem hm_Lir_barred : zcM m_Lir_barred 1 := ⟨zT_in 795 (by decide +kernel) (by decide +kernel), zi_Lir, by decide +kernel, by decide⟩
theorem im_Lir_barred : Cond.instanceMethod m_Lir_barred.1 ∈ zT := zT_in 793 (by decide +kernel) (by decide +kernel)
theorem hm_Lir_glasses : zcM m_Lir_glasses 2 := ⟨zT_in 799 (by decide +kernel) (by decide +kernel), zi_Lir, by decide +kernel, by decide⟩
theorem im_Lir_glasses : Cond.instanceMethod m_Lir_glasses.1 ∈ zT := zT_in 797 (by decide +kernel) (by decide +kernel)
theorem hm_Roo_fullestRing : zcM m_Roo_fullestRing 2 := ⟨zT_in 803 (by decide +kernel) (by decide +kernel), zi_Roo, by decide +kernel, by decide⟩
theorem im_Roo_fullestRing : Cond.instanceMethod m_Roo_fullestRing.1 ∈ zT := zT_in 801 (by decide +kernel) (by decide +kernel)
theorem hm_Lir_image : zcM m_Lir_image 0 := ⟨zT_in 808 (by decide +kernel) (by decide +kernel), zi_Lir, by decide +kernel, by decide⟩
theorem im_Lir_image : Cond.instanceMethod m_Lir_image.1 ∈ zT := zT_in 806 (by decide +kernel) (by decide +kernel)
theorem hm_Roo_becomeLike : zcM m_Roo_becomeLike 1 := ⟨zT_in 812 (by decide +kernel) (by decide +kernel), zi_Roo, by decide +kernel, by decide⟩
theorem im_Roo_becomeLike : Cond.instanceMethod m_Roo_becomeLike.1 ∈ zT := zT_in 810 (by decide +kernel) (by decide +kernel)
theorem hm_Roo_copyTellings : zcM m_Roo_copyTellings 2 := ⟨zT_in 815 (by decide +kernel) (by decide +kernel), zi_Roo, by decide +kernel, by decide⟩
theorem st_Roo_copyTellings : Cond.static m_Roo_copyTellings.1 ∈ zT := zT_in 814 (by decide +kernel) (by decide +kernel)
theorem hm_Law_becomeLike : zcM m_Law_becomeLike 1 := ⟨zT_in 819 (by decide +kernel) (by decide +kernel), zi_Law, by decide +kernel, by decide⟩
theorem im_Law_becomeLike : Cond.instanceMethod m_Law_becomeLike.1 ∈ zT := zT_in 817 (by decide +kernel) (by decide +kernel)
theorem hm_Lir_copyRow : zcM m_Lir_copyRow 2 := ⟨zT_in 822 (by decide +kernel) (by decide +kernel), zi_Lir, by decide +kernel, by decide⟩
theorem st_Lir_copyRow : Cond.static m_Lir_copyRow.1 ∈ zT := zT_in 821 (by decide +kernel) (by decide +kernel)
theorem hm_Mat_min : zcM m_Mat_min 2 := ⟨zT_in 825 (by decide +kernel) (by decide +kernel), zi_Mat, by decide +kernel, by decide⟩
theorem st_Mat_min : Cond.static m_Mat_min.1 ∈ zT := zT_in 824 (by decide +kernel) (by decide +kernel)
theorem hm_Lir_on : zcM m_Lir_on 0 := ⟨zT_in 834 (by decide +kernel) (by decide +kernel), zi_Lir, by decide +kernel, by decide⟩
theorem im_Lir_on : Cond.instanceMethod m_Lir_on.1 ∈ zT := zT_in 832 (by decide +kernel) (by decide +kernel)
theorem hm_Lir_count : zcM m_Lir_count 1 := ⟨zT_in 838 (by decide +kernel) (by decide +kernel), zi_Lir, by decide +kernel, by decide⟩
theorem im_Lir_count : Cond.instanceMethod m_Lir_count.1 ∈ zT := zT_in 836 (by decide +kernel) (by decide +kernel)
theorem hm_Roo_howManyGaps : zcM m_Roo_howManyGaps 0 := ⟨zT_in 842 (by decide +kernel) (by decide +kernel), zi_Roo, by decide +kernel, by decide⟩
theorem im_Roo_howManyGaps : Cond.instanceMethod m_Roo_howManyGaps.1 ∈ zT := zT_in 840 (by decide +kernel) (by decide +kernel)
theorem hm_Tel_gaps : zcM m_Tel_gaps 0 := ⟨zT_in 852 (by decide +kernel) (by decide +kernel), zi_Tel, by decide +kernel, by decide⟩
theorem im_Tel_gaps : Cond.instanceMethod m_Tel_gaps.1 ∈ zT := zT_in 844 (by decide +kernel) (by decide +kernel)
theorem hm_Roo_howManyMarks : zcM m_Roo_howManyMarks 0 := ⟨zT_in 856 (by decide +kernel) (by decide +kernel), zi_Roo, by decide +kernel, by decide⟩
theorem im_Roo_howManyMarks : Cond.instanceMethod m_Roo_howManyMarks.1 ∈ zT := zT_in 854 (by decide +kernel) (by decide +kernel)
theorem hm_Lir_refusalsCounted : zcM m_Lir_refusalsCounted 1 := ⟨zT_in 861 (by decide +kernel) (by decide +kernel), zi_Lir, by decide +kernel, by decide⟩
theorem im_Lir_refusalsCounted : Cond.instanceMethod m_Lir_refusalsCounted.1 ∈ zT := zT_in 860 (by decide +kernel) (by decide +kernel)
theorem hm_Mod_init : zcM m_Mod_init 0 := ⟨zT_in 866 (by decide +kernel) (by decide +kernel), zi_Mod, by decide +kernel, by decide⟩
theorem im_Mod_init : Cond.instanceMethod m_Mod_init.1 ∈ zT := zT_in 865 (by decide +kernel) (by decide +kernel)
theorem hm_Mod_feed : zcM m_Mod_feed 2 := ⟨zT_in 896 (by decide +kernel) (by decide +kernel), zi_Mod, by decide +kernel, by decide⟩
theorem im_Mod_feed : Cond.instanceMethod m_Mod_feed.1 ∈ zT := zT_in 894 (by decide +kernel) (by decide +kernel)
theorem hm_Mod_refuse : zcM m_Mod_refuse 1 := ⟨zT_in 900 (by decide +kernel) (by decide +kernel), zi_Mod, by decide +kernel, by decide⟩
theorem im_Mod_refuse : Cond.instanceMethod m_Mod_refuse.1 ∈ zT := zT_in 899 (by decide +kernel) (by decide +kernel)
theorem hm_Mod_telling : zcM m_Mod_telling 0 := ⟨zT_in 905 (by decide +kernel) (by decide +kernel), zi_Mod, by decide +kernel, by decide⟩
theorem im_Mod_telling : Cond.instanceMethod m_Mod_telling.1 ∈ zT := zT_in 903 (by decide +kernel) (by decide +kernel)
theorem hm_Mod_reads : zcM m_Mod_reads 0 := ⟨zT_in 909 (by decide +kernel) (by decide +kernel), zi_Mod, by decide +kernel, by decide⟩
theorem im_Mod_reads : Cond.instanceMethod m_Mod_reads.1 ∈ zT := zT_in 908 (by decide +kernel) (by decide +kernel)
theorem hm_Mod_takes : zcM m_Mod_takes 1 := ⟨zT_in 913 (by decide +kernel) (by decide +kernel), zi_Mod, by decide +kernel, by decide⟩
theorem im_Mod_takes : Cond.instanceMethod m_Mod_takes.1 ∈ zT := zT_in 912 (by decide +kernel) (by decide +kernel)
theorem hm_Mod_sign : zcM m_Mod_sign 0 := ⟨zT_in 917 (by decide +kernel) (by decide +kernel), zi_Mod, by decide +kernel, by decide⟩
theorem im_Mod_sign : Cond.instanceMethod m_Mod_sign.1 ∈ zT := zT_in 916 (by decide +kernel) (by decide +kernel)
theorem hm_Mod_readsNumber : zcM m_Mod_readsNumber 2 := ⟨zT_in 921 (by decide +kernel) (by decide +kernel), zi_Mod, by decide +kernel, by decide⟩
theorem im_Mod_readsNumber : Cond.instanceMethod m_Mod_readsNumber.1 ∈ zT := zT_in 920 (by decide +kernel) (by decide +kernel)
theorem hm_Mod_isDigit : zcM m_Mod_isDigit 0 := ⟨zT_in 925 (by decide +kernel) (by decide +kernel), zi_Mod, by decide +kernel, by decide⟩
theorem im_Mod_isDigit : Cond.instanceMethod m_Mod_isDigit.1 ∈ zT := zT_in 924 (by decide +kernel) (by decide +kernel)
theorem hm_Mod_markOf : zcM m_Mod_markOf 1 := ⟨zT_in 928 (by decide +kernel) (by decide +kernel), zi_Mod, by decide +kernel, by decide⟩
theorem st_Mod_markOf : Cond.static m_Mod_markOf.1 ∈ zT := zT_in 927 (by decide +kernel) (by decide +kernel)
theorem hm_Mod_tellingOf : zcM m_Mod_tellingOf 2 := ⟨zT_in 932 (by decide +kernel) (by decide +kernel), zi_Mod, by decide +kernel, by decide⟩
theorem im_Mod_tellingOf : Cond.instanceMethod m_Mod_tellingOf.1 ∈ zT := zT_in 930 (by decide +kernel) (by decide +kernel)
theorem hm_Mod_isTelling : zcM m_Mod_isTelling 1 := ⟨zT_in 936 (by decide +kernel) (by decide +kernel), zi_Mod, by decide +kernel, by decide⟩
theorem im_Mod_isTelling : Cond.instanceMethod m_Mod_isTelling.1 ∈ zT := zT_in 935 (by decide +kernel) (by decide +kernel)
theorem hm_Mod_isIn : zcM m_Mod_isIn 2 := ⟨zT_in 939 (by decide +kernel) (by decide +kernel), zi_Mod, by decide +kernel, by decide⟩
theorem st_Mod_isIn : Cond.static m_Mod_isIn.1 ∈ zT := zT_in 938 (by decide +kernel) (by decide +kernel)
theorem hm_Mod_get : zcM m_Mod_get 2 := ⟨zT_in 943 (by decide +kernel) (by decide +kernel), zi_Mod, by decide +kernel, by decide⟩
theorem im_Mod_get : Cond.instanceMethod m_Mod_get.1 ∈ zT := zT_in 942 (by decide +kernel) (by decide +kernel)
theorem hm_Mod_kind : zcM m_Mod_kind 1 := ⟨zT_in 947 (by decide +kernel) (by decide +kernel), zi_Mod, by decide +kernel, by decide⟩
theorem im_Mod_kind : Cond.instanceMethod m_Mod_kind.1 ∈ zT := zT_in 945 (by decide +kernel) (by decide +kernel)
theorem hm_Mod_kindOf : zcM m_Mod_kindOf 1 := ⟨zT_in 951 (by decide +kernel) (by decide +kernel), zi_Mod, by decide +kernel, by decide⟩
theorem im_Mod_kindOf : Cond.instanceMethod m_Mod_kindOf.1 ∈ zT := zT_in 950 (by decide +kernel) (by decide +kernel)
theorem hm_Mod_isMarked : zcM m_Mod_isMarked 2 := ⟨zT_in 955 (by decide +kernel) (by decide +kernel), zi_Mod, by decide +kernel, by decide⟩
theorem im_Mod_isMarked : Cond.instanceMethod m_Mod_isMarked.1 ∈ zT := zT_in 954 (by decide +kernel) (by decide +kernel)
theorem hm_Mod_weight : zcM m_Mod_weight 1 := ⟨zT_in 959 (by decide +kernel) (by decide +kernel), zi_Mod, by decide +kernel, by decide⟩
theorem im_Mod_weight : Cond.instanceMethod m_Mod_weight.1 ∈ zT := zT_in 957 (by decide +kernel) (by decide +kernel)
theorem hm_Mod_weightOf : zcM m_Mod_weightOf 1 := ⟨zT_in 963 (by decide +kernel) (by decide +kernel), zi_Mod, by decide +kernel, by decide⟩
theorem im_Mod_weightOf : Cond.instanceMethod m_Mod_weightOf.1 ∈ zT := zT_in 962 (by decide +kernel) (by decide +kernel)
theorem hm_Mod_law : zcM m_Mod_law 3 := ⟨zT_in 967 (by decide +kernel) (by decide +kernel), zi_Mod, by decide +kernel, by decide⟩
theorem im_Mod_law : Cond.instanceMethod m_Mod_law.1 ∈ zT := zT_in 965 (by decide +kernel) (by decide +kernel)
theorem hm_Mod_isLaw : zcM m_Mod_isLaw 1 := ⟨zT_in 970 (by decide +kernel) (by decide +kernel), zi_Mod, by decide +kernel, by decide⟩
theorem st_Mod_isLaw : Cond.static m_Mod_isLaw.1 ∈ zT := zT_in 969 (by decide +kernel) (by decide +kernel)
theorem hm_Mod_within : zcM m_Mod_within 3 := ⟨zT_in 973 (by decide +kernel) (by decide +kernel), zi_Mod, by decide +kernel, by decide⟩
theorem st_Mod_within : Cond.static m_Mod_within.1 ∈ zT := zT_in 972 (by decide +kernel) (by decide +kernel)
theorem hm_Mod_becomes : zcM m_Mod_becomes 2 := ⟨zT_in 977 (by decide +kernel) (by decide +kernel), zi_Mod, by decide +kernel, by decide⟩
theorem im_Mod_becomes : Cond.instanceMethod m_Mod_becomes.1 ∈ zT := zT_in 976 (by decide +kernel) (by decide +kernel)
theorem hm_Mod_right : zcM m_Mod_right 1 := ⟨zT_in 981 (by decide +kernel) (by decide +kernel), zi_Mod, by decide +kernel, by decide⟩
theorem im_Mod_right : Cond.instanceMethod m_Mod_right.1 ∈ zT := zT_in 979 (by decide +kernel) (by decide +kernel)
theorem hm_Mod_growth : zcM m_Mod_growth 2 := ⟨zT_in 985 (by decide +kernel) (by decide +kernel), zi_Mod, by decide +kernel, by decide⟩
theorem im_Mod_growth : Cond.instanceMethod m_Mod_growth.1 ∈ zT := zT_in 983 (by decide +kernel) (by decide +kernel)
theorem hm_Mod_put : zcM m_Mod_put 2 := ⟨zT_in 989 (by decide +kernel) (by decide +kernel), zi_Mod, by decide +kernel, by decide⟩
theorem im_Mod_put : Cond.instanceMethod m_Mod_put.1 ∈ zT := zT_in 987 (by decide +kernel) (by decide +kernel)
theorem hm_Mod_rightOf : zcM m_Mod_rightOf 2 := ⟨zT_in 993 (by decide +kernel) (by decide +kernel), zi_Mod, by decide +kernel, by decide⟩
theorem im_Mod_rightOf : Cond.instanceMethod m_Mod_rightOf.1 ∈ zT := zT_in 992 (by decide +kernel) (by decide +kernel)
theorem hm_Mod_fits : zcM m_Mod_fits 2 := ⟨zT_in 997 (by decide +kernel) (by decide +kernel), zi_Mod, by decide +kernel, by decide⟩
theorem im_Mod_fits : Cond.instanceMethod m_Mod_fits.1 ∈ zT := zT_in 995 (by decide +kernel) (by decide +kernel)
theorem hm_Mod_isFit : zcM m_Mod_isFit 3 := ⟨zT_in 1001 (by decide +kernel) (by decide +kernel), zi_Mod, by decide +kernel, by decide⟩
theorem im_Mod_isFit : Cond.instanceMethod m_Mod_isFit.1 ∈ zT := zT_in 1000 (by decide +kernel) (by decide +kernel)
theorem hm_Mod_meets : zcM m_Mod_meets 3 := ⟨zT_in 1005 (by decide +kernel) (by decide +kernel), zi_Mod, by decide +kernel, by decide⟩
theorem im_Mod_meets : Cond.instanceMethod m_Mod_meets.1 ∈ zT := zT_in 1004 (by decide +kernel) (by decide +kernel)
theorem hm_Mod_share : zcM m_Mod_share 2 := ⟨zT_in 1009 (by decide +kernel) (by decide +kernel), zi_Mod, by decide +kernel, by decide⟩
theorem im_Mod_share : Cond.instanceMethod m_Mod_share.1 ∈ zT := zT_in 1007 (by decide +kernel) (by decide +kernel)
theorem hm_Mod_partOf : zcM m_Mod_partOf 3 := ⟨zT_in 1013 (by decide +kernel) (by decide +kernel), zi_Mod, by decide +kernel, by decide⟩
theorem st_Mod_partOf : Cond.static m_Mod_partOf.1 ∈ zT := zT_in 1012 (by decide +kernel) (by decide +kernel)
theorem hm_Mod_common : zcM m_Mod_common 2 := ⟨zT_in 1016 (by decide +kernel) (by decide +kernel), zi_Mod, by decide +kernel, by decide⟩
theorem st_Mod_common : Cond.static m_Mod_common.1 ∈ zT := zT_in 1015 (by decide +kernel) (by decide +kernel)
theorem hm_Mod_only : zcM m_Mod_only 1 := ⟨zT_in 1020 (by decide +kernel) (by decide +kernel), zi_Mod, by decide +kernel, by decide⟩
theorem im_Mod_only : Cond.instanceMethod m_Mod_only.1 ∈ zT := zT_in 1018 (by decide +kernel) (by decide +kernel)
theorem hm_Mod_lawsOf : zcM m_Mod_lawsOf 1 := ⟨zT_in 1024 (by decide +kernel) (by decide +kernel), zi_Mod, by decide +kernel, by decide⟩
theorem im_Mod_lawsOf : Cond.instanceMethod m_Mod_lawsOf.1 ∈ zT := zT_in 1023 (by decide +kernel) (by decide +kernel)
theorem hm_Mod_cover : zcM m_Mod_cover 0 := ⟨zT_in 1028 (by decide +kernel) (by decide +kernel), zi_Mod, by decide +kernel, by decide⟩
theorem im_Mod_cover : Cond.instanceMethod m_Mod_cover.1 ∈ zT := zT_in 1026 (by decide +kernel) (by decide +kernel)
theorem hm_Mod_bits : zcM m_Mod_bits 1 := ⟨zT_in 1031 (by decide +kernel) (by decide +kernel), zi_Mod, by decide +kernel, by decide⟩
theorem st_Mod_bits : Cond.static m_Mod_bits.1 ∈ zT := zT_in 1030 (by decide +kernel) (by decide +kernel)
theorem hm_Mod_isCover : zcM m_Mod_isCover 1 := ⟨zT_in 1035 (by decide +kernel) (by decide +kernel), zi_Mod, by decide +kernel, by decide⟩
theorem im_Mod_isCover : Cond.instanceMethod m_Mod_isCover.1 ∈ zT := zT_in 1034 (by decide +kernel) (by decide +kernel)
theorem hm_Mod_half : zcM m_Mod_half 1 := ⟨zT_in 1039 (by decide +kernel) (by decide +kernel), zi_Mod, by decide +kernel, by decide⟩
theorem im_Mod_half : Cond.instanceMethod m_Mod_half.1 ∈ zT := zT_in 1037 (by decide +kernel) (by decide +kernel)
theorem hm_Mod_sorts : zcM m_Mod_sorts 1 := ⟨zT_in 1043 (by decide +kernel) (by decide +kernel), zi_Mod, by decide +kernel, by decide⟩
theorem im_Mod_sorts : Cond.instanceMethod m_Mod_sorts.1 ∈ zT := zT_in 1041 (by decide +kernel) (by decide +kernel)
theorem hm_Mod_alike : zcM m_Mod_alike 1 := ⟨zT_in 1047 (by decide +kernel) (by decide +kernel), zi_Mod, by decide +kernel, by decide⟩
theorem im_Mod_alike : Cond.instanceMethod m_Mod_alike.1 ∈ zT := zT_in 1045 (by decide +kernel) (by decide +kernel)
theorem hm_Mod_together : zcM m_Mod_together 2 := ⟨zT_in 1051 (by decide +kernel) (by decide +kernel), zi_Mod, by decide +kernel, by decide⟩
theorem im_Mod_together : Cond.instanceMethod m_Mod_together.1 ∈ zT := zT_in 1049 (by decide +kernel) (by decide +kernel)
theorem hm_Mod_twice : zcM m_Mod_twice 2 := ⟨zT_in 1055 (by decide +kernel) (by decide +kernel), zi_Mod, by decide +kernel, by decide⟩
theorem im_Mod_twice : Cond.instanceMethod m_Mod_twice.1 ∈ zT := zT_in 1053 (by decide +kernel) (by decide +kernel)
theorem hm_Mod_grows : zcM m_Mod_grows 2 := ⟨zT_in 1059 (by decide +kernel) (by decide +kernel), zi_Mod, by decide +kernel, by decide⟩
theorem im_Mod_grows : Cond.instanceMethod m_Mod_grows.1 ∈ zT := zT_in 1057 (by decide +kernel) (by decide +kernel)
theorem hm_Mod_people : zcM m_Mod_people 2 := ⟨zT_in 1063 (by decide +kernel) (by decide +kernel), zi_Mod, by decide +kernel, by decide⟩
theorem im_Mod_people : Cond.instanceMethod m_Mod_people.1 ∈ zT := zT_in 1061 (by decide +kernel) (by decide +kernel)
theorem hm_Mod_strokes : zcM m_Mod_strokes 1 := ⟨zT_in 1067 (by decide +kernel) (by decide +kernel), zi_Mod, by decide +kernel, by decide⟩
theorem im_Mod_strokes : Cond.instanceMethod m_Mod_strokes.1 ∈ zT := zT_in 1065 (by decide +kernel) (by decide +kernel)
theorem hm_Mod_reach : zcM m_Mod_reach 2 := ⟨zT_in 1071 (by decide +kernel) (by decide +kernel), zi_Mod, by decide +kernel, by decide⟩
theorem im_Mod_reach : Cond.instanceMethod m_Mod_reach.1 ∈ zT := zT_in 1069 (by decide +kernel) (by decide +kernel)
theorem hm_Mod_should : zcM m_Mod_should 1 := ⟨zT_in 1075 (by decide +kernel) (by decide +kernel), zi_Mod, by decide +kernel, by decide⟩
theorem im_Mod_should : Cond.instanceMethod m_Mod_should.1 ∈ zT := zT_in 1073 (by decide +kernel) (by decide +kernel)
theorem hm_Mod_shouldOf : zcM m_Mod_shouldOf 1 := ⟨zT_in 1079 (by decide +kernel) (by decide +kernel), zi_Mod, by decide +kernel, by decide⟩
theorem im_Mod_shouldOf : Cond.instanceMethod m_Mod_shouldOf.1 ∈ zT := zT_in 1078 (by decide +kernel) (by decide +kernel)
theorem hm_Mod_seen : zcM m_Mod_seen 1 := ⟨zT_in 1083 (by decide +kernel) (by decide +kernel), zi_Mod, by decide +kernel, by decide⟩
theorem im_Mod_seen : Cond.instanceMethod m_Mod_seen.1 ∈ zT := zT_in 1081 (by decide +kernel) (by decide +kernel)
theorem hm_Mod_seenOf : zcM m_Mod_seenOf 1 := ⟨zT_in 1087 (by decide +kernel) (by decide +kernel), zi_Mod, by decide +kernel, by decide⟩
theorem im_Mod_seenOf : Cond.instanceMethod m_Mod_seenOf.1 ∈ zT := zT_in 1086 (by decide +kernel) (by decide +kernel)
theorem hm_Mod_beyond : zcM m_Mod_beyond 2 := ⟨zT_in 1091 (by decide +kernel) (by decide +kernel), zi_Mod, by decide +kernel, by decide⟩
theorem im_Mod_beyond : Cond.instanceMethod m_Mod_beyond.1 ∈ zT := zT_in 1089 (by decide +kernel) (by decide +kernel)
theorem hm_Mod_leads : zcM m_Mod_leads 0 := ⟨zT_in 1095 (by decide +kernel) (by decide +kernel), zi_Mod, by decide +kernel, by decide⟩
theorem im_Mod_leads : Cond.instanceMethod m_Mod_leads.1 ∈ zT := zT_in 1093 (by decide +kernel) (by decide +kernel)
theorem hm_Mod_pictures : zcM m_Mod_pictures 1 := ⟨zT_in 1099 (by decide +kernel) (by decide +kernel), zi_Mod, by decide +kernel, by decide⟩
theorem im_Mod_pictures : Cond.instanceMethod m_Mod_pictures.1 ∈ zT := zT_in 1097 (by decide +kernel) (by decide +kernel)
theorem hm_Mod_bench : zcM m_Mod_bench 4 := ⟨zT_in 1103 (by decide +kernel) (by decide +kernel), zi_Mod, by decide +kernel, by decide⟩
theorem im_Mod_bench : Cond.instanceMethod m_Mod_bench.1 ∈ zT := zT_in 1101 (by decide +kernel) (by decide +kernel)
theorem hm_Mod_lines : zcM m_Mod_lines 1 := ⟨zT_in 1107 (by decide +kernel) (by decide +kernel), zi_Mod, by decide +kernel, by decide⟩
theorem im_Mod_lines : Cond.instanceMethod m_Mod_lines.1 ∈ zT := zT_in 1105 (by decide +kernel) (by decide +kernel)
theorem hm_Mod_hasLine : zcM m_Mod_hasLine 2 := ⟨zT_in 1111 (by decide +kernel) (by decide +kernel), zi_Mod, by decide +kernel, by decide⟩
theorem im_Mod_hasLine : Cond.instanceMethod m_Mod_hasLine.1 ∈ zT := zT_in 1110 (by decide +kernel) (by decide +kernel)
theorem hm_Mod_misses : zcM m_Mod_misses 1 := ⟨zT_in 1115 (by decide +kernel) (by decide +kernel), zi_Mod, by decide +kernel, by decide⟩
theorem im_Mod_misses : Cond.instanceMethod m_Mod_misses.1 ∈ zT := zT_in 1113 (by decide +kernel) (by decide +kernel)
theorem hm_Mod_barred : zcM m_Mod_barred 1 := ⟨zT_in 1119 (by decide +kernel) (by decide +kernel), zi_Mod, by decide +kernel, by decide⟩
theorem im_Mod_barred : Cond.instanceMethod m_Mod_barred.1 ∈ zT := zT_in 1117 (by decide +kernel) (by decide +kernel)
theorem hm_Mod_glasses : zcM m_Mod_glasses 2 := ⟨zT_in 1123 (by decide +kernel) (by decide +kernel), zi_Mod, by decide +kernel, by decide⟩
theorem im_Mod_glasses : Cond.instanceMethod m_Mod_glasses.1 ∈ zT := zT_in 1121 (by decide +kernel) (by decide +kernel)
theorem hm_Mod_image : zcM m_Mod_image 0 := ⟨zT_in 1127 (by decide +kernel) (by decide +kernel), zi_Mod, by decide +kernel, by decide⟩
theorem im_Mod_image : Cond.instanceMethod m_Mod_image.1 ∈ zT := zT_in 1125 (by decide +kernel) (by decide +kernel)
theorem hm_Mod_on : zcM m_Mod_on 0 := ⟨zT_in 1131 (by decide +kernel) (by decide +kernel), zi_Mod, by decide +kernel, by decide⟩
theorem im_Mod_on : Cond.instanceMethod m_Mod_on.1 ∈ zT := zT_in 1129 (by decide +kernel) (by decide +kernel)
theorem hm_Mod_count : zcM m_Mod_count 1 := ⟨zT_in 1135 (by decide +kernel) (by decide +kernel), zi_Mod, by decide +kernel, by decide⟩
theorem im_Mod_count : Cond.instanceMethod m_Mod_count.1 ∈ zT := zT_in 1133 (by decide +kernel) (by decide +kernel)
theorem cl_LLL_7 : Cond.classLink "LightInRoomLaw" 7 "LightInRoom" ∈ zT := zT_in 62 (by decide +kernel) (by decide +kernel)
theorem it_Lir : Cond.instantiable "LightInRoom" 6 ∈ zT := zT_in 63 (by decide +kernel) (by decide +kernel)
theorem lk_LLL_9 : Cond.methodLink "LightInRoomLaw" 9 m_Lir_init.1 ∈ zT := zT_in 64 (by decide +kernel) (by decide +kernel)
theorem lk_Lir_1 : Cond.methodLink "LightInRoom" 1 objectInit ∈ zT := zT_in 67 (by decide +kernel) (by decide +kernel)
theorem cl_Lir_7 : Cond.classLink "LightInRoom" 7 "LightInRoom$Tape" ∈ zT := zT_in 70 (by decide +kernel) (by decide +kernel)
theorem it_Tap : Cond.instantiable "LightInRoom$Tape" 9 ∈ zT := zT_in 71 (by decide +kernel) (by decide +kernel)
theorem lk_Lir_9 : Cond.methodLink "LightInRoom" 9 m_Tap_init.1 ∈ zT := zT_in 72 (by decide +kernel) (by decide +kernel)
theorem lk_Tap_3 : Cond.methodLink "LightInRoom$Tape" 3 objectInit ∈ zT := zT_in 75 (by decide +kernel) (by decide +kernel)
theorem zw_int : Cond.arrayClass .int ∈ zT := zT_in 112 (by decide +kernel) (by decide +kernel)
theorem cl_Lir_16 : Cond.classLink "LightInRoom" 16 "LightInRoom$Room" ∈ zT := zT_in 113 (by decide +kernel) (by decide +kernel)
theorem it_Roo : Cond.instantiable "LightInRoom$Room" 11 ∈ zT := zT_in 114 (by decide +kernel) (by decide +kernel)
theorem lk_Lir_18 : Cond.methodLink "LightInRoom" 18 m_Roo_init.1 ∈ zT := zT_in 115 (by decide +kernel) (by decide +kernel)
theorem lk_Roo_3 : Cond.methodLink "LightInRoom$Room" 3 objectInit ∈ zT := zT_in 118 (by decide +kernel) (by decide +kernel)
theorem cl_Roo_9 : Cond.classLink "LightInRoom$Room" 9 "LightInRoom$Telling" ∈ zT := zT_in 119 (by decide +kernel) (by decide +kernel)
theorem cl_Roo_17 : Cond.classLink "LightInRoom$Room" 17 "LightInRoom$Law" ∈ zT := zT_in 121 (by decide +kernel) (by decide +kernel)
theorem it_Law : Cond.instantiable "LightInRoom$Law" 2 ∈ zT := zT_in 123 (by decide +kernel) (by decide +kernel)
theorem lk_Roo_23 : Cond.methodLink "LightInRoom$Room" 23 m_Law_init.1 ∈ zT := zT_in 124 (by decide +kernel) (by decide +kernel)
theorem lk_Law_3 : Cond.methodLink "LightInRoom$Law" 3 objectInit ∈ zT := zT_in 127 (by decide +kernel) (by decide +kernel)
theorem cl_Roo_37 : Cond.classLink "LightInRoom$Room" 37 "LightInRoom$Bench" ∈ zT := zT_in 138 (by decide +kernel) (by decide +kernel)
theorem it_Ben : Cond.instantiable "LightInRoom$Bench" 4 ∈ zT := zT_in 139 (by decide +kernel) (by decide +kernel)
theorem lk_Ben_3 : Cond.methodLink "LightInRoom$Bench" 3 objectInit ∈ zT := zT_in 143 (by decide +kernel) (by decide +kernel)
theorem lk_LLL_15 : Cond.methodLink "LightInRoomLaw" 15 m_Lir_feed.1 ∈ zT := zT_in 222 (by decide +kernel) (by decide +kernel)
theorem lk_Lir_37 : Cond.methodLink "LightInRoom" 37 m_Lir_refuse.1 ∈ zT := zT_in 226 (by decide +kernel) (by decide +kernel)
theorem lk_Lir_41 : Cond.methodLink "LightInRoom" 41 m_Tap_roomLeft.1 ∈ zT := zT_in 230 (by decide +kernel) (by decide +kernel)
theorem lk_Lir_45 : Cond.methodLink "LightInRoom" 45 m_Tap_add.1 ∈ zT := zT_in 234 (by decide +kernel) (by decide +kernel)
theorem kn_Tap_19 : Cond.constantLong "LightInRoom$Tape" 19 255 ∈ zT := zT_in 238 (by decide +kernel) (by decide +kernel)
theorem lk_LLL_20 : Cond.methodLink "LightInRoomLaw" 20 m_Lir_telling.1 ∈ zT := zT_in 239 (by decide +kernel) (by decide +kernel)
theorem lk_Lir_56 : Cond.methodLink "LightInRoom" 56 m_Tap_read.1 ∈ zT := zT_in 243 (by decide +kernel) (by decide +kernel)
theorem lk_Tap_24 : Cond.methodLink "LightInRoom$Tape" 24 m_Tap_readSize.1 ∈ zT := zT_in 247 (by decide +kernel) (by decide +kernel)
theorem lk_Tap_87 : Cond.methodLink "LightInRoom$Tape" 87 m_Tap_passes.1 ∈ zT := zT_in 251 (by decide +kernel) (by decide +kernel)
theorem lk_Tap_77 : Cond.methodLink "LightInRoom$Tape" 77 m_Tap_byteHere.1 ∈ zT := zT_in 255 (by decide +kernel) (by decide +kernel)
theorem lk_Tap_91 : Cond.methodLink "LightInRoom$Tape" 91 m_Tap_readNumber.1 ∈ zT := zT_in 259 (by decide +kernel) (by decide +kernel)
theorem lk_Tap_81 : Cond.methodLink "LightInRoom$Tape" 81 m_Tap_digitHere.1 ∈ zT := zT_in 263 (by decide +kernel) (by decide +kernel)
theorem lk_Tap_28 : Cond.methodLink "LightInRoom$Tape" 28 m_Tap_readSeconds.1 ∈ zT := zT_in 267 (by decide +kernel) (by decide +kernel)
theorem lk_Tap_31 : Cond.methodLink "LightInRoom$Tape" 31 m_Tap_readColour.1 ∈ zT := zT_in 271 (by decide +kernel) (by decide +kernel)
theorem lk_Tap_34 : Cond.methodLink "LightInRoom$Tape" 34 m_Tap_readMarks.1 ∈ zT := zT_in 275 (by decide +kernel) (by decide +kernel)
theorem lk_Tap_103 : Cond.methodLink "LightInRoom$Tape" 103 m_Str_length.1 ∈ zT := zT_in 280 (by decide +kernel) (by decide +kernel)
theorem lk_Str_335 : Cond.methodLink "java/lang/String" 335 m_Str_coder.1 ∈ zT := zT_in 284 (by decide +kernel) (by decide +kernel)
theorem lk_Tap_107 : Cond.methodLink "LightInRoom$Tape" 107 m_Str_charAt.1 ∈ zT := zT_in 290 (by decide +kernel) (by decide +kernel)
theorem lk_Str_492 : Cond.methodLink "java/lang/String" 492 m_Str_isLatin1.1 ∈ zT := zT_in 294 (by decide +kernel) (by decide +kernel)
theorem lk_Str_495 : Cond.methodLink "java/lang/String" 495 m_SLa_charAt.1 ∈ zT := zT_in 298 (by decide +kernel) (by decide +kernel)
theorem lk_SLa_9 : Cond.methodLink "java/lang/StringLatin1" 9 m_Str_checkIndex.1 ∈ zT := zT_in 301 (by decide +kernel) (by decide +kernel)
theorem lk_Str_1059 : Cond.methodLink "java/lang/String" 1059 m_Pre_checkIndex.1 ∈ zT := zT_in 306 (by decide +kernel) (by decide +kernel)
theorem lk_Str_498 : Cond.methodLink "java/lang/String" 498 m_SUt_charAt.1 ∈ zT := zT_in 309 (by decide +kernel) (by decide +kernel)
theorem lk_SUt_67 : Cond.methodLink "java/lang/StringUTF16" 67 m_SUt_checkIndex.1 ∈ zT := zT_in 312 (by decide +kernel) (by decide +kernel)
theorem lk_SUt_48 : Cond.methodLink "java/lang/StringUTF16" 48 m_SUt_length.1 ∈ zT := zT_in 315 (by decide +kernel) (by decide +kernel)
theorem lk_SUt_414 : Cond.methodLink "java/lang/StringUTF16" 414 m_Str_checkIndex.1 ∈ zT := zT_in 318 (by decide +kernel) (by decide +kernel)
theorem lk_SUt_71 : Cond.methodLink "java/lang/StringUTF16" 71 m_SUt_getChar.1 ∈ zT := zT_in 319 (by decide +kernel) (by decide +kernel)
theorem lk_Tap_37 : Cond.methodLink "LightInRoom$Tape" 37 m_Tap_readYears.1 ∈ zT := zT_in 328 (by decide +kernel) (by decide +kernel)
theorem lk_Tap_40 : Cond.methodLink "LightInRoom$Tape" 40 m_Tap_readAsked.1 ∈ zT := zT_in 332 (by decide +kernel) (by decide +kernel)
theorem lk_Lir_60 : Cond.methodLink "LightInRoom" 60 m_Tap_clear.1 ∈ zT := zT_in 336 (by decide +kernel) (by decide +kernel)
theorem lk_Lir_63 : Cond.methodLink "LightInRoom" 63 m_Tap_newTelling.1 ∈ zT := zT_in 340 (by decide +kernel) (by decide +kernel)
theorem cl_Tap_47 : Cond.classLink "LightInRoom$Tape" 47 "LightInRoom$Called" ∈ zT := zT_in 344 (by decide +kernel) (by decide +kernel)
theorem it_Cal : Cond.instantiable "LightInRoom$Called" 6 ∈ zT := zT_in 345 (by decide +kernel) (by decide +kernel)
theorem lk_Tap_49 : Cond.methodLink "LightInRoom$Tape" 49 m_Cal_init.1 ∈ zT := zT_in 346 (by decide +kernel) (by decide +kernel)
theorem lk_Cal_1 : Cond.methodLink "LightInRoom$Called" 1 m_Tel_init.1 ∈ zT := zT_in 349 (by decide +kernel) (by decide +kernel)
theorem lk_Tel_3 : Cond.methodLink "LightInRoom$Telling" 3 objectInit ∈ zT := zT_in 352 (by decide +kernel) (by decide +kernel)
theorem su_Cal : Cond.superclass "LightInRoom$Called" "LightInRoom$Telling" ∈ zT := zT_in 390 (by decide +kernel) (by decide +kernel)
theorem cl_Tap_59 : Cond.classLink "LightInRoom$Tape" 59 "LightInRoom$Eye" ∈ zT := zT_in 395 (by decide +kernel) (by decide +kernel)
theorem it_Eye : Cond.instantiable "LightInRoom$Eye" 6 ∈ zT := zT_in 396 (by decide +kernel) (by decide +kernel)
theorem lk_Tap_61 : Cond.methodLink "LightInRoom$Tape" 61 m_Eye_init.1 ∈ zT := zT_in 397 (by decide +kernel) (by decide +kernel)
theorem lk_Eye_1 : Cond.methodLink "LightInRoom$Eye" 1 m_Tel_init.1 ∈ zT := zT_in 400 (by decide +kernel) (by decide +kernel)
theorem su_Eye : Cond.superclass "LightInRoom$Eye" "LightInRoom$Telling" ∈ zT := zT_in 407 (by decide +kernel) (by decide +kernel)
theorem cl_Tap_62 : Cond.classLink "LightInRoom$Tape" 62 "LightInRoom$Through" ∈ zT := zT_in 408 (by decide +kernel) (by decide +kernel)
theorem it_Thr : Cond.instantiable "LightInRoom$Through" 6 ∈ zT := zT_in 409 (by decide +kernel) (by decide +kernel)
theorem lk_Tap_64 : Cond.methodLink "LightInRoom$Tape" 64 m_Thr_init.1 ∈ zT := zT_in 410 (by decide +kernel) (by decide +kernel)
theorem lk_Thr_3 : Cond.methodLink "LightInRoom$Through" 3 m_Nea_init.1 ∈ zT := zT_in 413 (by decide +kernel) (by decide +kernel)
theorem lk_Nea_1 : Cond.methodLink "LightInRoom$Near" 1 m_Tel_init.1 ∈ zT := zT_in 416 (by decide +kernel) (by decide +kernel)
theorem su_Thr : Cond.superclass "LightInRoom$Through" "LightInRoom$Near" ∈ zT := zT_in 423 (by decide +kernel) (by decide +kernel)
theorem cl_Tap_65 : Cond.classLink "LightInRoom$Tape" 65 "LightInRoom$Near" ∈ zT := zT_in 424 (by decide +kernel) (by decide +kernel)
theorem it_Nea : Cond.instantiable "LightInRoom$Near" 6 ∈ zT := zT_in 425 (by decide +kernel) (by decide +kernel)
theorem lk_Tap_67 : Cond.methodLink "LightInRoom$Tape" 67 m_Nea_init.1 ∈ zT := zT_in 426 (by decide +kernel) (by decide +kernel)
theorem su_Nea : Cond.superclass "LightInRoom$Near" "LightInRoom$Telling" ∈ zT := zT_in 433 (by decide +kernel) (by decide +kernel)
theorem cl_Tap_71 : Cond.classLink "LightInRoom$Tape" 71 "LightInRoom$Grown" ∈ zT := zT_in 434 (by decide +kernel) (by decide +kernel)
theorem it_Gro : Cond.instantiable "LightInRoom$Grown" 6 ∈ zT := zT_in 435 (by decide +kernel) (by decide +kernel)
theorem lk_Tap_73 : Cond.methodLink "LightInRoom$Tape" 73 m_Gro_init.1 ∈ zT := zT_in 436 (by decide +kernel) (by decide +kernel)
theorem lk_Gro_3 : Cond.methodLink "LightInRoom$Grown" 3 m_Wit_init.1 ∈ zT := zT_in 439 (by decide +kernel) (by decide +kernel)
theorem lk_Wit_1 : Cond.methodLink "LightInRoom$Without" 1 m_Tel_init.1 ∈ zT := zT_in 442 (by decide +kernel) (by decide +kernel)
theorem su_Gro : Cond.superclass "LightInRoom$Grown" "LightInRoom$Without" ∈ zT := zT_in 449 (by decide +kernel) (by decide +kernel)
theorem cl_Tap_74 : Cond.classLink "LightInRoom$Tape" 74 "LightInRoom$Without" ∈ zT := zT_in 450 (by decide +kernel) (by decide +kernel)
theorem it_Wit : Cond.instantiable "LightInRoom$Without" 6 ∈ zT := zT_in 451 (by decide +kernel) (by decide +kernel)
theorem lk_Tap_76 : Cond.methodLink "LightInRoom$Tape" 76 m_Wit_init.1 ∈ zT := zT_in 452 (by decide +kernel) (by decide +kernel)
theorem su_Wit : Cond.superclass "LightInRoom$Without" "LightInRoom$Telling" ∈ zT := zT_in 459 (by decide +kernel) (by decide +kernel)
theorem lk_Lir_67 : Cond.methodLink "LightInRoom" 67 m_Roo_addTelling.1 ∈ zT := zT_in 460 (by decide +kernel) (by decide +kernel)
theorem lk_LLL_25 : Cond.methodLink "LightInRoomLaw" 25 m_Lir_tellingOf.1 ∈ zT := zT_in 464 (by decide +kernel) (by decide +kernel)
theorem lk_Lir_74 : Cond.methodLink "LightInRoom" 74 m_Roo_tellingAt.1 ∈ zT := zT_in 468 (by decide +kernel) (by decide +kernel)
theorem lk_Roo_90 : Cond.methodLink "LightInRoom$Room" 90 m_Roo_inRow.1 ∈ zT := zT_in 472 (by decide +kernel) (by decide +kernel)
theorem lk_LLL_30 : Cond.methodLink "LightInRoomLaw" 30 m_Lir_kind.1 ∈ zT := zT_in 475 (by decide +kernel) (by decide +kernel)
theorem lk_Lir_98 : Cond.methodLink "LightInRoom" 98 (⟨"LightInRoom$Telling", "kindNumber", "()I"⟩ : MethodName) ∈ zT := zT_in 479 (by decide +kernel) (by decide +kernel)
theorem sm_Tel_kindNumber : Cond.sameMethod "LightInRoom$Telling" "LightInRoom$Telling" "kindNumber" "()I" ∈ zT := zT_in 481 (by decide +kernel) (by decide +kernel)
theorem lk_LLL_35 : Cond.methodLink "LightInRoomLaw" 35 m_Lir_weight.1 ∈ zT := zT_in 500 (by decide +kernel) (by decide +kernel)
theorem lk_Lir_101 : Cond.methodLink "LightInRoom" 101 (⟨"LightInRoom$Telling", "ownWeight", "()I"⟩ : MethodName) ∈ zT := zT_in 504 (by decide +kernel) (by decide +kernel)
theorem sm_Tel_ownWeight : Cond.sameMethod "LightInRoom$Telling" "LightInRoom$Telling" "ownWeight" "()I" ∈ zT := zT_in 506 (by decide +kernel) (by decide +kernel)
theorem lk_Gro_9 : Cond.methodLink "LightInRoom$Grown" 9 m_Wit_ownWeight.1 ∈ zT := zT_in 516 (by decide +kernel) (by decide +kernel)
theorem lk_Thr_9 : Cond.methodLink "LightInRoom$Through" 9 m_Nea_ownWeight.1 ∈ zT := zT_in 525 (by decide +kernel) (by decide +kernel)
theorem lk_LLL_39 : Cond.methodLink "LightInRoomLaw" 39 m_Lir_law.1 ∈ zT := zT_in 527 (by decide +kernel) (by decide +kernel)
theorem lk_Lir_104 : Cond.methodLink "LightInRoom" 104 m_Roo_lawAt.1 ∈ zT := zT_in 531 (by decide +kernel) (by decide +kernel)
theorem lk_Lir_108 : Cond.methodLink "LightInRoom" 108 m_Lir_outside.1 ∈ zT := zT_in 535 (by decide +kernel) (by decide +kernel)
theorem lk_Lir_117 : Cond.methodLink "LightInRoom" 117 m_Lir_exchange.1 ∈ zT := zT_in 538 (by decide +kernel) (by decide +kernel)
theorem lk_LLL_44 : Cond.methodLink "LightInRoomLaw" 44 m_Lir_right.1 ∈ zT := zT_in 541 (by decide +kernel) (by decide +kernel)
theorem lk_LLL_49 : Cond.methodLink "LightInRoomLaw" 49 m_Lir_growth.1 ∈ zT := zT_in 545 (by decide +kernel) (by decide +kernel)
theorem lk_Lir_124 : Cond.methodLink "LightInRoom" 124 m_Lir_isSizeOrSeconds.1 ∈ zT := zT_in 549 (by decide +kernel) (by decide +kernel)
theorem lk_LLL_53 : Cond.methodLink "LightInRoomLaw" 53 m_Lir_put.1 ∈ zT := zT_in 552 (by decide +kernel) (by decide +kernel)
theorem lk_Lir_131 : Cond.methodLink "LightInRoom" 131 m_Roo_rightNumber.1 ∈ zT := zT_in 556 (by decide +kernel) (by decide +kernel)
theorem lk_Roo_94 : Cond.methodLink "LightInRoom$Room" 94 m_Tel_lacks.1 ∈ zT := zT_in 560 (by decide +kernel) (by decide +kernel)
theorem sm_Tel_lacks : Cond.sameMethod "LightInRoom$Telling" "LightInRoom$Telling" "lacks" "(I)Z" ∈ zT := zT_in 562 (by decide +kernel) (by decide +kernel)
theorem lk_Tel_43 : Cond.methodLink "LightInRoom$Telling" 43 m_Tel_numberTold.1 ∈ zT := zT_in 570 (by decide +kernel) (by decide +kernel)
theorem sm_Tel_numberTold : Cond.sameMethod "LightInRoom$Telling" "LightInRoom$Telling" "numberTold" "(I)I" ∈ zT := zT_in 572 (by decide +kernel) (by decide +kernel)
theorem lk_Roo_101 : Cond.methodLink "LightInRoom$Room" 101 m_Tel_numberTold.1 ∈ zT := zT_in 580 (by decide +kernel) (by decide +kernel)
theorem lk_LLL_57 : Cond.methodLink "LightInRoomLaw" 57 m_Lir_fits.1 ∈ zT := zT_in 581 (by decide +kernel) (by decide +kernel)
theorem lk_Lir_135 : Cond.methodLink "LightInRoom" 135 m_Roo_brokenBy.1 ∈ zT := zT_in 585 (by decide +kernel) (by decide +kernel)
theorem lk_Roo_109 : Cond.methodLink "LightInRoom$Room" 109 m_Roo_heldNumber.1 ∈ zT := zT_in 589 (by decide +kernel) (by decide +kernel)
theorem lk_Roo_105 : Cond.methodLink "LightInRoom$Room" 105 m_Roo_rightNumber.1 ∈ zT := zT_in 593 (by decide +kernel) (by decide +kernel)
theorem lk_Roo_112 : Cond.methodLink "LightInRoom$Room" 112 m_Law_brokenBy.1 ∈ zT := zT_in 594 (by decide +kernel) (by decide +kernel)
theorem lk_LLL_61 : Cond.methodLink "LightInRoomLaw" 61 m_Lir_share.1 ∈ zT := zT_in 599 (by decide +kernel) (by decide +kernel)
theorem lk_Lir_139 : Cond.methodLink "LightInRoom" 139 m_Lir_refuseAsTold.1 ∈ zT := zT_in 603 (by decide +kernel) (by decide +kernel)
theorem kn_Lir_268 : Cond.constant "LightInRoom" 268 1000000000 ∈ zT := zT_in 607 (by decide +kernel) (by decide +kernel)
theorem lk_Lir_142 : Cond.methodLink "LightInRoom" 142 m_Lir_isPart.1 ∈ zT := zT_in 608 (by decide +kernel) (by decide +kernel)
theorem lk_Lir_149 : Cond.methodLink "LightInRoom" 149 m_Lir_leastTerms.1 ∈ zT := zT_in 611 (by decide +kernel) (by decide +kernel)
theorem lk_Lir_269 : Cond.methodLink "LightInRoom" 269 m_Lir_greatestCommon.1 ∈ zT := zT_in 614 (by decide +kernel) (by decide +kernel)
theorem lk_LLL_65 : Cond.methodLink "LightInRoomLaw" 65 m_Lir_only.1 ∈ zT := zT_in 617 (by decide +kernel) (by decide +kernel)
theorem lk_Lir_152 : Cond.methodLink "LightInRoom" 152 m_Lir_howManyFitOnly.1 ∈ zT := zT_in 621 (by decide +kernel) (by decide +kernel)
theorem lk_Lir_281 : Cond.methodLink "LightInRoom" 281 m_Roo_lawsFitted.1 ∈ zT := zT_in 625 (by decide +kernel) (by decide +kernel)
theorem lk_Roo_48 : Cond.methodLink "LightInRoom$Room" 48 m_Roo_lawAt.1 ∈ zT := zT_in 629 (by decide +kernel) (by decide +kernel)
theorem lk_LLL_69 : Cond.methodLink "LightInRoomLaw" 69 m_Lir_cover.1 ∈ zT := zT_in 630 (by decide +kernel) (by decide +kernel)
theorem lk_Lir_156 : Cond.methodLink "LightInRoom" 156 m_Lir_noteLaws.1 ∈ zT := zT_in 634 (by decide +kernel) (by decide +kernel)
theorem lk_Lir_159 : Cond.methodLink "LightInRoom" 159 m_Int_bitCount.1 ∈ zT := zT_in 638 (by decide +kernel) (by decide +kernel)
theorem kn_Int_265 : Cond.constant "java/lang/Integer" 265 1431655765 ∈ zT := zT_in 641 (by decide +kernel) (by decide +kernel)
theorem kn_Int_266 : Cond.constant "java/lang/Integer" 266 858993459 ∈ zT := zT_in 642 (by decide +kernel) (by decide +kernel)
theorem kn_Int_267 : Cond.constant "java/lang/Integer" 267 252645135 ∈ zT := zT_in 643 (by decide +kernel) (by decide +kernel)
theorem lk_Lir_164 : Cond.methodLink "LightInRoom" 164 m_Lir_coversAll.1 ∈ zT := zT_in 644 (by decide +kernel) (by decide +kernel)
theorem lk_LLL_73 : Cond.methodLink "LightInRoomLaw" 73 m_Lir_half.1 ∈ zT := zT_in 648 (by decide +kernel) (by decide +kernel)
theorem lk_Lir_167 : Cond.methodLink "LightInRoom" 167 m_Lir_noteBroken.1 ∈ zT := zT_in 652 (by decide +kernel) (by decide +kernel)
theorem lk_Lir_171 : Cond.methodLink "LightInRoom" 171 m_Lir_halfFitsWithout.1 ∈ zT := zT_in 656 (by decide +kernel) (by decide +kernel)
theorem lk_LLL_77 : Cond.methodLink "LightInRoomLaw" 77 m_Lir_sorts.1 ∈ zT := zT_in 660 (by decide +kernel) (by decide +kernel)
theorem lk_Lir_174 : Cond.methodLink "LightInRoom" 174 m_Lir_firstNotedLike.1 ∈ zT := zT_in 664 (by decide +kernel) (by decide +kernel)
theorem lk_Lir_177 : Cond.methodLink "LightInRoom" 177 m_Lir_howManyNotedLike.1 ∈ zT := zT_in 668 (by decide +kernel) (by decide +kernel)
theorem lk_Lir_180 : Cond.methodLink "LightInRoom" 180 Lib.Math.max.name ∈ zT := zT_in 672 (by decide +kernel) (by decide +kernel)
theorem lk_LLL_81 : Cond.methodLink "LightInRoomLaw" 81 m_Lir_alike.1 ∈ zT := zT_in 675 (by decide +kernel) (by decide +kernel)
theorem lk_LLL_85 : Cond.methodLink "LightInRoomLaw" 85 m_Lir_together.1 ∈ zT := zT_in 679 (by decide +kernel) (by decide +kernel)
theorem lk_Lir_185 : Cond.methodLink "LightInRoom" 185 m_Lir_isMark.1 ∈ zT := zT_in 683 (by decide +kernel) (by decide +kernel)
theorem lk_Lir_188 : Cond.methodLink "LightInRoom" 188 m_Tel_has.1 ∈ zT := zT_in 686 (by decide +kernel) (by decide +kernel)
theorem sm_Tel_has : Cond.sameMethod "LightInRoom$Telling" "LightInRoom$Telling" "has" "(I)Z" ∈ zT := zT_in 688 (by decide +kernel) (by decide +kernel)
theorem lk_Lir_191 : Cond.methodLink "LightInRoom" 191 m_Lir_hundredths.1 ∈ zT := zT_in 697 (by decide +kernel) (by decide +kernel)
theorem lk_LLL_89 : Cond.methodLink "LightInRoomLaw" 89 m_Lir_twice.1 ∈ zT := zT_in 700 (by decide +kernel) (by decide +kernel)
theorem lk_Lir_197 : Cond.methodLink "LightInRoom" 197 m_Roo_addPair.1 ∈ zT := zT_in 704 (by decide +kernel) (by decide +kernel)
theorem lk_LLL_93 : Cond.methodLink "LightInRoomLaw" 93 m_Lir_grows.1 ∈ zT := zT_in 708 (by decide +kernel) (by decide +kernel)
theorem lk_Lir_201 : Cond.methodLink "LightInRoom" 201 m_Roo_firstOfPair.1 ∈ zT := zT_in 712 (by decide +kernel) (by decide +kernel)
theorem lk_Lir_204 : Cond.methodLink "LightInRoom" 204 m_Roo_secondOfPair.1 ∈ zT := zT_in 716 (by decide +kernel) (by decide +kernel)
theorem lk_Lir_207 : Cond.methodLink "LightInRoom" 207 m_Tel_lacks.1 ∈ zT := zT_in 720 (by decide +kernel) (by decide +kernel)
theorem lk_Lir_210 : Cond.methodLink "LightInRoom" 210 m_Tel_numberTold.1 ∈ zT := zT_in 721 (by decide +kernel) (by decide +kernel)
theorem lk_LLL_97 : Cond.methodLink "LightInRoomLaw" 97 m_Lir_people.1 ∈ zT := zT_in 722 (by decide +kernel) (by decide +kernel)
theorem lk_LLL_101 : Cond.methodLink "LightInRoomLaw" 101 m_Lir_strokes.1 ∈ zT := zT_in 726 (by decide +kernel) (by decide +kernel)
theorem lk_LLL_105 : Cond.methodLink "LightInRoomLaw" 105 m_Lir_reach.1 ∈ zT := zT_in 730 (by decide +kernel) (by decide +kernel)
theorem lk_LLL_109 : Cond.methodLink "LightInRoomLaw" 109 m_Lir_should.1 ∈ zT := zT_in 734 (by decide +kernel) (by decide +kernel)
theorem lk_Lir_222 : Cond.methodLink "LightInRoom" 222 m_Roo_shownTo.1 ∈ zT := zT_in 738 (by decide +kernel) (by decide +kernel)
theorem lk_LLL_113 : Cond.methodLink "LightInRoomLaw" 113 m_Lir_seen.1 ∈ zT := zT_in 742 (by decide +kernel) (by decide +kernel)
theorem lk_Lir_226 : Cond.methodLink "LightInRoom" 226 m_Roo_howManyFit.1 ∈ zT := zT_in 746 (by decide +kernel) (by decide +kernel)
theorem lk_Roo_116 : Cond.methodLink "LightInRoom$Room" 116 m_Roo_brokenBy.1 ∈ zT := zT_in 750 (by decide +kernel) (by decide +kernel)
theorem lk_LLL_117 : Cond.methodLink "LightInRoomLaw" 117 m_Lir_beyond.1 ∈ zT := zT_in 751 (by decide +kernel) (by decide +kernel)
theorem lk_LLL_121 : Cond.methodLink "LightInRoomLaw" 121 m_Lir_leads.1 ∈ zT := zT_in 755 (by decide +kernel) (by decide +kernel)
theorem lk_Lir_229 : Cond.methodLink "LightInRoom" 229 m_Roo_howManyAsked.1 ∈ zT := zT_in 759 (by decide +kernel) (by decide +kernel)
theorem lk_Lir_232 : Cond.methodLink "LightInRoom" 232 m_Roo_howManyAskedFit.1 ∈ zT := zT_in 763 (by decide +kernel) (by decide +kernel)
theorem lk_LLL_125 : Cond.methodLink "LightInRoomLaw" 125 m_Lir_pictures.1 ∈ zT := zT_in 767 (by decide +kernel) (by decide +kernel)
theorem lk_LLL_129 : Cond.methodLink "LightInRoomLaw" 129 m_Lir_bench.1 ∈ zT := zT_in 771 (by decide +kernel) (by decide +kernel)
theorem lk_Lir_239 : Cond.methodLink "LightInRoom" 239 m_Ben_tell.1 ∈ zT := zT_in 775 (by decide +kernel) (by decide +kernel)
theorem lk_LLL_134 : Cond.methodLink "LightInRoomLaw" 134 m_Lir_lines.1 ∈ zT := zT_in 779 (by decide +kernel) (by decide +kernel)
theorem lk_Lir_245 : Cond.methodLink "LightInRoom" 245 m_Ben_linesLacking.1 ∈ zT := zT_in 783 (by decide +kernel) (by decide +kernel)
theorem lk_LLL_138 : Cond.methodLink "LightInRoomLaw" 138 m_Lir_misses.1 ∈ zT := zT_in 787 (by decide +kernel) (by decide +kernel)
theorem lk_Lir_248 : Cond.methodLink "LightInRoom" 248 m_Lir_hasBit.1 ∈ zT := zT_in 791 (by decide +kernel) (by decide +kernel)
theorem lk_LLL_142 : Cond.methodLink "LightInRoomLaw" 142 m_Lir_barred.1 ∈ zT := zT_in 792 (by decide +kernel) (by decide +kernel)
theorem lk_LLL_146 : Cond.methodLink "LightInRoomLaw" 146 m_Lir_glasses.1 ∈ zT := zT_in 796 (by decide +kernel) (by decide +kernel)
theorem lk_Lir_252 : Cond.methodLink "LightInRoom" 252 m_Roo_fullestRing.1 ∈ zT := zT_in 800 (by decide +kernel) (by decide +kernel)
theorem lk_LLL_150 : Cond.methodLink "LightInRoomLaw" 150 m_Lir_image.1 ∈ zT := zT_in 805 (by decide +kernel) (by decide +kernel)
theorem lk_Lir_255 : Cond.methodLink "LightInRoom" 255 m_Roo_becomeLike.1 ∈ zT := zT_in 809 (by decide +kernel) (by decide +kernel)
theorem lk_Roo_44 : Cond.methodLink "LightInRoom$Room" 44 m_Roo_copyTellings.1 ∈ zT := zT_in 813 (by decide +kernel) (by decide +kernel)
theorem lk_Roo_52 : Cond.methodLink "LightInRoom$Room" 52 m_Law_becomeLike.1 ∈ zT := zT_in 816 (by decide +kernel) (by decide +kernel)
theorem lk_Lir_272 : Cond.methodLink "LightInRoom" 272 Lib.Math.min.name ∈ zT := zT_in 823 (by decide +kernel) (by decide +kernel)
theorem lk_Lir_275 : Cond.methodLink "LightInRoom" 275 arraycopyName ∈ zT := zT_in 826 (by decide +kernel) (by decide +kernel)
theorem lk_Roo_73 : Cond.methodLink "LightInRoom$Room" 73 m_Ben_tell.1 ∈ zT := zT_in 830 (by decide +kernel) (by decide +kernel)
theorem lk_LLL_154 : Cond.methodLink "LightInRoomLaw" 154 m_Lir_on.1 ∈ zT := zT_in 831 (by decide +kernel) (by decide +kernel)
theorem lk_LLL_158 : Cond.methodLink "LightInRoomLaw" 158 m_Lir_count.1 ∈ zT := zT_in 835 (by decide +kernel) (by decide +kernel)
theorem lk_Lir_259 : Cond.methodLink "LightInRoom" 259 m_Roo_howManyGaps.1 ∈ zT := zT_in 839 (by decide +kernel) (by decide +kernel)
theorem lk_Roo_122 : Cond.methodLink "LightInRoom$Room" 122 m_Tel_gaps.1 ∈ zT := zT_in 843 (by decide +kernel) (by decide +kernel)
theorem sm_Tel_gaps : Cond.sameMethod "LightInRoom$Telling" "LightInRoom$Telling" "gaps" "()I" ∈ zT := zT_in 845 (by decide +kernel) (by decide +kernel)
theorem lk_Lir_262 : Cond.methodLink "LightInRoom" 262 m_Roo_howManyMarks.1 ∈ zT := zT_in 853 (by decide +kernel) (by decide +kernel)
theorem lk_Roo_127 : Cond.methodLink "LightInRoom$Room" 127 m_Int_bitCount.1 ∈ zT := zT_in 857 (by decide +kernel) (by decide +kernel)
theorem lk_Lir_265 : Cond.methodLink "LightInRoom" 265 m_Lir_refusalsCounted.1 ∈ zT := zT_in 858 (by decide +kernel) (by decide +kernel)
theorem cl_LLL_10 : Cond.classLink "LightInRoomLaw" 10 "LightInRoomModel" ∈ zT := zT_in 862 (by decide +kernel) (by decide +kernel)
theorem it_Mod : Cond.instantiable "LightInRoomModel" 8 ∈ zT := zT_in 863 (by decide +kernel) (by decide +kernel)
theorem lk_LLL_12 : Cond.methodLink "LightInRoomLaw" 12 m_Mod_init.1 ∈ zT := zT_in 864 (by decide +kernel) (by decide +kernel)
theorem lk_Mod_1 : Cond.methodLink "LightInRoomModel" 1 objectInit ∈ zT := zT_in 867 (by decide +kernel) (by decide +kernel)
theorem lk_LLL_19 : Cond.methodLink "LightInRoomLaw" 19 m_Mod_feed.1 ∈ zT := zT_in 893 (by decide +kernel) (by decide +kernel)
theorem lk_Mod_29 : Cond.methodLink "LightInRoomModel" 29 m_Mod_refuse.1 ∈ zT := zT_in 897 (by decide +kernel) (by decide +kernel)
theorem kn_Mod_37 : Cond.constantLong "LightInRoomModel" 37 255 ∈ zT := zT_in 901 (by decide +kernel) (by decide +kernel)
theorem lk_LLL_24 : Cond.methodLink "LightInRoomLaw" 24 m_Mod_telling.1 ∈ zT := zT_in 902 (by decide +kernel) (by decide +kernel)
theorem lk_Mod_60 : Cond.methodLink "LightInRoomModel" 60 m_Mod_reads.1 ∈ zT := zT_in 906 (by decide +kernel) (by decide +kernel)
theorem lk_Mod_50 : Cond.methodLink "LightInRoomModel" 50 m_Mod_takes.1 ∈ zT := zT_in 910 (by decide +kernel) (by decide +kernel)
theorem lk_Mod_42 : Cond.methodLink "LightInRoomModel" 42 m_Mod_sign.1 ∈ zT := zT_in 914 (by decide +kernel) (by decide +kernel)
theorem lk_Mod_54 : Cond.methodLink "LightInRoomModel" 54 m_Mod_readsNumber.1 ∈ zT := zT_in 918 (by decide +kernel) (by decide +kernel)
theorem lk_Mod_46 : Cond.methodLink "LightInRoomModel" 46 m_Mod_isDigit.1 ∈ zT := zT_in 922 (by decide +kernel) (by decide +kernel)
theorem lk_Mod_57 : Cond.methodLink "LightInRoomModel" 57 m_Mod_markOf.1 ∈ zT := zT_in 926 (by decide +kernel) (by decide +kernel)
theorem lk_LLL_29 : Cond.methodLink "LightInRoomLaw" 29 m_Mod_tellingOf.1 ∈ zT := zT_in 929 (by decide +kernel) (by decide +kernel)
theorem lk_Mod_63 : Cond.methodLink "LightInRoomModel" 63 m_Mod_isTelling.1 ∈ zT := zT_in 933 (by decide +kernel) (by decide +kernel)
theorem lk_Mod_25 : Cond.methodLink "LightInRoomModel" 25 m_Mod_isIn.1 ∈ zT := zT_in 937 (by decide +kernel) (by decide +kernel)
theorem lk_Mod_66 : Cond.methodLink "LightInRoomModel" 66 m_Mod_get.1 ∈ zT := zT_in 940 (by decide +kernel) (by decide +kernel)
theorem lk_LLL_34 : Cond.methodLink "LightInRoomLaw" 34 m_Mod_kind.1 ∈ zT := zT_in 944 (by decide +kernel) (by decide +kernel)
theorem lk_Mod_73 : Cond.methodLink "LightInRoomModel" 73 m_Mod_kindOf.1 ∈ zT := zT_in 948 (by decide +kernel) (by decide +kernel)
theorem lk_Mod_70 : Cond.methodLink "LightInRoomModel" 70 m_Mod_isMarked.1 ∈ zT := zT_in 952 (by decide +kernel) (by decide +kernel)
theorem lk_LLL_38 : Cond.methodLink "LightInRoomLaw" 38 m_Mod_weight.1 ∈ zT := zT_in 956 (by decide +kernel) (by decide +kernel)
theorem lk_Mod_76 : Cond.methodLink "LightInRoomModel" 76 m_Mod_weightOf.1 ∈ zT := zT_in 960 (by decide +kernel) (by decide +kernel)
theorem lk_LLL_43 : Cond.methodLink "LightInRoomLaw" 43 m_Mod_law.1 ∈ zT := zT_in 964 (by decide +kernel) (by decide +kernel)
theorem lk_Mod_79 : Cond.methodLink "LightInRoomModel" 79 m_Mod_isLaw.1 ∈ zT := zT_in 968 (by decide +kernel) (by decide +kernel)
theorem lk_Mod_82 : Cond.methodLink "LightInRoomModel" 82 m_Mod_within.1 ∈ zT := zT_in 971 (by decide +kernel) (by decide +kernel)
theorem lk_Mod_86 : Cond.methodLink "LightInRoomModel" 86 m_Mod_becomes.1 ∈ zT := zT_in 974 (by decide +kernel) (by decide +kernel)
theorem lk_LLL_48 : Cond.methodLink "LightInRoomLaw" 48 m_Mod_right.1 ∈ zT := zT_in 978 (by decide +kernel) (by decide +kernel)
theorem lk_LLL_52 : Cond.methodLink "LightInRoomLaw" 52 m_Mod_growth.1 ∈ zT := zT_in 982 (by decide +kernel) (by decide +kernel)
theorem lk_LLL_56 : Cond.methodLink "LightInRoomLaw" 56 m_Mod_put.1 ∈ zT := zT_in 986 (by decide +kernel) (by decide +kernel)
theorem lk_Mod_89 : Cond.methodLink "LightInRoomModel" 89 m_Mod_rightOf.1 ∈ zT := zT_in 990 (by decide +kernel) (by decide +kernel)
theorem lk_LLL_60 : Cond.methodLink "LightInRoomLaw" 60 m_Mod_fits.1 ∈ zT := zT_in 994 (by decide +kernel) (by decide +kernel)
theorem lk_Mod_96 : Cond.methodLink "LightInRoomModel" 96 m_Mod_isFit.1 ∈ zT := zT_in 998 (by decide +kernel) (by decide +kernel)
theorem lk_Mod_92 : Cond.methodLink "LightInRoomModel" 92 m_Mod_meets.1 ∈ zT := zT_in 1002 (by decide +kernel) (by decide +kernel)
theorem lk_LLL_64 : Cond.methodLink "LightInRoomLaw" 64 m_Mod_share.1 ∈ zT := zT_in 1006 (by decide +kernel) (by decide +kernel)
theorem kn_Mod_102 : Cond.constant "LightInRoomModel" 102 1000000000 ∈ zT := zT_in 1010 (by decide +kernel) (by decide +kernel)
theorem lk_Mod_103 : Cond.methodLink "LightInRoomModel" 103 m_Mod_partOf.1 ∈ zT := zT_in 1011 (by decide +kernel) (by decide +kernel)
theorem lk_Mod_99 : Cond.methodLink "LightInRoomModel" 99 m_Mod_common.1 ∈ zT := zT_in 1014 (by decide +kernel) (by decide +kernel)
theorem lk_LLL_68 : Cond.methodLink "LightInRoomLaw" 68 m_Mod_only.1 ∈ zT := zT_in 1017 (by decide +kernel) (by decide +kernel)
theorem lk_Mod_106 : Cond.methodLink "LightInRoomModel" 106 m_Mod_lawsOf.1 ∈ zT := zT_in 1021 (by decide +kernel) (by decide +kernel)
theorem lk_LLL_72 : Cond.methodLink "LightInRoomLaw" 72 m_Mod_cover.1 ∈ zT := zT_in 1025 (by decide +kernel) (by decide +kernel)
theorem lk_Mod_109 : Cond.methodLink "LightInRoomModel" 109 m_Mod_bits.1 ∈ zT := zT_in 1029 (by decide +kernel) (by decide +kernel)
theorem lk_Mod_112 : Cond.methodLink "LightInRoomModel" 112 m_Mod_isCover.1 ∈ zT := zT_in 1032 (by decide +kernel) (by decide +kernel)
theorem lk_LLL_76 : Cond.methodLink "LightInRoomLaw" 76 m_Mod_half.1 ∈ zT := zT_in 1036 (by decide +kernel) (by decide +kernel)
theorem lk_LLL_80 : Cond.methodLink "LightInRoomLaw" 80 m_Mod_sorts.1 ∈ zT := zT_in 1040 (by decide +kernel) (by decide +kernel)
theorem lk_LLL_84 : Cond.methodLink "LightInRoomLaw" 84 m_Mod_alike.1 ∈ zT := zT_in 1044 (by decide +kernel) (by decide +kernel)
theorem lk_LLL_88 : Cond.methodLink "LightInRoomLaw" 88 m_Mod_together.1 ∈ zT := zT_in 1048 (by decide +kernel) (by decide +kernel)
theorem lk_LLL_92 : Cond.methodLink "LightInRoomLaw" 92 m_Mod_twice.1 ∈ zT := zT_in 1052 (by decide +kernel) (by decide +kernel)
theorem lk_LLL_96 : Cond.methodLink "LightInRoomLaw" 96 m_Mod_grows.1 ∈ zT := zT_in 1056 (by decide +kernel) (by decide +kernel)
theorem lk_LLL_100 : Cond.methodLink "LightInRoomLaw" 100 m_Mod_people.1 ∈ zT := zT_in 1060 (by decide +kernel) (by decide +kernel)
theorem lk_LLL_104 : Cond.methodLink "LightInRoomLaw" 104 m_Mod_strokes.1 ∈ zT := zT_in 1064 (by decide +kernel) (by decide +kernel)
theorem lk_LLL_108 : Cond.methodLink "LightInRoomLaw" 108 m_Mod_reach.1 ∈ zT := zT_in 1068 (by decide +kernel) (by decide +kernel)
theorem lk_LLL_112 : Cond.methodLink "LightInRoomLaw" 112 m_Mod_should.1 ∈ zT := zT_in 1072 (by decide +kernel) (by decide +kernel)
theorem lk_Mod_115 : Cond.methodLink "LightInRoomModel" 115 m_Mod_shouldOf.1 ∈ zT := zT_in 1076 (by decide +kernel) (by decide +kernel)
theorem lk_LLL_116 : Cond.methodLink "LightInRoomLaw" 116 m_Mod_seen.1 ∈ zT := zT_in 1080 (by decide +kernel) (by decide +kernel)
theorem lk_Mod_118 : Cond.methodLink "LightInRoomModel" 118 m_Mod_seenOf.1 ∈ zT := zT_in 1084 (by decide +kernel) (by decide +kernel)
theorem lk_LLL_120 : Cond.methodLink "LightInRoomLaw" 120 m_Mod_beyond.1 ∈ zT := zT_in 1088 (by decide +kernel) (by decide +kernel)
theorem lk_LLL_124 : Cond.methodLink "LightInRoomLaw" 124 m_Mod_leads.1 ∈ zT := zT_in 1092 (by decide +kernel) (by decide +kernel)
theorem lk_LLL_128 : Cond.methodLink "LightInRoomLaw" 128 m_Mod_pictures.1 ∈ zT := zT_in 1096 (by decide +kernel) (by decide +kernel)
theorem lk_LLL_133 : Cond.methodLink "LightInRoomLaw" 133 m_Mod_bench.1 ∈ zT := zT_in 1100 (by decide +kernel) (by decide +kernel)
theorem lk_LLL_137 : Cond.methodLink "LightInRoomLaw" 137 m_Mod_lines.1 ∈ zT := zT_in 1104 (by decide +kernel) (by decide +kernel)
theorem lk_Mod_121 : Cond.methodLink "LightInRoomModel" 121 m_Mod_hasLine.1 ∈ zT := zT_in 1108 (by decide +kernel) (by decide +kernel)
theorem lk_LLL_141 : Cond.methodLink "LightInRoomLaw" 141 m_Mod_misses.1 ∈ zT := zT_in 1112 (by decide +kernel) (by decide +kernel)
theorem lk_LLL_145 : Cond.methodLink "LightInRoomLaw" 145 m_Mod_barred.1 ∈ zT := zT_in 1116 (by decide +kernel) (by decide +kernel)
theorem lk_LLL_149 : Cond.methodLink "LightInRoomLaw" 149 m_Mod_glasses.1 ∈ zT := zT_in 1120 (by decide +kernel) (by decide +kernel)
theorem lk_LLL_153 : Cond.methodLink "LightInRoomLaw" 153 m_Mod_image.1 ∈ zT := zT_in 1124 (by decide +kernel) (by decide +kernel)
theorem lk_LLL_157 : Cond.methodLink "LightInRoomLaw" 157 m_Mod_on.1 ∈ zT := zT_in 1128 (by decide +kernel) (by decide +kernel)
theorem lk_LLL_161 : Cond.methodLink "LightInRoomLaw" 161 m_Mod_count.1 ∈ zT := zT_in 1132 (by decide +kernel) (by decide +kernel)
theorem kn_LLL_13 : Cond.constantLong "LightInRoomLaw" 13 4294967295 ∈ zT := zT_in 1136 (by decide +kernel) (by decide +kernel)
theorem sm_Wit_ownWeight : Cond.sameMethod "LightInRoom$Without" "LightInRoom$Without" "ownWeight" "()I" ∈ zT := zT_in 1137 (by decide +kernel) (by decide +kernel)
theorem sm_Nea_ownWeight : Cond.sameMethod "LightInRoom$Near" "LightInRoom$Near" "ownWeight" "()I" ∈ zT := zT_in 1138 (by decide +kernel) (by decide +kernel)
theorem sl_Lir_Lir_refuse : Cond.selects "LightInRoom" m_Lir_refuse.1 m_Lir_refuse.1 ∈ zT := zT_in 0 (by decide +kernel) (by decide +kernel)
theorem sl_Tap_Tap_readSize : Cond.selects "LightInRoom$Tape" m_Tap_readSize.1 m_Tap_readSize.1 ∈ zT := zT_in 1 (by decide +kernel) (by decide +kernel)
theorem sl_Tap_Tap_passes : Cond.selects "LightInRoom$Tape" m_Tap_passes.1 m_Tap_passes.1 ∈ zT := zT_in 2 (by decide +kernel) (by decide +kernel)
theorem sl_Tap_Tap_byteHere : Cond.selects "LightInRoom$Tape" m_Tap_byteHere.1 m_Tap_byteHere.1 ∈ zT := zT_in 3 (by decide +kernel) (by decide +kernel)
theorem sl_Tap_Tap_readNumber : Cond.selects "LightInRoom$Tape" m_Tap_readNumber.1 m_Tap_readNumber.1 ∈ zT := zT_in 4 (by decide +kernel) (by decide +kernel)
theorem sl_Tap_Tap_digitHere : Cond.selects "LightInRoom$Tape" m_Tap_digitHere.1 m_Tap_digitHere.1 ∈ zT := zT_in 5 (by decide +kernel) (by decide +kernel)
theorem sl_Tap_Tap_readSeconds : Cond.selects "LightInRoom$Tape" m_Tap_readSeconds.1 m_Tap_readSeconds.1 ∈ zT := zT_in 6 (by decide +kernel) (by decide +kernel)
theorem sl_Tap_Tap_readColour : Cond.selects "LightInRoom$Tape" m_Tap_readColour.1 m_Tap_readColour.1 ∈ zT := zT_in 7 (by decide +kernel) (by decide +kernel)
theorem sl_Tap_Tap_readMarks : Cond.selects "LightInRoom$Tape" m_Tap_readMarks.1 m_Tap_readMarks.1 ∈ zT := zT_in 8 (by decide +kernel) (by decide +kernel)
theorem sl_Tap_Tap_readYears : Cond.selects "LightInRoom$Tape" m_Tap_readYears.1 m_Tap_readYears.1 ∈ zT := zT_in 9 (by decide +kernel) (by decide +kernel)
theorem sl_Tap_Tap_readAsked : Cond.selects "LightInRoom$Tape" m_Tap_readAsked.1 m_Tap_readAsked.1 ∈ zT := zT_in 10 (by decide +kernel) (by decide +kernel)
theorem sl_Roo_Roo_heldNumber : Cond.selects "LightInRoom$Room" m_Roo_heldNumber.1 m_Roo_heldNumber.1 ∈ zT := zT_in 11 (by decide +kernel) (by decide +kernel)
theorem sl_Lir_Lir_refuseAsTold : Cond.selects "LightInRoom" m_Lir_refuseAsTold.1 m_Lir_refuseAsTold.1 ∈ zT := zT_in 12 (by decide +kernel) (by decide +kernel)
theorem sl_Lir_Lir_howManyFitOnly : Cond.selects "LightInRoom" m_Lir_howManyFitOnly.1 m_Lir_howManyFitOnly.1 ∈ zT := zT_in 13 (by decide +kernel) (by decide +kernel)
theorem sl_Lir_Lir_noteLaws : Cond.selects "LightInRoom" m_Lir_noteLaws.1 m_Lir_noteLaws.1 ∈ zT := zT_in 14 (by decide +kernel) (by decide +kernel)
theorem sl_Lir_Lir_coversAll : Cond.selects "LightInRoom" m_Lir_coversAll.1 m_Lir_coversAll.1 ∈ zT := zT_in 15 (by decide +kernel) (by decide +kernel)
theorem sl_Lir_Lir_noteBroken : Cond.selects "LightInRoom" m_Lir_noteBroken.1 m_Lir_noteBroken.1 ∈ zT := zT_in 16 (by decide +kernel) (by decide +kernel)
theorem sl_Lir_Lir_halfFitsWithout : Cond.selects "LightInRoom" m_Lir_halfFitsWithout.1 m_Lir_halfFitsWithout.1 ∈ zT := zT_in 17 (by decide +kernel) (by decide +kernel)
theorem sl_Lir_Lir_firstNotedLike : Cond.selects "LightInRoom" m_Lir_firstNotedLike.1 m_Lir_firstNotedLike.1 ∈ zT := zT_in 18 (by decide +kernel) (by decide +kernel)
theorem sl_Lir_Lir_howManyNotedLike : Cond.selects "LightInRoom" m_Lir_howManyNotedLike.1 m_Lir_howManyNotedLike.1 ∈ zT := zT_in 19 (by decide +kernel) (by decide +kernel)
theorem sl_Lir_Lir_refusalsCounted : Cond.selects "LightInRoom" m_Lir_refusalsCounted.1 m_Lir_refusalsCounted.1 ∈ zT := zT_in 20 (by decide +kernel) (by decide +kernel)
theorem sl_Mod_Mod_refuse : Cond.selects "LightInRoomModel" m_Mod_refuse.1 m_Mod_refuse.1 ∈ zT := zT_in 21 (by decide +kernel) (by decide +kernel)
theorem sl_Mod_Mod_reads : Cond.selects "LightInRoomModel" m_Mod_reads.1 m_Mod_reads.1 ∈ zT := zT_in 22 (by decide +kernel) (by decide +kernel)
theorem sl_Mod_Mod_takes : Cond.selects "LightInRoomModel" m_Mod_takes.1 m_Mod_takes.1 ∈ zT := zT_in 23 (by decide +kernel) (by decide +kernel)
theorem sl_Mod_Mod_sign : Cond.selects "LightInRoomModel" m_Mod_sign.1 m_Mod_sign.1 ∈ zT := zT_in 24 (by decide +kernel) (by decide +kernel)
theorem sl_Mod_Mod_readsNumber : Cond.selects "LightInRoomModel" m_Mod_readsNumber.1 m_Mod_readsNumber.1 ∈ zT := zT_in 25 (by decide +kernel) (by decide +kernel)
theorem sl_Mod_Mod_isDigit : Cond.selects "LightInRoomModel" m_Mod_isDigit.1 m_Mod_isDigit.1 ∈ zT := zT_in 26 (by decide +kernel) (by decide +kernel)
theorem sl_Mod_Mod_isTelling : Cond.selects "LightInRoomModel" m_Mod_isTelling.1 m_Mod_isTelling.1 ∈ zT := zT_in 27 (by decide +kernel) (by decide +kernel)
theorem sl_Mod_Mod_get : Cond.selects "LightInRoomModel" m_Mod_get.1 m_Mod_get.1 ∈ zT := zT_in 28 (by decide +kernel) (by decide +kernel)
theorem sl_Mod_Mod_kindOf : Cond.selects "LightInRoomModel" m_Mod_kindOf.1 m_Mod_kindOf.1 ∈ zT := zT_in 29 (by decide +kernel) (by decide +kernel)
theorem sl_Mod_Mod_isMarked : Cond.selects "LightInRoomModel" m_Mod_isMarked.1 m_Mod_isMarked.1 ∈ zT := zT_in 30 (by decide +kernel) (by decide +kernel)
theorem sl_Mod_Mod_weightOf : Cond.selects "LightInRoomModel" m_Mod_weightOf.1 m_Mod_weightOf.1 ∈ zT := zT_in 31 (by decide +kernel) (by decide +kernel)
theorem sl_Mod_Mod_becomes : Cond.selects "LightInRoomModel" m_Mod_becomes.1 m_Mod_becomes.1 ∈ zT := zT_in 32 (by decide +kernel) (by decide +kernel)
theorem sl_Mod_Mod_rightOf : Cond.selects "LightInRoomModel" m_Mod_rightOf.1 m_Mod_rightOf.1 ∈ zT := zT_in 33 (by decide +kernel) (by decide +kernel)
theorem sl_Mod_Mod_isFit : Cond.selects "LightInRoomModel" m_Mod_isFit.1 m_Mod_isFit.1 ∈ zT := zT_in 34 (by decide +kernel) (by decide +kernel)
theorem sl_Mod_Mod_meets : Cond.selects "LightInRoomModel" m_Mod_meets.1 m_Mod_meets.1 ∈ zT := zT_in 35 (by decide +kernel) (by decide +kernel)
theorem sl_Mod_Mod_lawsOf : Cond.selects "LightInRoomModel" m_Mod_lawsOf.1 m_Mod_lawsOf.1 ∈ zT := zT_in 36 (by decide +kernel) (by decide +kernel)
theorem sl_Mod_Mod_isCover : Cond.selects "LightInRoomModel" m_Mod_isCover.1 m_Mod_isCover.1 ∈ zT := zT_in 37 (by decide +kernel) (by decide +kernel)
theorem sl_Mod_Mod_shouldOf : Cond.selects "LightInRoomModel" m_Mod_shouldOf.1 m_Mod_shouldOf.1 ∈ zT := zT_in 38 (by decide +kernel) (by decide +kernel)
theorem sl_Mod_Mod_seenOf : Cond.selects "LightInRoomModel" m_Mod_seenOf.1 m_Mod_seenOf.1 ∈ zT := zT_in 39 (by decide +kernel) (by decide +kernel)
theorem sl_Mod_Mod_hasLine : Cond.selects "LightInRoomModel" m_Mod_hasLine.1 m_Mod_hasLine.1 ∈ zT := zT_in 40 (by decide +kernel) (by decide +kernel)
theorem sl_Lir_Lir_feed : Cond.selects "LightInRoom" m_Lir_feed.1 m_Lir_feed.1 ∈ zT := zT_in 224 (by decide +kernel) (by decide +kernel)
theorem sl_Tap_Tap_roomLeft : Cond.selects "LightInRoom$Tape" m_Tap_roomLeft.1 m_Tap_roomLeft.1 ∈ zT := zT_in 232 (by decide +kernel) (by decide +kernel)
theorem sl_Tap_Tap_add : Cond.selects "LightInRoom$Tape" m_Tap_add.1 m_Tap_add.1 ∈ zT := zT_in 236 (by decide +kernel) (by decide +kernel)
theorem sl_Lir_Lir_telling : Cond.selects "LightInRoom" m_Lir_telling.1 m_Lir_telling.1 ∈ zT := zT_in 241 (by decide +kernel) (by decide +kernel)
theorem sl_Tap_Tap_read : Cond.selects "LightInRoom$Tape" m_Tap_read.1 m_Tap_read.1 ∈ zT := zT_in 245 (by decide +kernel) (by decide +kernel)
theorem sl_Str_Str_length : Cond.selects "java/lang/String" m_Str_length.1 m_Str_length.1 ∈ zT := zT_in 282 (by decide +kernel) (by decide +kernel)
theorem sl_Str_Str_coder : Cond.selects "java/lang/String" m_Str_coder.1 m_Str_coder.1 ∈ zT := zT_in 286 (by decide +kernel) (by decide +kernel)
theorem sl_Str_Str_charAt : Cond.selects "java/lang/String" m_Str_charAt.1 m_Str_charAt.1 ∈ zT := zT_in 292 (by decide +kernel) (by decide +kernel)
theorem sl_Str_Str_isLatin1 : Cond.selects "java/lang/String" m_Str_isLatin1.1 m_Str_isLatin1.1 ∈ zT := zT_in 296 (by decide +kernel) (by decide +kernel)
theorem sl_Tap_Tap_clear : Cond.selects "LightInRoom$Tape" m_Tap_clear.1 m_Tap_clear.1 ∈ zT := zT_in 338 (by decide +kernel) (by decide +kernel)
theorem sl_Tap_Tap_newTelling : Cond.selects "LightInRoom$Tape" m_Tap_newTelling.1 m_Tap_newTelling.1 ∈ zT := zT_in 342 (by decide +kernel) (by decide +kernel)
theorem sl_Roo_Roo_addTelling : Cond.selects "LightInRoom$Room" m_Roo_addTelling.1 m_Roo_addTelling.1 ∈ zT := zT_in 462 (by decide +kernel) (by decide +kernel)
theorem sl_Lir_Lir_tellingOf : Cond.selects "LightInRoom" m_Lir_tellingOf.1 m_Lir_tellingOf.1 ∈ zT := zT_in 466 (by decide +kernel) (by decide +kernel)
theorem sl_Roo_Roo_tellingAt : Cond.selects "LightInRoom$Room" m_Roo_tellingAt.1 m_Roo_tellingAt.1 ∈ zT := zT_in 470 (by decide +kernel) (by decide +kernel)
theorem sl_Lir_Lir_kind : Cond.selects "LightInRoom" m_Lir_kind.1 m_Lir_kind.1 ∈ zT := zT_in 477 (by decide +kernel) (by decide +kernel)
theorem sl_Cal_Cal_kindNumber : Cond.selects "LightInRoom$Called" (⟨"LightInRoom$Telling", "kindNumber", "()I"⟩ : MethodName) m_Cal_kindNumber.1 ∈ zT := zT_in 482 (by decide +kernel) (by decide +kernel)
theorem sl_Eye_Eye_kindNumber : Cond.selects "LightInRoom$Eye" (⟨"LightInRoom$Telling", "kindNumber", "()I"⟩ : MethodName) m_Eye_kindNumber.1 ∈ zT := zT_in 485 (by decide +kernel) (by decide +kernel)
theorem sl_Gro_Gro_kindNumber : Cond.selects "LightInRoom$Grown" (⟨"LightInRoom$Telling", "kindNumber", "()I"⟩ : MethodName) m_Gro_kindNumber.1 ∈ zT := zT_in 488 (by decide +kernel) (by decide +kernel)
theorem sl_Nea_Nea_kindNumber : Cond.selects "LightInRoom$Near" (⟨"LightInRoom$Telling", "kindNumber", "()I"⟩ : MethodName) m_Nea_kindNumber.1 ∈ zT := zT_in 491 (by decide +kernel) (by decide +kernel)
theorem sl_Thr_Thr_kindNumber : Cond.selects "LightInRoom$Through" (⟨"LightInRoom$Telling", "kindNumber", "()I"⟩ : MethodName) m_Thr_kindNumber.1 ∈ zT := zT_in 494 (by decide +kernel) (by decide +kernel)
theorem sl_Wit_Wit_kindNumber : Cond.selects "LightInRoom$Without" (⟨"LightInRoom$Telling", "kindNumber", "()I"⟩ : MethodName) m_Wit_kindNumber.1 ∈ zT := zT_in 497 (by decide +kernel) (by decide +kernel)
theorem sl_Lir_Lir_weight : Cond.selects "LightInRoom" m_Lir_weight.1 m_Lir_weight.1 ∈ zT := zT_in 502 (by decide +kernel) (by decide +kernel)
theorem sl_Cal_Cal_ownWeight : Cond.selects "LightInRoom$Called" (⟨"LightInRoom$Telling", "ownWeight", "()I"⟩ : MethodName) m_Cal_ownWeight.1 ∈ zT := zT_in 507 (by decide +kernel) (by decide +kernel)
theorem sl_Eye_Eye_ownWeight : Cond.selects "LightInRoom$Eye" (⟨"LightInRoom$Telling", "ownWeight", "()I"⟩ : MethodName) m_Eye_ownWeight.1 ∈ zT := zT_in 510 (by decide +kernel) (by decide +kernel)
theorem sl_Gro_Gro_ownWeight : Cond.selects "LightInRoom$Grown" (⟨"LightInRoom$Telling", "ownWeight", "()I"⟩ : MethodName) m_Gro_ownWeight.1 ∈ zT := zT_in 513 (by decide +kernel) (by decide +kernel)
theorem sl_Nea_Nea_ownWeight : Cond.selects "LightInRoom$Near" (⟨"LightInRoom$Telling", "ownWeight", "()I"⟩ : MethodName) m_Nea_ownWeight.1 ∈ zT := zT_in 519 (by decide +kernel) (by decide +kernel)
theorem sl_Thr_Thr_ownWeight : Cond.selects "LightInRoom$Through" (⟨"LightInRoom$Telling", "ownWeight", "()I"⟩ : MethodName) m_Thr_ownWeight.1 ∈ zT := zT_in 522 (by decide +kernel) (by decide +kernel)
theorem sl_Wit_Wit_ownWeight : Cond.selects "LightInRoom$Without" (⟨"LightInRoom$Telling", "ownWeight", "()I"⟩ : MethodName) m_Wit_ownWeight.1 ∈ zT := zT_in 526 (by decide +kernel) (by decide +kernel)
theorem sl_Lir_Lir_law : Cond.selects "LightInRoom" m_Lir_law.1 m_Lir_law.1 ∈ zT := zT_in 529 (by decide +kernel) (by decide +kernel)
theorem sl_Roo_Roo_lawAt : Cond.selects "LightInRoom$Room" m_Roo_lawAt.1 m_Roo_lawAt.1 ∈ zT := zT_in 533 (by decide +kernel) (by decide +kernel)
theorem sl_Lir_Lir_right : Cond.selects "LightInRoom" m_Lir_right.1 m_Lir_right.1 ∈ zT := zT_in 543 (by decide +kernel) (by decide +kernel)
theorem sl_Lir_Lir_growth : Cond.selects "LightInRoom" m_Lir_growth.1 m_Lir_growth.1 ∈ zT := zT_in 547 (by decide +kernel) (by decide +kernel)
theorem sl_Lir_Lir_put : Cond.selects "LightInRoom" m_Lir_put.1 m_Lir_put.1 ∈ zT := zT_in 554 (by decide +kernel) (by decide +kernel)
theorem sl_Roo_Roo_rightNumber : Cond.selects "LightInRoom$Room" m_Roo_rightNumber.1 m_Roo_rightNumber.1 ∈ zT := zT_in 558 (by decide +kernel) (by decide +kernel)
theorem sl_Cal_Tel_lacks : Cond.selects "LightInRoom$Called" m_Tel_lacks.1 m_Tel_lacks.1 ∈ zT := zT_in 563 (by decide +kernel) (by decide +kernel)
theorem sl_Eye_Tel_lacks : Cond.selects "LightInRoom$Eye" m_Tel_lacks.1 m_Tel_lacks.1 ∈ zT := zT_in 564 (by decide +kernel) (by decide +kernel)
theorem sl_Gro_Tel_lacks : Cond.selects "LightInRoom$Grown" m_Tel_lacks.1 m_Tel_lacks.1 ∈ zT := zT_in 565 (by decide +kernel) (by decide +kernel)
theorem sl_Nea_Tel_lacks : Cond.selects "LightInRoom$Near" m_Tel_lacks.1 m_Tel_lacks.1 ∈ zT := zT_in 566 (by decide +kernel) (by decide +kernel)
theorem sl_Thr_Tel_lacks : Cond.selects "LightInRoom$Through" m_Tel_lacks.1 m_Tel_lacks.1 ∈ zT := zT_in 567 (by decide +kernel) (by decide +kernel)
theorem sl_Wit_Tel_lacks : Cond.selects "LightInRoom$Without" m_Tel_lacks.1 m_Tel_lacks.1 ∈ zT := zT_in 568 (by decide +kernel) (by decide +kernel)
theorem sl_Cal_Tel_numberTold : Cond.selects "LightInRoom$Called" m_Tel_numberTold.1 m_Tel_numberTold.1 ∈ zT := zT_in 573 (by decide +kernel) (by decide +kernel)
theorem sl_Eye_Tel_numberTold : Cond.selects "LightInRoom$Eye" m_Tel_numberTold.1 m_Tel_numberTold.1 ∈ zT := zT_in 574 (by decide +kernel) (by decide +kernel)
theorem sl_Gro_Tel_numberTold : Cond.selects "LightInRoom$Grown" m_Tel_numberTold.1 m_Tel_numberTold.1 ∈ zT := zT_in 575 (by decide +kernel) (by decide +kernel)
theorem sl_Nea_Tel_numberTold : Cond.selects "LightInRoom$Near" m_Tel_numberTold.1 m_Tel_numberTold.1 ∈ zT := zT_in 576 (by decide +kernel) (by decide +kernel)
theorem sl_Thr_Tel_numberTold : Cond.selects "LightInRoom$Through" m_Tel_numberTold.1 m_Tel_numberTold.1 ∈ zT := zT_in 577 (by decide +kernel) (by decide +kernel)
theorem sl_Wit_Tel_numberTold : Cond.selects "LightInRoom$Without" m_Tel_numberTold.1 m_Tel_numberTold.1 ∈ zT := zT_in 578 (by decide +kernel) (by decide +kernel)
theorem sl_Lir_Lir_fits : Cond.selects "LightInRoom" m_Lir_fits.1 m_Lir_fits.1 ∈ zT := zT_in 583 (by decide +kernel) (by decide +kernel)
theorem sl_Roo_Roo_brokenBy : Cond.selects "LightInRoom$Room" m_Roo_brokenBy.1 m_Roo_brokenBy.1 ∈ zT := zT_in 587 (by decide +kernel) (by decide +kernel)
theorem sl_Law_Law_brokenBy : Cond.selects "LightInRoom$Law" m_Law_brokenBy.1 m_Law_brokenBy.1 ∈ zT := zT_in 596 (by decide +kernel) (by decide +kernel)
theorem sl_Lir_Lir_share : Cond.selects "LightInRoom" m_Lir_share.1 m_Lir_share.1 ∈ zT := zT_in 601 (by decide +kernel) (by decide +kernel)
theorem sl_Lir_Lir_only : Cond.selects "LightInRoom" m_Lir_only.1 m_Lir_only.1 ∈ zT := zT_in 619 (by decide +kernel) (by decide +kernel)
theorem sl_Roo_Roo_lawsFitted : Cond.selects "LightInRoom$Room" m_Roo_lawsFitted.1 m_Roo_lawsFitted.1 ∈ zT := zT_in 627 (by decide +kernel) (by decide +kernel)
theorem sl_Lir_Lir_cover : Cond.selects "LightInRoom" m_Lir_cover.1 m_Lir_cover.1 ∈ zT := zT_in 632 (by decide +kernel) (by decide +kernel)
theorem sl_Lir_Lir_half : Cond.selects "LightInRoom" m_Lir_half.1 m_Lir_half.1 ∈ zT := zT_in 650 (by decide +kernel) (by decide +kernel)
theorem sl_Lir_Lir_sorts : Cond.selects "LightInRoom" m_Lir_sorts.1 m_Lir_sorts.1 ∈ zT := zT_in 662 (by decide +kernel) (by decide +kernel)
theorem sl_Lir_Lir_alike : Cond.selects "LightInRoom" m_Lir_alike.1 m_Lir_alike.1 ∈ zT := zT_in 677 (by decide +kernel) (by decide +kernel)
theorem sl_Lir_Lir_together : Cond.selects "LightInRoom" m_Lir_together.1 m_Lir_together.1 ∈ zT := zT_in 681 (by decide +kernel) (by decide +kernel)
theorem sl_Cal_Tel_has : Cond.selects "LightInRoom$Called" m_Tel_has.1 m_Tel_has.1 ∈ zT := zT_in 689 (by decide +kernel) (by decide +kernel)
theorem sl_Eye_Tel_has : Cond.selects "LightInRoom$Eye" m_Tel_has.1 m_Tel_has.1 ∈ zT := zT_in 690 (by decide +kernel) (by decide +kernel)
theorem sl_Gro_Tel_has : Cond.selects "LightInRoom$Grown" m_Tel_has.1 m_Tel_has.1 ∈ zT := zT_in 691 (by decide +kernel) (by decide +kernel)
theorem sl_Nea_Tel_has : Cond.selects "LightInRoom$Near" m_Tel_has.1 m_Tel_has.1 ∈ zT := zT_in 692 (by decide +kernel) (by decide +kernel)
theorem sl_Thr_Tel_has : Cond.selects "LightInRoom$Through" m_Tel_has.1 m_Tel_has.1 ∈ zT := zT_in 693 (by decide +kernel) (by decide +kernel)
theorem sl_Wit_Tel_has : Cond.selects "LightInRoom$Without" m_Tel_has.1 m_Tel_has.1 ∈ zT := zT_in 694 (by decide +kernel) (by decide +kernel)
theorem sl_Lir_Lir_twice : Cond.selects "LightInRoom" m_Lir_twice.1 m_Lir_twice.1 ∈ zT := zT_in 702 (by decide +kernel) (by decide +kernel)
theorem sl_Roo_Roo_addPair : Cond.selects "LightInRoom$Room" m_Roo_addPair.1 m_Roo_addPair.1 ∈ zT := zT_in 706 (by decide +kernel) (by decide +kernel)
theorem sl_Lir_Lir_grows : Cond.selects "LightInRoom" m_Lir_grows.1 m_Lir_grows.1 ∈ zT := zT_in 710 (by decide +kernel) (by decide +kernel)
theorem sl_Roo_Roo_firstOfPair : Cond.selects "LightInRoom$Room" m_Roo_firstOfPair.1 m_Roo_firstOfPair.1 ∈ zT := zT_in 714 (by decide +kernel) (by decide +kernel)
theorem sl_Roo_Roo_secondOfPair : Cond.selects "LightInRoom$Room" m_Roo_secondOfPair.1 m_Roo_secondOfPair.1 ∈ zT := zT_in 718 (by decide +kernel) (by decide +kernel)
theorem sl_Lir_Lir_people : Cond.selects "LightInRoom" m_Lir_people.1 m_Lir_people.1 ∈ zT := zT_in 724 (by decide +kernel) (by decide +kernel)
theorem sl_Lir_Lir_strokes : Cond.selects "LightInRoom" m_Lir_strokes.1 m_Lir_strokes.1 ∈ zT := zT_in 728 (by decide +kernel) (by decide +kernel)
theorem sl_Lir_Lir_reach : Cond.selects "LightInRoom" m_Lir_reach.1 m_Lir_reach.1 ∈ zT := zT_in 732 (by decide +kernel) (by decide +kernel)
theorem sl_Lir_Lir_should : Cond.selects "LightInRoom" m_Lir_should.1 m_Lir_should.1 ∈ zT := zT_in 736 (by decide +kernel) (by decide +kernel)
theorem sl_Roo_Roo_shownTo : Cond.selects "LightInRoom$Room" m_Roo_shownTo.1 m_Roo_shownTo.1 ∈ zT := zT_in 740 (by decide +kernel) (by decide +kernel)
theorem sl_Lir_Lir_seen : Cond.selects "LightInRoom" m_Lir_seen.1 m_Lir_seen.1 ∈ zT := zT_in 744 (by decide +kernel) (by decide +kernel)
theorem sl_Roo_Roo_howManyFit : Cond.selects "LightInRoom$Room" m_Roo_howManyFit.1 m_Roo_howManyFit.1 ∈ zT := zT_in 748 (by decide +kernel) (by decide +kernel)
theorem sl_Lir_Lir_beyond : Cond.selects "LightInRoom" m_Lir_beyond.1 m_Lir_beyond.1 ∈ zT := zT_in 753 (by decide +kernel) (by decide +kernel)
theorem sl_Lir_Lir_leads : Cond.selects "LightInRoom" m_Lir_leads.1 m_Lir_leads.1 ∈ zT := zT_in 757 (by decide +kernel) (by decide +kernel)
theorem sl_Roo_Roo_howManyAsked : Cond.selects "LightInRoom$Room" m_Roo_howManyAsked.1 m_Roo_howManyAsked.1 ∈ zT := zT_in 761 (by decide +kernel) (by decide +kernel)
theorem sl_Roo_Roo_howManyAskedFit : Cond.selects "LightInRoom$Room" m_Roo_howManyAskedFit.1 m_Roo_howManyAskedFit.1 ∈ zT := zT_in 765 (by decide +kernel) (by decide +kernel)
theorem sl_Lir_Lir_pictures : Cond.selects "LightInRoom" m_Lir_pictures.1 m_Lir_pictures.1 ∈ zT := zT_in 769 (by decide +kernel) (by decide +kernel)
theorem sl_Lir_Lir_bench : Cond.selects "LightInRoom" m_Lir_bench.1 m_Lir_bench.1 ∈ zT := zT_in 773 (by decide +kernel) (by decide +kernel)
theorem sl_Ben_Ben_tell : Cond.selects "LightInRoom$Bench" m_Ben_tell.1 m_Ben_tell.1 ∈ zT := zT_in 777 (by decide +kernel) (by decide +kernel)
theorem sl_Lir_Lir_lines : Cond.selects "LightInRoom" m_Lir_lines.1 m_Lir_lines.1 ∈ zT := zT_in 781 (by decide +kernel) (by decide +kernel)
theorem sl_Ben_Ben_linesLacking : Cond.selects "LightInRoom$Bench" m_Ben_linesLacking.1 m_Ben_linesLacking.1 ∈ zT := zT_in 785 (by decide +kernel) (by decide +kernel)
theorem sl_Lir_Lir_misses : Cond.selects "LightInRoom" m_Lir_misses.1 m_Lir_misses.1 ∈ zT := zT_in 789 (by decide +kernel) (by decide +kernel)
theorem sl_Lir_Lir_barred : Cond.selects "LightInRoom" m_Lir_barred.1 m_Lir_barred.1 ∈ zT := zT_in 794 (by decide +kernel) (by decide +kernel)
theorem sl_Lir_Lir_glasses : Cond.selects "LightInRoom" m_Lir_glasses.1 m_Lir_glasses.1 ∈ zT := zT_in 798 (by decide +kernel) (by decide +kernel)
theorem sl_Roo_Roo_fullestRing : Cond.selects "LightInRoom$Room" m_Roo_fullestRing.1 m_Roo_fullestRing.1 ∈ zT := zT_in 802 (by decide +kernel) (by decide +kernel)
theorem sl_Lir_Lir_image : Cond.selects "LightInRoom" m_Lir_image.1 m_Lir_image.1 ∈ zT := zT_in 807 (by decide +kernel) (by decide +kernel)
theorem sl_Roo_Roo_becomeLike : Cond.selects "LightInRoom$Room" m_Roo_becomeLike.1 m_Roo_becomeLike.1 ∈ zT := zT_in 811 (by decide +kernel) (by decide +kernel)
theorem sl_Law_Law_becomeLike : Cond.selects "LightInRoom$Law" m_Law_becomeLike.1 m_Law_becomeLike.1 ∈ zT := zT_in 818 (by decide +kernel) (by decide +kernel)
theorem sl_Lir_Lir_on : Cond.selects "LightInRoom" m_Lir_on.1 m_Lir_on.1 ∈ zT := zT_in 833 (by decide +kernel) (by decide +kernel)
theorem sl_Lir_Lir_count : Cond.selects "LightInRoom" m_Lir_count.1 m_Lir_count.1 ∈ zT := zT_in 837 (by decide +kernel) (by decide +kernel)
theorem sl_Roo_Roo_howManyGaps : Cond.selects "LightInRoom$Room" m_Roo_howManyGaps.1 m_Roo_howManyGaps.1 ∈ zT := zT_in 841 (by decide +kernel) (by decide +kernel)
theorem sl_Cal_Tel_gaps : Cond.selects "LightInRoom$Called" m_Tel_gaps.1 m_Tel_gaps.1 ∈ zT := zT_in 846 (by decide +kernel) (by decide +kernel)
theorem sl_Eye_Tel_gaps : Cond.selects "LightInRoom$Eye" m_Tel_gaps.1 m_Tel_gaps.1 ∈ zT := zT_in 847 (by decide +kernel) (by decide +kernel)
theorem sl_Gro_Tel_gaps : Cond.selects "LightInRoom$Grown" m_Tel_gaps.1 m_Tel_gaps.1 ∈ zT := zT_in 848 (by decide +kernel) (by decide +kernel)
theorem sl_Nea_Tel_gaps : Cond.selects "LightInRoom$Near" m_Tel_gaps.1 m_Tel_gaps.1 ∈ zT := zT_in 849 (by decide +kernel) (by decide +kernel)
theorem sl_Thr_Tel_gaps : Cond.selects "LightInRoom$Through" m_Tel_gaps.1 m_Tel_gaps.1 ∈ zT := zT_in 850 (by decide +kernel) (by decide +kernel)
theorem sl_Wit_Tel_gaps : Cond.selects "LightInRoom$Without" m_Tel_gaps.1 m_Tel_gaps.1 ∈ zT := zT_in 851 (by decide +kernel) (by decide +kernel)
theorem sl_Roo_Roo_howManyMarks : Cond.selects "LightInRoom$Room" m_Roo_howManyMarks.1 m_Roo_howManyMarks.1 ∈ zT := zT_in 855 (by decide +kernel) (by decide +kernel)
theorem sl_Mod_Mod_feed : Cond.selects "LightInRoomModel" m_Mod_feed.1 m_Mod_feed.1 ∈ zT := zT_in 895 (by decide +kernel) (by decide +kernel)
theorem sl_Mod_Mod_telling : Cond.selects "LightInRoomModel" m_Mod_telling.1 m_Mod_telling.1 ∈ zT := zT_in 904 (by decide +kernel) (by decide +kernel)
theorem sl_Mod_Mod_tellingOf : Cond.selects "LightInRoomModel" m_Mod_tellingOf.1 m_Mod_tellingOf.1 ∈ zT := zT_in 931 (by decide +kernel) (by decide +kernel)
theorem sl_Mod_Mod_kind : Cond.selects "LightInRoomModel" m_Mod_kind.1 m_Mod_kind.1 ∈ zT := zT_in 946 (by decide +kernel) (by decide +kernel)
theorem sl_Mod_Mod_weight : Cond.selects "LightInRoomModel" m_Mod_weight.1 m_Mod_weight.1 ∈ zT := zT_in 958 (by decide +kernel) (by decide +kernel)
theorem sl_Mod_Mod_law : Cond.selects "LightInRoomModel" m_Mod_law.1 m_Mod_law.1 ∈ zT := zT_in 966 (by decide +kernel) (by decide +kernel)
theorem sl_Mod_Mod_right : Cond.selects "LightInRoomModel" m_Mod_right.1 m_Mod_right.1 ∈ zT := zT_in 980 (by decide +kernel) (by decide +kernel)
theorem sl_Mod_Mod_growth : Cond.selects "LightInRoomModel" m_Mod_growth.1 m_Mod_growth.1 ∈ zT := zT_in 984 (by decide +kernel) (by decide +kernel)
theorem sl_Mod_Mod_put : Cond.selects "LightInRoomModel" m_Mod_put.1 m_Mod_put.1 ∈ zT := zT_in 988 (by decide +kernel) (by decide +kernel)
theorem sl_Mod_Mod_fits : Cond.selects "LightInRoomModel" m_Mod_fits.1 m_Mod_fits.1 ∈ zT := zT_in 996 (by decide +kernel) (by decide +kernel)
theorem sl_Mod_Mod_share : Cond.selects "LightInRoomModel" m_Mod_share.1 m_Mod_share.1 ∈ zT := zT_in 1008 (by decide +kernel) (by decide +kernel)
theorem sl_Mod_Mod_only : Cond.selects "LightInRoomModel" m_Mod_only.1 m_Mod_only.1 ∈ zT := zT_in 1019 (by decide +kernel) (by decide +kernel)
theorem sl_Mod_Mod_cover : Cond.selects "LightInRoomModel" m_Mod_cover.1 m_Mod_cover.1 ∈ zT := zT_in 1027 (by decide +kernel) (by decide +kernel)
theorem sl_Mod_Mod_half : Cond.selects "LightInRoomModel" m_Mod_half.1 m_Mod_half.1 ∈ zT := zT_in 1038 (by decide +kernel) (by decide +kernel)
theorem sl_Mod_Mod_sorts : Cond.selects "LightInRoomModel" m_Mod_sorts.1 m_Mod_sorts.1 ∈ zT := zT_in 1042 (by decide +kernel) (by decide +kernel)
theorem sl_Mod_Mod_alike : Cond.selects "LightInRoomModel" m_Mod_alike.1 m_Mod_alike.1 ∈ zT := zT_in 1046 (by decide +kernel) (by decide +kernel)
theorem sl_Mod_Mod_together : Cond.selects "LightInRoomModel" m_Mod_together.1 m_Mod_together.1 ∈ zT := zT_in 1050 (by decide +kernel) (by decide +kernel)
theorem sl_Mod_Mod_twice : Cond.selects "LightInRoomModel" m_Mod_twice.1 m_Mod_twice.1 ∈ zT := zT_in 1054 (by decide +kernel) (by decide +kernel)
theorem sl_Mod_Mod_grows : Cond.selects "LightInRoomModel" m_Mod_grows.1 m_Mod_grows.1 ∈ zT := zT_in 1058 (by decide +kernel) (by decide +kernel)
theorem sl_Mod_Mod_people : Cond.selects "LightInRoomModel" m_Mod_people.1 m_Mod_people.1 ∈ zT := zT_in 1062 (by decide +kernel) (by decide +kernel)
theorem sl_Mod_Mod_strokes : Cond.selects "LightInRoomModel" m_Mod_strokes.1 m_Mod_strokes.1 ∈ zT := zT_in 1066 (by decide +kernel) (by decide +kernel)
theorem sl_Mod_Mod_reach : Cond.selects "LightInRoomModel" m_Mod_reach.1 m_Mod_reach.1 ∈ zT := zT_in 1070 (by decide +kernel) (by decide +kernel)
theorem sl_Mod_Mod_should : Cond.selects "LightInRoomModel" m_Mod_should.1 m_Mod_should.1 ∈ zT := zT_in 1074 (by decide +kernel) (by decide +kernel)
theorem sl_Mod_Mod_seen : Cond.selects "LightInRoomModel" m_Mod_seen.1 m_Mod_seen.1 ∈ zT := zT_in 1082 (by decide +kernel) (by decide +kernel)
theorem sl_Mod_Mod_beyond : Cond.selects "LightInRoomModel" m_Mod_beyond.1 m_Mod_beyond.1 ∈ zT := zT_in 1090 (by decide +kernel) (by decide +kernel)
theorem sl_Mod_Mod_leads : Cond.selects "LightInRoomModel" m_Mod_leads.1 m_Mod_leads.1 ∈ zT := zT_in 1094 (by decide +kernel) (by decide +kernel)
theorem sl_Mod_Mod_pictures : Cond.selects "LightInRoomModel" m_Mod_pictures.1 m_Mod_pictures.1 ∈ zT := zT_in 1098 (by decide +kernel) (by decide +kernel)
theorem sl_Mod_Mod_bench : Cond.selects "LightInRoomModel" m_Mod_bench.1 m_Mod_bench.1 ∈ zT := zT_in 1102 (by decide +kernel) (by decide +kernel)
theorem sl_Mod_Mod_lines : Cond.selects "LightInRoomModel" m_Mod_lines.1 m_Mod_lines.1 ∈ zT := zT_in 1106 (by decide +kernel) (by decide +kernel)
theorem sl_Mod_Mod_misses : Cond.selects "LightInRoomModel" m_Mod_misses.1 m_Mod_misses.1 ∈ zT := zT_in 1114 (by decide +kernel) (by decide +kernel)
theorem sl_Mod_Mod_barred : Cond.selects "LightInRoomModel" m_Mod_barred.1 m_Mod_barred.1 ∈ zT := zT_in 1118 (by decide +kernel) (by decide +kernel)
theorem sl_Mod_Mod_glasses : Cond.selects "LightInRoomModel" m_Mod_glasses.1 m_Mod_glasses.1 ∈ zT := zT_in 1122 (by decide +kernel) (by decide +kernel)
theorem sl_Mod_Mod_image : Cond.selects "LightInRoomModel" m_Mod_image.1 m_Mod_image.1 ∈ zT := zT_in 1126 (by decide +kernel) (by decide +kernel)
theorem sl_Mod_Mod_on : Cond.selects "LightInRoomModel" m_Mod_on.1 m_Mod_on.1 ∈ zT := zT_in 1130 (by decide +kernel) (by decide +kernel)
theorem sl_Mod_Mod_count : Cond.selects "LightInRoomModel" m_Mod_count.1 m_Mod_count.1 ∈ zT := zT_in 1134 (by decide +kernel) (by decide +kernel)
theorem zo_2 : Cond.instanceMethod objectInit ∈ zT := zT_in 68 (by decide +kernel) (by decide +kernel)
theorem zo_3 : Cond.code objectInit ⟨#[0xb1]⟩ 1 none ∈ zT := zT_in 69 (by decide +kernel) (by decide +kernel)
theorem fl_Tap_9_7 : zfl "LightInRoom$Tape" 9 7 0 := ⟨"LightInRoom$Tape", "LightInRoom$Tape", zF_Tap, 9, rfl, by decide, zc_Tap, zT_in 76 (by decide +kernel) (by decide +kernel), Or.inl rfl⟩
theorem fp_Tap_9_7 : zfp "LightInRoom$Tape" 9 7 0 true (.array .int) := ⟨"LightInRoom$Tape", zF_Tap, 9, zt_Tap, rfl, by decide, zc_Tap, zy_Tap, zn_Tap, zT_in 76 (by decide +kernel) (by decide +kernel), rfl, (fun _ => rfl), by decide +kernel⟩
theorem fl_Tap_15_7 : zfl "LightInRoom$Tape" 15 7 1 := ⟨"LightInRoom$Tape", "LightInRoom$Tape", zF_Tap, 9, rfl, by decide, zc_Tap, zT_in 77 (by decide +kernel) (by decide +kernel), Or.inl rfl⟩
theorem fp_Tap_15_7 : zfp "LightInRoom$Tape" 15 7 1 false .int := ⟨"LightInRoom$Tape", zF_Tap, 9, zt_Tap, rfl, by decide, zc_Tap, zy_Tap, zn_Tap, zT_in 77 (by decide +kernel) (by decide +kernel), rfl, (fun h => by cases h), by decide +kernel⟩
theorem fl_Lir_49_7 : zfl "LightInRoom" 49 7 1 := ⟨"LightInRoom$Tape", "LightInRoom$Tape", zF_Tap, 9, rfl, by decide, zc_Tap, zT_in 78 (by decide +kernel) (by decide +kernel), Or.inl rfl⟩
theorem fl_Lir_71_7 : zfl "LightInRoom" 71 7 2 := ⟨"LightInRoom$Tape", "LightInRoom$Tape", zF_Tap, 9, rfl, by decide, zc_Tap, zT_in 79 (by decide +kernel) (by decide +kernel), Or.inl rfl⟩
theorem fl_Tap_21_7 : zfl "LightInRoom$Tape" 21 7 2 := ⟨"LightInRoom$Tape", "LightInRoom$Tape", zF_Tap, 9, rfl, by decide, zc_Tap, zT_in 80 (by decide +kernel) (by decide +kernel), Or.inl rfl⟩
theorem fp_Tap_21_7 : zfp "LightInRoom$Tape" 21 7 2 false .int := ⟨"LightInRoom$Tape", zF_Tap, 9, zt_Tap, rfl, by decide, zc_Tap, zy_Tap, zn_Tap, zT_in 80 (by decide +kernel) (by decide +kernel), rfl, (fun h => by cases h), by decide +kernel⟩
theorem fl_Tel_9_7 : zfl "LightInRoom$Telling" 9 7 3 := ⟨"LightInRoom$Tape", "LightInRoom$Tape", zF_Tap, 9, rfl, by decide, zc_Tap, zT_in 81 (by decide +kernel) (by decide +kernel), Or.inl rfl⟩
theorem fl_Tap_84_7 : zfl "LightInRoom$Tape" 84 7 3 := ⟨"LightInRoom$Tape", "LightInRoom$Tape", zF_Tap, 9, rfl, by decide, zc_Tap, zT_in 82 (by decide +kernel) (by decide +kernel), Or.inl rfl⟩
theorem fp_Tap_84_7 : zfp "LightInRoom$Tape" 84 7 3 false .int := ⟨"LightInRoom$Tape", zF_Tap, 9, zt_Tap, rfl, by decide, zc_Tap, zy_Tap, zn_Tap, zT_in 82 (by decide +kernel) (by decide +kernel), rfl, (fun h => by cases h), by decide +kernel⟩
theorem fl_Tel_18_7 : zfl "LightInRoom$Telling" 18 7 4 := ⟨"LightInRoom$Tape", "LightInRoom$Tape", zF_Tap, 9, rfl, by decide, zc_Tap, zT_in 83 (by decide +kernel) (by decide +kernel), Or.inl rfl⟩
theorem fl_Tap_95_7 : zfl "LightInRoom$Tape" 95 7 4 := ⟨"LightInRoom$Tape", "LightInRoom$Tape", zF_Tap, 9, rfl, by decide, zc_Tap, zT_in 84 (by decide +kernel) (by decide +kernel), Or.inl rfl⟩
theorem fp_Tap_95_7 : zfp "LightInRoom$Tape" 95 7 4 false .int := ⟨"LightInRoom$Tape", zF_Tap, 9, zt_Tap, rfl, by decide, zc_Tap, zy_Tap, zn_Tap, zT_in 84 (by decide +kernel) (by decide +kernel), rfl, (fun h => by cases h), by decide +kernel⟩
theorem fl_Tel_22_7 : zfl "LightInRoom$Telling" 22 7 5 := ⟨"LightInRoom$Tape", "LightInRoom$Tape", zF_Tap, 9, rfl, by decide, zc_Tap, zT_in 85 (by decide +kernel) (by decide +kernel), Or.inl rfl⟩
theorem fl_Tap_98_7 : zfl "LightInRoom$Tape" 98 7 5 := ⟨"LightInRoom$Tape", "LightInRoom$Tape", zF_Tap, 9, rfl, by decide, zc_Tap, zT_in 86 (by decide +kernel) (by decide +kernel), Or.inl rfl⟩
theorem fp_Tap_98_7 : zfp "LightInRoom$Tape" 98 7 5 false .int := ⟨"LightInRoom$Tape", zF_Tap, 9, zt_Tap, rfl, by decide, zc_Tap, zy_Tap, zn_Tap, zT_in 86 (by decide +kernel) (by decide +kernel), rfl, (fun h => by cases h), by decide +kernel⟩
theorem fl_Tel_26_7 : zfl "LightInRoom$Telling" 26 7 6 := ⟨"LightInRoom$Tape", "LightInRoom$Tape", zF_Tap, 9, rfl, by decide, zc_Tap, zT_in 87 (by decide +kernel) (by decide +kernel), Or.inl rfl⟩
theorem fl_Tap_52_7 : zfl "LightInRoom$Tape" 52 7 6 := ⟨"LightInRoom$Tape", "LightInRoom$Tape", zF_Tap, 9, rfl, by decide, zc_Tap, zT_in 88 (by decide +kernel) (by decide +kernel), Or.inl rfl⟩
theorem fp_Tap_52_7 : zfp "LightInRoom$Tape" 52 7 6 false .int := ⟨"LightInRoom$Tape", zF_Tap, 9, zt_Tap, rfl, by decide, zc_Tap, zy_Tap, zn_Tap, zT_in 88 (by decide +kernel) (by decide +kernel), rfl, (fun h => by cases h), by decide +kernel⟩
theorem fl_Tel_30_7 : zfl "LightInRoom$Telling" 30 7 7 := ⟨"LightInRoom$Tape", "LightInRoom$Tape", zF_Tap, 9, rfl, by decide, zc_Tap, zT_in 89 (by decide +kernel) (by decide +kernel), Or.inl rfl⟩
theorem fl_Tap_68_7 : zfl "LightInRoom$Tape" 68 7 7 := ⟨"LightInRoom$Tape", "LightInRoom$Tape", zF_Tap, 9, rfl, by decide, zc_Tap, zT_in 90 (by decide +kernel) (by decide +kernel), Or.inl rfl⟩
theorem fp_Tap_68_7 : zfp "LightInRoom$Tape" 68 7 7 false .int := ⟨"LightInRoom$Tape", zF_Tap, 9, zt_Tap, rfl, by decide, zc_Tap, zy_Tap, zn_Tap, zT_in 90 (by decide +kernel) (by decide +kernel), rfl, (fun h => by cases h), by decide +kernel⟩
theorem fl_Tel_34_7 : zfl "LightInRoom$Telling" 34 7 8 := ⟨"LightInRoom$Tape", "LightInRoom$Tape", zF_Tap, 9, rfl, by decide, zc_Tap, zT_in 91 (by decide +kernel) (by decide +kernel), Or.inl rfl⟩
theorem fl_Tap_43_7 : zfl "LightInRoom$Tape" 43 7 8 := ⟨"LightInRoom$Tape", "LightInRoom$Tape", zF_Tap, 9, rfl, by decide, zc_Tap, zT_in 92 (by decide +kernel) (by decide +kernel), Or.inl rfl⟩
theorem fp_Tap_43_7 : zfp "LightInRoom$Tape" 43 7 8 false .boolean := ⟨"LightInRoom$Tape", zF_Tap, 9, zt_Tap, rfl, by decide, zc_Tap, zy_Tap, zn_Tap, zT_in 92 (by decide +kernel) (by decide +kernel), rfl, (fun h => by cases h), by decide +kernel⟩
theorem fl_Law_9_4 : zfl "LightInRoom$Law" 9 4 0 := ⟨"LightInRoom$Law", "LightInRoom$Law", zF_Law, 2, rfl, by decide, zc_Law, zT_in 128 (by decide +kernel) (by decide +kernel), Or.inl rfl⟩
theorem fp_Law_9_4 : zfp "LightInRoom$Law" 9 4 0 true (.array .int) := ⟨"LightInRoom$Law", zF_Law, 2, zt_Law, rfl, by decide, zc_Law, zy_Law, zn_Law, zT_in 128 (by decide +kernel) (by decide +kernel), rfl, (fun _ => rfl), by decide +kernel⟩
theorem fl_Lir_112_4 : zfl "LightInRoom" 112 4 0 := ⟨"LightInRoom$Law", "LightInRoom$Law", zF_Law, 2, rfl, by decide, zc_Law, zT_in 129 (by decide +kernel) (by decide +kernel), Or.inl rfl⟩
theorem fl_Law_15_4 : zfl "LightInRoom$Law" 15 4 1 := ⟨"LightInRoom$Law", "LightInRoom$Law", zF_Law, 2, rfl, by decide, zc_Law, zT_in 130 (by decide +kernel) (by decide +kernel), Or.inl rfl⟩
theorem fp_Law_15_4 : zfp "LightInRoom$Law" 15 4 1 false .int := ⟨"LightInRoom$Law", zF_Law, 2, zt_Law, rfl, by decide, zc_Law, zy_Law, zn_Law, zT_in 130 (by decide +kernel) (by decide +kernel), rfl, (fun h => by cases h), by decide +kernel⟩
theorem fl_Roo_132_4 : zfl "LightInRoom$Room" 132 4 1 := ⟨"LightInRoom$Law", "LightInRoom$Law", zF_Law, 2, rfl, by decide, zc_Law, zT_in 131 (by decide +kernel) (by decide +kernel), Or.inl rfl⟩
theorem fl_Lir_219_4 : zfl "LightInRoom" 219 4 1 := ⟨"LightInRoom$Law", "LightInRoom$Law", zF_Law, 2, rfl, by decide, zc_Law, zT_in 132 (by decide +kernel) (by decide +kernel), Or.inl rfl⟩
theorem fp_Lir_219_4 : zfp "LightInRoom" 219 4 1 false .int := ⟨"LightInRoom$Law", zF_Law, 2, zt_Law, rfl, by decide, zc_Law, zy_Law, zn_Law, zT_in 132 (by decide +kernel) (by decide +kernel), rfl, (fun h => by cases h), by decide +kernel⟩
theorem fl_Ben_9_0 : zfl "LightInRoom$Bench" 9 0 0 := ⟨"LightInRoom$Bench", "LightInRoom$Bench", zF_Ben, 4, rfl, by decide, zc_Ben, zT_in 144 (by decide +kernel) (by decide +kernel), Or.inl rfl⟩
theorem fp_Ben_9_0 : zfp "LightInRoom$Bench" 9 0 0 false .int := ⟨"LightInRoom$Bench", zF_Ben, 4, zt_Ben, rfl, by decide, zc_Ben, zy_Ben, zn_Ben, zT_in 144 (by decide +kernel) (by decide +kernel), rfl, (fun h => by cases h), by decide +kernel⟩
theorem fl_Roo_60_0 : zfl "LightInRoom$Room" 60 0 0 := ⟨"LightInRoom$Bench", "LightInRoom$Bench", zF_Ben, 4, rfl, by decide, zc_Ben, zT_in 145 (by decide +kernel) (by decide +kernel), Or.inl rfl⟩
theorem fl_Ben_15_0 : zfl "LightInRoom$Bench" 15 0 1 := ⟨"LightInRoom$Bench", "LightInRoom$Bench", zF_Ben, 4, rfl, by decide, zc_Ben, zT_in 146 (by decide +kernel) (by decide +kernel), Or.inl rfl⟩
theorem fp_Ben_15_0 : zfp "LightInRoom$Bench" 15 0 1 false .int := ⟨"LightInRoom$Bench", zF_Ben, 4, zt_Ben, rfl, by decide, zc_Ben, zy_Ben, zn_Ben, zT_in 146 (by decide +kernel) (by decide +kernel), rfl, (fun h => by cases h), by decide +kernel⟩
theorem fl_Roo_64_0 : zfl "LightInRoom$Room" 64 0 1 := ⟨"LightInRoom$Bench", "LightInRoom$Bench", zF_Ben, 4, rfl, by decide, zc_Ben, zT_in 147 (by decide +kernel) (by decide +kernel), Or.inl rfl⟩
theorem fl_Ben_18_0 : zfl "LightInRoom$Bench" 18 0 2 := ⟨"LightInRoom$Bench", "LightInRoom$Bench", zF_Ben, 4, rfl, by decide, zc_Ben, zT_in 148 (by decide +kernel) (by decide +kernel), Or.inl rfl⟩
theorem fp_Ben_18_0 : zfp "LightInRoom$Bench" 18 0 2 false .int := ⟨"LightInRoom$Bench", zF_Ben, 4, zt_Ben, rfl, by decide, zc_Ben, zy_Ben, zn_Ben, zT_in 148 (by decide +kernel) (by decide +kernel), rfl, (fun h => by cases h), by decide +kernel⟩
theorem fl_Roo_67_0 : zfl "LightInRoom$Room" 67 0 2 := ⟨"LightInRoom$Bench", "LightInRoom$Bench", zF_Ben, 4, rfl, by decide, zc_Ben, zT_in 149 (by decide +kernel) (by decide +kernel), Or.inl rfl⟩
theorem fl_Ben_21_0 : zfl "LightInRoom$Bench" 21 0 3 := ⟨"LightInRoom$Bench", "LightInRoom$Bench", zF_Ben, 4, rfl, by decide, zc_Ben, zT_in 150 (by decide +kernel) (by decide +kernel), Or.inl rfl⟩
theorem fp_Ben_21_0 : zfp "LightInRoom$Bench" 21 0 3 false .int := ⟨"LightInRoom$Bench", zF_Ben, 4, zt_Ben, rfl, by decide, zc_Ben, zy_Ben, zn_Ben, zT_in 150 (by decide +kernel) (by decide +kernel), rfl, (fun h => by cases h), by decide +kernel⟩
theorem fl_Roo_70_0 : zfl "LightInRoom$Room" 70 0 3 := ⟨"LightInRoom$Bench", "LightInRoom$Bench", zF_Ben, 4, rfl, by decide, zc_Ben, zT_in 151 (by decide +kernel) (by decide +kernel), Or.inl rfl⟩
theorem fl_Roo_11_6 : zfl "LightInRoom$Room" 11 6 0 := ⟨"LightInRoom$Room", "LightInRoom$Room", zF_Roo, 11, rfl, by decide, zc_Roo, zT_in 161 (by decide +kernel) (by decide +kernel), Or.inl rfl⟩
theorem fp_Roo_11_6 : zfp "LightInRoom$Room" 11 6 0 true (.array (.object "LightInRoom$Telling")) := ⟨"LightInRoom$Room", zF_Roo, 11, zt_Roo, rfl, by decide, zc_Roo, zy_Roo, zn_Roo, zT_in 161 (by decide +kernel) (by decide +kernel), rfl, (fun _ => rfl), by decide +kernel⟩
theorem fl_Lir_145_6 : zfl "LightInRoom" 145 6 0 := ⟨"LightInRoom$Room", "LightInRoom$Room", zF_Roo, 11, rfl, by decide, zc_Roo, zT_in 162 (by decide +kernel) (by decide +kernel), Or.inl rfl⟩
theorem fl_Roo_19_6 : zfl "LightInRoom$Room" 19 6 1 := ⟨"LightInRoom$Room", "LightInRoom$Room", zF_Roo, 11, rfl, by decide, zc_Roo, zT_in 163 (by decide +kernel) (by decide +kernel), Or.inl rfl⟩
theorem fp_Roo_19_6 : zfp "LightInRoom$Room" 19 6 1 true (.array (.object "LightInRoom$Law")) := ⟨"LightInRoom$Room", zF_Roo, 11, zt_Roo, rfl, by decide, zc_Roo, zy_Roo, zn_Roo, zT_in 163 (by decide +kernel) (by decide +kernel), rfl, (fun _ => rfl), by decide +kernel⟩
theorem fl_Roo_24_6 : zfl "LightInRoom$Room" 24 6 2 := ⟨"LightInRoom$Room", "LightInRoom$Room", zF_Roo, 11, rfl, by decide, zc_Roo, zT_in 164 (by decide +kernel) (by decide +kernel), Or.inl rfl⟩
theorem fp_Roo_24_6 : zfp "LightInRoom$Room" 24 6 2 true (.array (.object "LightInRoom$Telling")) := ⟨"LightInRoom$Room", zF_Roo, 11, zt_Roo, rfl, by decide, zc_Roo, zy_Roo, zn_Roo, zT_in 164 (by decide +kernel) (by decide +kernel), rfl, (fun _ => rfl), by decide +kernel⟩
theorem fl_Roo_27_6 : zfl "LightInRoom$Room" 27 6 3 := ⟨"LightInRoom$Room", "LightInRoom$Room", zF_Roo, 11, rfl, by decide, zc_Roo, zT_in 165 (by decide +kernel) (by decide +kernel), Or.inl rfl⟩
theorem fp_Roo_27_6 : zfp "LightInRoom$Room" 27 6 3 true (.array (.object "LightInRoom$Telling")) := ⟨"LightInRoom$Room", zF_Roo, 11, zt_Roo, rfl, by decide, zc_Roo, zy_Roo, zn_Roo, zT_in 165 (by decide +kernel) (by decide +kernel), rfl, (fun _ => rfl), by decide +kernel⟩
theorem fl_Roo_30_6 : zfl "LightInRoom$Room" 30 6 4 := ⟨"LightInRoom$Room", "LightInRoom$Room", zF_Roo, 11, rfl, by decide, zc_Roo, zT_in 166 (by decide +kernel) (by decide +kernel), Or.inl rfl⟩
theorem fp_Roo_30_6 : zfp "LightInRoom$Room" 30 6 4 true (.array .int) := ⟨"LightInRoom$Room", zF_Roo, 11, zt_Roo, rfl, by decide, zc_Roo, zy_Roo, zn_Roo, zT_in 166 (by decide +kernel) (by decide +kernel), rfl, (fun _ => rfl), by decide +kernel⟩
theorem fl_Lir_128_6 : zfl "LightInRoom" 128 6 4 := ⟨"LightInRoom$Room", "LightInRoom$Room", zF_Roo, 11, rfl, by decide, zc_Roo, zT_in 167 (by decide +kernel) (by decide +kernel), Or.inl rfl⟩
theorem fl_Roo_34_6 : zfl "LightInRoom$Room" 34 6 5 := ⟨"LightInRoom$Room", "LightInRoom$Room", zF_Roo, 11, rfl, by decide, zc_Roo, zT_in 168 (by decide +kernel) (by decide +kernel), Or.inl rfl⟩
theorem fp_Roo_34_6 : zfp "LightInRoom$Room" 34 6 5 true (.array .int) := ⟨"LightInRoom$Room", zF_Roo, 11, zt_Roo, rfl, by decide, zc_Roo, zy_Roo, zn_Roo, zT_in 168 (by decide +kernel) (by decide +kernel), rfl, (fun _ => rfl), by decide +kernel⟩
theorem fl_Lir_213_6 : zfl "LightInRoom" 213 6 5 := ⟨"LightInRoom$Room", "LightInRoom$Room", zF_Roo, 11, rfl, by decide, zc_Roo, zT_in 169 (by decide +kernel) (by decide +kernel), Or.inl rfl⟩
theorem fl_Roo_40_6 : zfl "LightInRoom$Room" 40 6 6 := ⟨"LightInRoom$Room", "LightInRoom$Room", zF_Roo, 11, rfl, by decide, zc_Roo, zT_in 170 (by decide +kernel) (by decide +kernel), Or.inl rfl⟩
theorem fp_Roo_40_6 : zfp "LightInRoom$Room" 40 6 6 true (.object "LightInRoom$Bench") := ⟨"LightInRoom$Room", zF_Roo, 11, zt_Roo, rfl, by decide, zc_Roo, zy_Roo, zn_Roo, zT_in 170 (by decide +kernel) (by decide +kernel), rfl, (fun _ => rfl), by decide +kernel⟩
theorem fl_Lir_235_6 : zfl "LightInRoom" 235 6 6 := ⟨"LightInRoom$Room", "LightInRoom$Room", zF_Roo, 11, rfl, by decide, zc_Roo, zT_in 171 (by decide +kernel) (by decide +kernel), Or.inl rfl⟩
theorem fl_Roo_77_6 : zfl "LightInRoom$Room" 77 6 7 := ⟨"LightInRoom$Room", "LightInRoom$Room", zF_Roo, 11, rfl, by decide, zc_Roo, zT_in 172 (by decide +kernel) (by decide +kernel), Or.inl rfl⟩
theorem fp_Roo_77_6 : zfp "LightInRoom$Room" 77 6 7 false .int := ⟨"LightInRoom$Room", zF_Roo, 11, zt_Roo, rfl, by decide, zc_Roo, zy_Roo, zn_Roo, zT_in 172 (by decide +kernel) (by decide +kernel), rfl, (fun h => by cases h), by decide +kernel⟩
theorem fl_Lir_53_6 : zfl "LightInRoom" 53 6 7 := ⟨"LightInRoom$Room", "LightInRoom$Room", zF_Roo, 11, rfl, by decide, zc_Roo, zT_in 173 (by decide +kernel) (by decide +kernel), Or.inl rfl⟩
theorem fl_Roo_80_6 : zfl "LightInRoom$Room" 80 6 8 := ⟨"LightInRoom$Room", "LightInRoom$Room", zF_Roo, 11, rfl, by decide, zc_Roo, zT_in 174 (by decide +kernel) (by decide +kernel), Or.inl rfl⟩
theorem fp_Roo_80_6 : zfp "LightInRoom$Room" 80 6 8 false .int := ⟨"LightInRoom$Room", zF_Roo, 11, zt_Roo, rfl, by decide, zc_Roo, zy_Roo, zn_Roo, zT_in 174 (by decide +kernel) (by decide +kernel), rfl, (fun h => by cases h), by decide +kernel⟩
theorem fl_Lir_194_6 : zfl "LightInRoom" 194 6 8 := ⟨"LightInRoom$Room", "LightInRoom$Room", zF_Roo, 11, rfl, by decide, zc_Roo, zT_in 175 (by decide +kernel) (by decide +kernel), Or.inl rfl⟩
theorem fl_Roo_83_6 : zfl "LightInRoom$Room" 83 6 9 := ⟨"LightInRoom$Room", "LightInRoom$Room", zF_Roo, 11, rfl, by decide, zc_Roo, zT_in 176 (by decide +kernel) (by decide +kernel), Or.inl rfl⟩
theorem fp_Roo_83_6 : zfp "LightInRoom$Room" 83 6 9 false .int := ⟨"LightInRoom$Room", zF_Roo, 11, zt_Roo, rfl, by decide, zc_Roo, zy_Roo, zn_Roo, zT_in 176 (by decide +kernel) (by decide +kernel), rfl, (fun h => by cases h), by decide +kernel⟩
theorem fl_Lir_216_6 : zfl "LightInRoom" 216 6 9 := ⟨"LightInRoom$Room", "LightInRoom$Room", zF_Roo, 11, rfl, by decide, zc_Roo, zT_in 177 (by decide +kernel) (by decide +kernel), Or.inl rfl⟩
theorem fp_Lir_216_6 : zfp "LightInRoom" 216 6 9 false .int := ⟨"LightInRoom$Room", zF_Roo, 11, zt_Roo, rfl, by decide, zc_Roo, zy_Roo, zn_Roo, zT_in 177 (by decide +kernel) (by decide +kernel), rfl, (fun h => by cases h), by decide +kernel⟩
theorem fl_Roo_86_6 : zfl "LightInRoom$Room" 86 6 10 := ⟨"LightInRoom$Room", "LightInRoom$Room", zF_Roo, 11, rfl, by decide, zc_Roo, zT_in 178 (by decide +kernel) (by decide +kernel), Or.inl rfl⟩
theorem fp_Roo_86_6 : zfp "LightInRoom$Room" 86 6 10 false .boolean := ⟨"LightInRoom$Room", zF_Roo, 11, zt_Roo, rfl, by decide, zc_Roo, zy_Roo, zn_Roo, zT_in 178 (by decide +kernel) (by decide +kernel), rfl, (fun h => by cases h), by decide +kernel⟩
theorem fl_Lir_121_6 : zfl "LightInRoom" 121 6 10 := ⟨"LightInRoom$Room", "LightInRoom$Room", zF_Roo, 11, rfl, by decide, zc_Roo, zT_in 179 (by decide +kernel) (by decide +kernel), Or.inl rfl⟩
theorem fp_Lir_121_6 : zfp "LightInRoom" 121 6 10 false .boolean := ⟨"LightInRoom$Room", zF_Roo, 11, zt_Roo, rfl, by decide, zc_Roo, zy_Roo, zn_Roo, zT_in 179 (by decide +kernel) (by decide +kernel), rfl, (fun h => by cases h), by decide +kernel⟩
theorem fl_Lir_10_10 : zfl "LightInRoom" 10 10 0 := ⟨"LightInRoom", "LightInRoom", zF_Lir, 6, rfl, by decide, zc_Lir, zT_in 203 (by decide +kernel) (by decide +kernel), Or.inl rfl⟩
theorem fp_Lir_10_10 : zfp "LightInRoom" 10 10 0 true (.object "LightInRoom$Tape") := ⟨"LightInRoom", zF_Lir, 6, zt_Lir, rfl, by decide, zc_Lir, zy_Lir, zn_Lir, zT_in 203 (by decide +kernel) (by decide +kernel), rfl, (fun _ => rfl), by decide +kernel⟩
theorem fl_Lir_19_10 : zfl "LightInRoom" 19 10 1 := ⟨"LightInRoom", "LightInRoom", zF_Lir, 6, rfl, by decide, zc_Lir, zT_in 204 (by decide +kernel) (by decide +kernel), Or.inl rfl⟩
theorem fp_Lir_19_10 : zfp "LightInRoom" 19 10 1 true (.object "LightInRoom$Room") := ⟨"LightInRoom", zF_Lir, 6, zt_Lir, rfl, by decide, zc_Lir, zy_Lir, zn_Lir, zT_in 204 (by decide +kernel) (by decide +kernel), rfl, (fun _ => rfl), by decide +kernel⟩
theorem fl_Lir_23_10 : zfl "LightInRoom" 23 10 2 := ⟨"LightInRoom", "LightInRoom", zF_Lir, 6, rfl, by decide, zc_Lir, zT_in 205 (by decide +kernel) (by decide +kernel), Or.inl rfl⟩
theorem fp_Lir_23_10 : zfp "LightInRoom" 23 10 2 true (.object "LightInRoom$Room") := ⟨"LightInRoom", zF_Lir, 6, zt_Lir, rfl, by decide, zc_Lir, zy_Lir, zn_Lir, zT_in 205 (by decide +kernel) (by decide +kernel), rfl, (fun _ => rfl), by decide +kernel⟩
theorem fl_Lir_26_10 : zfl "LightInRoom" 26 10 3 := ⟨"LightInRoom", "LightInRoom", zF_Lir, 6, rfl, by decide, zc_Lir, zT_in 206 (by decide +kernel) (by decide +kernel), Or.inl rfl⟩
theorem fp_Lir_26_10 : zfp "LightInRoom" 26 10 3 true (.array .int) := ⟨"LightInRoom", zF_Lir, 6, zt_Lir, rfl, by decide, zc_Lir, zy_Lir, zn_Lir, zT_in 206 (by decide +kernel) (by decide +kernel), rfl, (fun _ => rfl), by decide +kernel⟩
theorem fl_Lir_30_10 : zfl "LightInRoom" 30 10 4 := ⟨"LightInRoom", "LightInRoom", zF_Lir, 6, rfl, by decide, zc_Lir, zT_in 207 (by decide +kernel) (by decide +kernel), Or.inl rfl⟩
theorem fp_Lir_30_10 : zfp "LightInRoom" 30 10 4 true (.array .int) := ⟨"LightInRoom", zF_Lir, 6, zt_Lir, rfl, by decide, zc_Lir, zy_Lir, zn_Lir, zT_in 207 (by decide +kernel) (by decide +kernel), rfl, (fun _ => rfl), by decide +kernel⟩
theorem fl_Lir_33_10 : zfl "LightInRoom" 33 10 5 := ⟨"LightInRoom", "LightInRoom", zF_Lir, 6, rfl, by decide, zc_Lir, zT_in 208 (by decide +kernel) (by decide +kernel), Or.inl rfl⟩
theorem fp_Lir_33_10 : zfp "LightInRoom" 33 10 5 false .boolean := ⟨"LightInRoom", zF_Lir, 6, zt_Lir, rfl, by decide, zc_Lir, zy_Lir, zn_Lir, zT_in 208 (by decide +kernel) (by decide +kernel), rfl, (fun h => by cases h), by decide +kernel⟩
theorem fl_Tel_15_1 : zfl "LightInRoom$Telling" 15 1 0 := ⟨"LightInRoom$Telling", "LightInRoom$Called", zF_Cal, 6, rfl, by decide, zc_Cal, zT_in 353 (by decide +kernel) (by decide +kernel), Or.inl rfl⟩
theorem fp_Tel_15_1 : zfp "LightInRoom$Telling" 15 1 0 true .int := ⟨"LightInRoom$Called", zF_Cal, 6, zt_Cal, rfl, by decide, zc_Cal, zy_Cal, zn_Cal, zT_in 353 (by decide +kernel) (by decide +kernel), rfl, (fun _ => rfl), by decide +kernel⟩
theorem fl_Tel_15_2 : zfl "LightInRoom$Telling" 15 2 0 := ⟨"LightInRoom$Telling", "LightInRoom$Eye", zF_Eye, 6, rfl, by decide, zc_Eye, zT_in 353 (by decide +kernel) (by decide +kernel), Or.inl rfl⟩
theorem fp_Tel_15_2 : zfp "LightInRoom$Telling" 15 2 0 true .int := ⟨"LightInRoom$Eye", zF_Eye, 6, zt_Eye, rfl, by decide, zc_Eye, zy_Eye, zn_Eye, zT_in 353 (by decide +kernel) (by decide +kernel), rfl, (fun _ => rfl), by decide +kernel⟩
theorem fl_Tel_15_3 : zfl "LightInRoom$Telling" 15 3 0 := ⟨"LightInRoom$Telling", "LightInRoom$Grown", zF_Gro, 6, rfl, by decide, zc_Gro, zT_in 353 (by decide +kernel) (by decide +kernel), Or.inl rfl⟩
theorem fp_Tel_15_3 : zfp "LightInRoom$Telling" 15 3 0 true .int := ⟨"LightInRoom$Grown", zF_Gro, 6, zt_Gro, rfl, by decide, zc_Gro, zy_Gro, zn_Gro, zT_in 353 (by decide +kernel) (by decide +kernel), rfl, (fun _ => rfl), by decide +kernel⟩
theorem fl_Tel_15_5 : zfl "LightInRoom$Telling" 15 5 0 := ⟨"LightInRoom$Telling", "LightInRoom$Near", zF_Nea, 6, rfl, by decide, zc_Nea, zT_in 353 (by decide +kernel) (by decide +kernel), Or.inl rfl⟩
theorem fp_Tel_15_5 : zfp "LightInRoom$Telling" 15 5 0 true .int := ⟨"LightInRoom$Near", zF_Nea, 6, zt_Nea, rfl, by decide, zc_Nea, zy_Nea, zn_Nea, zT_in 353 (by decide +kernel) (by decide +kernel), rfl, (fun _ => rfl), by decide +kernel⟩
theorem fl_Tel_15_8 : zfl "LightInRoom$Telling" 15 8 0 := ⟨"LightInRoom$Telling", "LightInRoom$Through", zF_Thr, 6, rfl, by decide, zc_Thr, zT_in 353 (by decide +kernel) (by decide +kernel), Or.inl rfl⟩
theorem fp_Tel_15_8 : zfp "LightInRoom$Telling" 15 8 0 true .int := ⟨"LightInRoom$Through", zF_Thr, 6, zt_Thr, rfl, by decide, zc_Thr, zy_Thr, zn_Thr, zT_in 353 (by decide +kernel) (by decide +kernel), rfl, (fun _ => rfl), by decide +kernel⟩
theorem fl_Tel_15_9 : zfl "LightInRoom$Telling" 15 9 0 := ⟨"LightInRoom$Telling", "LightInRoom$Without", zF_Wit, 6, rfl, by decide, zc_Wit, zT_in 353 (by decide +kernel) (by decide +kernel), Or.inl rfl⟩
theorem fp_Tel_15_9 : zfp "LightInRoom$Telling" 15 9 0 true .int := ⟨"LightInRoom$Without", zF_Wit, 6, zt_Wit, rfl, by decide, zc_Wit, zy_Wit, zn_Wit, zT_in 353 (by decide +kernel) (by decide +kernel), rfl, (fun _ => rfl), by decide +kernel⟩
theorem fl_Ben_27_1 : zfl "LightInRoom$Bench" 27 1 0 := ⟨"LightInRoom$Telling", "LightInRoom$Called", zF_Cal, 6, rfl, by decide, zc_Cal, zT_in 354 (by decide +kernel) (by decide +kernel), Or.inl rfl⟩
theorem fl_Ben_27_2 : zfl "LightInRoom$Bench" 27 2 0 := ⟨"LightInRoom$Telling", "LightInRoom$Eye", zF_Eye, 6, rfl, by decide, zc_Eye, zT_in 354 (by decide +kernel) (by decide +kernel), Or.inl rfl⟩
theorem fl_Ben_27_3 : zfl "LightInRoom$Bench" 27 3 0 := ⟨"LightInRoom$Telling", "LightInRoom$Grown", zF_Gro, 6, rfl, by decide, zc_Gro, zT_in 354 (by decide +kernel) (by decide +kernel), Or.inl rfl⟩
theorem fl_Ben_27_5 : zfl "LightInRoom$Bench" 27 5 0 := ⟨"LightInRoom$Telling", "LightInRoom$Near", zF_Nea, 6, rfl, by decide, zc_Nea, zT_in 354 (by decide +kernel) (by decide +kernel), Or.inl rfl⟩
theorem fl_Ben_27_8 : zfl "LightInRoom$Bench" 27 8 0 := ⟨"LightInRoom$Telling", "LightInRoom$Through", zF_Thr, 6, rfl, by decide, zc_Thr, zT_in 354 (by decide +kernel) (by decide +kernel), Or.inl rfl⟩
theorem fl_Ben_27_9 : zfl "LightInRoom$Bench" 27 9 0 := ⟨"LightInRoom$Telling", "LightInRoom$Without", zF_Wit, 6, rfl, by decide, zc_Wit, zT_in 354 (by decide +kernel) (by decide +kernel), Or.inl rfl⟩
theorem fl_Lir_78_1 : zfl "LightInRoom" 78 1 0 := ⟨"LightInRoom$Telling", "LightInRoom$Called", zF_Cal, 6, rfl, by decide, zc_Cal, zT_in 355 (by decide +kernel) (by decide +kernel), Or.inl rfl⟩
theorem fl_Lir_78_2 : zfl "LightInRoom" 78 2 0 := ⟨"LightInRoom$Telling", "LightInRoom$Eye", zF_Eye, 6, rfl, by decide, zc_Eye, zT_in 355 (by decide +kernel) (by decide +kernel), Or.inl rfl⟩
theorem fl_Lir_78_3 : zfl "LightInRoom" 78 3 0 := ⟨"LightInRoom$Telling", "LightInRoom$Grown", zF_Gro, 6, rfl, by decide, zc_Gro, zT_in 355 (by decide +kernel) (by decide +kernel), Or.inl rfl⟩
theorem fl_Lir_78_5 : zfl "LightInRoom" 78 5 0 := ⟨"LightInRoom$Telling", "LightInRoom$Near", zF_Nea, 6, rfl, by decide, zc_Nea, zT_in 355 (by decide +kernel) (by decide +kernel), Or.inl rfl⟩
theorem fl_Lir_78_8 : zfl "LightInRoom" 78 8 0 := ⟨"LightInRoom$Telling", "LightInRoom$Through", zF_Thr, 6, rfl, by decide, zc_Thr, zT_in 355 (by decide +kernel) (by decide +kernel), Or.inl rfl⟩
theorem fl_Lir_78_9 : zfl "LightInRoom" 78 9 0 := ⟨"LightInRoom$Telling", "LightInRoom$Without", zF_Wit, 6, rfl, by decide, zc_Wit, zT_in 355 (by decide +kernel) (by decide +kernel), Or.inl rfl⟩
theorem fl_Tel_21_1 : zfl "LightInRoom$Telling" 21 1 1 := ⟨"LightInRoom$Telling", "LightInRoom$Called", zF_Cal, 6, rfl, by decide, zc_Cal, zT_in 356 (by decide +kernel) (by decide +kernel), Or.inl rfl⟩
theorem fp_Tel_21_1 : zfp "LightInRoom$Telling" 21 1 1 true .int := ⟨"LightInRoom$Called", zF_Cal, 6, zt_Cal, rfl, by decide, zc_Cal, zy_Cal, zn_Cal, zT_in 356 (by decide +kernel) (by decide +kernel), rfl, (fun _ => rfl), by decide +kernel⟩
theorem fl_Tel_21_2 : zfl "LightInRoom$Telling" 21 2 1 := ⟨"LightInRoom$Telling", "LightInRoom$Eye", zF_Eye, 6, rfl, by decide, zc_Eye, zT_in 356 (by decide +kernel) (by decide +kernel), Or.inl rfl⟩
theorem fp_Tel_21_2 : zfp "LightInRoom$Telling" 21 2 1 true .int := ⟨"LightInRoom$Eye", zF_Eye, 6, zt_Eye, rfl, by decide, zc_Eye, zy_Eye, zn_Eye, zT_in 356 (by decide +kernel) (by decide +kernel), rfl, (fun _ => rfl), by decide +kernel⟩
theorem fl_Tel_21_3 : zfl "LightInRoom$Telling" 21 3 1 := ⟨"LightInRoom$Telling", "LightInRoom$Grown", zF_Gro, 6, rfl, by decide, zc_Gro, zT_in 356 (by decide +kernel) (by decide +kernel), Or.inl rfl⟩
theorem fp_Tel_21_3 : zfp "LightInRoom$Telling" 21 3 1 true .int := ⟨"LightInRoom$Grown", zF_Gro, 6, zt_Gro, rfl, by decide, zc_Gro, zy_Gro, zn_Gro, zT_in 356 (by decide +kernel) (by decide +kernel), rfl, (fun _ => rfl), by decide +kernel⟩
theorem fl_Tel_21_5 : zfl "LightInRoom$Telling" 21 5 1 := ⟨"LightInRoom$Telling", "LightInRoom$Near", zF_Nea, 6, rfl, by decide, zc_Nea, zT_in 356 (by decide +kernel) (by decide +kernel), Or.inl rfl⟩
theorem fp_Tel_21_5 : zfp "LightInRoom$Telling" 21 5 1 true .int := ⟨"LightInRoom$Near", zF_Nea, 6, zt_Nea, rfl, by decide, zc_Nea, zy_Nea, zn_Nea, zT_in 356 (by decide +kernel) (by decide +kernel), rfl, (fun _ => rfl), by decide +kernel⟩
theorem fl_Tel_21_8 : zfl "LightInRoom$Telling" 21 8 1 := ⟨"LightInRoom$Telling", "LightInRoom$Through", zF_Thr, 6, rfl, by decide, zc_Thr, zT_in 356 (by decide +kernel) (by decide +kernel), Or.inl rfl⟩
theorem fp_Tel_21_8 : zfp "LightInRoom$Telling" 21 8 1 true .int := ⟨"LightInRoom$Through", zF_Thr, 6, zt_Thr, rfl, by decide, zc_Thr, zy_Thr, zn_Thr, zT_in 356 (by decide +kernel) (by decide +kernel), rfl, (fun _ => rfl), by decide +kernel⟩
theorem fl_Tel_21_9 : zfl "LightInRoom$Telling" 21 9 1 := ⟨"LightInRoom$Telling", "LightInRoom$Without", zF_Wit, 6, rfl, by decide, zc_Wit, zT_in 356 (by decide +kernel) (by decide +kernel), Or.inl rfl⟩
theorem fp_Tel_21_9 : zfp "LightInRoom$Telling" 21 9 1 true .int := ⟨"LightInRoom$Without", zF_Wit, 6, zt_Wit, rfl, by decide, zc_Wit, zy_Wit, zn_Wit, zT_in 356 (by decide +kernel) (by decide +kernel), rfl, (fun _ => rfl), by decide +kernel⟩
theorem fl_Thr_13_8 : zfl "LightInRoom$Through" 13 8 1 := ⟨"LightInRoom$Through", "LightInRoom$Through", zF_Thr, 6, rfl, by decide, zc_Thr, zT_in 357 (by decide +kernel) (by decide +kernel), Or.inr (zT_in 358 (by decide +kernel) (by decide +kernel))⟩
theorem fl_Ben_28_1 : zfl "LightInRoom$Bench" 28 1 1 := ⟨"LightInRoom$Telling", "LightInRoom$Called", zF_Cal, 6, rfl, by decide, zc_Cal, zT_in 359 (by decide +kernel) (by decide +kernel), Or.inl rfl⟩
theorem fl_Ben_28_2 : zfl "LightInRoom$Bench" 28 2 1 := ⟨"LightInRoom$Telling", "LightInRoom$Eye", zF_Eye, 6, rfl, by decide, zc_Eye, zT_in 359 (by decide +kernel) (by decide +kernel), Or.inl rfl⟩
theorem fl_Ben_28_3 : zfl "LightInRoom$Bench" 28 3 1 := ⟨"LightInRoom$Telling", "LightInRoom$Grown", zF_Gro, 6, rfl, by decide, zc_Gro, zT_in 359 (by decide +kernel) (by decide +kernel), Or.inl rfl⟩
theorem fl_Ben_28_5 : zfl "LightInRoom$Bench" 28 5 1 := ⟨"LightInRoom$Telling", "LightInRoom$Near", zF_Nea, 6, rfl, by decide, zc_Nea, zT_in 359 (by decide +kernel) (by decide +kernel), Or.inl rfl⟩
theorem fl_Ben_28_8 : zfl "LightInRoom$Bench" 28 8 1 := ⟨"LightInRoom$Telling", "LightInRoom$Through", zF_Thr, 6, rfl, by decide, zc_Thr, zT_in 359 (by decide +kernel) (by decide +kernel), Or.inl rfl⟩
theorem fl_Ben_28_9 : zfl "LightInRoom$Bench" 28 9 1 := ⟨"LightInRoom$Telling", "LightInRoom$Without", zF_Wit, 6, rfl, by decide, zc_Wit, zT_in 359 (by decide +kernel) (by decide +kernel), Or.inl rfl⟩
theorem fl_Lir_83_1 : zfl "LightInRoom" 83 1 1 := ⟨"LightInRoom$Telling", "LightInRoom$Called", zF_Cal, 6, rfl, by decide, zc_Cal, zT_in 360 (by decide +kernel) (by decide +kernel), Or.inl rfl⟩
theorem fl_Lir_83_2 : zfl "LightInRoom" 83 2 1 := ⟨"LightInRoom$Telling", "LightInRoom$Eye", zF_Eye, 6, rfl, by decide, zc_Eye, zT_in 360 (by decide +kernel) (by decide +kernel), Or.inl rfl⟩
theorem fl_Lir_83_3 : zfl "LightInRoom" 83 3 1 := ⟨"LightInRoom$Telling", "LightInRoom$Grown", zF_Gro, 6, rfl, by decide, zc_Gro, zT_in 360 (by decide +kernel) (by decide +kernel), Or.inl rfl⟩
theorem fl_Lir_83_5 : zfl "LightInRoom" 83 5 1 := ⟨"LightInRoom$Telling", "LightInRoom$Near", zF_Nea, 6, rfl, by decide, zc_Nea, zT_in 360 (by decide +kernel) (by decide +kernel), Or.inl rfl⟩
theorem fl_Lir_83_8 : zfl "LightInRoom" 83 8 1 := ⟨"LightInRoom$Telling", "LightInRoom$Through", zF_Thr, 6, rfl, by decide, zc_Thr, zT_in 360 (by decide +kernel) (by decide +kernel), Or.inl rfl⟩
theorem fl_Lir_83_9 : zfl "LightInRoom" 83 9 1 := ⟨"LightInRoom$Telling", "LightInRoom$Without", zF_Wit, 6, rfl, by decide, zc_Wit, zT_in 360 (by decide +kernel) (by decide +kernel), Or.inl rfl⟩
theorem fl_Tel_25_1 : zfl "LightInRoom$Telling" 25 1 2 := ⟨"LightInRoom$Telling", "LightInRoom$Called", zF_Cal, 6, rfl, by decide, zc_Cal, zT_in 361 (by decide +kernel) (by decide +kernel), Or.inl rfl⟩
theorem fp_Tel_25_1 : zfp "LightInRoom$Telling" 25 1 2 true .int := ⟨"LightInRoom$Called", zF_Cal, 6, zt_Cal, rfl, by decide, zc_Cal, zy_Cal, zn_Cal, zT_in 361 (by decide +kernel) (by decide +kernel), rfl, (fun _ => rfl), by decide +kernel⟩
theorem fl_Tel_25_2 : zfl "LightInRoom$Telling" 25 2 2 := ⟨"LightInRoom$Telling", "LightInRoom$Eye", zF_Eye, 6, rfl, by decide, zc_Eye, zT_in 361 (by decide +kernel) (by decide +kernel), Or.inl rfl⟩
theorem fp_Tel_25_2 : zfp "LightInRoom$Telling" 25 2 2 true .int := ⟨"LightInRoom$Eye", zF_Eye, 6, zt_Eye, rfl, by decide, zc_Eye, zy_Eye, zn_Eye, zT_in 361 (by decide +kernel) (by decide +kernel), rfl, (fun _ => rfl), by decide +kernel⟩
theorem fl_Tel_25_3 : zfl "LightInRoom$Telling" 25 3 2 := ⟨"LightInRoom$Telling", "LightInRoom$Grown", zF_Gro, 6, rfl, by decide, zc_Gro, zT_in 361 (by decide +kernel) (by decide +kernel), Or.inl rfl⟩
theorem fp_Tel_25_3 : zfp "LightInRoom$Telling" 25 3 2 true .int := ⟨"LightInRoom$Grown", zF_Gro, 6, zt_Gro, rfl, by decide, zc_Gro, zy_Gro, zn_Gro, zT_in 361 (by decide +kernel) (by decide +kernel), rfl, (fun _ => rfl), by decide +kernel⟩
theorem fl_Tel_25_5 : zfl "LightInRoom$Telling" 25 5 2 := ⟨"LightInRoom$Telling", "LightInRoom$Near", zF_Nea, 6, rfl, by decide, zc_Nea, zT_in 361 (by decide +kernel) (by decide +kernel), Or.inl rfl⟩
theorem fp_Tel_25_5 : zfp "LightInRoom$Telling" 25 5 2 true .int := ⟨"LightInRoom$Near", zF_Nea, 6, zt_Nea, rfl, by decide, zc_Nea, zy_Nea, zn_Nea, zT_in 361 (by decide +kernel) (by decide +kernel), rfl, (fun _ => rfl), by decide +kernel⟩
theorem fl_Tel_25_8 : zfl "LightInRoom$Telling" 25 8 2 := ⟨"LightInRoom$Telling", "LightInRoom$Through", zF_Thr, 6, rfl, by decide, zc_Thr, zT_in 361 (by decide +kernel) (by decide +kernel), Or.inl rfl⟩
theorem fp_Tel_25_8 : zfp "LightInRoom$Telling" 25 8 2 true .int := ⟨"LightInRoom$Through", zF_Thr, 6, zt_Thr, rfl, by decide, zc_Thr, zy_Thr, zn_Thr, zT_in 361 (by decide +kernel) (by decide +kernel), rfl, (fun _ => rfl), by decide +kernel⟩
theorem fl_Tel_25_9 : zfl "LightInRoom$Telling" 25 9 2 := ⟨"LightInRoom$Telling", "LightInRoom$Without", zF_Wit, 6, rfl, by decide, zc_Wit, zT_in 361 (by decide +kernel) (by decide +kernel), Or.inl rfl⟩
theorem fp_Tel_25_9 : zfp "LightInRoom$Telling" 25 9 2 true .int := ⟨"LightInRoom$Without", zF_Wit, 6, zt_Wit, rfl, by decide, zc_Wit, zy_Wit, zn_Wit, zT_in 361 (by decide +kernel) (by decide +kernel), rfl, (fun _ => rfl), by decide +kernel⟩
theorem fl_Ben_29_1 : zfl "LightInRoom$Bench" 29 1 2 := ⟨"LightInRoom$Telling", "LightInRoom$Called", zF_Cal, 6, rfl, by decide, zc_Cal, zT_in 362 (by decide +kernel) (by decide +kernel), Or.inl rfl⟩
theorem fl_Ben_29_2 : zfl "LightInRoom$Bench" 29 2 2 := ⟨"LightInRoom$Telling", "LightInRoom$Eye", zF_Eye, 6, rfl, by decide, zc_Eye, zT_in 362 (by decide +kernel) (by decide +kernel), Or.inl rfl⟩
theorem fl_Ben_29_3 : zfl "LightInRoom$Bench" 29 3 2 := ⟨"LightInRoom$Telling", "LightInRoom$Grown", zF_Gro, 6, rfl, by decide, zc_Gro, zT_in 362 (by decide +kernel) (by decide +kernel), Or.inl rfl⟩
theorem fl_Ben_29_5 : zfl "LightInRoom$Bench" 29 5 2 := ⟨"LightInRoom$Telling", "LightInRoom$Near", zF_Nea, 6, rfl, by decide, zc_Nea, zT_in 362 (by decide +kernel) (by decide +kernel), Or.inl rfl⟩
theorem fl_Ben_29_8 : zfl "LightInRoom$Bench" 29 8 2 := ⟨"LightInRoom$Telling", "LightInRoom$Through", zF_Thr, 6, rfl, by decide, zc_Thr, zT_in 362 (by decide +kernel) (by decide +kernel), Or.inl rfl⟩
theorem fl_Ben_29_9 : zfl "LightInRoom$Bench" 29 9 2 := ⟨"LightInRoom$Telling", "LightInRoom$Without", zF_Wit, 6, rfl, by decide, zc_Wit, zT_in 362 (by decide +kernel) (by decide +kernel), Or.inl rfl⟩
theorem fl_Law_23_1 : zfl "LightInRoom$Law" 23 1 2 := ⟨"LightInRoom$Telling", "LightInRoom$Called", zF_Cal, 6, rfl, by decide, zc_Cal, zT_in 363 (by decide +kernel) (by decide +kernel), Or.inl rfl⟩
theorem fl_Law_23_2 : zfl "LightInRoom$Law" 23 2 2 := ⟨"LightInRoom$Telling", "LightInRoom$Eye", zF_Eye, 6, rfl, by decide, zc_Eye, zT_in 363 (by decide +kernel) (by decide +kernel), Or.inl rfl⟩
theorem fl_Law_23_3 : zfl "LightInRoom$Law" 23 3 2 := ⟨"LightInRoom$Telling", "LightInRoom$Grown", zF_Gro, 6, rfl, by decide, zc_Gro, zT_in 363 (by decide +kernel) (by decide +kernel), Or.inl rfl⟩
theorem fl_Law_23_5 : zfl "LightInRoom$Law" 23 5 2 := ⟨"LightInRoom$Telling", "LightInRoom$Near", zF_Nea, 6, rfl, by decide, zc_Nea, zT_in 363 (by decide +kernel) (by decide +kernel), Or.inl rfl⟩
theorem fl_Law_23_8 : zfl "LightInRoom$Law" 23 8 2 := ⟨"LightInRoom$Telling", "LightInRoom$Through", zF_Thr, 6, rfl, by decide, zc_Thr, zT_in 363 (by decide +kernel) (by decide +kernel), Or.inl rfl⟩
theorem fl_Law_23_9 : zfl "LightInRoom$Law" 23 9 2 := ⟨"LightInRoom$Telling", "LightInRoom$Without", zF_Wit, 6, rfl, by decide, zc_Wit, zT_in 363 (by decide +kernel) (by decide +kernel), Or.inl rfl⟩
theorem fl_Lir_86_1 : zfl "LightInRoom" 86 1 2 := ⟨"LightInRoom$Telling", "LightInRoom$Called", zF_Cal, 6, rfl, by decide, zc_Cal, zT_in 364 (by decide +kernel) (by decide +kernel), Or.inl rfl⟩
theorem fl_Lir_86_2 : zfl "LightInRoom" 86 2 2 := ⟨"LightInRoom$Telling", "LightInRoom$Eye", zF_Eye, 6, rfl, by decide, zc_Eye, zT_in 364 (by decide +kernel) (by decide +kernel), Or.inl rfl⟩
theorem fl_Lir_86_3 : zfl "LightInRoom" 86 3 2 := ⟨"LightInRoom$Telling", "LightInRoom$Grown", zF_Gro, 6, rfl, by decide, zc_Gro, zT_in 364 (by decide +kernel) (by decide +kernel), Or.inl rfl⟩
theorem fl_Lir_86_5 : zfl "LightInRoom" 86 5 2 := ⟨"LightInRoom$Telling", "LightInRoom$Near", zF_Nea, 6, rfl, by decide, zc_Nea, zT_in 364 (by decide +kernel) (by decide +kernel), Or.inl rfl⟩
theorem fl_Lir_86_8 : zfl "LightInRoom" 86 8 2 := ⟨"LightInRoom$Telling", "LightInRoom$Through", zF_Thr, 6, rfl, by decide, zc_Thr, zT_in 364 (by decide +kernel) (by decide +kernel), Or.inl rfl⟩
theorem fl_Lir_86_9 : zfl "LightInRoom" 86 9 2 := ⟨"LightInRoom$Telling", "LightInRoom$Without", zF_Wit, 6, rfl, by decide, zc_Wit, zT_in 364 (by decide +kernel) (by decide +kernel), Or.inl rfl⟩
theorem fl_Tel_29_1 : zfl "LightInRoom$Telling" 29 1 3 := ⟨"LightInRoom$Telling", "LightInRoom$Called", zF_Cal, 6, rfl, by decide, zc_Cal, zT_in 365 (by decide +kernel) (by decide +kernel), Or.inl rfl⟩
theorem fp_Tel_29_1 : zfp "LightInRoom$Telling" 29 1 3 true .int := ⟨"LightInRoom$Called", zF_Cal, 6, zt_Cal, rfl, by decide, zc_Cal, zy_Cal, zn_Cal, zT_in 365 (by decide +kernel) (by decide +kernel), rfl, (fun _ => rfl), by decide +kernel⟩
theorem fl_Tel_29_2 : zfl "LightInRoom$Telling" 29 2 3 := ⟨"LightInRoom$Telling", "LightInRoom$Eye", zF_Eye, 6, rfl, by decide, zc_Eye, zT_in 365 (by decide +kernel) (by decide +kernel), Or.inl rfl⟩
theorem fp_Tel_29_2 : zfp "LightInRoom$Telling" 29 2 3 true .int := ⟨"LightInRoom$Eye", zF_Eye, 6, zt_Eye, rfl, by decide, zc_Eye, zy_Eye, zn_Eye, zT_in 365 (by decide +kernel) (by decide +kernel), rfl, (fun _ => rfl), by decide +kernel⟩
theorem fl_Tel_29_3 : zfl "LightInRoom$Telling" 29 3 3 := ⟨"LightInRoom$Telling", "LightInRoom$Grown", zF_Gro, 6, rfl, by decide, zc_Gro, zT_in 365 (by decide +kernel) (by decide +kernel), Or.inl rfl⟩
theorem fp_Tel_29_3 : zfp "LightInRoom$Telling" 29 3 3 true .int := ⟨"LightInRoom$Grown", zF_Gro, 6, zt_Gro, rfl, by decide, zc_Gro, zy_Gro, zn_Gro, zT_in 365 (by decide +kernel) (by decide +kernel), rfl, (fun _ => rfl), by decide +kernel⟩
theorem fl_Tel_29_5 : zfl "LightInRoom$Telling" 29 5 3 := ⟨"LightInRoom$Telling", "LightInRoom$Near", zF_Nea, 6, rfl, by decide, zc_Nea, zT_in 365 (by decide +kernel) (by decide +kernel), Or.inl rfl⟩
theorem fp_Tel_29_5 : zfp "LightInRoom$Telling" 29 5 3 true .int := ⟨"LightInRoom$Near", zF_Nea, 6, zt_Nea, rfl, by decide, zc_Nea, zy_Nea, zn_Nea, zT_in 365 (by decide +kernel) (by decide +kernel), rfl, (fun _ => rfl), by decide +kernel⟩
theorem fl_Tel_29_8 : zfl "LightInRoom$Telling" 29 8 3 := ⟨"LightInRoom$Telling", "LightInRoom$Through", zF_Thr, 6, rfl, by decide, zc_Thr, zT_in 365 (by decide +kernel) (by decide +kernel), Or.inl rfl⟩
theorem fp_Tel_29_8 : zfp "LightInRoom$Telling" 29 8 3 true .int := ⟨"LightInRoom$Through", zF_Thr, 6, zt_Thr, rfl, by decide, zc_Thr, zy_Thr, zn_Thr, zT_in 365 (by decide +kernel) (by decide +kernel), rfl, (fun _ => rfl), by decide +kernel⟩
theorem fl_Tel_29_9 : zfl "LightInRoom$Telling" 29 9 3 := ⟨"LightInRoom$Telling", "LightInRoom$Without", zF_Wit, 6, rfl, by decide, zc_Wit, zT_in 365 (by decide +kernel) (by decide +kernel), Or.inl rfl⟩
theorem fp_Tel_29_9 : zfp "LightInRoom$Telling" 29 9 3 true .int := ⟨"LightInRoom$Without", zF_Wit, 6, zt_Wit, rfl, by decide, zc_Wit, zy_Wit, zn_Wit, zT_in 365 (by decide +kernel) (by decide +kernel), rfl, (fun _ => rfl), by decide +kernel⟩
theorem fl_Ben_24_1 : zfl "LightInRoom$Bench" 24 1 3 := ⟨"LightInRoom$Telling", "LightInRoom$Called", zF_Cal, 6, rfl, by decide, zc_Cal, zT_in 366 (by decide +kernel) (by decide +kernel), Or.inl rfl⟩
theorem fl_Ben_24_2 : zfl "LightInRoom$Bench" 24 2 3 := ⟨"LightInRoom$Telling", "LightInRoom$Eye", zF_Eye, 6, rfl, by decide, zc_Eye, zT_in 366 (by decide +kernel) (by decide +kernel), Or.inl rfl⟩
theorem fl_Ben_24_3 : zfl "LightInRoom$Bench" 24 3 3 := ⟨"LightInRoom$Telling", "LightInRoom$Grown", zF_Gro, 6, rfl, by decide, zc_Gro, zT_in 366 (by decide +kernel) (by decide +kernel), Or.inl rfl⟩
theorem fl_Ben_24_5 : zfl "LightInRoom$Bench" 24 5 3 := ⟨"LightInRoom$Telling", "LightInRoom$Near", zF_Nea, 6, rfl, by decide, zc_Nea, zT_in 366 (by decide +kernel) (by decide +kernel), Or.inl rfl⟩
theorem fl_Ben_24_8 : zfl "LightInRoom$Bench" 24 8 3 := ⟨"LightInRoom$Telling", "LightInRoom$Through", zF_Thr, 6, rfl, by decide, zc_Thr, zT_in 366 (by decide +kernel) (by decide +kernel), Or.inl rfl⟩
theorem fl_Ben_24_9 : zfl "LightInRoom$Bench" 24 9 3 := ⟨"LightInRoom$Telling", "LightInRoom$Without", zF_Wit, 6, rfl, by decide, zc_Wit, zT_in 366 (by decide +kernel) (by decide +kernel), Or.inl rfl⟩
theorem fl_Law_32_1 : zfl "LightInRoom$Law" 32 1 3 := ⟨"LightInRoom$Telling", "LightInRoom$Called", zF_Cal, 6, rfl, by decide, zc_Cal, zT_in 367 (by decide +kernel) (by decide +kernel), Or.inl rfl⟩
theorem fl_Law_32_2 : zfl "LightInRoom$Law" 32 2 3 := ⟨"LightInRoom$Telling", "LightInRoom$Eye", zF_Eye, 6, rfl, by decide, zc_Eye, zT_in 367 (by decide +kernel) (by decide +kernel), Or.inl rfl⟩
theorem fl_Law_32_3 : zfl "LightInRoom$Law" 32 3 3 := ⟨"LightInRoom$Telling", "LightInRoom$Grown", zF_Gro, 6, rfl, by decide, zc_Gro, zT_in 367 (by decide +kernel) (by decide +kernel), Or.inl rfl⟩
theorem fl_Law_32_5 : zfl "LightInRoom$Law" 32 5 3 := ⟨"LightInRoom$Telling", "LightInRoom$Near", zF_Nea, 6, rfl, by decide, zc_Nea, zT_in 367 (by decide +kernel) (by decide +kernel), Or.inl rfl⟩
theorem fl_Law_32_8 : zfl "LightInRoom$Law" 32 8 3 := ⟨"LightInRoom$Telling", "LightInRoom$Through", zF_Thr, 6, rfl, by decide, zc_Thr, zT_in 367 (by decide +kernel) (by decide +kernel), Or.inl rfl⟩
theorem fl_Law_32_9 : zfl "LightInRoom$Law" 32 9 3 := ⟨"LightInRoom$Telling", "LightInRoom$Without", zF_Wit, 6, rfl, by decide, zc_Wit, zT_in 367 (by decide +kernel) (by decide +kernel), Or.inl rfl⟩
theorem fl_Lir_89_1 : zfl "LightInRoom" 89 1 3 := ⟨"LightInRoom$Telling", "LightInRoom$Called", zF_Cal, 6, rfl, by decide, zc_Cal, zT_in 368 (by decide +kernel) (by decide +kernel), Or.inl rfl⟩
theorem fl_Lir_89_2 : zfl "LightInRoom" 89 2 3 := ⟨"LightInRoom$Telling", "LightInRoom$Eye", zF_Eye, 6, rfl, by decide, zc_Eye, zT_in 368 (by decide +kernel) (by decide +kernel), Or.inl rfl⟩
theorem fl_Lir_89_3 : zfl "LightInRoom" 89 3 3 := ⟨"LightInRoom$Telling", "LightInRoom$Grown", zF_Gro, 6, rfl, by decide, zc_Gro, zT_in 368 (by decide +kernel) (by decide +kernel), Or.inl rfl⟩
theorem fl_Lir_89_5 : zfl "LightInRoom" 89 5 3 := ⟨"LightInRoom$Telling", "LightInRoom$Near", zF_Nea, 6, rfl, by decide, zc_Nea, zT_in 368 (by decide +kernel) (by decide +kernel), Or.inl rfl⟩
theorem fl_Lir_89_8 : zfl "LightInRoom" 89 8 3 := ⟨"LightInRoom$Telling", "LightInRoom$Through", zF_Thr, 6, rfl, by decide, zc_Thr, zT_in 368 (by decide +kernel) (by decide +kernel), Or.inl rfl⟩
theorem fl_Lir_89_9 : zfl "LightInRoom" 89 9 3 := ⟨"LightInRoom$Telling", "LightInRoom$Without", zF_Wit, 6, rfl, by decide, zc_Wit, zT_in 368 (by decide +kernel) (by decide +kernel), Or.inl rfl⟩
theorem fl_Roo_126_1 : zfl "LightInRoom$Room" 126 1 3 := ⟨"LightInRoom$Telling", "LightInRoom$Called", zF_Cal, 6, rfl, by decide, zc_Cal, zT_in 369 (by decide +kernel) (by decide +kernel), Or.inl rfl⟩
theorem fl_Roo_126_2 : zfl "LightInRoom$Room" 126 2 3 := ⟨"LightInRoom$Telling", "LightInRoom$Eye", zF_Eye, 6, rfl, by decide, zc_Eye, zT_in 369 (by decide +kernel) (by decide +kernel), Or.inl rfl⟩
theorem fl_Roo_126_3 : zfl "LightInRoom$Room" 126 3 3 := ⟨"LightInRoom$Telling", "LightInRoom$Grown", zF_Gro, 6, rfl, by decide, zc_Gro, zT_in 369 (by decide +kernel) (by decide +kernel), Or.inl rfl⟩
theorem fl_Roo_126_5 : zfl "LightInRoom$Room" 126 5 3 := ⟨"LightInRoom$Telling", "LightInRoom$Near", zF_Nea, 6, rfl, by decide, zc_Nea, zT_in 369 (by decide +kernel) (by decide +kernel), Or.inl rfl⟩
theorem fl_Roo_126_8 : zfl "LightInRoom$Room" 126 8 3 := ⟨"LightInRoom$Telling", "LightInRoom$Through", zF_Thr, 6, rfl, by decide, zc_Thr, zT_in 369 (by decide +kernel) (by decide +kernel), Or.inl rfl⟩
theorem fl_Roo_126_9 : zfl "LightInRoom$Room" 126 9 3 := ⟨"LightInRoom$Telling", "LightInRoom$Without", zF_Wit, 6, rfl, by decide, zc_Wit, zT_in 369 (by decide +kernel) (by decide +kernel), Or.inl rfl⟩
theorem fl_Tel_33_1 : zfl "LightInRoom$Telling" 33 1 4 := ⟨"LightInRoom$Telling", "LightInRoom$Called", zF_Cal, 6, rfl, by decide, zc_Cal, zT_in 370 (by decide +kernel) (by decide +kernel), Or.inl rfl⟩
theorem fp_Tel_33_1 : zfp "LightInRoom$Telling" 33 1 4 true .int := ⟨"LightInRoom$Called", zF_Cal, 6, zt_Cal, rfl, by decide, zc_Cal, zy_Cal, zn_Cal, zT_in 370 (by decide +kernel) (by decide +kernel), rfl, (fun _ => rfl), by decide +kernel⟩
theorem fl_Tel_33_2 : zfl "LightInRoom$Telling" 33 2 4 := ⟨"LightInRoom$Telling", "LightInRoom$Eye", zF_Eye, 6, rfl, by decide, zc_Eye, zT_in 370 (by decide +kernel) (by decide +kernel), Or.inl rfl⟩
theorem fp_Tel_33_2 : zfp "LightInRoom$Telling" 33 2 4 true .int := ⟨"LightInRoom$Eye", zF_Eye, 6, zt_Eye, rfl, by decide, zc_Eye, zy_Eye, zn_Eye, zT_in 370 (by decide +kernel) (by decide +kernel), rfl, (fun _ => rfl), by decide +kernel⟩
theorem fl_Tel_33_3 : zfl "LightInRoom$Telling" 33 3 4 := ⟨"LightInRoom$Telling", "LightInRoom$Grown", zF_Gro, 6, rfl, by decide, zc_Gro, zT_in 370 (by decide +kernel) (by decide +kernel), Or.inl rfl⟩
theorem fp_Tel_33_3 : zfp "LightInRoom$Telling" 33 3 4 true .int := ⟨"LightInRoom$Grown", zF_Gro, 6, zt_Gro, rfl, by decide, zc_Gro, zy_Gro, zn_Gro, zT_in 370 (by decide +kernel) (by decide +kernel), rfl, (fun _ => rfl), by decide +kernel⟩
theorem fl_Tel_33_5 : zfl "LightInRoom$Telling" 33 5 4 := ⟨"LightInRoom$Telling", "LightInRoom$Near", zF_Nea, 6, rfl, by decide, zc_Nea, zT_in 370 (by decide +kernel) (by decide +kernel), Or.inl rfl⟩
theorem fp_Tel_33_5 : zfp "LightInRoom$Telling" 33 5 4 true .int := ⟨"LightInRoom$Near", zF_Nea, 6, zt_Nea, rfl, by decide, zc_Nea, zy_Nea, zn_Nea, zT_in 370 (by decide +kernel) (by decide +kernel), rfl, (fun _ => rfl), by decide +kernel⟩
theorem fl_Tel_33_8 : zfl "LightInRoom$Telling" 33 8 4 := ⟨"LightInRoom$Telling", "LightInRoom$Through", zF_Thr, 6, rfl, by decide, zc_Thr, zT_in 370 (by decide +kernel) (by decide +kernel), Or.inl rfl⟩
theorem fp_Tel_33_8 : zfp "LightInRoom$Telling" 33 8 4 true .int := ⟨"LightInRoom$Through", zF_Thr, 6, zt_Thr, rfl, by decide, zc_Thr, zy_Thr, zn_Thr, zT_in 370 (by decide +kernel) (by decide +kernel), rfl, (fun _ => rfl), by decide +kernel⟩
theorem fl_Tel_33_9 : zfl "LightInRoom$Telling" 33 9 4 := ⟨"LightInRoom$Telling", "LightInRoom$Without", zF_Wit, 6, rfl, by decide, zc_Wit, zT_in 370 (by decide +kernel) (by decide +kernel), Or.inl rfl⟩
theorem fp_Tel_33_9 : zfp "LightInRoom$Telling" 33 9 4 true .int := ⟨"LightInRoom$Without", zF_Wit, 6, zt_Wit, rfl, by decide, zc_Wit, zy_Wit, zn_Wit, zT_in 370 (by decide +kernel) (by decide +kernel), rfl, (fun _ => rfl), by decide +kernel⟩
theorem fl_Gro_13_3 : zfl "LightInRoom$Grown" 13 3 4 := ⟨"LightInRoom$Grown", "LightInRoom$Grown", zF_Gro, 6, rfl, by decide, zc_Gro, zT_in 371 (by decide +kernel) (by decide +kernel), Or.inr (zT_in 372 (by decide +kernel) (by decide +kernel))⟩
theorem fl_Lir_92_1 : zfl "LightInRoom" 92 1 4 := ⟨"LightInRoom$Telling", "LightInRoom$Called", zF_Cal, 6, rfl, by decide, zc_Cal, zT_in 373 (by decide +kernel) (by decide +kernel), Or.inl rfl⟩
theorem fl_Lir_92_2 : zfl "LightInRoom" 92 2 4 := ⟨"LightInRoom$Telling", "LightInRoom$Eye", zF_Eye, 6, rfl, by decide, zc_Eye, zT_in 373 (by decide +kernel) (by decide +kernel), Or.inl rfl⟩
theorem fl_Lir_92_3 : zfl "LightInRoom" 92 3 4 := ⟨"LightInRoom$Telling", "LightInRoom$Grown", zF_Gro, 6, rfl, by decide, zc_Gro, zT_in 373 (by decide +kernel) (by decide +kernel), Or.inl rfl⟩
theorem fl_Lir_92_5 : zfl "LightInRoom" 92 5 4 := ⟨"LightInRoom$Telling", "LightInRoom$Near", zF_Nea, 6, rfl, by decide, zc_Nea, zT_in 373 (by decide +kernel) (by decide +kernel), Or.inl rfl⟩
theorem fl_Lir_92_8 : zfl "LightInRoom" 92 8 4 := ⟨"LightInRoom$Telling", "LightInRoom$Through", zF_Thr, 6, rfl, by decide, zc_Thr, zT_in 373 (by decide +kernel) (by decide +kernel), Or.inl rfl⟩
theorem fl_Lir_92_9 : zfl "LightInRoom" 92 9 4 := ⟨"LightInRoom$Telling", "LightInRoom$Without", zF_Wit, 6, rfl, by decide, zc_Wit, zT_in 373 (by decide +kernel) (by decide +kernel), Or.inl rfl⟩
theorem fl_Roo_98_1 : zfl "LightInRoom$Room" 98 1 4 := ⟨"LightInRoom$Telling", "LightInRoom$Called", zF_Cal, 6, rfl, by decide, zc_Cal, zT_in 374 (by decide +kernel) (by decide +kernel), Or.inl rfl⟩
theorem fl_Roo_98_2 : zfl "LightInRoom$Room" 98 2 4 := ⟨"LightInRoom$Telling", "LightInRoom$Eye", zF_Eye, 6, rfl, by decide, zc_Eye, zT_in 374 (by decide +kernel) (by decide +kernel), Or.inl rfl⟩
theorem fl_Roo_98_3 : zfl "LightInRoom$Room" 98 3 4 := ⟨"LightInRoom$Telling", "LightInRoom$Grown", zF_Gro, 6, rfl, by decide, zc_Gro, zT_in 374 (by decide +kernel) (by decide +kernel), Or.inl rfl⟩
theorem fl_Roo_98_5 : zfl "LightInRoom$Room" 98 5 4 := ⟨"LightInRoom$Telling", "LightInRoom$Near", zF_Nea, 6, rfl, by decide, zc_Nea, zT_in 374 (by decide +kernel) (by decide +kernel), Or.inl rfl⟩
theorem fl_Roo_98_8 : zfl "LightInRoom$Room" 98 8 4 := ⟨"LightInRoom$Telling", "LightInRoom$Through", zF_Thr, 6, rfl, by decide, zc_Thr, zT_in 374 (by decide +kernel) (by decide +kernel), Or.inl rfl⟩
theorem fl_Roo_98_9 : zfl "LightInRoom$Room" 98 9 4 := ⟨"LightInRoom$Telling", "LightInRoom$Without", zF_Wit, 6, rfl, by decide, zc_Wit, zT_in 374 (by decide +kernel) (by decide +kernel), Or.inl rfl⟩
theorem fl_Tel_38_1 : zfl "LightInRoom$Telling" 38 1 5 := ⟨"LightInRoom$Telling", "LightInRoom$Called", zF_Cal, 6, rfl, by decide, zc_Cal, zT_in 375 (by decide +kernel) (by decide +kernel), Or.inl rfl⟩
theorem fp_Tel_38_1 : zfp "LightInRoom$Telling" 38 1 5 true .boolean := ⟨"LightInRoom$Called", zF_Cal, 6, zt_Cal, rfl, by decide, zc_Cal, zy_Cal, zn_Cal, zT_in 375 (by decide +kernel) (by decide +kernel), rfl, (fun _ => rfl), by decide +kernel⟩
theorem fl_Tel_38_2 : zfl "LightInRoom$Telling" 38 2 5 := ⟨"LightInRoom$Telling", "LightInRoom$Eye", zF_Eye, 6, rfl, by decide, zc_Eye, zT_in 375 (by decide +kernel) (by decide +kernel), Or.inl rfl⟩
theorem fp_Tel_38_2 : zfp "LightInRoom$Telling" 38 2 5 true .boolean := ⟨"LightInRoom$Eye", zF_Eye, 6, zt_Eye, rfl, by decide, zc_Eye, zy_Eye, zn_Eye, zT_in 375 (by decide +kernel) (by decide +kernel), rfl, (fun _ => rfl), by decide +kernel⟩
theorem fl_Tel_38_3 : zfl "LightInRoom$Telling" 38 3 5 := ⟨"LightInRoom$Telling", "LightInRoom$Grown", zF_Gro, 6, rfl, by decide, zc_Gro, zT_in 375 (by decide +kernel) (by decide +kernel), Or.inl rfl⟩
theorem fp_Tel_38_3 : zfp "LightInRoom$Telling" 38 3 5 true .boolean := ⟨"LightInRoom$Grown", zF_Gro, 6, zt_Gro, rfl, by decide, zc_Gro, zy_Gro, zn_Gro, zT_in 375 (by decide +kernel) (by decide +kernel), rfl, (fun _ => rfl), by decide +kernel⟩
theorem fl_Tel_38_5 : zfl "LightInRoom$Telling" 38 5 5 := ⟨"LightInRoom$Telling", "LightInRoom$Near", zF_Nea, 6, rfl, by decide, zc_Nea, zT_in 375 (by decide +kernel) (by decide +kernel), Or.inl rfl⟩
theorem fp_Tel_38_5 : zfp "LightInRoom$Telling" 38 5 5 true .boolean := ⟨"LightInRoom$Near", zF_Nea, 6, zt_Nea, rfl, by decide, zc_Nea, zy_Nea, zn_Nea, zT_in 375 (by decide +kernel) (by decide +kernel), rfl, (fun _ => rfl), by decide +kernel⟩
theorem fl_Tel_38_8 : zfl "LightInRoom$Telling" 38 8 5 := ⟨"LightInRoom$Telling", "LightInRoom$Through", zF_Thr, 6, rfl, by decide, zc_Thr, zT_in 375 (by decide +kernel) (by decide +kernel), Or.inl rfl⟩
theorem fp_Tel_38_8 : zfp "LightInRoom$Telling" 38 8 5 true .boolean := ⟨"LightInRoom$Through", zF_Thr, 6, zt_Thr, rfl, by decide, zc_Thr, zy_Thr, zn_Thr, zT_in 375 (by decide +kernel) (by decide +kernel), rfl, (fun _ => rfl), by decide +kernel⟩
theorem fl_Tel_38_9 : zfl "LightInRoom$Telling" 38 9 5 := ⟨"LightInRoom$Telling", "LightInRoom$Without", zF_Wit, 6, rfl, by decide, zc_Wit, zT_in 375 (by decide +kernel) (by decide +kernel), Or.inl rfl⟩
theorem fp_Tel_38_9 : zfp "LightInRoom$Telling" 38 9 5 true .boolean := ⟨"LightInRoom$Without", zF_Wit, 6, zt_Wit, rfl, by decide, zc_Wit, zy_Wit, zn_Wit, zT_in 375 (by decide +kernel) (by decide +kernel), rfl, (fun _ => rfl), by decide +kernel⟩
theorem fl_Lir_95_1 : zfl "LightInRoom" 95 1 5 := ⟨"LightInRoom$Telling", "LightInRoom$Called", zF_Cal, 6, rfl, by decide, zc_Cal, zT_in 376 (by decide +kernel) (by decide +kernel), Or.inl rfl⟩
theorem fl_Lir_95_2 : zfl "LightInRoom" 95 2 5 := ⟨"LightInRoom$Telling", "LightInRoom$Eye", zF_Eye, 6, rfl, by decide, zc_Eye, zT_in 376 (by decide +kernel) (by decide +kernel), Or.inl rfl⟩
theorem fl_Lir_95_3 : zfl "LightInRoom" 95 3 5 := ⟨"LightInRoom$Telling", "LightInRoom$Grown", zF_Gro, 6, rfl, by decide, zc_Gro, zT_in 376 (by decide +kernel) (by decide +kernel), Or.inl rfl⟩
theorem fl_Lir_95_5 : zfl "LightInRoom" 95 5 5 := ⟨"LightInRoom$Telling", "LightInRoom$Near", zF_Nea, 6, rfl, by decide, zc_Nea, zT_in 376 (by decide +kernel) (by decide +kernel), Or.inl rfl⟩
theorem fl_Lir_95_8 : zfl "LightInRoom" 95 8 5 := ⟨"LightInRoom$Telling", "LightInRoom$Through", zF_Thr, 6, rfl, by decide, zc_Thr, zT_in 376 (by decide +kernel) (by decide +kernel), Or.inl rfl⟩
theorem fl_Lir_95_9 : zfl "LightInRoom" 95 9 5 := ⟨"LightInRoom$Telling", "LightInRoom$Without", zF_Wit, 6, rfl, by decide, zc_Wit, zT_in 376 (by decide +kernel) (by decide +kernel), Or.inl rfl⟩
theorem fl_Roo_119_1 : zfl "LightInRoom$Room" 119 1 5 := ⟨"LightInRoom$Telling", "LightInRoom$Called", zF_Cal, 6, rfl, by decide, zc_Cal, zT_in 377 (by decide +kernel) (by decide +kernel), Or.inl rfl⟩
theorem fl_Roo_119_2 : zfl "LightInRoom$Room" 119 2 5 := ⟨"LightInRoom$Telling", "LightInRoom$Eye", zF_Eye, 6, rfl, by decide, zc_Eye, zT_in 377 (by decide +kernel) (by decide +kernel), Or.inl rfl⟩
theorem fl_Roo_119_3 : zfl "LightInRoom$Room" 119 3 5 := ⟨"LightInRoom$Telling", "LightInRoom$Grown", zF_Gro, 6, rfl, by decide, zc_Gro, zT_in 377 (by decide +kernel) (by decide +kernel), Or.inl rfl⟩
theorem fl_Roo_119_5 : zfl "LightInRoom$Room" 119 5 5 := ⟨"LightInRoom$Telling", "LightInRoom$Near", zF_Nea, 6, rfl, by decide, zc_Nea, zT_in 377 (by decide +kernel) (by decide +kernel), Or.inl rfl⟩
theorem fl_Roo_119_8 : zfl "LightInRoom$Room" 119 8 5 := ⟨"LightInRoom$Telling", "LightInRoom$Through", zF_Thr, 6, rfl, by decide, zc_Thr, zT_in 377 (by decide +kernel) (by decide +kernel), Or.inl rfl⟩
theorem fl_Roo_119_9 : zfl "LightInRoom$Room" 119 9 5 := ⟨"LightInRoom$Telling", "LightInRoom$Without", zF_Wit, 6, rfl, by decide, zc_Wit, zT_in 377 (by decide +kernel) (by decide +kernel), Or.inl rfl⟩
theorem fl_Mod_7_11 : zfl "LightInRoomModel" 7 11 0 := ⟨"LightInRoomModel", "LightInRoomModel", zF_Mod, 8, rfl, by decide, zc_Mod, zT_in 868 (by decide +kernel) (by decide +kernel), Or.inl rfl⟩
theorem fp_Mod_7_11 : zfp "LightInRoomModel" 7 11 0 true (.array .int) := ⟨"LightInRoomModel", zF_Mod, 8, zt_Mod, rfl, by decide, zc_Mod, zy_Mod, zn_Mod, zT_in 868 (by decide +kernel) (by decide +kernel), rfl, (fun _ => rfl), by decide +kernel⟩
theorem fl_Mod_13_11 : zfl "LightInRoomModel" 13 11 1 := ⟨"LightInRoomModel", "LightInRoomModel", zF_Mod, 8, rfl, by decide, zc_Mod, zT_in 869 (by decide +kernel) (by decide +kernel), Or.inl rfl⟩
theorem fp_Mod_13_11 : zfp "LightInRoomModel" 13 11 1 true (.array .int) := ⟨"LightInRoomModel", zF_Mod, 8, zt_Mod, rfl, by decide, zc_Mod, zy_Mod, zn_Mod, zT_in 869 (by decide +kernel) (by decide +kernel), rfl, (fun _ => rfl), by decide +kernel⟩
theorem fl_Mod_16_11 : zfl "LightInRoomModel" 16 11 2 := ⟨"LightInRoomModel", "LightInRoomModel", zF_Mod, 8, rfl, by decide, zc_Mod, zT_in 870 (by decide +kernel) (by decide +kernel), Or.inl rfl⟩
theorem fp_Mod_16_11 : zfp "LightInRoomModel" 16 11 2 true (.array .int) := ⟨"LightInRoomModel", zF_Mod, 8, zt_Mod, rfl, by decide, zc_Mod, zy_Mod, zn_Mod, zT_in 870 (by decide +kernel) (by decide +kernel), rfl, (fun _ => rfl), by decide +kernel⟩
theorem fl_Mod_124_11 : zfl "LightInRoomModel" 124 11 3 := ⟨"LightInRoomModel", "LightInRoomModel", zF_Mod, 8, rfl, by decide, zc_Mod, zT_in 871 (by decide +kernel) (by decide +kernel), Or.inl rfl⟩
theorem fp_Mod_124_11 : zfp "LightInRoomModel" 124 11 3 false .boolean := ⟨"LightInRoomModel", zF_Mod, 8, zt_Mod, rfl, by decide, zc_Mod, zy_Mod, zn_Mod, zT_in 871 (by decide +kernel) (by decide +kernel), rfl, (fun h => by cases h), by decide +kernel⟩
theorem fl_Mod_19_11 : zfl "LightInRoomModel" 19 11 4 := ⟨"LightInRoomModel", "LightInRoomModel", zF_Mod, 8, rfl, by decide, zc_Mod, zT_in 872 (by decide +kernel) (by decide +kernel), Or.inl rfl⟩
theorem fp_Mod_19_11 : zfp "LightInRoomModel" 19 11 4 true (.array .int) := ⟨"LightInRoomModel", zF_Mod, 8, zt_Mod, rfl, by decide, zc_Mod, zy_Mod, zn_Mod, zT_in 872 (by decide +kernel) (by decide +kernel), rfl, (fun _ => rfl), by decide +kernel⟩
theorem fl_Mod_22_11 : zfl "LightInRoomModel" 22 11 5 := ⟨"LightInRoomModel", "LightInRoomModel", zF_Mod, 8, rfl, by decide, zc_Mod, zT_in 873 (by decide +kernel) (by decide +kernel), Or.inl rfl⟩
theorem fp_Mod_22_11 : zfp "LightInRoomModel" 22 11 5 true (.array .int) := ⟨"LightInRoomModel", zF_Mod, 8, zt_Mod, rfl, by decide, zc_Mod, zy_Mod, zn_Mod, zT_in 873 (by decide +kernel) (by decide +kernel), rfl, (fun _ => rfl), by decide +kernel⟩
theorem fl_Mod_33_11 : zfl "LightInRoomModel" 33 11 6 := ⟨"LightInRoomModel", "LightInRoomModel", zF_Mod, 8, rfl, by decide, zc_Mod, zT_in 874 (by decide +kernel) (by decide +kernel), Or.inl rfl⟩
theorem fp_Mod_33_11 : zfp "LightInRoomModel" 33 11 6 false .int := ⟨"LightInRoomModel", zF_Mod, 8, zt_Mod, rfl, by decide, zc_Mod, zy_Mod, zn_Mod, zT_in 874 (by decide +kernel) (by decide +kernel), rfl, (fun h => by cases h), by decide +kernel⟩
theorem fl_Mod_39_11 : zfl "LightInRoomModel" 39 11 7 := ⟨"LightInRoomModel", "LightInRoomModel", zF_Mod, 8, rfl, by decide, zc_Mod, zT_in 875 (by decide +kernel) (by decide +kernel), Or.inl rfl⟩
theorem fp_Mod_39_11 : zfp "LightInRoomModel" 39 11 7 false .int := ⟨"LightInRoomModel", zF_Mod, 8, zt_Mod, rfl, by decide, zc_Mod, zy_Mod, zn_Mod, zT_in 875 (by decide +kernel) (by decide +kernel), rfl, (fun h => by cases h), by decide +kernel⟩
theorem nw_LLL_7 : zcNew "LightInRoomLaw" 7 10 [.null, .null, .null, .null, .null, .int 0] := ⟨"LightInRoom", zF_Lir, 6, zt_Lir, rfl, zc_Lir, zy_Lir, cl_LLL_7, it_Lir, zi_Lir, by decide +kernel, rfl⟩
theorem nw_Lir_7 : zcNew "LightInRoom" 7 7 [.null, .int 0, .int 0, .int 0, .int 0, .int 0, .int 0, .int 0, .int 0] := ⟨"LightInRoom$Tape", zF_Tap, 9, zt_Tap, rfl, zc_Tap, zy_Tap, cl_Lir_7, it_Tap, zi_Tap, by decide +kernel, rfl⟩
theorem nw_Lir_16 : zcNew "LightInRoom" 16 6 [.null, .null, .null, .null, .null, .null, .null, .int 0, .int 0, .int 0, .int 0] := ⟨"LightInRoom$Room", zF_Roo, 11, zt_Roo, rfl, zc_Roo, zy_Roo, cl_Lir_16, it_Roo, zi_Roo, by decide +kernel, rfl⟩
theorem nw_Roo_17 : zcNew "LightInRoom$Room" 17 4 [.null, .int 0] := ⟨"LightInRoom$Law", zF_Law, 2, zt_Law, rfl, zc_Law, zy_Law, cl_Roo_17, it_Law, zi_Law, by decide +kernel, rfl⟩
theorem nw_Roo_37 : zcNew "LightInRoom$Room" 37 0 [.int 0, .int 0, .int 0, .int 0] := ⟨"LightInRoom$Bench", zF_Ben, 4, zt_Ben, rfl, zc_Ben, zy_Ben, cl_Roo_37, it_Ben, zi_Ben, by decide +kernel, rfl⟩
theorem nw_Tap_47 : zcNew "LightInRoom$Tape" 47 1 [.int 0, .int 0, .int 0, .int 0, .int 0, .int 0] := ⟨"LightInRoom$Called", zF_Cal, 6, zt_Cal, rfl, zc_Cal, zy_Cal, cl_Tap_47, it_Cal, zi_Cal, by decide +kernel, rfl⟩
theorem nw_Tap_59 : zcNew "LightInRoom$Tape" 59 2 [.int 0, .int 0, .int 0, .int 0, .int 0, .int 0] := ⟨"LightInRoom$Eye", zF_Eye, 6, zt_Eye, rfl, zc_Eye, zy_Eye, cl_Tap_59, it_Eye, zi_Eye, by decide +kernel, rfl⟩
theorem nw_Tap_62 : zcNew "LightInRoom$Tape" 62 8 [.int 0, .int 0, .int 0, .int 0, .int 0, .int 0] := ⟨"LightInRoom$Through", zF_Thr, 6, zt_Thr, rfl, zc_Thr, zy_Thr, cl_Tap_62, it_Thr, zi_Thr, by decide +kernel, rfl⟩
theorem nw_Tap_65 : zcNew "LightInRoom$Tape" 65 5 [.int 0, .int 0, .int 0, .int 0, .int 0, .int 0] := ⟨"LightInRoom$Near", zF_Nea, 6, zt_Nea, rfl, zc_Nea, zy_Nea, cl_Tap_65, it_Nea, zi_Nea, by decide +kernel, rfl⟩
theorem nw_Tap_71 : zcNew "LightInRoom$Tape" 71 3 [.int 0, .int 0, .int 0, .int 0, .int 0, .int 0] := ⟨"LightInRoom$Grown", zF_Gro, 6, zt_Gro, rfl, zc_Gro, zy_Gro, cl_Tap_71, it_Gro, zi_Gro, by decide +kernel, rfl⟩
theorem nw_Tap_74 : zcNew "LightInRoom$Tape" 74 9 [.int 0, .int 0, .int 0, .int 0, .int 0, .int 0] := ⟨"LightInRoom$Without", zF_Wit, 6, zt_Wit, rfl, zc_Wit, zy_Wit, cl_Tap_74, it_Wit, zi_Wit, by decide +kernel, rfl⟩
theorem nw_LLL_10 : zcNew "LightInRoomLaw" 10 11 [.null, .null, .null, .int 0, .null, .null, .int 0, .int 0] := ⟨"LightInRoomModel", zF_Mod, 8, zt_Mod, rfl, zc_Mod, zy_Mod, cl_LLL_10, it_Mod, zi_Mod, by decide +kernel, rfl⟩
end
