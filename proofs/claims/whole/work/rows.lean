section
-- ===== PART A: goes FIRST, ahead of the names: the tables' words, and 'selects' of the private methods out of them =====
/-- a private method of a class that the tables say can be made, by its rows of tables_1 -/
def lw_okq (q : MethodName × Nat) : Prop := (q.1.cls ≠ "java/lang/invoke/MethodHandle" ∧ q.1.cls ≠ "java/lang/invoke/VarHandle") ∧ Cond.instantiable q.1.cls q.2 ∈ tables_1 ∧ Cond.privateMethod q.1 ∈ tables_1 ∧ Cond.instanceMethod q.1 ∈ tables_1
theorem lw_p0 : lw_okq (⟨"DodgemDebate", "textOf", "(I)LDodgemDebate$Text;"⟩, 11) := ⟨⟨by decide +kernel, by decide +kernel⟩, List.mem_of_getElem? (i := 23) (by decide +kernel), List.mem_of_getElem? (i := 326) (by decide +kernel), List.mem_of_getElem? (i := 327) (by decide +kernel)⟩
theorem lw_p1 : lw_okq (⟨"DodgemDebate", "settle", "()V"⟩, 11) := ⟨⟨by decide +kernel, by decide +kernel⟩, List.mem_of_getElem? (i := 23) (by decide +kernel), List.mem_of_getElem? (i := 346) (by decide +kernel), List.mem_of_getElem? (i := 347) (by decide +kernel)⟩
theorem lw_p2 : lw_okq (⟨"DodgemDebate$Cars", "freeY", "(II)I"⟩, 5) := ⟨⟨by decide +kernel, by decide +kernel⟩, List.mem_of_getElem? (i := 48) (by decide +kernel), List.mem_of_getElem? (i := 454) (by decide +kernel), List.mem_of_getElem? (i := 455) (by decide +kernel)⟩
theorem lw_p3 : lw_okq (⟨"DodgemDebate$Run", "begin", "(LDodgemDebate$Cars;)V"⟩, 10) := ⟨⟨by decide +kernel, by decide +kernel⟩, List.mem_of_getElem? (i := 182) (by decide +kernel), List.mem_of_getElem? (i := 477) (by decide +kernel), List.mem_of_getElem? (i := 478) (by decide +kernel)⟩
theorem lw_p4 : lw_okq (⟨"DodgemDebate$Run", "doEvents", "(LDodgemDebate$Events;II)V"⟩, 10) := ⟨⟨by decide +kernel, by decide +kernel⟩, List.mem_of_getElem? (i := 182) (by decide +kernel), List.mem_of_getElem? (i := 484) (by decide +kernel), List.mem_of_getElem? (i := 485) (by decide +kernel)⟩
theorem lw_p5 : lw_okq (⟨"DodgemDebate$Run", "doSteers", "(LDodgemDebate$Cars;LDodgemDebate$Steers;I)V"⟩, 10) := ⟨⟨by decide +kernel, by decide +kernel⟩, List.mem_of_getElem? (i := 182) (by decide +kernel), List.mem_of_getElem? (i := 488) (by decide +kernel), List.mem_of_getElem? (i := 489) (by decide +kernel)⟩
theorem lw_p6 : lw_okq (⟨"DodgemDebate$Run", "go", "(LDodgemDebate$Cars;II)V"⟩, 10) := ⟨⟨by decide +kernel, by decide +kernel⟩, List.mem_of_getElem? (i := 182) (by decide +kernel), List.mem_of_getElem? (i := 492) (by decide +kernel), List.mem_of_getElem? (i := 493) (by decide +kernel)⟩
theorem lw_p7 : lw_okq (⟨"DodgemDebate$Run", "countStrike", "(IIII)V"⟩, 10) := ⟨⟨by decide +kernel, by decide +kernel⟩, List.mem_of_getElem? (i := 182) (by decide +kernel), List.mem_of_getElem? (i := 503) (by decide +kernel), List.mem_of_getElem? (i := 504) (by decide +kernel)⟩
theorem lw_p8 : lw_okq (⟨"DodgemDebate$Run", "shift", "(III)V"⟩, 10) := ⟨⟨by decide +kernel, by decide +kernel⟩, List.mem_of_getElem? (i := 182) (by decide +kernel), List.mem_of_getElem? (i := 507) (by decide +kernel), List.mem_of_getElem? (i := 508) (by decide +kernel)⟩
theorem lw_p9 : lw_okq (⟨"DodgemDebate$Run", "keep", "(I)V"⟩, 10) := ⟨⟨by decide +kernel, by decide +kernel⟩, List.mem_of_getElem? (i := 182) (by decide +kernel), List.mem_of_getElem? (i := 511) (by decide +kernel), List.mem_of_getElem? (i := 512) (by decide +kernel)⟩
theorem lw_p10 : lw_okq (⟨"DodgemDebate", "ayesAhead", "(I)I"⟩, 11) := ⟨⟨by decide +kernel, by decide +kernel⟩, List.mem_of_getElem? (i := 23) (by decide +kernel), List.mem_of_getElem? (i := 658) (by decide +kernel), List.mem_of_getElem? (i := 659) (by decide +kernel)⟩
theorem lw_p11 : lw_okq (⟨"DodgemDebate$Trials", "touchesAll", "(I)Z"⟩, 10) := ⟨⟨by decide +kernel, by decide +kernel⟩, List.mem_of_getElem? (i := 228) (by decide +kernel), List.mem_of_getElem? (i := 674) (by decide +kernel), List.mem_of_getElem? (i := 675) (by decide +kernel)⟩
theorem lw_p12 : lw_okq (⟨"DodgemDebate$Trials", "agrees", "(III)Z"⟩, 10) := ⟨⟨by decide +kernel, by decide +kernel⟩, List.mem_of_getElem? (i := 228) (by decide +kernel), List.mem_of_getElem? (i := 721) (by decide +kernel), List.mem_of_getElem? (i := 722) (by decide +kernel)⟩
theorem lw_p13 : lw_okq (⟨"DodgemDebate$Trials", "cellOf", "(II)I"⟩, 10) := ⟨⟨by decide +kernel, by decide +kernel⟩, List.mem_of_getElem? (i := 228) (by decide +kernel), List.mem_of_getElem? (i := 737) (by decide +kernel), List.mem_of_getElem? (i := 738) (by decide +kernel)⟩
theorem lw_p14 : lw_okq (⟨"DodgemDebate$Trials", "mostAlike", "(I)I"⟩, 10) := ⟨⟨by decide +kernel, by decide +kernel⟩, List.mem_of_getElem? (i := 228) (by decide +kernel), List.mem_of_getElem? (i := 742) (by decide +kernel), List.mem_of_getElem? (i := 743) (by decide +kernel)⟩
theorem lw_p15 : lw_okq (⟨"DodgemDebate$Trials", "findStruck", "()V"⟩, 10) := ⟨⟨by decide +kernel, by decide +kernel⟩, List.mem_of_getElem? (i := 228) (by decide +kernel), List.mem_of_getElem? (i := 756) (by decide +kernel), List.mem_of_getElem? (i := 757) (by decide +kernel)⟩
def lw_privs_1 : List (MethodName × Nat) := [(⟨"DodgemDebate", "textOf", "(I)LDodgemDebate$Text;"⟩, 11), (⟨"DodgemDebate", "settle", "()V"⟩, 11), (⟨"DodgemDebate$Cars", "freeY", "(II)I"⟩, 5), (⟨"DodgemDebate$Run", "begin", "(LDodgemDebate$Cars;)V"⟩, 10), (⟨"DodgemDebate$Run", "doEvents", "(LDodgemDebate$Events;II)V"⟩, 10), (⟨"DodgemDebate$Run", "doSteers", "(LDodgemDebate$Cars;LDodgemDebate$Steers;I)V"⟩, 10), (⟨"DodgemDebate$Run", "go", "(LDodgemDebate$Cars;II)V"⟩, 10), (⟨"DodgemDebate$Run", "countStrike", "(IIII)V"⟩, 10), (⟨"DodgemDebate$Run", "shift", "(III)V"⟩, 10), (⟨"DodgemDebate$Run", "keep", "(I)V"⟩, 10), (⟨"DodgemDebate", "ayesAhead", "(I)I"⟩, 11), (⟨"DodgemDebate$Trials", "touchesAll", "(I)Z"⟩, 10), (⟨"DodgemDebate$Trials", "agrees", "(III)Z"⟩, 10), (⟨"DodgemDebate$Trials", "cellOf", "(II)I"⟩, 10), (⟨"DodgemDebate$Trials", "mostAlike", "(I)I"⟩, 10), (⟨"DodgemDebate$Trials", "findStruck", "()V"⟩, 10)]
theorem lw_r1 : ∀ q ∈ lw_privs_1, lw_okq q := List.forall_mem_cons.mpr ⟨lw_p0, List.forall_mem_cons.mpr ⟨lw_p1, List.forall_mem_cons.mpr ⟨lw_p2, List.forall_mem_cons.mpr ⟨lw_p3, List.forall_mem_cons.mpr ⟨lw_p4, List.forall_mem_cons.mpr ⟨lw_p5, List.forall_mem_cons.mpr ⟨lw_p6, List.forall_mem_cons.mpr ⟨lw_p7, List.forall_mem_cons.mpr ⟨lw_p8, List.forall_mem_cons.mpr ⟨lw_p9, List.forall_mem_cons.mpr ⟨lw_p10, List.forall_mem_cons.mpr ⟨lw_p11, List.forall_mem_cons.mpr ⟨lw_p12, List.forall_mem_cons.mpr ⟨lw_p13, List.forall_mem_cons.mpr ⟨lw_p14, List.forall_mem_cons.mpr ⟨lw_p15, fun _ h => absurd h List.not_mem_nil⟩⟩⟩⟩⟩⟩⟩⟩⟩⟩⟩⟩⟩⟩⟩⟩
theorem lw_p16 : lw_okq (⟨"DodgemDebate$Trials", "weightOf", "(II)J"⟩, 10) := ⟨⟨by decide +kernel, by decide +kernel⟩, List.mem_of_getElem? (i := 228) (by decide +kernel), List.mem_of_getElem? (i := 764) (by decide +kernel), List.mem_of_getElem? (i := 765) (by decide +kernel)⟩
theorem lw_p17 : lw_okq (⟨"DodgemDebate", "fractionPart", "(JI)J"⟩, 11) := ⟨⟨by decide +kernel, by decide +kernel⟩, List.mem_of_getElem? (i := 23) (by decide +kernel), List.mem_of_getElem? (i := 768) (by decide +kernel), List.mem_of_getElem? (i := 769) (by decide +kernel)⟩
theorem lw_p18 : lw_okq (⟨"DodgemDebate", "addTold", "()V"⟩, 11) := ⟨⟨by decide +kernel, by decide +kernel⟩, List.mem_of_getElem? (i := 23) (by decide +kernel), List.mem_of_getElem? (i := 847) (by decide +kernel), List.mem_of_getElem? (i := 848) (by decide +kernel)⟩
theorem lw_p19 : lw_okq (⟨"DodgemDebate", "addCar", "(I)V"⟩, 11) := ⟨⟨by decide +kernel, by decide +kernel⟩, List.mem_of_getElem? (i := 23) (by decide +kernel), List.mem_of_getElem? (i := 858) (by decide +kernel), List.mem_of_getElem? (i := 859) (by decide +kernel)⟩
theorem lw_p20 : lw_okq (⟨"DodgemDebate", "addHouse", "()V"⟩, 11) := ⟨⟨by decide +kernel, by decide +kernel⟩, List.mem_of_getElem? (i := 23) (by decide +kernel), List.mem_of_getElem? (i := 864) (by decide +kernel), List.mem_of_getElem? (i := 865) (by decide +kernel)⟩
theorem lw_p21 : lw_okq (⟨"DodgemDebate", "addWhole", "()V"⟩, 11) := ⟨⟨by decide +kernel, by decide +kernel⟩, List.mem_of_getElem? (i := 23) (by decide +kernel), List.mem_of_getElem? (i := 869) (by decide +kernel), List.mem_of_getElem? (i := 870) (by decide +kernel)⟩
theorem lw_p22 : lw_okq (⟨"DodgemDebateModel", "faultOf", "(I)I"⟩, 53) := ⟨⟨by decide +kernel, by decide +kernel⟩, List.mem_of_getElem? (i := 876) (by decide +kernel), List.mem_of_getElem? (i := 1065) (by decide +kernel), List.mem_of_getElem? (i := 1066) (by decide +kernel)⟩
theorem lw_p23 : lw_okq (⟨"DodgemDebateModel", "readsParts", "(I)I"⟩, 53) := ⟨⟨by decide +kernel, by decide +kernel⟩, List.mem_of_getElem? (i := 876) (by decide +kernel), List.mem_of_getElem? (i := 1069) (by decide +kernel), List.mem_of_getElem? (i := 1070) (by decide +kernel)⟩
theorem lw_p24 : lw_okq (⟨"DodgemDebateModel", "readsCar", "(II)I"⟩, 53) := ⟨⟨by decide +kernel, by decide +kernel⟩, List.mem_of_getElem? (i := 876) (by decide +kernel), List.mem_of_getElem? (i := 1073) (by decide +kernel), List.mem_of_getElem? (i := 1074) (by decide +kernel)⟩
theorem lw_p25 : lw_okq (⟨"DodgemDebateModel", "byteAt", "(II)I"⟩, 53) := ⟨⟨by decide +kernel, by decide +kernel⟩, List.mem_of_getElem? (i := 876) (by decide +kernel), List.mem_of_getElem? (i := 1077) (by decide +kernel), List.mem_of_getElem? (i := 1078) (by decide +kernel)⟩
theorem lw_p26 : lw_okq (⟨"DodgemDebateModel", "isTold", "(III)Z"⟩, 53) := ⟨⟨by decide +kernel, by decide +kernel⟩, List.mem_of_getElem? (i := 876) (by decide +kernel), List.mem_of_getElem? (i := 1090) (by decide +kernel), List.mem_of_getElem? (i := 1091) (by decide +kernel)⟩
theorem lw_p27 : lw_okq (⟨"DodgemDebateModel", "readsSteer", "(II)I"⟩, 53) := ⟨⟨by decide +kernel, by decide +kernel⟩, List.mem_of_getElem? (i := 876) (by decide +kernel), List.mem_of_getElem? (i := 1094) (by decide +kernel), List.mem_of_getElem? (i := 1095) (by decide +kernel)⟩
theorem lw_p28 : lw_okq (⟨"DodgemDebateModel", "isCar", "(I)Z"⟩, 53) := ⟨⟨by decide +kernel, by decide +kernel⟩, List.mem_of_getElem? (i := 876) (by decide +kernel), List.mem_of_getElem? (i := 1102) (by decide +kernel), List.mem_of_getElem? (i := 1103) (by decide +kernel)⟩
theorem lw_p29 : lw_okq (⟨"DodgemDebateModel", "reads", "()V"⟩, 53) := ⟨⟨by decide +kernel, by decide +kernel⟩, List.mem_of_getElem? (i := 876) (by decide +kernel), List.mem_of_getElem? (i := 1106) (by decide +kernel), List.mem_of_getElem? (i := 1107) (by decide +kernel)⟩
theorem lw_p30 : lw_okq (⟨"DodgemDebateModel", "carOf", "(II)I"⟩, 53) := ⟨⟨by decide +kernel, by decide +kernel⟩, List.mem_of_getElem? (i := 876) (by decide +kernel), List.mem_of_getElem? (i := 1110) (by decide +kernel), List.mem_of_getElem? (i := 1111) (by decide +kernel)⟩
theorem lw_p31 : lw_okq (⟨"DodgemDebateModel", "steerTold", "(II)I"⟩, 53) := ⟨⟨by decide +kernel, by decide +kernel⟩, List.mem_of_getElem? (i := 876) (by decide +kernel), List.mem_of_getElem? (i := 1121) (by decide +kernel), List.mem_of_getElem? (i := 1122) (by decide +kernel)⟩
def lw_privs_2 : List (MethodName × Nat) := [(⟨"DodgemDebate$Trials", "weightOf", "(II)J"⟩, 10), (⟨"DodgemDebate", "fractionPart", "(JI)J"⟩, 11), (⟨"DodgemDebate", "addTold", "()V"⟩, 11), (⟨"DodgemDebate", "addCar", "(I)V"⟩, 11), (⟨"DodgemDebate", "addHouse", "()V"⟩, 11), (⟨"DodgemDebate", "addWhole", "()V"⟩, 11), (⟨"DodgemDebateModel", "faultOf", "(I)I"⟩, 53), (⟨"DodgemDebateModel", "readsParts", "(I)I"⟩, 53), (⟨"DodgemDebateModel", "readsCar", "(II)I"⟩, 53), (⟨"DodgemDebateModel", "byteAt", "(II)I"⟩, 53), (⟨"DodgemDebateModel", "isTold", "(III)Z"⟩, 53), (⟨"DodgemDebateModel", "readsSteer", "(II)I"⟩, 53), (⟨"DodgemDebateModel", "isCar", "(I)Z"⟩, 53), (⟨"DodgemDebateModel", "reads", "()V"⟩, 53), (⟨"DodgemDebateModel", "carOf", "(II)I"⟩, 53), (⟨"DodgemDebateModel", "steerTold", "(II)I"⟩, 53)]
theorem lw_r2 : ∀ q ∈ lw_privs_2, lw_okq q := List.forall_mem_cons.mpr ⟨lw_p16, List.forall_mem_cons.mpr ⟨lw_p17, List.forall_mem_cons.mpr ⟨lw_p18, List.forall_mem_cons.mpr ⟨lw_p19, List.forall_mem_cons.mpr ⟨lw_p20, List.forall_mem_cons.mpr ⟨lw_p21, List.forall_mem_cons.mpr ⟨lw_p22, List.forall_mem_cons.mpr ⟨lw_p23, List.forall_mem_cons.mpr ⟨lw_p24, List.forall_mem_cons.mpr ⟨lw_p25, List.forall_mem_cons.mpr ⟨lw_p26, List.forall_mem_cons.mpr ⟨lw_p27, List.forall_mem_cons.mpr ⟨lw_p28, List.forall_mem_cons.mpr ⟨lw_p29, List.forall_mem_cons.mpr ⟨lw_p30, List.forall_mem_cons.mpr ⟨lw_p31, fun _ h => absurd h List.not_mem_nil⟩⟩⟩⟩⟩⟩⟩⟩⟩⟩⟩⟩⟩⟩⟩⟩
theorem lw_p32 : lw_okq (⟨"DodgemDebateModel", "meets", "(I)I"⟩, 53) := ⟨⟨by decide +kernel, by decide +kernel⟩, List.mem_of_getElem? (i := 876) (by decide +kernel), List.mem_of_getElem? (i := 1149) (by decide +kernel), List.mem_of_getElem? (i := 1150) (by decide +kernel)⟩
theorem lw_p33 : lw_okq (⟨"DodgemDebateModel", "atOf", "(III)I"⟩, 53) := ⟨⟨by decide +kernel, by decide +kernel⟩, List.mem_of_getElem? (i := 876) (by decide +kernel), List.mem_of_getElem? (i := 1158) (by decide +kernel), List.mem_of_getElem? (i := 1159) (by decide +kernel)⟩
theorem lw_p34 : lw_okq (⟨"DodgemDebateModel", "runsTold", "()V"⟩, 53) := ⟨⟨by decide +kernel, by decide +kernel⟩, List.mem_of_getElem? (i := 876) (by decide +kernel), List.mem_of_getElem? (i := 1162) (by decide +kernel), List.mem_of_getElem? (i := 1163) (by decide +kernel)⟩
theorem lw_p35 : lw_okq (⟨"DodgemDebateModel", "asTold", "()V"⟩, 53) := ⟨⟨by decide +kernel, by decide +kernel⟩, List.mem_of_getElem? (i := 876) (by decide +kernel), List.mem_of_getElem? (i := 1166) (by decide +kernel), List.mem_of_getElem? (i := 1167) (by decide +kernel)⟩
theorem lw_p36 : lw_okq (⟨"DodgemDebateModel", "runs", "()V"⟩, 53) := ⟨⟨by decide +kernel, by decide +kernel⟩, List.mem_of_getElem? (i := 876) (by decide +kernel), List.mem_of_getElem? (i := 1170) (by decide +kernel), List.mem_of_getElem? (i := 1171) (by decide +kernel)⟩
theorem lw_p37 : lw_okq (⟨"DodgemDebateModel", "goesBy", "(I)V"⟩, 53) := ⟨⟨by decide +kernel, by decide +kernel⟩, List.mem_of_getElem? (i := 876) (by decide +kernel), List.mem_of_getElem? (i := 1174) (by decide +kernel), List.mem_of_getElem? (i := 1175) (by decide +kernel)⟩
theorem lw_p38 : lw_okq (⟨"DodgemDebateModel", "steersAll", "(I)V"⟩, 53) := ⟨⟨by decide +kernel, by decide +kernel⟩, List.mem_of_getElem? (i := 876) (by decide +kernel), List.mem_of_getElem? (i := 1181) (by decide +kernel), List.mem_of_getElem? (i := 1182) (by decide +kernel)⟩
theorem lw_p39 : lw_okq (⟨"DodgemDebateModel", "drives", "(II)V"⟩, 53) := ⟨⟨by decide +kernel, by decide +kernel⟩, List.mem_of_getElem? (i := 876) (by decide +kernel), List.mem_of_getElem? (i := 1185) (by decide +kernel), List.mem_of_getElem? (i := 1186) (by decide +kernel)⟩
theorem lw_p40 : lw_okq (⟨"DodgemDebateModel", "whoIn", "(II)I"⟩, 53) := ⟨⟨by decide +kernel, by decide +kernel⟩, List.mem_of_getElem? (i := 876) (by decide +kernel), List.mem_of_getElem? (i := 1195) (by decide +kernel), List.mem_of_getElem? (i := 1196) (by decide +kernel)⟩
theorem lw_p41 : lw_okq (⟨"DodgemDebateModel", "comes", "(III)V"⟩, 53) := ⟨⟨by decide +kernel, by decide +kernel⟩, List.mem_of_getElem? (i := 876) (by decide +kernel), List.mem_of_getElem? (i := 1199) (by decide +kernel), List.mem_of_getElem? (i := 1200) (by decide +kernel)⟩
theorem lw_p42 : lw_okq (⟨"DodgemDebateModel", "runsInto", "(IIII)V"⟩, 53) := ⟨⟨by decide +kernel, by decide +kernel⟩, List.mem_of_getElem? (i := 876) (by decide +kernel), List.mem_of_getElem? (i := 1203) (by decide +kernel), List.mem_of_getElem? (i := 1204) (by decide +kernel)⟩
theorem lw_p43 : lw_okq (⟨"DodgemDebateModel", "whoOf", "(III)I"⟩, 53) := ⟨⟨by decide +kernel, by decide +kernel⟩, List.mem_of_getElem? (i := 876) (by decide +kernel), List.mem_of_getElem? (i := 1211) (by decide +kernel), List.mem_of_getElem? (i := 1212) (by decide +kernel)⟩
theorem lw_p44 : lw_okq (⟨"DodgemDebateModel", "houseOf", "(II)I"⟩, 53) := ⟨⟨by decide +kernel, by decide +kernel⟩, List.mem_of_getElem? (i := 876) (by decide +kernel), List.mem_of_getElem? (i := 1219) (by decide +kernel), List.mem_of_getElem? (i := 1220) (by decide +kernel)⟩
theorem lw_p45 : lw_okq (⟨"DodgemDebateModel", "ayesAt", "(I)I"⟩, 53) := ⟨⟨by decide +kernel, by decide +kernel⟩, List.mem_of_getElem? (i := 876) (by decide +kernel), List.mem_of_getElem? (i := 1223) (by decide +kernel), List.mem_of_getElem? (i := 1224) (by decide +kernel)⟩
theorem lw_p46 : lw_okq (⟨"DodgemDebateModel", "strikesOf", "()I"⟩, 53) := ⟨⟨by decide +kernel, by decide +kernel⟩, List.mem_of_getElem? (i := 876) (by decide +kernel), List.mem_of_getElem? (i := 1231) (by decide +kernel), List.mem_of_getElem? (i := 1232) (by decide +kernel)⟩
theorem lw_p47 : lw_okq (⟨"DodgemDebateModel", "firstOf", "(I)I"⟩, 53) := ⟨⟨by decide +kernel, by decide +kernel⟩, List.mem_of_getElem? (i := 876) (by decide +kernel), List.mem_of_getElem? (i := 1239) (by decide +kernel), List.mem_of_getElem? (i := 1240) (by decide +kernel)⟩
def lw_privs_3 : List (MethodName × Nat) := [(⟨"DodgemDebateModel", "meets", "(I)I"⟩, 53), (⟨"DodgemDebateModel", "atOf", "(III)I"⟩, 53), (⟨"DodgemDebateModel", "runsTold", "()V"⟩, 53), (⟨"DodgemDebateModel", "asTold", "()V"⟩, 53), (⟨"DodgemDebateModel", "runs", "()V"⟩, 53), (⟨"DodgemDebateModel", "goesBy", "(I)V"⟩, 53), (⟨"DodgemDebateModel", "steersAll", "(I)V"⟩, 53), (⟨"DodgemDebateModel", "drives", "(II)V"⟩, 53), (⟨"DodgemDebateModel", "whoIn", "(II)I"⟩, 53), (⟨"DodgemDebateModel", "comes", "(III)V"⟩, 53), (⟨"DodgemDebateModel", "runsInto", "(IIII)V"⟩, 53), (⟨"DodgemDebateModel", "whoOf", "(III)I"⟩, 53), (⟨"DodgemDebateModel", "houseOf", "(II)I"⟩, 53), (⟨"DodgemDebateModel", "ayesAt", "(I)I"⟩, 53), (⟨"DodgemDebateModel", "strikesOf", "()I"⟩, 53), (⟨"DodgemDebateModel", "firstOf", "(I)I"⟩, 53)]
theorem lw_r3 : ∀ q ∈ lw_privs_3, lw_okq q := List.forall_mem_cons.mpr ⟨lw_p32, List.forall_mem_cons.mpr ⟨lw_p33, List.forall_mem_cons.mpr ⟨lw_p34, List.forall_mem_cons.mpr ⟨lw_p35, List.forall_mem_cons.mpr ⟨lw_p36, List.forall_mem_cons.mpr ⟨lw_p37, List.forall_mem_cons.mpr ⟨lw_p38, List.forall_mem_cons.mpr ⟨lw_p39, List.forall_mem_cons.mpr ⟨lw_p40, List.forall_mem_cons.mpr ⟨lw_p41, List.forall_mem_cons.mpr ⟨lw_p42, List.forall_mem_cons.mpr ⟨lw_p43, List.forall_mem_cons.mpr ⟨lw_p44, List.forall_mem_cons.mpr ⟨lw_p45, List.forall_mem_cons.mpr ⟨lw_p46, List.forall_mem_cons.mpr ⟨lw_p47, fun _ h => absurd h List.not_mem_nil⟩⟩⟩⟩⟩⟩⟩⟩⟩⟩⟩⟩⟩⟩⟩⟩
theorem lw_p48 : lw_okq (⟨"DodgemDebateModel", "bestOf", "()I"⟩, 53) := ⟨⟨by decide +kernel, by decide +kernel⟩, List.mem_of_getElem? (i := 876) (by decide +kernel), List.mem_of_getElem? (i := 1247) (by decide +kernel), List.mem_of_getElem? (i := 1248) (by decide +kernel)⟩
theorem lw_p49 : lw_okq (⟨"DodgemDebateModel", "meekOf", "()I"⟩, 53) := ⟨⟨by decide +kernel, by decide +kernel⟩, List.mem_of_getElem? (i := 876) (by decide +kernel), List.mem_of_getElem? (i := 1255) (by decide +kernel), List.mem_of_getElem? (i := 1256) (by decide +kernel)⟩
theorem lw_p50 : lw_okq (⟨"DodgemDebateModel", "meekNow", "()I"⟩, 53) := ⟨⟨by decide +kernel, by decide +kernel⟩, List.mem_of_getElem? (i := 876) (by decide +kernel), List.mem_of_getElem? (i := 1259) (by decide +kernel), List.mem_of_getElem? (i := 1260) (by decide +kernel)⟩
theorem lw_p51 : lw_okq (⟨"DodgemDebateModel", "jamOf", "(I)I"⟩, 53) := ⟨⟨by decide +kernel, by decide +kernel⟩, List.mem_of_getElem? (i := 876) (by decide +kernel), List.mem_of_getElem? (i := 1267) (by decide +kernel), List.mem_of_getElem? (i := 1268) (by decide +kernel)⟩
theorem lw_p52 : lw_okq (⟨"DodgemDebateModel", "carriedOf", "()I"⟩, 53) := ⟨⟨by decide +kernel, by decide +kernel⟩, List.mem_of_getElem? (i := 876) (by decide +kernel), List.mem_of_getElem? (i := 1275) (by decide +kernel), List.mem_of_getElem? (i := 1276) (by decide +kernel)⟩
theorem lw_p53 : lw_okq (⟨"DodgemDebateModel", "standOf", "(II)I"⟩, 53) := ⟨⟨by decide +kernel, by decide +kernel⟩, List.mem_of_getElem? (i := 876) (by decide +kernel), List.mem_of_getElem? (i := 1283) (by decide +kernel), List.mem_of_getElem? (i := 1284) (by decide +kernel)⟩
theorem lw_p54 : lw_okq (⟨"DodgemDebateModel", "isOther", "(III)Z"⟩, 53) := ⟨⟨by decide +kernel, by decide +kernel⟩, List.mem_of_getElem? (i := 876) (by decide +kernel), List.mem_of_getElem? (i := 1287) (by decide +kernel), List.mem_of_getElem? (i := 1288) (by decide +kernel)⟩
theorem lw_p55 : lw_okq (⟨"DodgemDebateModel", "betterOf", "(III)I"⟩, 53) := ⟨⟨by decide +kernel, by decide +kernel⟩, List.mem_of_getElem? (i := 876) (by decide +kernel), List.mem_of_getElem? (i := 1295) (by decide +kernel), List.mem_of_getElem? (i := 1296) (by decide +kernel)⟩
theorem lw_p56 : lw_okq (⟨"DodgemDebateModel", "ringOf", "(I)I"⟩, 53) := ⟨⟨by decide +kernel, by decide +kernel⟩, List.mem_of_getElem? (i := 876) (by decide +kernel), List.mem_of_getElem? (i := 1303) (by decide +kernel), List.mem_of_getElem? (i := 1304) (by decide +kernel)⟩
theorem lw_p57 : lw_okq (⟨"DodgemDebateModel", "spareBy", "()I"⟩, 53) := ⟨⟨by decide +kernel, by decide +kernel⟩, List.mem_of_getElem? (i := 876) (by decide +kernel), List.mem_of_getElem? (i := 1311) (by decide +kernel), List.mem_of_getElem? (i := 1312) (by decide +kernel)⟩
theorem lw_p58 : lw_okq (⟨"DodgemDebateModel", "isSpared", "(I)Z"⟩, 53) := ⟨⟨by decide +kernel, by decide +kernel⟩, List.mem_of_getElem? (i := 876) (by decide +kernel), List.mem_of_getElem? (i := 1315) (by decide +kernel), List.mem_of_getElem? (i := 1316) (by decide +kernel)⟩
theorem lw_p59 : lw_okq (⟨"DodgemDebateModel", "ofRow", "(II)I"⟩, 53) := ⟨⟨by decide +kernel, by decide +kernel⟩, List.mem_of_getElem? (i := 876) (by decide +kernel), List.mem_of_getElem? (i := 1319) (by decide +kernel), List.mem_of_getElem? (i := 1320) (by decide +kernel)⟩
theorem lw_p60 : lw_okq (⟨"DodgemDebateModel", "neverNow", "()I"⟩, 53) := ⟨⟨by decide +kernel, by decide +kernel⟩, List.mem_of_getElem? (i := 876) (by decide +kernel), List.mem_of_getElem? (i := 1335) (by decide +kernel), List.mem_of_getElem? (i := 1336) (by decide +kernel)⟩
theorem lw_p61 : lw_okq (⟨"DodgemDebateModel", "isSeen", "()Z"⟩, 53) := ⟨⟨by decide +kernel, by decide +kernel⟩, List.mem_of_getElem? (i := 876) (by decide +kernel), List.mem_of_getElem? (i := 1339) (by decide +kernel), List.mem_of_getElem? (i := 1340) (by decide +kernel)⟩
theorem lw_p62 : lw_okq (⟨"DodgemDebateModel", "sortsBy", "(I)I"⟩, 53) := ⟨⟨by decide +kernel, by decide +kernel⟩, List.mem_of_getElem? (i := 876) (by decide +kernel), List.mem_of_getElem? (i := 1347) (by decide +kernel), List.mem_of_getElem? (i := 1348) (by decide +kernel)⟩
theorem lw_p63 : lw_okq (⟨"DodgemDebateModel", "heavyBy", "(I)I"⟩, 53) := ⟨⟨by decide +kernel, by decide +kernel⟩, List.mem_of_getElem? (i := 876) (by decide +kernel), List.mem_of_getElem? (i := 1351) (by decide +kernel), List.mem_of_getElem? (i := 1352) (by decide +kernel)⟩
def lw_privs_4 : List (MethodName × Nat) := [(⟨"DodgemDebateModel", "bestOf", "()I"⟩, 53), (⟨"DodgemDebateModel", "meekOf", "()I"⟩, 53), (⟨"DodgemDebateModel", "meekNow", "()I"⟩, 53), (⟨"DodgemDebateModel", "jamOf", "(I)I"⟩, 53), (⟨"DodgemDebateModel", "carriedOf", "()I"⟩, 53), (⟨"DodgemDebateModel", "standOf", "(II)I"⟩, 53), (⟨"DodgemDebateModel", "isOther", "(III)Z"⟩, 53), (⟨"DodgemDebateModel", "betterOf", "(III)I"⟩, 53), (⟨"DodgemDebateModel", "ringOf", "(I)I"⟩, 53), (⟨"DodgemDebateModel", "spareBy", "()I"⟩, 53), (⟨"DodgemDebateModel", "isSpared", "(I)Z"⟩, 53), (⟨"DodgemDebateModel", "ofRow", "(II)I"⟩, 53), (⟨"DodgemDebateModel", "neverNow", "()I"⟩, 53), (⟨"DodgemDebateModel", "isSeen", "()Z"⟩, 53), (⟨"DodgemDebateModel", "sortsBy", "(I)I"⟩, 53), (⟨"DodgemDebateModel", "heavyBy", "(I)I"⟩, 53)]
theorem lw_r4 : ∀ q ∈ lw_privs_4, lw_okq q := List.forall_mem_cons.mpr ⟨lw_p48, List.forall_mem_cons.mpr ⟨lw_p49, List.forall_mem_cons.mpr ⟨lw_p50, List.forall_mem_cons.mpr ⟨lw_p51, List.forall_mem_cons.mpr ⟨lw_p52, List.forall_mem_cons.mpr ⟨lw_p53, List.forall_mem_cons.mpr ⟨lw_p54, List.forall_mem_cons.mpr ⟨lw_p55, List.forall_mem_cons.mpr ⟨lw_p56, List.forall_mem_cons.mpr ⟨lw_p57, List.forall_mem_cons.mpr ⟨lw_p58, List.forall_mem_cons.mpr ⟨lw_p59, List.forall_mem_cons.mpr ⟨lw_p60, List.forall_mem_cons.mpr ⟨lw_p61, List.forall_mem_cons.mpr ⟨lw_p62, List.forall_mem_cons.mpr ⟨lw_p63, fun _ h => absurd h List.not_mem_nil⟩⟩⟩⟩⟩⟩⟩⟩⟩⟩⟩⟩⟩⟩⟩⟩
theorem lw_p64 : lw_okq (⟨"DodgemDebateModel", "askOf", "(I)I"⟩, 53) := ⟨⟨by decide +kernel, by decide +kernel⟩, List.mem_of_getElem? (i := 876) (by decide +kernel), List.mem_of_getElem? (i := 1359) (by decide +kernel), List.mem_of_getElem? (i := 1360) (by decide +kernel)⟩
theorem lw_p65 : lw_okq (⟨"DodgemDebateModel", "chanceOf", "(III)J"⟩, 53) := ⟨⟨by decide +kernel, by decide +kernel⟩, List.mem_of_getElem? (i := 876) (by decide +kernel), List.mem_of_getElem? (i := 1367) (by decide +kernel), List.mem_of_getElem? (i := 1368) (by decide +kernel)⟩
theorem lw_p66 : lw_okq (⟨"DodgemDebateModel", "agesOf", "(III)I"⟩, 53) := ⟨⟨by decide +kernel, by decide +kernel⟩, List.mem_of_getElem? (i := 876) (by decide +kernel), List.mem_of_getElem? (i := 1382) (by decide +kernel), List.mem_of_getElem? (i := 1383) (by decide +kernel)⟩
theorem lw_p67 : lw_okq (⟨"DodgemDebateModel", "pointsAll", "()I"⟩, 53) := ⟨⟨by decide +kernel, by decide +kernel⟩, List.mem_of_getElem? (i := 876) (by decide +kernel), List.mem_of_getElem? (i := 1387) (by decide +kernel), List.mem_of_getElem? (i := 1388) (by decide +kernel)⟩
theorem lw_p68 : lw_okq (⟨"DodgemDebateModel", "lacks", "(III)I"⟩, 53) := ⟨⟨by decide +kernel, by decide +kernel⟩, List.mem_of_getElem? (i := 876) (by decide +kernel), List.mem_of_getElem? (i := 1403) (by decide +kernel), List.mem_of_getElem? (i := 1404) (by decide +kernel)⟩
theorem lw_p69 : lw_okq (⟨"DodgemDebateModel", "keep", "(III)V"⟩, 53) := ⟨⟨by decide +kernel, by decide +kernel⟩, List.mem_of_getElem? (i := 876) (by decide +kernel), List.mem_of_getElem? (i := 1407) (by decide +kernel), List.mem_of_getElem? (i := 1408) (by decide +kernel)⟩
theorem lw_p70 : lw_okq (⟨"DodgemDebateModel", "sumOf", "(I)I"⟩, 53) := ⟨⟨by decide +kernel, by decide +kernel⟩, List.mem_of_getElem? (i := 876) (by decide +kernel), List.mem_of_getElem? (i := 1428) (by decide +kernel), List.mem_of_getElem? (i := 1429) (by decide +kernel)⟩
theorem lw_p71 : lw_okq (⟨"DodgemDebateModel", "carDigest", "(JI)J"⟩, 53) := ⟨⟨by decide +kernel, by decide +kernel⟩, List.mem_of_getElem? (i := 876) (by decide +kernel), List.mem_of_getElem? (i := 1439) (by decide +kernel), List.mem_of_getElem? (i := 1440) (by decide +kernel)⟩
theorem lw_p72 : lw_okq (⟨"DodgemDebateModel", "momentDigest", "(JII)J"⟩, 53) := ⟨⟨by decide +kernel, by decide +kernel⟩, List.mem_of_getElem? (i := 876) (by decide +kernel), List.mem_of_getElem? (i := 1443) (by decide +kernel), List.mem_of_getElem? (i := 1444) (by decide +kernel)⟩
def lw_privs_5 : List (MethodName × Nat) := [(⟨"DodgemDebateModel", "askOf", "(I)I"⟩, 53), (⟨"DodgemDebateModel", "chanceOf", "(III)J"⟩, 53), (⟨"DodgemDebateModel", "agesOf", "(III)I"⟩, 53), (⟨"DodgemDebateModel", "pointsAll", "()I"⟩, 53), (⟨"DodgemDebateModel", "lacks", "(III)I"⟩, 53), (⟨"DodgemDebateModel", "keep", "(III)V"⟩, 53), (⟨"DodgemDebateModel", "sumOf", "(I)I"⟩, 53), (⟨"DodgemDebateModel", "carDigest", "(JI)J"⟩, 53), (⟨"DodgemDebateModel", "momentDigest", "(JII)J"⟩, 53)]
theorem lw_r5 : ∀ q ∈ lw_privs_5, lw_okq q := List.forall_mem_cons.mpr ⟨lw_p64, List.forall_mem_cons.mpr ⟨lw_p65, List.forall_mem_cons.mpr ⟨lw_p66, List.forall_mem_cons.mpr ⟨lw_p67, List.forall_mem_cons.mpr ⟨lw_p68, List.forall_mem_cons.mpr ⟨lw_p69, List.forall_mem_cons.mpr ⟨lw_p70, List.forall_mem_cons.mpr ⟨lw_p71, List.forall_mem_cons.mpr ⟨lw_p72, fun _ h => absurd h List.not_mem_nil⟩⟩⟩⟩⟩⟩⟩⟩⟩
def lw_privs : List (MethodName × Nat) := lw_privs_1 ++ (lw_privs_2 ++ (lw_privs_3 ++ (lw_privs_4 ++ (lw_privs_5))))
def lw_tbl : List Cond := k2_sels lw_privs ++ tables_1
theorem lw_privs_ok : ∀ q ∈ lw_privs, lw_okq q := by
  show ∀ q ∈ lw_privs_1 ++ (lw_privs_2 ++ (lw_privs_3 ++ (lw_privs_4 ++ (lw_privs_5)))), lw_okq q
  exact List.forall_mem_append.mpr ⟨lw_r1, List.forall_mem_append.mpr ⟨lw_r2, List.forall_mem_append.mpr ⟨lw_r3, List.forall_mem_append.mpr ⟨lw_r4, lw_r5⟩⟩⟩⟩
end
section
def RX0 : String := "DodgemDebate$Cars"
def TX0 : u_T := fun k => match k with
  | 0 => ("DodgemDebate$Told", "rows", "[[I", true)
  | 1 => ("DodgemDebate$Told", "most", "I", true)
  | 2 => ("DodgemDebate$Told", "parts", "I", true)
  | 3 => ("DodgemDebate$Told", "size", "I", false)
  | _ => ("DodgemDebate$Told", "flaw", "I", false)
def tyX0 : Nat → FieldType := fun k => match k with
  | 0 => .array (.array .int)
  | 1 => .int
  | 2 => .int
  | 3 => .int
  | _ => .int
abbrev wsX00 : List Cond := u_ws RX0 TX0 5
theorem nmX0 : ∀ a, a < 5 → ∀ b, b < 5 → a ≠ b → (TX0 a).2.1 ≠ (TX0 b).2.1 := by decide +kernel
theorem tyX0_ok : ∀ k, k < 5 → parseFieldDescriptor (TX0 k).2.2.1 = some (tyX0 k) := by decide +kernel
abbrev cX0_init : ByteArray := prog_2_method_1_code
def yX0_init : MethodName := ⟨RX0, "<init>", "()V"⟩
abbrev cX0_meaning : ByteArray := prog_2_method_2_code
def yX0_meaning : MethodName := ⟨RX0, "meaning", "(IIC)I"⟩
abbrev cX0_freeY : ByteArray := prog_2_method_3_code
def yX0_freeY : MethodName := ⟨RX0, "freeY", "(II)I"⟩
abbrev cX0_isTaken : ByteArray := prog_2_method_4_code
def yX0_isTaken : MethodName := ⟨RX0, "isTaken", "(IIII)Z"⟩
abbrev cX0_ayesAsTold : ByteArray := prog_2_method_5_code
def yX0_ayesAsTold : MethodName := ⟨RX0, "ayesAsTold", "()I"⟩
abbrev cX0_becomeLike : ByteArray := prog_2_method_6_code
def yX0_becomeLike : MethodName := ⟨RX0, "becomeLike", "(LDodgemDebate$Cars;)V"⟩
def RX1 : String := "DodgemDebate$Events"
def TX1 : u_T := fun k => match k with
  | 0 => ("DodgemDebate$Events", "kind", "[I", true)
  | 1 => ("DodgemDebate$Events", "moment", "[I", true)
  | 2 => ("DodgemDebate$Events", "car", "[I", true)
  | _ => ("DodgemDebate$Events", "size", "I", false)
def tyX1 : Nat → FieldType := fun k => match k with
  | 0 => .array .int
  | 1 => .array .int
  | 2 => .array .int
  | _ => .int
abbrev wsX10 : List Cond := u_ws RX1 TX1 4
theorem nmX1 : ∀ a, a < 4 → ∀ b, b < 4 → a ≠ b → (TX1 a).2.1 ≠ (TX1 b).2.1 := by decide +kernel
theorem tyX1_ok : ∀ k, k < 4 → parseFieldDescriptor (TX1 k).2.2.1 = some (tyX1 k) := by decide +kernel
abbrev cX1_init : ByteArray := prog_3_method_1_code
def yX1_init : MethodName := ⟨RX1, "<init>", "()V"⟩
abbrev cX1_fits : ByteArray := prog_3_method_2_code
def yX1_fits : MethodName := ⟨RX1, "fits", "(III)Z"⟩
abbrev cX1_append : ByteArray := prog_3_method_3_code
def yX1_append : MethodName := ⟨RX1, "append", "(III)V"⟩
def RX2 : String := "DodgemDebate$Hash"
def TX2 : u_T := fun k => match k with
  | _ => ("DodgemDebate$Hash", "value", "J", false)
def tyX2 : Nat → FieldType := fun k => match k with
  | _ => .long
abbrev wsX20 : List Cond := u_ws RX2 TX2 1
theorem nmX2 : ∀ a, a < 1 → ∀ b, b < 1 → a ≠ b → (TX2 a).2.1 ≠ (TX2 b).2.1 := by decide +kernel
theorem tyX2_ok : ∀ k, k < 1 → parseFieldDescriptor (TX2 k).2.2.1 = some (tyX2 k) := by decide +kernel
abbrev cX2_init : ByteArray := prog_4_method_1_code
def yX2_init : MethodName := ⟨RX2, "<init>", "()V"⟩
abbrev cX2_add : ByteArray := prog_4_method_2_code
def yX2_add : MethodName := ⟨RX2, "add", "(J)V"⟩
def RX3 : String := "DodgemDebate$Run"
def TX3 : u_T := fun k => match k with
  | 0 => ("DodgemDebate$Run", "now", "[[I", true)
  | 1 => ("DodgemDebate$Run", "past", "[[I", true)
  | 2 => ("DodgemDebate$Run", "board", "[I", true)
  | 3 => ("DodgemDebate$Run", "rung", "[I", true)
  | 4 => ("DodgemDebate$Run", "stuck", "[I", true)
  | 5 => ("DodgemDebate$Run", "size", "I", false)
  | 6 => ("DodgemDebate$Run", "strikeCount", "I", false)
  | 7 => ("DodgemDebate$Run", "firstMoment", "I", false)
  | 8 => ("DodgemDebate$Run", "firstCar", "I", false)
  | _ => ("DodgemDebate$Run", "touched", "I", false)
def tyX3 : Nat → FieldType := fun k => match k with
  | 0 => .array (.array .int)
  | 1 => .array (.array .int)
  | 2 => .array .int
  | 3 => .array .int
  | 4 => .array .int
  | 5 => .int
  | 6 => .int
  | 7 => .int
  | 8 => .int
  | _ => .int
abbrev wsX30 : List Cond := u_ws RX3 TX3 10
theorem nmX3 : ∀ a, a < 10 → ∀ b, b < 10 → a ≠ b → (TX3 a).2.1 ≠ (TX3 b).2.1 := by decide +kernel
theorem tyX3_ok : ∀ k, k < 10 → parseFieldDescriptor (TX3 k).2.2.1 = some (tyX3 k) := by decide +kernel
abbrev cX3_init : ByteArray := prog_5_method_1_code
def yX3_init : MethodName := ⟨RX3, "<init>", "()V"⟩
abbrev cX3_play : ByteArray := prog_5_method_2_code
def yX3_play : MethodName := ⟨RX3, "play", "(LDodgemDebate$Cars;LDodgemDebate$Steers;LDodgemDebate$Events;I)V"⟩
abbrev cX3_begin : ByteArray := prog_5_method_3_code
def yX3_begin : MethodName := ⟨RX3, "begin", "(LDodgemDebate$Cars;)V"⟩
abbrev cX3_doEvents : ByteArray := prog_5_method_4_code
def yX3_doEvents : MethodName := ⟨RX3, "doEvents", "(LDodgemDebate$Events;II)V"⟩
abbrev cX3_doSteers : ByteArray := prog_5_method_5_code
def yX3_doSteers : MethodName := ⟨RX3, "doSteers", "(LDodgemDebate$Cars;LDodgemDebate$Steers;I)V"⟩
abbrev cX3_go : ByteArray := prog_5_method_6_code
def yX3_go : MethodName := ⟨RX3, "go", "(LDodgemDebate$Cars;II)V"⟩
abbrev cX3_countStrike : ByteArray := prog_5_method_7_code
def yX3_countStrike : MethodName := ⟨RX3, "countStrike", "(IIII)V"⟩
abbrev cX3_shift : ByteArray := prog_5_method_8_code
def yX3_shift : MethodName := ⟨RX3, "shift", "(III)V"⟩
abbrev cX3_keep : ByteArray := prog_5_method_9_code
def yX3_keep : MethodName := ⟨RX3, "keep", "(I)V"⟩
abbrev cX3_behind : ByteArray := prog_5_method_10_code
def yX3_behind : MethodName := ⟨RX3, "behind", "(III)I"⟩
abbrev cX3_inCell : ByteArray := prog_5_method_11_code
def yX3_inCell : MethodName := ⟨RX3, "inCell", "(III)I"⟩
abbrev cX3_ayes : ByteArray := prog_5_method_12_code
def yX3_ayes : MethodName := ⟨RX3, "ayes", "(I)I"⟩
abbrev cX3_leader : ByteArray := prog_5_method_13_code
def yX3_leader : MethodName := ⟨RX3, "leader", "()I"⟩
abbrev cX3_untouched : ByteArray := prog_5_method_14_code
def yX3_untouched : MethodName := ⟨RX3, "untouched", "()I"⟩
abbrev cX3_worstJam : ByteArray := prog_5_method_15_code
def yX3_worstJam : MethodName := ⟨RX3, "worstJam", "()I"⟩
abbrev cX3_allPoints : ByteArray := prog_5_method_16_code
def yX3_allPoints : MethodName := ⟨RX3, "allPoints", "()I"⟩
abbrev cX3_wasStruck : ByteArray := prog_5_method_17_code
def yX3_wasStruck : MethodName := ⟨RX3, "wasStruck", "(I)Z"⟩
def RX4 : String := "DodgemDebate$Sheets"
def TX4 : u_T := fun k => match k with
  | 0 => ("DodgemDebate$Sheets", "items", "[[I", true)
  | 1 => ("DodgemDebate$Sheets", "form", "[I", true)
  | 2 => ("DodgemDebate$Sheets", "length", "[I", true)
  | _ => ("DodgemDebate$Sheets", "latest", "I", false)
def tyX4 : Nat → FieldType := fun k => match k with
  | 0 => .array (.array .int)
  | 1 => .array .int
  | 2 => .array .int
  | _ => .int
abbrev wsX40 : List Cond := u_ws RX4 TX4 4
theorem nmX4 : ∀ a, a < 4 → ∀ b, b < 4 → a ≠ b → (TX4 a).2.1 ≠ (TX4 b).2.1 := by decide +kernel
theorem tyX4_ok : ∀ k, k < 4 → parseFieldDescriptor (TX4 k).2.2.1 = some (tyX4 k) := by decide +kernel
abbrev cX4_init : ByteArray := prog_6_method_1_code
def yX4_init : MethodName := ⟨RX4, "<init>", "()V"⟩
abbrev cX4_found : ByteArray := prog_6_method_2_code
def yX4_found : MethodName := ⟨RX4, "found", "(I)I"⟩
abbrev cX4_isLost : ByteArray := prog_6_method_3_code
def yX4_isLost : MethodName := ⟨RX4, "isLost", "(I)Z"⟩
abbrev cX4_begin : ByteArray := prog_6_method_4_code
def yX4_begin : MethodName := ⟨RX4, "begin", "(III)V"⟩
abbrev cX4_barTo : ByteArray := prog_6_method_5_code
def yX4_barTo : MethodName := ⟨RX4, "barTo", "(III)I"⟩
abbrev cX4_hasSpan : ByteArray := prog_6_method_6_code
def yX4_hasSpan : MethodName := ⟨RX4, "hasSpan", "(III)Z"⟩
abbrev cX4_lowestBits : ByteArray := prog_6_method_7_code
def yX4_lowestBits : MethodName := ⟨RX4, "lowestBits", "(II)I"⟩
def RX5 : String := "DodgemDebate$Sightings"
def TX5 : u_T := fun k => match k with
  | 0 => ("DodgemDebate$Sightings", "moment", "[I", true)
  | 1 => ("DodgemDebate$Sightings", "car", "[I", true)
  | 2 => ("DodgemDebate$Sightings", "x", "[I", true)
  | 3 => ("DodgemDebate$Sightings", "y", "[I", true)
  | _ => ("DodgemDebate$Sightings", "size", "I", false)
def tyX5 : Nat → FieldType := fun k => match k with
  | 0 => .array .int
  | 1 => .array .int
  | 2 => .array .int
  | 3 => .array .int
  | _ => .int
abbrev wsX50 : List Cond := u_ws RX5 TX5 5
theorem nmX5 : ∀ a, a < 5 → ∀ b, b < 5 → a ≠ b → (TX5 a).2.1 ≠ (TX5 b).2.1 := by decide +kernel
theorem tyX5_ok : ∀ k, k < 5 → parseFieldDescriptor (TX5 k).2.2.1 = some (tyX5 k) := by decide +kernel
abbrev cX5_init : ByteArray := prog_7_method_1_code
def yX5_init : MethodName := ⟨RX5, "<init>", "()V"⟩
abbrev cX5_append : ByteArray := prog_7_method_2_code
def yX5_append : MethodName := ⟨RX5, "append", "(IIII)V"⟩
abbrev cX5_comeOutIn : ByteArray := prog_7_method_3_code
def yX5_comeOutIn : MethodName := ⟨RX5, "comeOutIn", "(LDodgemDebate$Run;)Z"⟩
def RX6 : String := "DodgemDebate$Steers"
def TX6 : u_T := fun k => match k with
  | 0 => ("DodgemDebate$Told", "rows", "[[I", true)
  | 1 => ("DodgemDebate$Told", "most", "I", true)
  | 2 => ("DodgemDebate$Told", "parts", "I", true)
  | 3 => ("DodgemDebate$Told", "size", "I", false)
  | _ => ("DodgemDebate$Told", "flaw", "I", false)
def tyX6 : Nat → FieldType := fun k => match k with
  | 0 => .array (.array .int)
  | 1 => .int
  | 2 => .int
  | 3 => .int
  | _ => .int
abbrev wsX60 : List Cond := u_ws RX6 TX6 5
theorem nmX6 : ∀ a, a < 5 → ∀ b, b < 5 → a ≠ b → (TX6 a).2.1 ≠ (TX6 b).2.1 := by decide +kernel
theorem tyX6_ok : ∀ k, k < 5 → parseFieldDescriptor (TX6 k).2.2.1 = some (tyX6 k) := by decide +kernel
abbrev cX6_init : ByteArray := prog_8_method_1_code
def yX6_init : MethodName := ⟨RX6, "<init>", "()V"⟩
abbrev cX6_meaning : ByteArray := prog_8_method_2_code
def yX6_meaning : MethodName := ⟨RX6, "meaning", "(IIC)I"⟩
abbrev cX6_lend : ByteArray := prog_8_method_3_code
def yX6_lend : MethodName := ⟨RX6, "lend", "(III)V"⟩
abbrev cX6_giveBack : ByteArray := prog_8_method_4_code
def yX6_giveBack : MethodName := ⟨RX6, "giveBack", "()V"⟩
def RX7 : String := "DodgemDebate$Text"
def TX7 : u_T := fun k => match k with
  | 0 => ("DodgemDebate$Text", "bytes", "[I", true)
  | _ => ("DodgemDebate$Text", "length", "I", false)
def tyX7 : Nat → FieldType := fun k => match k with
  | 0 => .array .int
  | _ => .int
abbrev wsX70 : List Cond := u_ws RX7 TX7 2
theorem nmX7 : ∀ a, a < 2 → ∀ b, b < 2 → a ≠ b → (TX7 a).2.1 ≠ (TX7 b).2.1 := by decide +kernel
theorem tyX7_ok : ∀ k, k < 2 → parseFieldDescriptor (TX7 k).2.2.1 = some (tyX7 k) := by decide +kernel
abbrev cX7_init : ByteArray := prog_9_method_1_code
def yX7_init : MethodName := ⟨RX7, "<init>", "()V"⟩
abbrev cX7_append : ByteArray := prog_9_method_2_code
def yX7_append : MethodName := ⟨RX7, "append", "(I)V"⟩
def RX8 : String := "DodgemDebate$Told"
def TX8 : u_T := fun k => match k with
  | _ => ("", "", "", false)
def tyX8 : Nat → FieldType := fun k => match k with
  | _ => .int
abbrev wsX80 : List Cond := u_ws RX8 TX8 0
theorem nmX8 : ∀ a, a < 0 → ∀ b, b < 0 → a ≠ b → (TX8 a).2.1 ≠ (TX8 b).2.1 := by decide +kernel
theorem tyX8_ok : ∀ k, k < 0 → parseFieldDescriptor (TX8 k).2.2.1 = some (tyX8 k) := by decide +kernel
abbrev cX8_init : ByteArray := prog_10_method_1_code
def yX8_init : MethodName := ⟨RX8, "<init>", "([[III)V"⟩
abbrev cX8_learn : ByteArray := prog_10_method_3_code
def yX8_learn : MethodName := ⟨RX8, "learn", "(LDodgemDebate$Text;)V"⟩
abbrev cX8_takes : ByteArray := prog_10_method_4_code
def yX8_takes : MethodName := ⟨RX8, "takes", "(IIC)Z"⟩
def RX9 : String := "DodgemDebate$Trials"
def TX9 : u_T := fun k => match k with
  | 0 => ("DodgemDebate$Trials", "told", "LDodgemDebate$Cars;", true)
  | 1 => ("DodgemDebate$Trials", "steers", "LDodgemDebate$Steers;", true)
  | 2 => ("DodgemDebate$Trials", "events", "LDodgemDebate$Events;", true)
  | 3 => ("DodgemDebate$Trials", "sightings", "LDodgemDebate$Sightings;", true)
  | 4 => ("DodgemDebate$Trials", "tried", "LDodgemDebate$Cars;", true)
  | 5 => ("DodgemDebate$Trials", "drawn", "LDodgemDebate$Events;", true)
  | 6 => ("DodgemDebate$Trials", "run", "LDodgemDebate$Run;", true)
  | 7 => ("DodgemDebate$Trials", "cells", "[[I", true)
  | 8 => ("DodgemDebate$Trials", "struck", "[I", true)
  | _ => ("DodgemDebate$Trials", "struckKnown", "Z", false)
def tyX9 : Nat → FieldType := fun k => match k with
  | 0 => .object "DodgemDebate$Cars"
  | 1 => .object "DodgemDebate$Steers"
  | 2 => .object "DodgemDebate$Events"
  | 3 => .object "DodgemDebate$Sightings"
  | 4 => .object "DodgemDebate$Cars"
  | 5 => .object "DodgemDebate$Events"
  | 6 => .object "DodgemDebate$Run"
  | 7 => .array (.array .int)
  | 8 => .array .int
  | _ => .boolean
abbrev wsX90 : List Cond := u_ws RX9 TX9 10
theorem nmX9 : ∀ a, a < 10 → ∀ b, b < 10 → a ≠ b → (TX9 a).2.1 ≠ (TX9 b).2.1 := by decide +kernel
theorem tyX9_ok : ∀ k, k < 10 → parseFieldDescriptor (TX9 k).2.2.1 = some (tyX9 k) := by decide +kernel
abbrev cX9_init : ByteArray := prog_11_method_1_code
def yX9_init : MethodName := ⟨RX9, "<init>", "(LDodgemDebate$Cars;LDodgemDebate$Steers;LDodgemDebate$Events;LDodgemDebate$Sightings;)V"⟩
abbrev cX9_bestStand : ByteArray := prog_11_method_2_code
def yX9_bestStand : MethodName := ⟨RX9, "bestStand", "(I)I"⟩
abbrev cX9_bestTurn : ByteArray := prog_11_method_3_code
def yX9_bestTurn : MethodName := ⟨RX9, "bestTurn", "(II)I"⟩
abbrev cX9_fewestSpared : ByteArray := prog_11_method_4_code
def yX9_fewestSpared : MethodName := ⟨RX9, "fewestSpared", "()I"⟩
abbrev cX9_touchesAll : ByteArray := prog_11_method_5_code
def yX9_touchesAll : MethodName := ⟨RX9, "touchesAll", "(I)Z"⟩
abbrev cX9_eventsThatNeverWere : ByteArray := prog_11_method_6_code
def yX9_eventsThatNeverWere : MethodName := ⟨RX9, "eventsThatNeverWere", "()I"⟩
abbrev cX9_sortsOf : ByteArray := prog_11_method_7_code
def yX9_sortsOf : MethodName := ⟨RX9, "sortsOf", "(I)I"⟩
abbrev cX9_weightsOf : ByteArray := prog_11_method_8_code
def yX9_weightsOf : MethodName := ⟨RX9, "weightsOf", "(I)I"⟩
abbrev cX9_agrees : ByteArray := prog_11_method_9_code
def yX9_agrees : MethodName := ⟨RX9, "agrees", "(III)Z"⟩
abbrev cX9_momentToLook : ByteArray := prog_11_method_10_code
def yX9_momentToLook : MethodName := ⟨RX9, "momentToLook", "(I)I"⟩
abbrev cX9_cellOf : ByteArray := prog_11_method_11_code
def yX9_cellOf : MethodName := ⟨RX9, "cellOf", "(II)I"⟩
abbrev cX9_mostAlike : ByteArray := prog_11_method_12_code
def yX9_mostAlike : MethodName := ⟨RX9, "mostAlike", "(I)I"⟩
abbrev cX9_weighStruck : ByteArray := prog_11_method_13_code
def yX9_weighStruck : MethodName := ⟨RX9, "weighStruck", "(II)J"⟩
abbrev cX9_weightOf : ByteArray := prog_11_method_14_code
def yX9_weightOf : MethodName := ⟨RX9, "weightOf", "(II)J"⟩
abbrev cX9_findStruck : ByteArray := prog_11_method_15_code
def yX9_findStruck : MethodName := ⟨RX9, "findStruck", "()V"⟩
abbrev cX9_playAges : ByteArray := prog_11_method_16_code
def yX9_playAges : MethodName := ⟨RX9, "playAges", "(II)V"⟩
abbrev cX9_nextSeed : ByteArray := prog_11_method_17_code
def yX9_nextSeed : MethodName := ⟨RX9, "nextSeed", "(I)I"⟩
abbrev cX9_lot : ByteArray := prog_11_method_18_code
def yX9_lot : MethodName := ⟨RX9, "lot", "(II)I"⟩
def RX10 : String := "DodgemDebate"
def TX10 : u_T := fun k => match k with
  | 0 => ("DodgemDebate", "carText", "LDodgemDebate$Text;", true)
  | 1 => ("DodgemDebate", "steerText", "LDodgemDebate$Text;", true)
  | 2 => ("DodgemDebate", "cars", "LDodgemDebate$Cars;", true)
  | 3 => ("DodgemDebate", "steers", "LDodgemDebate$Steers;", true)
  | 4 => ("DodgemDebate", "events", "LDodgemDebate$Events;", true)
  | 5 => ("DodgemDebate", "sightings", "LDodgemDebate$Sightings;", true)
  | 6 => ("DodgemDebate", "sheets", "LDodgemDebate$Sheets;", true)
  | 7 => ("DodgemDebate", "run", "LDodgemDebate$Run;", true)
  | 8 => ("DodgemDebate", "trials", "LDodgemDebate$Trials;", true)
  | 9 => ("DodgemDebate", "hash", "LDodgemDebate$Hash;", true)
  | _ => ("DodgemDebate", "stale", "Z", false)
def tyX10 : Nat → FieldType := fun k => match k with
  | 0 => .object "DodgemDebate$Text"
  | 1 => .object "DodgemDebate$Text"
  | 2 => .object "DodgemDebate$Cars"
  | 3 => .object "DodgemDebate$Steers"
  | 4 => .object "DodgemDebate$Events"
  | 5 => .object "DodgemDebate$Sightings"
  | 6 => .object "DodgemDebate$Sheets"
  | 7 => .object "DodgemDebate$Run"
  | 8 => .object "DodgemDebate$Trials"
  | 9 => .object "DodgemDebate$Hash"
  | _ => .boolean
abbrev wsX100 : List Cond := u_ws RX10 TX10 11
theorem nmX10 : ∀ a, a < 11 → ∀ b, b < 11 → a ≠ b → (TX10 a).2.1 ≠ (TX10 b).2.1 := by decide +kernel
theorem tyX10_ok : ∀ k, k < 11 → parseFieldDescriptor (TX10 k).2.2.1 = some (tyX10 k) := by decide +kernel
abbrev cX10_init : ByteArray := prog_1_method_1_code
def yX10_init : MethodName := ⟨RX10, "<init>", "()V"⟩
abbrev cX10_type : ByteArray := prog_1_method_2_code
def yX10_type : MethodName := ⟨RX10, "type", "(II)I"⟩
abbrev cX10_wipe : ByteArray := prog_1_method_3_code
def yX10_wipe : MethodName := ⟨RX10, "wipe", "(I)I"⟩
abbrev cX10_undo : ByteArray := prog_1_method_4_code
def yX10_undo : MethodName := ⟨RX10, "undo", "(I)I"⟩
abbrev cX10_fault : ByteArray := prog_1_method_5_code
def yX10_fault : MethodName := ⟨RX10, "fault", "(I)I"⟩
abbrev cX10_car : ByteArray := prog_1_method_6_code
def yX10_car : MethodName := ⟨RX10, "car", "(II)I"⟩
abbrev cX10_steer : ByteArray := prog_1_method_7_code
def yX10_steer : MethodName := ⟨RX10, "steer", "(II)I"⟩
abbrev cX10_event : ByteArray := prog_1_method_8_code
def yX10_event : MethodName := ⟨RX10, "event", "(III)I"⟩
abbrev cX10_back : ByteArray := prog_1_method_9_code
def yX10_back : MethodName := ⟨RX10, "back", "()I"⟩
abbrev cX10_read : ByteArray := prog_1_method_10_code
def yX10_read : MethodName := ⟨RX10, "read", "(I)I"⟩
abbrev cX10_at : ByteArray := prog_1_method_11_code
def yX10_at : MethodName := ⟨RX10, "at", "(III)I"⟩
abbrev cX10_who : ByteArray := prog_1_method_12_code
def yX10_who : MethodName := ⟨RX10, "who", "(III)I"⟩
abbrev cX10_house : ByteArray := prog_1_method_13_code
def yX10_house : MethodName := ⟨RX10, "house", "(II)I"⟩
abbrev cX10_strikes : ByteArray := prog_1_method_14_code
def yX10_strikes : MethodName := ⟨RX10, "strikes", "()I"⟩
abbrev cX10_first : ByteArray := prog_1_method_15_code
def yX10_first : MethodName := ⟨RX10, "first", "(I)I"⟩
abbrev cX10_best : ByteArray := prog_1_method_16_code
def yX10_best : MethodName := ⟨RX10, "best", "()I"⟩
abbrev cX10_meek : ByteArray := prog_1_method_17_code
def yX10_meek : MethodName := ⟨RX10, "meek", "()I"⟩
abbrev cX10_jam : ByteArray := prog_1_method_18_code
def yX10_jam : MethodName := ⟨RX10, "jam", "(I)I"⟩
abbrev cX10_carried : ByteArray := prog_1_method_19_code
def yX10_carried : MethodName := ⟨RX10, "carried", "()I"⟩
abbrev cX10_stand : ByteArray := prog_1_method_20_code
def yX10_stand : MethodName := ⟨RX10, "stand", "(II)I"⟩
abbrev cX10_better : ByteArray := prog_1_method_21_code
def yX10_better : MethodName := ⟨RX10, "better", "(III)I"⟩
abbrev cX10_ring : ByteArray := prog_1_method_22_code
def yX10_ring : MethodName := ⟨RX10, "ring", "(I)I"⟩
abbrev cX10_spare : ByteArray := prog_1_method_23_code
def yX10_spare : MethodName := ⟨RX10, "spare", "(I)I"⟩
abbrev cX10_seen : ByteArray := prog_1_method_24_code
def yX10_seen : MethodName := ⟨RX10, "seen", "(IIII)I"⟩
abbrev cX10_forget : ByteArray := prog_1_method_25_code
def yX10_forget : MethodName := ⟨RX10, "forget", "()I"⟩
abbrev cX10_never : ByteArray := prog_1_method_26_code
def yX10_never : MethodName := ⟨RX10, "never", "()I"⟩
abbrev cX10_was : ByteArray := prog_1_method_27_code
def yX10_was : MethodName := ⟨RX10, "was", "(II)I"⟩
abbrev cX10_ask : ByteArray := prog_1_method_28_code
def yX10_ask : MethodName := ⟨RX10, "ask", "(I)I"⟩
abbrev cX10_chance : ByteArray := prog_1_method_29_code
def yX10_chance : MethodName := ⟨RX10, "chance", "(III)J"⟩
abbrev cX10_ages : ByteArray := prog_1_method_30_code
def yX10_ages : MethodName := ⟨RX10, "ages", "(III)I"⟩
abbrev cX10_sheet : ByteArray := prog_1_method_31_code
def yX10_sheet : MethodName := ⟨RX10, "sheet", "(III)I"⟩
abbrev cX10_lose : ByteArray := prog_1_method_32_code
def yX10_lose : MethodName := ⟨RX10, "lose", "(I)I"⟩
abbrev cX10_put : ByteArray := prog_1_method_33_code
def yX10_put : MethodName := ⟨RX10, "put", "(IIII)I"⟩
abbrev cX10_get : ByteArray := prog_1_method_34_code
def yX10_get : MethodName := ⟨RX10, "get", "(III)I"⟩
abbrev cX10_copy : ByteArray := prog_1_method_35_code
def yX10_copy : MethodName := ⟨RX10, "copy", "(IIIII)I"⟩
abbrev cX10_write : ByteArray := prog_1_method_36_code
def yX10_write : MethodName := ⟨RX10, "write", "(II)I"⟩
abbrev cX10_count : ByteArray := prog_1_method_37_code
def yX10_count : MethodName := ⟨RX10, "count", "(I)I"⟩
abbrev cX10_digest : ByteArray := prog_1_method_38_code
def yX10_digest : MethodName := ⟨RX10, "digest", "()J"⟩
abbrev cX10_addTold : ByteArray := prog_1_method_39_code
def yX10_addTold : MethodName := ⟨RX10, "addTold", "()V"⟩
abbrev cX10_addCar : ByteArray := prog_1_method_40_code
def yX10_addCar : MethodName := ⟨RX10, "addCar", "(I)V"⟩
abbrev cX10_addHouse : ByteArray := prog_1_method_41_code
def yX10_addHouse : MethodName := ⟨RX10, "addHouse", "()V"⟩
abbrev cX10_addWhole : ByteArray := prog_1_method_42_code
def yX10_addWhole : MethodName := ⟨RX10, "addWhole", "()V"⟩
abbrev cX10_within : ByteArray := prog_1_method_43_code
def yX10_within : MethodName := ⟨RX10, "within", "(II)Z"⟩
abbrev cX10_onFloor : ByteArray := prog_1_method_44_code
def yX10_onFloor : MethodName := ⟨RX10, "onFloor", "(II)Z"⟩
abbrev cX10_textOf : ByteArray := prog_1_method_45_code
def yX10_textOf : MethodName := ⟨RX10, "textOf", "(I)LDodgemDebate$Text;"⟩
abbrev cX10_settle : ByteArray := prog_1_method_46_code
def yX10_settle : MethodName := ⟨RX10, "settle", "()V"⟩
abbrev cX10_ayesAhead : ByteArray := prog_1_method_47_code
def yX10_ayesAhead : MethodName := ⟨RX10, "ayesAhead", "(I)I"⟩
abbrev cX10_standPart : ByteArray := prog_1_method_48_code
def yX10_standPart : MethodName := ⟨RX10, "standPart", "(II)I"⟩
abbrev cX10_turnPart : ByteArray := prog_1_method_49_code
def yX10_turnPart : MethodName := ⟨RX10, "turnPart", "(II)I"⟩
abbrev cX10_sparePart : ByteArray := prog_1_method_50_code
def yX10_sparePart : MethodName := ⟨RX10, "sparePart", "(II)I"⟩
abbrev cX10_fractionPart : ByteArray := prog_1_method_51_code
def yX10_fractionPart : MethodName := ⟨RX10, "fractionPart", "(JI)J"⟩
def RX11 : String := "DodgemDebateModel"
def TX11 : u_T := fun k => match k with
  | 0 => ("DodgemDebateModel", "typed", "[I", true)
  | 1 => ("DodgemDebateModel", "texts", "[I", true)
  | 2 => ("DodgemDebateModel", "cars", "I", false)
  | 3 => ("DodgemDebateModel", "sorts", "[I", true)
  | 4 => ("DodgemDebateModel", "xTold", "[I", true)
  | 5 => ("DodgemDebateModel", "yTold", "[I", true)
  | 6 => ("DodgemDebateModel", "wayTold", "[I", true)
  | 7 => ("DodgemDebateModel", "weights", "[I", true)
  | 8 => ("DodgemDebateModel", "steers", "I", false)
  | 9 => ("DodgemDebateModel", "steerAt", "[I", true)
  | 10 => ("DodgemDebateModel", "steerOf", "[I", true)
  | 11 => ("DodgemDebateModel", "steerBy", "[I", true)
  | 12 => ("DodgemDebateModel", "events", "I", false)
  | 13 => ("DodgemDebateModel", "eventKind", "[I", true)
  | 14 => ("DodgemDebateModel", "eventAt", "[I", true)
  | 15 => ("DodgemDebateModel", "eventOf", "[I", true)
  | 16 => ("DodgemDebateModel", "steersNow", "I", false)
  | 17 => ("DodgemDebateModel", "eventsNow", "I", false)
  | 18 => ("DodgemDebateModel", "kindNow", "[I", true)
  | 19 => ("DodgemDebateModel", "whenNow", "[I", true)
  | 20 => ("DodgemDebateModel", "ofNow", "[I", true)
  | 21 => ("DodgemDebateModel", "notEvents", "I", false)
  | 22 => ("DodgemDebateModel", "xs", "[I", true)
  | 23 => ("DodgemDebateModel", "ys", "[I", true)
  | 24 => ("DodgemDebateModel", "ways", "[I", true)
  | 25 => ("DodgemDebateModel", "points", "[I", true)
  | 26 => ("DodgemDebateModel", "struck", "[I", true)
  | 27 => ("DodgemDebateModel", "struckBy", "[I", true)
  | 28 => ("DodgemDebateModel", "cutBits", "I", false)
  | 29 => ("DodgemDebateModel", "strikesNow", "I", false)
  | 30 => ("DodgemDebateModel", "firstAt", "I", false)
  | 31 => ("DodgemDebateModel", "firstCar", "I", false)
  | 32 => ("DodgemDebateModel", "xAt", "[I", true)
  | 33 => ("DodgemDebateModel", "yAt", "[I", true)
  | 34 => ("DodgemDebateModel", "wayAt", "[I", true)
  | 35 => ("DodgemDebateModel", "pointAt", "[I", true)
  | 36 => ("DodgemDebateModel", "struckAt", "[I", true)
  | 37 => ("DodgemDebateModel", "cutAt", "[I", true)
  | 38 => ("DodgemDebateModel", "rungAt", "[I", true)
  | 39 => ("DodgemDebateModel", "jamAt", "[I", true)
  | 40 => ("DodgemDebateModel", "planRow", "[I", true)
  | 41 => ("DodgemDebateModel", "seens", "I", false)
  | 42 => ("DodgemDebateModel", "seenAt", "[I", true)
  | 43 => ("DodgemDebateModel", "seenWho", "[I", true)
  | 44 => ("DodgemDebateModel", "seenX", "[I", true)
  | 45 => ("DodgemDebateModel", "seenY", "[I", true)
  | 46 => ("DodgemDebateModel", "cellBy", "[I", true)
  | 47 => ("DodgemDebateModel", "isThere", "[Z", true)
  | 48 => ("DodgemDebateModel", "forms", "[I", true)
  | 49 => ("DodgemDebateModel", "sizes", "[I", true)
  | 50 => ("DodgemDebateModel", "items", "[I", true)
  | 51 => ("DodgemDebateModel", "moved", "[I", true)
  | _ => ("DodgemDebateModel", "finding", "I", false)
def tyX11 : Nat → FieldType := fun k => match k with
  | 0 => .array .int
  | 1 => .array .int
  | 2 => .int
  | 3 => .array .int
  | 4 => .array .int
  | 5 => .array .int
  | 6 => .array .int
  | 7 => .array .int
  | 8 => .int
  | 9 => .array .int
  | 10 => .array .int
  | 11 => .array .int
  | 12 => .int
  | 13 => .array .int
  | 14 => .array .int
  | 15 => .array .int
  | 16 => .int
  | 17 => .int
  | 18 => .array .int
  | 19 => .array .int
  | 20 => .array .int
  | 21 => .int
  | 22 => .array .int
  | 23 => .array .int
  | 24 => .array .int
  | 25 => .array .int
  | 26 => .array .int
  | 27 => .array .int
  | 28 => .int
  | 29 => .int
  | 30 => .int
  | 31 => .int
  | 32 => .array .int
  | 33 => .array .int
  | 34 => .array .int
  | 35 => .array .int
  | 36 => .array .int
  | 37 => .array .int
  | 38 => .array .int
  | 39 => .array .int
  | 40 => .array .int
  | 41 => .int
  | 42 => .array .int
  | 43 => .array .int
  | 44 => .array .int
  | 45 => .array .int
  | 46 => .array .int
  | 47 => .array .boolean
  | 48 => .array .int
  | 49 => .array .int
  | 50 => .array .int
  | 51 => .array .int
  | _ => .int
abbrev wsX110 : List Cond := u_ws RX11 TX11 53
theorem nmX11 : ∀ a, a < 53 → ∀ b, b < 53 → a ≠ b → (TX11 a).2.1 ≠ (TX11 b).2.1 := by decide +kernel
theorem tyX11_ok : ∀ k, k < 53 → parseFieldDescriptor (TX11 k).2.2.1 = some (tyX11 k) := by decide +kernel
abbrev cX11_init : ByteArray := prog_13_method_1_code
def yX11_init : MethodName := ⟨RX11, "<init>", "()V"⟩
abbrev cX11_in : ByteArray := prog_13_method_3_code
def yX11_in : MethodName := ⟨RX11, "in", "(III)Z"⟩
abbrev cX11_isIn : ByteArray := prog_13_method_4_code
def yX11_isIn : MethodName := ⟨RX11, "isIn", "(II)Z"⟩
abbrev cX11_no : ByteArray := prog_13_method_5_code
def yX11_no : MethodName := ⟨RX11, "no", "(I)J"⟩
abbrev cX11_lowest : ByteArray := prog_13_method_6_code
def yX11_lowest : MethodName := ⟨RX11, "lowest", "(JJI)J"⟩
abbrev cX11_isText : ByteArray := prog_13_method_7_code
def yX11_isText : MethodName := ⟨RX11, "isText", "(I)Z"⟩
abbrev cX11_isMoment : ByteArray := prog_13_method_8_code
def yX11_isMoment : MethodName := ⟨RX11, "isMoment", "(I)Z"⟩
abbrev cX11_isTwo : ByteArray := prog_13_method_9_code
def yX11_isTwo : MethodName := ⟨RX11, "isTwo", "(I)Z"⟩
abbrev cX11_isThree : ByteArray := prog_13_method_10_code
def yX11_isThree : MethodName := ⟨RX11, "isThree", "(I)Z"⟩
abbrev cX11_isEight : ByteArray := prog_13_method_11_code
def yX11_isEight : MethodName := ⟨RX11, "isEight", "(I)Z"⟩
abbrev cX11_isSix : ByteArray := prog_13_method_12_code
def yX11_isSix : MethodName := ⟨RX11, "isSix", "(I)Z"⟩
abbrev cX11_type : ByteArray := prog_13_method_13_code
def yX11_type : MethodName := ⟨RX11, "type", "(II)I"⟩
abbrev cX11_wipe : ByteArray := prog_13_method_14_code
def yX11_wipe : MethodName := ⟨RX11, "wipe", "(I)I"⟩
abbrev cX11_undo : ByteArray := prog_13_method_15_code
def yX11_undo : MethodName := ⟨RX11, "undo", "(I)I"⟩
abbrev cX11_byteAt : ByteArray := prog_13_method_16_code
def yX11_byteAt : MethodName := ⟨RX11, "byteAt", "(II)I"⟩
abbrev cX11_wayOf : ByteArray := prog_13_method_17_code
def yX11_wayOf : MethodName := ⟨RX11, "wayOf", "(I)I"⟩
abbrev cX11_sortOf : ByteArray := prog_13_method_18_code
def yX11_sortOf : MethodName := ⟨RX11, "sortOf", "(I)I"⟩
abbrev cX11_isTold : ByteArray := prog_13_method_19_code
def yX11_isTold : MethodName := ⟨RX11, "isTold", "(III)Z"⟩
abbrev cX11_readsCar : ByteArray := prog_13_method_20_code
def yX11_readsCar : MethodName := ⟨RX11, "readsCar", "(II)I"⟩
abbrev cX11_readsSteer : ByteArray := prog_13_method_21_code
def yX11_readsSteer : MethodName := ⟨RX11, "readsSteer", "(II)I"⟩
abbrev cX11_readsParts : ByteArray := prog_13_method_22_code
def yX11_readsParts : MethodName := ⟨RX11, "readsParts", "(I)I"⟩
abbrev cX11_faultOf : ByteArray := prog_13_method_23_code
def yX11_faultOf : MethodName := ⟨RX11, "faultOf", "(I)I"⟩
abbrev cX11_reads : ByteArray := prog_13_method_24_code
def yX11_reads : MethodName := ⟨RX11, "reads", "()V"⟩
abbrev cX11_fault : ByteArray := prog_13_method_25_code
def yX11_fault : MethodName := ⟨RX11, "fault", "(I)I"⟩
abbrev cX11_isCar : ByteArray := prog_13_method_26_code
def yX11_isCar : MethodName := ⟨RX11, "isCar", "(I)Z"⟩
abbrev cX11_carOf : ByteArray := prog_13_method_27_code
def yX11_carOf : MethodName := ⟨RX11, "carOf", "(II)I"⟩
abbrev cX11_car : ByteArray := prog_13_method_28_code
def yX11_car : MethodName := ⟨RX11, "car", "(II)I"⟩
abbrev cX11_steerTold : ByteArray := prog_13_method_29_code
def yX11_steerTold : MethodName := ⟨RX11, "steerTold", "(II)I"⟩
abbrev cX11_steer : ByteArray := prog_13_method_30_code
def yX11_steer : MethodName := ⟨RX11, "steer", "(II)I"⟩
abbrev cX11_event : ByteArray := prog_13_method_31_code
def yX11_event : MethodName := ⟨RX11, "event", "(III)I"⟩
abbrev cX11_back : ByteArray := prog_13_method_32_code
def yX11_back : MethodName := ⟨RX11, "back", "()I"⟩
abbrev cX11_read : ByteArray := prog_13_method_33_code
def yX11_read : MethodName := ⟨RX11, "read", "(I)I"⟩
abbrev cX11_asTold : ByteArray := prog_13_method_34_code
def yX11_asTold : MethodName := ⟨RX11, "asTold", "()V"⟩
abbrev cX11_whoIn : ByteArray := prog_13_method_35_code
def yX11_whoIn : MethodName := ⟨RX11, "whoIn", "(II)I"⟩
abbrev cX11_stepX : ByteArray := prog_13_method_36_code
def yX11_stepX : MethodName := ⟨RX11, "stepX", "(I)I"⟩
abbrev cX11_stepY : ByteArray := prog_13_method_37_code
def yX11_stepY : MethodName := ⟨RX11, "stepY", "(I)I"⟩
abbrev cX11_comes : ByteArray := prog_13_method_38_code
def yX11_comes : MethodName := ⟨RX11, "comes", "(III)V"⟩
abbrev cX11_runsInto : ByteArray := prog_13_method_39_code
def yX11_runsInto : MethodName := ⟨RX11, "runsInto", "(IIII)V"⟩
abbrev cX11_drives : ByteArray := prog_13_method_40_code
def yX11_drives : MethodName := ⟨RX11, "drives", "(II)V"⟩
abbrev cX11_steersAll : ByteArray := prog_13_method_41_code
def yX11_steersAll : MethodName := ⟨RX11, "steersAll", "(I)V"⟩
abbrev cX11_goesBy : ByteArray := prog_13_method_42_code
def yX11_goesBy : MethodName := ⟨RX11, "goesBy", "(I)V"⟩
abbrev cX11_runs : ByteArray := prog_13_method_43_code
def yX11_runs : MethodName := ⟨RX11, "runs", "()V"⟩
abbrev cX11_runsTold : ByteArray := prog_13_method_44_code
def yX11_runsTold : MethodName := ⟨RX11, "runsTold", "()V"⟩
abbrev cX11_atOf : ByteArray := prog_13_method_45_code
def yX11_atOf : MethodName := ⟨RX11, "atOf", "(III)I"⟩
abbrev cX11_at : ByteArray := prog_13_method_46_code
def yX11_at : MethodName := ⟨RX11, "at", "(III)I"⟩
abbrev cX11_whoOf : ByteArray := prog_13_method_47_code
def yX11_whoOf : MethodName := ⟨RX11, "whoOf", "(III)I"⟩
abbrev cX11_who : ByteArray := prog_13_method_48_code
def yX11_who : MethodName := ⟨RX11, "who", "(III)I"⟩
abbrev cX11_ayesAt : ByteArray := prog_13_method_49_code
def yX11_ayesAt : MethodName := ⟨RX11, "ayesAt", "(I)I"⟩
abbrev cX11_houseOf : ByteArray := prog_13_method_50_code
def yX11_houseOf : MethodName := ⟨RX11, "houseOf", "(II)I"⟩
abbrev cX11_house : ByteArray := prog_13_method_51_code
def yX11_house : MethodName := ⟨RX11, "house", "(II)I"⟩
abbrev cX11_strikesOf : ByteArray := prog_13_method_52_code
def yX11_strikesOf : MethodName := ⟨RX11, "strikesOf", "()I"⟩
abbrev cX11_strikes : ByteArray := prog_13_method_53_code
def yX11_strikes : MethodName := ⟨RX11, "strikes", "()I"⟩
abbrev cX11_firstOf : ByteArray := prog_13_method_54_code
def yX11_firstOf : MethodName := ⟨RX11, "firstOf", "(I)I"⟩
abbrev cX11_first : ByteArray := prog_13_method_55_code
def yX11_first : MethodName := ⟨RX11, "first", "(I)I"⟩
abbrev cX11_bestOf : ByteArray := prog_13_method_56_code
def yX11_bestOf : MethodName := ⟨RX11, "bestOf", "()I"⟩
abbrev cX11_best : ByteArray := prog_13_method_57_code
def yX11_best : MethodName := ⟨RX11, "best", "()I"⟩
abbrev cX11_meekNow : ByteArray := prog_13_method_58_code
def yX11_meekNow : MethodName := ⟨RX11, "meekNow", "()I"⟩
abbrev cX11_meekOf : ByteArray := prog_13_method_59_code
def yX11_meekOf : MethodName := ⟨RX11, "meekOf", "()I"⟩
abbrev cX11_meek : ByteArray := prog_13_method_60_code
def yX11_meek : MethodName := ⟨RX11, "meek", "()I"⟩
abbrev cX11_jamOf : ByteArray := prog_13_method_61_code
def yX11_jamOf : MethodName := ⟨RX11, "jamOf", "(I)I"⟩
abbrev cX11_jam : ByteArray := prog_13_method_62_code
def yX11_jam : MethodName := ⟨RX11, "jam", "(I)I"⟩
abbrev cX11_carriedOf : ByteArray := prog_13_method_63_code
def yX11_carriedOf : MethodName := ⟨RX11, "carriedOf", "()I"⟩
abbrev cX11_carried : ByteArray := prog_13_method_64_code
def yX11_carried : MethodName := ⟨RX11, "carried", "()I"⟩
abbrev cX11_isOther : ByteArray := prog_13_method_65_code
def yX11_isOther : MethodName := ⟨RX11, "isOther", "(III)Z"⟩
abbrev cX11_standOf : ByteArray := prog_13_method_66_code
def yX11_standOf : MethodName := ⟨RX11, "standOf", "(II)I"⟩
abbrev cX11_stand : ByteArray := prog_13_method_67_code
def yX11_stand : MethodName := ⟨RX11, "stand", "(II)I"⟩
abbrev cX11_betterOf : ByteArray := prog_13_method_68_code
def yX11_betterOf : MethodName := ⟨RX11, "betterOf", "(III)I"⟩
abbrev cX11_better : ByteArray := prog_13_method_69_code
def yX11_better : MethodName := ⟨RX11, "better", "(III)I"⟩
abbrev cX11_ringOf : ByteArray := prog_13_method_70_code
def yX11_ringOf : MethodName := ⟨RX11, "ringOf", "(I)I"⟩
abbrev cX11_ring : ByteArray := prog_13_method_71_code
def yX11_ring : MethodName := ⟨RX11, "ring", "(I)I"⟩
abbrev cX11_isSpared : ByteArray := prog_13_method_72_code
def yX11_isSpared : MethodName := ⟨RX11, "isSpared", "(I)Z"⟩
abbrev cX11_spareBy : ByteArray := prog_13_method_73_code
def yX11_spareBy : MethodName := ⟨RX11, "spareBy", "()I"⟩
abbrev cX11_ofRow : ByteArray := prog_13_method_74_code
def yX11_ofRow : MethodName := ⟨RX11, "ofRow", "(II)I"⟩
abbrev cX11_spare : ByteArray := prog_13_method_75_code
def yX11_spare : MethodName := ⟨RX11, "spare", "(I)I"⟩
abbrev cX11_seen : ByteArray := prog_13_method_76_code
def yX11_seen : MethodName := ⟨RX11, "seen", "(IIII)I"⟩
abbrev cX11_forget : ByteArray := prog_13_method_77_code
def yX11_forget : MethodName := ⟨RX11, "forget", "()I"⟩
abbrev cX11_isSeen : ByteArray := prog_13_method_78_code
def yX11_isSeen : MethodName := ⟨RX11, "isSeen", "()Z"⟩
abbrev cX11_neverNow : ByteArray := prog_13_method_79_code
def yX11_neverNow : MethodName := ⟨RX11, "neverNow", "()I"⟩
abbrev cX11_never : ByteArray := prog_13_method_80_code
def yX11_never : MethodName := ⟨RX11, "never", "()I"⟩
abbrev cX11_sortsBy : ByteArray := prog_13_method_81_code
def yX11_sortsBy : MethodName := ⟨RX11, "sortsBy", "(I)I"⟩
abbrev cX11_heavyBy : ByteArray := prog_13_method_82_code
def yX11_heavyBy : MethodName := ⟨RX11, "heavyBy", "(I)I"⟩
abbrev cX11_was : ByteArray := prog_13_method_83_code
def yX11_was : MethodName := ⟨RX11, "was", "(II)I"⟩
abbrev cX11_askOf : ByteArray := prog_13_method_84_code
def yX11_askOf : MethodName := ⟨RX11, "askOf", "(I)I"⟩
abbrev cX11_ask : ByteArray := prog_13_method_85_code
def yX11_ask : MethodName := ⟨RX11, "ask", "(I)I"⟩
abbrev cX11_chanceOf : ByteArray := prog_13_method_86_code
def yX11_chanceOf : MethodName := ⟨RX11, "chanceOf", "(III)J"⟩
abbrev cX11_chance : ByteArray := prog_13_method_87_code
def yX11_chance : MethodName := ⟨RX11, "chance", "(III)J"⟩
abbrev cX11_pointsAll : ByteArray := prog_13_method_88_code
def yX11_pointsAll : MethodName := ⟨RX11, "pointsAll", "()I"⟩
abbrev cX11_agesOf : ByteArray := prog_13_method_89_code
def yX11_agesOf : MethodName := ⟨RX11, "agesOf", "(III)I"⟩
abbrev cX11_ages : ByteArray := prog_13_method_90_code
def yX11_ages : MethodName := ⟨RX11, "ages", "(III)I"⟩
abbrev cX11_meets : ByteArray := prog_13_method_91_code
def yX11_meets : MethodName := ⟨RX11, "meets", "(I)I"⟩
abbrev cX11_isSheet : ByteArray := prog_13_method_92_code
def yX11_isSheet : MethodName := ⟨RX11, "isSheet", "(I)Z"⟩
abbrev cX11_sheet : ByteArray := prog_13_method_93_code
def yX11_sheet : MethodName := ⟨RX11, "sheet", "(III)I"⟩
abbrev cX11_lose : ByteArray := prog_13_method_94_code
def yX11_lose : MethodName := ⟨RX11, "lose", "(I)I"⟩
abbrev cX11_lacks : ByteArray := prog_13_method_95_code
def yX11_lacks : MethodName := ⟨RX11, "lacks", "(III)I"⟩
abbrev cX11_keep : ByteArray := prog_13_method_96_code
def yX11_keep : MethodName := ⟨RX11, "keep", "(III)V"⟩
abbrev cX11_put : ByteArray := prog_13_method_97_code
def yX11_put : MethodName := ⟨RX11, "put", "(IIII)I"⟩
abbrev cX11_get : ByteArray := prog_13_method_98_code
def yX11_get : MethodName := ⟨RX11, "get", "(III)I"⟩
abbrev cX11_copy : ByteArray := prog_13_method_99_code
def yX11_copy : MethodName := ⟨RX11, "copy", "(IIIII)I"⟩
abbrev cX11_write : ByteArray := prog_13_method_100_code
def yX11_write : MethodName := ⟨RX11, "write", "(II)I"⟩
abbrev cX11_sumOf : ByteArray := prog_13_method_101_code
def yX11_sumOf : MethodName := ⟨RX11, "sumOf", "(I)I"⟩
abbrev cX11_count : ByteArray := prog_13_method_102_code
def yX11_count : MethodName := ⟨RX11, "count", "(I)I"⟩
abbrev cX11_momentDigest : ByteArray := prog_13_method_103_code
def yX11_momentDigest : MethodName := ⟨RX11, "momentDigest", "(JII)J"⟩
abbrev cX11_carDigest : ByteArray := prog_13_method_104_code
def yX11_carDigest : MethodName := ⟨RX11, "carDigest", "(JI)J"⟩
abbrev cX11_digest : ByteArray := prog_13_method_105_code
def yX11_digest : MethodName := ⟨RX11, "digest", "()J"⟩
def RJ11 : String := "java/lang/Character"
def RJ6 : String := "java/lang/Integer"
abbrev cJ6_bitCount_0f7a4 : ByteArray := prog_15_method_49_code
def yJ6_bitCount_0f7a4 : MethodName := ⟨RJ6, "bitCount", "(I)I"⟩
def RJ9 : String := "java/lang/Math"
abbrev cJ9_max_7cf53 : ByteArray := prog_16_method_65_code
def yJ9_max_7cf53 : MethodName := ⟨RJ9, "max", "(II)I"⟩
abbrev cJ9_min_7cf53 : ByteArray := prog_16_method_69_code
def yJ9_min_7cf53 : MethodName := ⟨RJ9, "min", "(II)I"⟩
def RJ0 : String := "java/lang/String"
abbrev cJ0_length_8abf5 : ByteArray := prog_17_method_54_code
def yJ0_length_8abf5 : MethodName := ⟨RJ0, "length", "()I"⟩
abbrev cJ0_indexOf_0f7a4 : ByteArray := prog_17_method_79_code
def yJ0_indexOf_0f7a4 : MethodName := ⟨RJ0, "indexOf", "(I)I"⟩
abbrev cJ0_indexOf_7cf53 : ByteArray := prog_17_method_80_code
def yJ0_indexOf_7cf53 : MethodName := ⟨RJ0, "indexOf", "(II)I"⟩
abbrev cJ0_coder_7d493 : ByteArray := prog_17_method_152_code
def yJ0_coder_7d493 : MethodName := ⟨RJ0, "coder", "()B"⟩
abbrev cJ0_isLatin1_aae02 : ByteArray := prog_17_method_154_code
def yJ0_isLatin1_aae02 : MethodName := ⟨RJ0, "isLatin1", "()Z"⟩
abbrev cJ0_checkBoundsBeginEnd_23922 : ByteArray := prog_17_method_158_code
def yJ0_checkBoundsBeginEnd_23922 : MethodName := ⟨RJ0, "checkBoundsBeginEnd", "(III)V"⟩
def RJ1 : String := "java/lang/StringLatin1"
abbrev cJ1_canEncode_9a6ad : ByteArray := prog_18_method_4_code
def yJ1_canEncode_9a6ad : MethodName := ⟨RJ1, "canEncode", "(I)Z"⟩
abbrev cJ1_indexOf_4cfef : ByteArray := prog_18_method_22_code
def yJ1_indexOf_4cfef : MethodName := ⟨RJ1, "indexOf", "([BIII)I"⟩
abbrev cJ1_indexOfChar_4cfef : ByteArray := prog_18_method_23_code
def yJ1_indexOfChar_4cfef : MethodName := ⟨RJ1, "indexOfChar", "([BIII)I"⟩
def RJ2 : String := "java/lang/StringUTF16"
def RJ10 : String := "java/lang/System"
def RJ7 : String := "java/util/Arrays"
abbrev cJ7_fill_53178 : ByteArray := prog_21_method_103_code
def yJ7_fill_53178 : MethodName := ⟨RJ7, "fill", "([II)V"⟩
def RJ3 : String := "jdk/internal/util/Preconditions"
def RL : String := "DodgemDebateLaw"
abbrev cL_law : ByteArray := code
def yL_law : MethodName := ⟨RL, "law", "([I)Z"⟩
abbrev vwCl : List vw_C := [(RX0, TX0, 5), (RX1, TX1, 4), (RX2, TX2, 1), (RX3, TX3, 10), (RX4, TX4, 4), (RX5, TX5, 5), (RX6, TX6, 5), (RX7, TX7, 2), (RX9, TX9, 10), (RX10, TX10, 11), (RX11, TX11, 53)]
end
section
/-! ===== the small machine: what a frame of the system does, over a store of numbers ===== -/
def mshpL : List (Nat × Nat) := [(9, 11), (7, 2), (11, 47), (7, 2), (11, 47), (0, 5), (13, 8), (11, 5), (11, 5), (11, 5), (11, 5), (11, 5), (11, 5), (11, 5), (11, 5), (6, 5), (13, 13), (11, 3), (11, 3), (11, 3), (11, 3), (11, 3), (11, 3), (11, 3), (11, 3), (11, 3), (11, 3), (11, 3), (11, 3), (11, 3), (1, 4), (11, 8), (11, 8), (11, 8), (5, 5), (11, 8), (11, 8), (11, 8), (11, 8), (4, 4), (13, 4), (11, 60), (11, 60), (11, 60), (11, 60), (11, 4), (11, 4), (3, 10), (13, 6), (11, 8), (11, 8), (11, 8), (11, 8), (11, 8), (11, 8), (13, 6), (11, 192), (11, 192), (11, 192), (11, 192), (11, 192), (11, 192), (11, 36), (11, 24), (11, 24), (8, 10), (0, 5), (13, 8), (11, 5), (11, 5), (11, 5), (11, 5), (11, 5), (11, 5), (11, 5), (11, 5), (1, 4), (11, 8), (11, 8), (11, 8), (3, 10), (13, 6), (11, 8), (11, 8), (11, 8), (11, 8), (11, 8), (11, 8), (13, 6), (11, 192), (11, 192), (11, 192), (11, 192), (11, 192), (11, 192), (11, 36), (11, 24), (11, 24), (13, 10), (11, 24), (11, 24), (11, 24), (11, 24), (11, 24), (11, 24), (11, 24), (11, 24), (11, 24), (11, 24), (11, 256), (2, 1), (10, 53), (11, 2), (11, 94), (11, 9), (11, 9), (11, 9), (11, 9), (11, 9), (11, 13), (11, 13), (11, 13), (11, 9), (11, 9), (11, 9), (11, 9), (11, 9), (11, 9), (11, 8), (11, 8), (11, 8), (11, 8), (11, 8), (11, 8), (11, 192), (11, 192), (11, 192), (11, 192), (11, 192), (11, 24), (11, 24), (11, 24), (11, 2), (11, 8), (11, 8), (11, 8), (11, 8), (11, 240), (12, 4), (11, 4), (11, 4), (11, 240), (11, 60)]
/-- the shape of the cell x: (class, fields), (11, length) ints, (12, length) booleans, (13, length) rows of ints -/
def mshp (x : Nat) : Nat × Nat := mshpL.getD x (99, 0)
abbrev mNA : Nat := 153
def mkd (ci k : Nat) : Nat := match ci, k with
  | 0, 0 => 1
  | 1, 0 => 1
  | 1, 1 => 1
  | 1, 2 => 1
  | 3, 0 => 1
  | 3, 1 => 1
  | 3, 2 => 1
  | 3, 3 => 1
  | 3, 4 => 1
  | 4, 0 => 1
  | 4, 1 => 1
  | 4, 2 => 1
  | 5, 0 => 1
  | 5, 1 => 1
  | 5, 2 => 1
  | 5, 3 => 1
  | 6, 0 => 1
  | 7, 0 => 1
  | 8, 4 => 1
  | 8, 5 => 1
  | 8, 6 => 1
  | 8, 7 => 1
  | 8, 8 => 1
  | 9, 0 => 1
  | 9, 1 => 1
  | 9, 2 => 1
  | 9, 3 => 1
  | 9, 4 => 1
  | 9, 5 => 1
  | 9, 6 => 1
  | 9, 7 => 1
  | 9, 8 => 1
  | 9, 9 => 1
  | 10, 0 => 1
  | 10, 1 => 1
  | 10, 3 => 1
  | 10, 4 => 1
  | 10, 5 => 1
  | 10, 6 => 1
  | 10, 7 => 1
  | 10, 9 => 1
  | 10, 10 => 1
  | 10, 11 => 1
  | 10, 13 => 1
  | 10, 14 => 1
  | 10, 15 => 1
  | 10, 18 => 1
  | 10, 19 => 1
  | 10, 20 => 1
  | 10, 22 => 1
  | 10, 23 => 1
  | 10, 24 => 1
  | 10, 25 => 1
  | 10, 26 => 1
  | 10, 27 => 1
  | 10, 32 => 1
  | 10, 33 => 1
  | 10, 34 => 1
  | 10, 35 => 1
  | 10, 36 => 1
  | 10, 37 => 1
  | 10, 38 => 1
  | 10, 39 => 1
  | 10, 40 => 1
  | 10, 42 => 1
  | 10, 43 => 1
  | 10, 44 => 1
  | 10, 45 => 1
  | 10, 46 => 1
  | 10, 47 => 1
  | 10, 48 => 1
  | 10, 49 => 1
  | 10, 50 => 1
  | 10, 51 => 1
  | 8, 0 => 1
  | 8, 1 => 1
  | 8, 2 => 1
  | 8, 3 => 1
  | 2, 0 => 2
  | _, _ => 0
def moff (ci x k : Nat) : Nat := match ci, k with
  | 8, 0 => 5
  | 8, 1 => 15
  | 8, 2 => 30
  | 8, 3 => 34
  | 0, 0 => x + 1
  | 1, 0 => x + 1
  | 1, 1 => x + 2
  | 1, 2 => x + 3
  | 3, 0 => x + 1
  | 3, 1 => x + 8
  | 3, 2 => x + 15
  | 3, 3 => x + 16
  | 3, 4 => x + 17
  | 4, 0 => x + 1
  | 4, 1 => x + 6
  | 4, 2 => x + 7
  | 5, 0 => x + 1
  | 5, 1 => x + 2
  | 5, 2 => x + 3
  | 5, 3 => x + 4
  | 6, 0 => x + 1
  | 7, 0 => x + 1
  | 8, 4 => x + 1
  | 8, 5 => x + 11
  | 8, 6 => x + 15
  | 8, 7 => x + 33
  | 8, 8 => x + 44
  | 9, 0 => x + 1
  | 9, 1 => x + 3
  | 9, 2 => x + 5
  | 9, 3 => x + 15
  | 9, 4 => x + 30
  | 9, 5 => x + 34
  | 9, 6 => x + 39
  | 9, 7 => x + 47
  | 9, 8 => x + 65
  | 9, 9 => x + 110
  | 10, 0 => x + 1
  | 10, 1 => x + 2
  | 10, 3 => x + 3
  | 10, 4 => x + 4
  | 10, 5 => x + 5
  | 10, 6 => x + 6
  | 10, 7 => x + 7
  | 10, 9 => x + 8
  | 10, 10 => x + 9
  | 10, 11 => x + 10
  | 10, 13 => x + 11
  | 10, 14 => x + 12
  | 10, 15 => x + 13
  | 10, 18 => x + 14
  | 10, 19 => x + 15
  | 10, 20 => x + 16
  | 10, 22 => x + 17
  | 10, 23 => x + 18
  | 10, 24 => x + 19
  | 10, 25 => x + 20
  | 10, 26 => x + 21
  | 10, 27 => x + 22
  | 10, 32 => x + 23
  | 10, 33 => x + 24
  | 10, 34 => x + 25
  | 10, 35 => x + 26
  | 10, 36 => x + 27
  | 10, 37 => x + 28
  | 10, 38 => x + 29
  | 10, 39 => x + 30
  | 10, 40 => x + 31
  | 10, 42 => x + 32
  | 10, 43 => x + 33
  | 10, 44 => x + 34
  | 10, 45 => x + 35
  | 10, 46 => x + 36
  | 10, 47 => x + 37
  | 10, 48 => x + 38
  | 10, 49 => x + 39
  | 10, 50 => x + 40
  | 10, 51 => x + 41
  | _, _ => 0
abbrev mS : Type := (Nat → Nat → Int32) × Int64
/-- the names of things in the real heap: classes and slots, array classes, what may be written, addresses, the script -/
abbrev mG : Type := va_G × (Nat → ClassId) × (Nat → Prop) × (Nat → Nat) × Nat × (Nat → Int32)
abbrev mM : Type := MethodName × ByteArray × Nat × Option FieldType
def mv (G : mG) : Value → Value
  | .ref x => .ref (G.2.2.2.1 x)
  | v => v
theorem mv_cat {G : mG} {v : Value} {n : Nat} (h : v.category = n) : (mv G v).category = n := by cases v <;> exact h
theorem mv_cats {G : mG} (st : List Value) : ((st.map (mv G)).map fun v => v.category) = st.map fun v => v.category := by
  rw [List.map_map]
  exact List.map_congr_left (fun v _ => mv_cat rfl)
def mlv (G : mG) (q : Nat × Value) : Nat × Value := (q.1, mv G q.2)
theorem mlv_at {G : mG} {ls : List (Nat × Value)} {j i : Nat} {v : Value} (h : ls[j]? = some (i, v)) : (ls.map (mlv G))[j]? = some (i, mv G v) := by
  rw [List.getElem?_map, h]; rfl
def mst1 (i : Nat) (v : Value) (ls : List (Nat × Value)) : List (Nat × Value) := (i, v) :: ls.filter (fun q => !(q.1 == i) && !(q.1 + 1 == i && q.2.category == 2))
def mst2 (i : Nat) (v : Value) (ls : List (Nat × Value)) : List (Nat × Value) := (i, v) :: ls.filter (fun q => !(q.1 == i) && (!(q.1 == i + 1) && !(q.1 + 1 == i && q.2.category == 2)))
theorem mst1_map {G : mG} (i : Nat) (v : Value) (ls : List (Nat × Value)) : (i, mv G v) :: (ls.map (mlv G)).filter (fun q => !(q.1 == i) && !(q.1 + 1 == i && q.2.category == 2)) = (mst1 i v ls).map (mlv G) := by
  unfold mst1
  rw [List.map_cons, List.filter_map]
  refine congrArg _ (congrArg (List.map (mlv G)) (List.filter_congr fun q _ => ?_))
  show (!(q.1 == i) && !(q.1 + 1 == i && (mv G q.2).category == 2)) = _
  rw [mv_cat rfl]
theorem mst2_map {G : mG} (i : Nat) (v : Value) (ls : List (Nat × Value)) : (i, mv G v) :: (ls.map (mlv G)).filter (fun q => !(q.1 == i) && (!(q.1 == i + 1) && !(q.1 + 1 == i && q.2.category == 2))) = (mst2 i v ls).map (mlv G) := by
  unfold mst2
  rw [List.map_cons, List.filter_map]
  refine congrArg _ (congrArg (List.map (mlv G)) (List.filter_congr fun q _ => ?_))
  show (!(q.1 == i) && (!(q.1 == i + 1) && !(q.1 + 1 == i && (mv G q.2).category == 2))) = _
  rw [mv_cat rfl]
def mfv (G : mG) (σ : mS) (ci x k : Nat) : Value := match mkd ci k with
  | 0 => .int (σ.1 x k)
  | 1 => .ref (G.2.2.2.1 (moff ci x k))
  | _ => .long σ.2
/-- what the cell x holds -/
def mE (G : mG) (σ : mS) (x : Nat) : va_E := match (mshp x).1 with
  | 11 => .inl (G.2.1 0, (mshp x).2, .inl (σ.1 x))
  | 12 => .inl (G.2.1 2, (mshp x).2, .inl (σ.1 x))
  | 13 => .inl (G.2.1 1, (mshp x).2, .inr (.inr (.inr (.inr (fun j => some (G.2.2.2.1 (x + 1 + j)))))))
  | ci => .inr (ci, (List.range (mshp x).2).map (mfv G σ ci x))
def mws (G : mG) (σ : mS) : va_W := (List.range mNA).map (fun x => (G.2.2.2.1 x, mE G σ x))
theorem mws_at {G : mG} {σ : mS} {x : Nat} (h : x < mNA) : (mws G σ)[x]? = some (G.2.2.2.1 x, mE G σ x) := by
  unfold mws
  rw [List.getElem?_map, List.getElem?_range h]
  rfl
theorem mshp_lt {x t n : Nat} (h : mshp x = (t, n)) (ht : t ≠ 99) : x < mNA := by
  by_cases hx : x < mNA
  · exact hx
  · exfalso
    apply ht
    have h1 : mshp x = (99, 0) := by
      unfold mshp
      rw [List.getD_eq_getElem?_getD, List.getElem?_eq_none (by show mshpL.length ≤ x; exact Nat.le_of_not_lt hx)]
      rfl
    rw [h1] at h
    exact (congrArg Prod.fst h).symm
/-- the words that go from frame to frame -/
def mxtra : List Cond := [.selects "DodgemDebate$Cars" ⟨"DodgemDebate$Told", "takes", "(IIC)Z"⟩ ⟨"DodgemDebate$Told", "takes", "(IIC)Z"⟩, .selects "DodgemDebate$Steers" ⟨"DodgemDebate$Told", "takes", "(IIC)Z"⟩ ⟨"DodgemDebate$Told", "takes", "(IIC)Z"⟩]
def mtbl : List Cond := (mxtra ++ lw_tbl).filter goodWord
def mnest : List Cond := [.fieldLinkNest "DodgemDebate$Run" 93 "DodgemDebate" "STEP_X" "[I" "DodgemDebate", .fieldLinkNest "DodgemDebate$Run" 96 "DodgemDebate" "STEP_Y" "[I" "DodgemDebate", .methodLinkNest "DodgemDebate$Run" 99 ⟨"DodgemDebate", "onFloor", "(II)Z"⟩ "DodgemDebate", .methodLinkNest "DodgemDebate$Events" 21 ⟨"DodgemDebate", "within", "(II)Z"⟩ "DodgemDebate", .methodLinkNest "DodgemDebate$Sheets" 37 ⟨"DodgemDebate", "within", "(II)Z"⟩ "DodgemDebate", .declares ⟨"DodgemDebate$Told", "meaning", "(IIC)I"⟩, .declares ⟨"DodgemDebate$Told", "learn", "(LDodgemDebate$Text;)V"⟩]
def mstr : List (String × Nat × String × List Int32) := [("DodgemDebate$Cars", 13, "bmh", [98, 109, 104]), ("DodgemDebate$Cars", 21, "012345", [48, 49, 50, 51, 52, 53]), ("DodgemDebate$Cars", 27, "enws", [101, 110, 119, 115]), ("DodgemDebate$Cars", 29, "0123456789", [48, 49, 50, 51, 52, 53, 54, 55, 56, 57]), ("DodgemDebate$Steers", 13, "abcdefghijklmnopqrstuvwx", [97, 98, 99, 100, 101, 102, 103, 104, 105, 106, 107, 108, 109, 110, 111, 112, 113, 114, 115, 116, 117, 118, 119, 120]), ("DodgemDebate$Steers", 21, "01234567", [48, 49, 50, 51, 52, 53, 54, 55])]
def msta : List (String × List Int32) := [("STEP_X", [1, 0, -1, 0]), ("STEP_Y", [0, 1, 0, -1]), ("DIGEST_MOMENTS", [0, 7, 15, 23])]
/-- what lies outside: statics 1000 on, texts 1010 on, their bytes 1020 on, the script 1030 -/
def mExt (G : mG) (U : State) (H : Heap) : Prop :=
  (∀ w ∈ mnest, va_Nw w U) ∧
  (∀ (i : Nat) (q : String × List Int32), msta[i]? = some q → va_Z "DodgemDebate" q.1 "[I" (.ref (G.2.2.2.1 (1000 + i))) G.2.2.1 U H ∧ va_T .int (G.2.2.2.1 (1000 + i)) q.2.length (fun j => .int (q.2.getD j 0)) G.2.2.1 U H) ∧
  va_Z "java/lang/String" "COMPACT_STRINGS" "Z" (.int 1) G.2.2.1 U H ∧
  (∀ (i : Nat) (q : String × Nat × String × List Int32), mstr[i]? = some q → vk_R q.1 q.2.1 q.2.2.1 (G.2.2.2.1 (1010 + i)) U ∧ va_O "java/lang/String" (G.2.2.2.1 (1010 + i)) G.2.2.1 U H ∧ va_OF "java/lang/String" "coder" "B" (.int 0) (G.2.2.2.1 (1010 + i)) G.2.2.1 U H ∧ va_OF "java/lang/String" "value" "[B" (.ref (G.2.2.2.1 (1020 + i))) (G.2.2.2.1 (1010 + i)) G.2.2.1 U H ∧ va_T .byte (G.2.2.2.1 (1020 + i)) q.2.2.2.length (fun j => .int (q.2.2.2.getD j 0)) G.2.2.1 U H) ∧
  va_T .int (G.2.2.2.1 1030) G.2.2.2.2.1 (fun j => .int (G.2.2.2.2.2 j)) G.2.2.1 U H
def mtys (G : mG) : List (ClassId × FieldType) := [(G.2.1 0, .int), (G.2.1 1, .array .int), (G.2.1 2, .boolean)]
/-- what holds of the tables and of what lies outside, at a state -/
def mEnv (G : mG) (U : State) : Prop := va_K G.1 vwCl (mtys G) U ∧ mExt G U U.heap ∧ (∀ q, U.heap.size ≤ q → G.2.2.1 q) ∧ (∀ x y, x < mNA → y < mNA → G.2.2.2.1 x = G.2.2.2.1 y → x = y) ∧ ∀ x, x < mNA → G.2.2.1 (G.2.2.2.1 x)
def mFix (G : mG) (μ : mM) (p : Program) (s : State) (m : MethodId) (args : Array Value) (meth : Method) (c : Code) : Prop :=
  p.tables.exec = Jvm.exec ∧ c.code = μ.2.1 ∧ c.maxLocals = μ.2.2.1 ∧ meth.sig.returnType = μ.2.2.2 ∧ s.vm.findClass μ.1.cls = some m.cls ∧ (∀ w ∈ mtbl, w.before args s = true) ∧ meth.locks = false ∧ mEnv G s
def mRet (μ : mM) (pc : Nat) : Option Value → Prop
  | none => decode μ.2.1 pc = .ok (.return_, 1)
  | some (.int _) => decode μ.2.1 pc = .ok (.ireturn, 1)
  | some (.long _) => decode μ.2.1 pc = .ok (.lreturn, 1)
  | some (.ref _) => decode μ.2.1 pc = .ok (.areturn, 1)
  | _ => False
/-- the judgement: from the frame of method μ at pc with these locals, this stack, this store, it comes to a return that Q allows; d frames are left -/
def mW (G : mG) (l : Launch) (d : Nat) (μ : mM) (pc : Nat) (ls : List (Nat × Value)) (st : List Value) (σ : mS) (Q : Option Value → mS → Prop) : Prop :=
  ∀ (p : Program) (e : Env) (s : State) (m : MethodId) (args : Array Value) (below : List Frame) (meth : Method) (c : Code) (H : Heap) (locs : List Loc) (cells slots : Nat) (lsr : Array Slot) (Z : State → Prop) (R : Room),
    (d ≤ R.frames ∧ 39 * d ≤ R.locals ∧ cells ≤ R.cells ∧ slots ≤ R.slots) → mFix G μ p s m args meth c → va_P G.1 vwCl (mws G σ) H → va_S G.2.2.1 s.heap H locs → lv_has lsr μ.2.2.1 (ls.map (mlv G)) →
    (∀ (v : Option Value) (σ1 : mS) (H1 : Heap) (locs1 : List Loc) (lsr1 : Array Slot) (pc1 : Nat), Q v σ1 → va_P G.1 vwCl (mws G σ1) H1 → va_S G.2.2.1 s.heap H1 locs1 → mRet μ pc1 v → W p l e R s m args below meth c H1 locs1 cells slots Z (F0 m pc1 lsr1 ((v.map (mv G)).toList))) →
    W p l e R s m args below meth c H locs cells slots Z (F0 m pc lsr (st.map (mv G)))
section MM
variable {G : mG} {l : Launch} {d : Nat} {μ : mM} {pc : Nat} {ls : List (Nat × Value)} {st : List Value} {σ : mS} {Q : Option Value → mS → Prop}
theorem mW.post {Q1 : Option Value → mS → Prop} (h : mW G l d μ pc ls st σ Q1) (hq : ∀ v σ1, Q1 v σ1 → Q v σ1) : mW G l d μ pc ls st σ Q :=
  fun p e s m args below meth c H locs cells slots lsr Z R hR hF hP hS hl hQ => h p e s m args below meth c H locs cells slots lsr Z R hR hF hP hS hl (fun v σ1 H1 locs1 lsr1 pc1 h1 => hQ v σ1 H1 locs1 lsr1 pc1 (hq v σ1 h1))
theorem lv_pick_map (ls : List (Nat × Value)) : ∀ ks : List Nat, lv_pick (ls.map (mlv G)) ks = (lv_pick ls ks).map (mlv G)
  | [] => rfl
  | k :: ks => by
    have ih := lv_pick_map ls ks
    unfold lv_pick at ih ⊢
    rw [List.filterMap_cons, List.filterMap_cons, List.getElem?_map]
    cases ls[k]? with
    | none => exact ih
    | some q => exact congrArg (List.cons _) ih
/-- fewer locals, by their places -/
theorem mW.sub {ls1 : List (Nat × Value)} (ks : List Nat) (h1 : lv_pick ls ks = ls1) (h : mW G l d μ pc ls1 st σ Q) : mW G l d μ pc ls st σ Q := by
  subst h1
  intro p e s m args below meth c H locs cells slots lsr Z R hR hF hP hS hl hQ
  exact h p e s m args below meth c H locs cells slots lsr Z R hR hF hP hS (lv_sub hl ks (lv_pick_map ls ks)) hQ

theorem m_iadd {x y : Int32} (hd : decode μ.2.1 pc = .ok (.iadd, 1))  (k : mW G l d μ (pc + 1) ls (.int (x + y) :: st) σ Q) : mW G l d μ pc ls (.int y :: .int x :: st) σ Q :=
  fun p e s m args below meth c H locs cells slots lsr Z R hR hF hP hS hl hQ => lv_iadd hF.1 hF.2.1 hd  (k p e s m args below meth c H locs cells slots lsr Z R hR hF hP hS hl hQ)
theorem m_isub {x y : Int32} (hd : decode μ.2.1 pc = .ok (.isub, 1))  (k : mW G l d μ (pc + 1) ls (.int (x - y) :: st) σ Q) : mW G l d μ pc ls (.int y :: .int x :: st) σ Q :=
  fun p e s m args below meth c H locs cells slots lsr Z R hR hF hP hS hl hQ => lv_isub hF.1 hF.2.1 hd  (k p e s m args below meth c H locs cells slots lsr Z R hR hF hP hS hl hQ)
theorem m_imul {x y : Int32} (hd : decode μ.2.1 pc = .ok (.imul, 1))  (k : mW G l d μ (pc + 1) ls (.int (x * y) :: st) σ Q) : mW G l d μ pc ls (.int y :: .int x :: st) σ Q :=
  fun p e s m args below meth c H locs cells slots lsr Z R hR hF hP hS hl hQ => lv_imul hF.1 hF.2.1 hd  (k p e s m args below meth c H locs cells slots lsr Z R hR hF hP hS hl hQ)
theorem m_iand {x y : Int32} (hd : decode μ.2.1 pc = .ok (.iand, 1))  (k : mW G l d μ (pc + 1) ls (.int (x &&& y) :: st) σ Q) : mW G l d μ pc ls (.int y :: .int x :: st) σ Q :=
  fun p e s m args below meth c H locs cells slots lsr Z R hR hF hP hS hl hQ => lv_iand hF.1 hF.2.1 hd  (k p e s m args below meth c H locs cells slots lsr Z R hR hF hP hS hl hQ)
theorem m_ior {x y : Int32} (hd : decode μ.2.1 pc = .ok (.ior, 1))  (k : mW G l d μ (pc + 1) ls (.int (x ||| y) :: st) σ Q) : mW G l d μ pc ls (.int y :: .int x :: st) σ Q :=
  fun p e s m args below meth c H locs cells slots lsr Z R hR hF hP hS hl hQ => lv_ior hF.1 hF.2.1 hd  (k p e s m args below meth c H locs cells slots lsr Z R hR hF hP hS hl hQ)
theorem m_ixor {x y : Int32} (hd : decode μ.2.1 pc = .ok (.ixor, 1))  (k : mW G l d μ (pc + 1) ls (.int (x ^^^ y) :: st) σ Q) : mW G l d μ pc ls (.int y :: .int x :: st) σ Q :=
  fun p e s m args below meth c H locs cells slots lsr Z R hR hF hP hS hl hQ => lv_ixor hF.1 hF.2.1 hd  (k p e s m args below meth c H locs cells slots lsr Z R hR hF hP hS hl hQ)
theorem m_ishl {x y : Int32} (hd : decode μ.2.1 pc = .ok (.ishl, 1))  (k : mW G l d μ (pc + 1) ls (.int (x <<< (y &&& 31)) :: st) σ Q) : mW G l d μ pc ls (.int y :: .int x :: st) σ Q :=
  fun p e s m args below meth c H locs cells slots lsr Z R hR hF hP hS hl hQ => lv_ishl hF.1 hF.2.1 hd  (k p e s m args below meth c H locs cells slots lsr Z R hR hF hP hS hl hQ)
theorem m_ishr {x y : Int32} (hd : decode μ.2.1 pc = .ok (.ishr, 1))  (k : mW G l d μ (pc + 1) ls (.int (x >>> (y &&& 31)) :: st) σ Q) : mW G l d μ pc ls (.int y :: .int x :: st) σ Q :=
  fun p e s m args below meth c H locs cells slots lsr Z R hR hF hP hS hl hQ => lv_ishr hF.1 hF.2.1 hd  (k p e s m args below meth c H locs cells slots lsr Z R hR hF hP hS hl hQ)
theorem m_iushr {x y v : Int32} (hd : decode μ.2.1 pc = .ok (.iushr, 1)) (hv : (x.toUInt32 >>> (y.toUInt32 &&& Int32.toUInt32 31)).toInt32 = v) (k : mW G l d μ (pc + 1) ls (.int v :: st) σ Q) : mW G l d μ pc ls (.int y :: .int x :: st) σ Q :=
  fun p e s m args below meth c H locs cells slots lsr Z R hR hF hP hS hl hQ => lv_iushr hF.1 hF.2.1 hd hv (k p e s m args below meth c H locs cells slots lsr Z R hR hF hP hS hl hQ)
theorem m_idiv {x y : Int32} (hd : decode μ.2.1 pc = .ok (.idiv, 1)) (hne : ¬ y = 0) (k : mW G l d μ (pc + 1) ls (.int (x / y) :: st) σ Q) : mW G l d μ pc ls (.int y :: .int x :: st) σ Q :=
  fun p e s m args below meth c H locs cells slots lsr Z R hR hF hP hS hl hQ => lv_idiv hF.1 hF.2.1 hd hne (k p e s m args below meth c H locs cells slots lsr Z R hR hF hP hS hl hQ)
theorem m_irem {x y : Int32} (hd : decode μ.2.1 pc = .ok (.irem, 1)) (hne : ¬ y = 0) (k : mW G l d μ (pc + 1) ls (.int (x - x / y * y) :: st) σ Q) : mW G l d μ pc ls (.int y :: .int x :: st) σ Q :=
  fun p e s m args below meth c H locs cells slots lsr Z R hR hF hP hS hl hQ => lv_irem hF.1 hF.2.1 hd hne (k p e s m args below meth c H locs cells slots lsr Z R hR hF hP hS hl hQ)
theorem m_ineg {x : Int32} (hd : decode μ.2.1 pc = .ok (.ineg, 1))  (k : mW G l d μ (pc + 1) ls (.int (-x) :: st) σ Q) : mW G l d μ pc ls (.int x :: st) σ Q :=
  fun p e s m args below meth c H locs cells slots lsr Z R hR hF hP hS hl hQ => lv_ineg hF.1 hF.2.1 hd  (k p e s m args below meth c H locs cells slots lsr Z R hR hF hP hS hl hQ)
theorem m_ladd {x y : Int64} (hd : decode μ.2.1 pc = .ok (.ladd, 1))  (k : mW G l d μ (pc + 1) ls (.long (x + y) :: st) σ Q) : mW G l d μ pc ls (.long y :: .long x :: st) σ Q :=
  fun p e s m args below meth c H locs cells slots lsr Z R hR hF hP hS hl hQ => lv_ladd hF.1 hF.2.1 hd  (k p e s m args below meth c H locs cells slots lsr Z R hR hF hP hS hl hQ)
theorem m_lsub {x y : Int64} (hd : decode μ.2.1 pc = .ok (.lsub, 1))  (k : mW G l d μ (pc + 1) ls (.long (x - y) :: st) σ Q) : mW G l d μ pc ls (.long y :: .long x :: st) σ Q :=
  fun p e s m args below meth c H locs cells slots lsr Z R hR hF hP hS hl hQ => lv_lsub hF.1 hF.2.1 hd  (k p e s m args below meth c H locs cells slots lsr Z R hR hF hP hS hl hQ)
theorem m_lmul {x y : Int64} (hd : decode μ.2.1 pc = .ok (.lmul, 1))  (k : mW G l d μ (pc + 1) ls (.long (x * y) :: st) σ Q) : mW G l d μ pc ls (.long y :: .long x :: st) σ Q :=
  fun p e s m args below meth c H locs cells slots lsr Z R hR hF hP hS hl hQ => lv_lmul hF.1 hF.2.1 hd  (k p e s m args below meth c H locs cells slots lsr Z R hR hF hP hS hl hQ)
theorem m_land {x y : Int64} (hd : decode μ.2.1 pc = .ok (.land, 1))  (k : mW G l d μ (pc + 1) ls (.long (x &&& y) :: st) σ Q) : mW G l d μ pc ls (.long y :: .long x :: st) σ Q :=
  fun p e s m args below meth c H locs cells slots lsr Z R hR hF hP hS hl hQ => lv_land hF.1 hF.2.1 hd  (k p e s m args below meth c H locs cells slots lsr Z R hR hF hP hS hl hQ)
theorem m_ldiv {x y : Int64} (hd : decode μ.2.1 pc = .ok (.ldiv, 1)) (hne : ¬ y = 0) (k : mW G l d μ (pc + 1) ls (.long (x / y) :: st) σ Q) : mW G l d μ pc ls (.long y :: .long x :: st) σ Q :=
  fun p e s m args below meth c H locs cells slots lsr Z R hR hF hP hS hl hQ => lv_ldiv hF.1 hF.2.1 hd hne (k p e s m args below meth c H locs cells slots lsr Z R hR hF hP hS hl hQ)
theorem m_lrem {x y : Int64} (hd : decode μ.2.1 pc = .ok (.lrem, 1)) (hne : ¬ y = 0) (k : mW G l d μ (pc + 1) ls (.long (x - x / y * y) :: st) σ Q) : mW G l d μ pc ls (.long y :: .long x :: st) σ Q :=
  fun p e s m args below meth c H locs cells slots lsr Z R hR hF hP hS hl hQ => lv_lrem hF.1 hF.2.1 hd hne (k p e s m args below meth c H locs cells slots lsr Z R hR hF hP hS hl hQ)
theorem m_lshl {x : Int64} {y : Int32} (hd : decode μ.2.1 pc = .ok (.lshl, 1))  (k : mW G l d μ (pc + 1) ls (.long (x <<< (y.toInt64 &&& 63)) :: st) σ Q) : mW G l d μ pc ls (.int y :: .long x :: st) σ Q :=
  fun p e s m args below meth c H locs cells slots lsr Z R hR hF hP hS hl hQ => lv_lshl hF.1 hF.2.1 hd rfl (k p e s m args below meth c H locs cells slots lsr Z R hR hF hP hS hl hQ)
theorem m_lcmp {x y : Int64} (hd : decode μ.2.1 pc = .ok (.lcmp, 1))  (k : mW G l d μ (pc + 1) ls (.int (lg_cmp x y) :: st) σ Q) : mW G l d μ pc ls (.long y :: .long x :: st) σ Q :=
  fun p e s m args below meth c H locs cells slots lsr Z R hR hF hP hS hl hQ => W.lcmp hF.1 hF.2.1 hd  (k p e s m args below meth c H locs cells slots lsr Z R hR hF hP hS hl hQ)
theorem m_i2l {x : Int32} (hd : decode μ.2.1 pc = .ok (.i2l, 1))  (k : mW G l d μ (pc + 1) ls (.long x.toInt64 :: st) σ Q) : mW G l d μ pc ls (.int x :: st) σ Q :=
  fun p e s m args below meth c H locs cells slots lsr Z R hR hF hP hS hl hQ => lv_i2l hF.1 hF.2.1 hd rfl (k p e s m args below meth c H locs cells slots lsr Z R hR hF hP hS hl hQ)
theorem m_i2b {x : Int32} (hd : decode μ.2.1 pc = .ok (.i2b, 1))  (k : mW G l d μ (pc + 1) ls (.int x.toInt8.toInt32 :: st) σ Q) : mW G l d μ pc ls (.int x :: st) σ Q :=
  fun p e s m args below meth c H locs cells slots lsr Z R hR hF hP hS hl hQ => lv_i2b hF.1 hF.2.1 hd rfl (k p e s m args below meth c H locs cells slots lsr Z R hR hF hP hS hl hQ)
theorem m_i2s {x : Int32} (hd : decode μ.2.1 pc = .ok (.i2s, 1))  (k : mW G l d μ (pc + 1) ls (.int x.toInt16.toInt32 :: st) σ Q) : mW G l d μ pc ls (.int x :: st) σ Q :=
  fun p e s m args below meth c H locs cells slots lsr Z R hR hF hP hS hl hQ => lv_i2s hF.1 hF.2.1 hd rfl (k p e s m args below meth c H locs cells slots lsr Z R hR hF hP hS hl hQ)
theorem m_i2c {x : Int32} (hd : decode μ.2.1 pc = .ok (.i2c, 1))  (k : mW G l d μ (pc + 1) ls (.int (x.toUInt32 % 65536).toInt32 :: st) σ Q) : mW G l d μ pc ls (.int x :: st) σ Q :=
  fun p e s m args below meth c H locs cells slots lsr Z R hR hF hP hS hl hQ => lv_i2c hF.1 hF.2.1 hd rfl (k p e s m args below meth c H locs cells slots lsr Z R hR hF hP hS hl hQ)
theorem m_iconst {n : Int} {v : Int32} (hd : decode μ.2.1 pc = .ok (.iconst n, 1)) (hv : Int32.ofInt n = v) (k : mW G l d μ (pc + 1) ls (.int v :: st) σ Q) : mW G l d μ pc ls (st) σ Q :=
  fun p e s m args below meth c H locs cells slots lsr Z R hR hF hP hS hl hQ => lv_iconst hF.1 hF.2.1 hd hv (k p e s m args below meth c H locs cells slots lsr Z R hR hF hP hS hl hQ)
theorem m_bipush {n : Int} {v : Int32} (hd : decode μ.2.1 pc = .ok (.bipush n, 2)) (hv : (Int8.ofInt n).toInt32 = v) (k : mW G l d μ (pc + 2) ls (.int v :: st) σ Q) : mW G l d μ pc ls (st) σ Q :=
  fun p e s m args below meth c H locs cells slots lsr Z R hR hF hP hS hl hQ => lv_bipush hF.1 hF.2.1 hd hv (k p e s m args below meth c H locs cells slots lsr Z R hR hF hP hS hl hQ)
theorem m_sipush {n : Int} {v : Int32} (hd : decode μ.2.1 pc = .ok (.sipush n, 3)) (hv : (Int16.ofInt n).toInt32 = v) (k : mW G l d μ (pc + 3) ls (.int v :: st) σ Q) : mW G l d μ pc ls (st) σ Q :=
  fun p e s m args below meth c H locs cells slots lsr Z R hR hF hP hS hl hQ => lv_sipush hF.1 hF.2.1 hd hv (k p e s m args below meth c H locs cells slots lsr Z R hR hF hP hS hl hQ)
theorem m_lconst {n : Fin 2} {v : Int64} (hd : decode μ.2.1 pc = .ok (.lconst n, 1)) (hv : Int64.ofNat (n : Nat) = v) (k : mW G l d μ (pc + 1) ls (.long v :: st) σ Q) : mW G l d μ pc ls (st) σ Q :=
  fun p e s m args below meth c H locs cells slots lsr Z R hR hF hP hS hl hQ => lv_lconst hF.1 hF.2.1 hd hv (k p e s m args below meth c H locs cells slots lsr Z R hR hF hP hS hl hQ)
theorem m_dup {va : Value} (hd : decode μ.2.1 pc = .ok (.dup, 1)) (hc : va.category = 1) (k : mW G l d μ (pc + 1) ls (va :: va :: st) σ Q) : mW G l d μ pc ls (va :: st) σ Q :=
  fun p e s m args below meth c H locs cells slots lsr Z R hR hF hP hS hl hQ => lv_dup hF.1 hF.2.1 hd (mv_cat hc) (k p e s m args below meth c H locs cells slots lsr Z R hR hF hP hS hl hQ)
theorem m_pop {va : Value} (hd : decode μ.2.1 pc = .ok (.pop, 1)) (hc : va.category = 1) (k : mW G l d μ (pc + 1) ls (st) σ Q) : mW G l d μ pc ls (va :: st) σ Q :=
  fun p e s m args below meth c H locs cells slots lsr Z R hR hF hP hS hl hQ => lv_pop hF.1 hF.2.1 hd (mv_cat hc) (k p e s m args below meth c H locs cells slots lsr Z R hR hF hP hS hl hQ)
theorem m_dup2 {va vb : Value} (hd : decode μ.2.1 pc = .ok (.dup2, 1)) (hc : va.category = 1) (hb : vb.category = 1) (k : mW G l d μ (pc + 1) ls (va :: vb :: va :: vb :: st) σ Q) : mW G l d μ pc ls (va :: vb :: st) σ Q :=
  fun p e s m args below meth c H locs cells slots lsr Z R hR hF hP hS hl hQ => lv_dup2_11 hF.1 hF.2.1 hd (mv_cat hc) (mv_cat hb) (k p e s m args below meth c H locs cells slots lsr Z R hR hF hP hS hl hQ)
theorem m_iload {i : Nat} {x : Int32} (hd : decode μ.2.1 pc = .ok (.iload i, 2)) (j : Nat) (hj : ls[j]? = some (i, .int x)) (k : mW G l d μ (pc + 2) ls (.int x :: st) σ Q) : mW G l d μ pc ls st σ Q :=
  fun p e s m args below meth c H locs cells slots lsr Z R hR hF hP hS hl hQ => lv_iload hF.1 hF.2.1 hd (lv_at hl j (mlv_at hj)) (k p e s m args below meth c H locs cells slots lsr Z R hR hF hP hS hl hQ)
theorem m_iload_n {i : Fin 4} {x : Int32} (hd : decode μ.2.1 pc = .ok (.iload_n i, 1)) (j : Nat) (hj : ls[j]? = some ((i : Nat), .int x)) (k : mW G l d μ (pc + 1) ls (.int x :: st) σ Q) : mW G l d μ pc ls st σ Q :=
  fun p e s m args below meth c H locs cells slots lsr Z R hR hF hP hS hl hQ => lv_iload_n hF.1 hF.2.1 hd rfl (lv_at hl j (mlv_at hj)) (k p e s m args below meth c H locs cells slots lsr Z R hR hF hP hS hl hQ)
theorem m_lload {i : Nat} {x : Int64} (hd : decode μ.2.1 pc = .ok (.lload i, 2)) (j : Nat) (hj : ls[j]? = some (i, .long x)) (k : mW G l d μ (pc + 2) ls (.long x :: st) σ Q) : mW G l d μ pc ls st σ Q :=
  fun p e s m args below meth c H locs cells slots lsr Z R hR hF hP hS hl hQ => lv_lload hF.1 hF.2.1 hd (lv_at hl j (mlv_at hj)) (k p e s m args below meth c H locs cells slots lsr Z R hR hF hP hS hl hQ)
theorem m_lload_n {i : Fin 4} {x : Int64} (hd : decode μ.2.1 pc = .ok (.lload_n i, 1)) (j : Nat) (hj : ls[j]? = some ((i : Nat), .long x)) (k : mW G l d μ (pc + 1) ls (.long x :: st) σ Q) : mW G l d μ pc ls st σ Q :=
  fun p e s m args below meth c H locs cells slots lsr Z R hR hF hP hS hl hQ => lv_lload_n hF.1 hF.2.1 hd rfl (lv_at hl j (mlv_at hj)) (k p e s m args below meth c H locs cells slots lsr Z R hR hF hP hS hl hQ)
theorem m_aload {i : Nat} {x : Nat} (hd : decode μ.2.1 pc = .ok (.aload i, 2)) (j : Nat) (hj : ls[j]? = some (i, .ref x)) (k : mW G l d μ (pc + 2) ls (.ref x :: st) σ Q) : mW G l d μ pc ls st σ Q :=
  fun p e s m args below meth c H locs cells slots lsr Z R hR hF hP hS hl hQ => lv_aload hF.1 hF.2.1 hd (lv_at hl j (mlv_at hj)) (k p e s m args below meth c H locs cells slots lsr Z R hR hF hP hS hl hQ)
theorem m_aload_n {i : Fin 4} {x : Nat} (hd : decode μ.2.1 pc = .ok (.aload_n i, 1)) (j : Nat) (hj : ls[j]? = some ((i : Nat), .ref x)) (k : mW G l d μ (pc + 1) ls (.ref x :: st) σ Q) : mW G l d μ pc ls st σ Q :=
  fun p e s m args below meth c H locs cells slots lsr Z R hR hF hP hS hl hQ => lv_aload_n hF.1 hF.2.1 hd rfl (lv_at hl j (mlv_at hj)) (k p e s m args below meth c H locs cells slots lsr Z R hR hF hP hS hl hQ)
theorem m_istore {i : Nat} {x : Int32} {ls1 : List (Nat × Value)} (hd : decode μ.2.1 pc = .ok (.istore i, 2)) (hn : i < μ.2.2.1) (h1 : mst1 i (.int x) ls = ls1) (k : mW G l d μ (pc + 2) ls1 st σ Q) : mW G l d μ pc ls (.int x :: st) σ Q := by
  subst h1
  exact fun p e s m args below meth c H locs cells slots lsr Z R hR hF hP hS hl hQ => lv_istore hF.1 hF.2.1 hd  hl hn (mst1_map (G := G) i (.int x) ls) (fun ls2 hl2 => k p e s m args below meth c H locs cells slots ls2 Z R hR hF hP hS hl2 hQ)
theorem m_istore_n {i : Fin 4} {x : Int32} {ls1 : List (Nat × Value)} (hd : decode μ.2.1 pc = .ok (.istore_n i, 1)) (hn : (i : Nat) < μ.2.2.1) (h1 : mst1 (i : Nat) (.int x) ls = ls1) (k : mW G l d μ (pc + 1) ls1 st σ Q) : mW G l d μ pc ls (.int x :: st) σ Q := by
  subst h1
  exact fun p e s m args below meth c H locs cells slots lsr Z R hR hF hP hS hl hQ => lv_istore_n hF.1 hF.2.1 hd rfl hl hn (mst1_map (G := G) (i : Nat) (.int x) ls) (fun ls2 hl2 => k p e s m args below meth c H locs cells slots ls2 Z R hR hF hP hS hl2 hQ)
theorem m_lstore {i : Nat} {x : Int64} {ls1 : List (Nat × Value)} (hd : decode μ.2.1 pc = .ok (.lstore i, 2)) (hn : i + 1 < μ.2.2.1) (h1 : mst2 i (.long x) ls = ls1) (k : mW G l d μ (pc + 2) ls1 st σ Q) : mW G l d μ pc ls (.long x :: st) σ Q := by
  subst h1
  exact fun p e s m args below meth c H locs cells slots lsr Z R hR hF hP hS hl hQ => lv_lstore hF.1 hF.2.1 hd  hl hn (mst2_map (G := G) i (.long x) ls) (fun ls2 hl2 => k p e s m args below meth c H locs cells slots ls2 Z R hR hF hP hS hl2 hQ)
theorem m_lstore_n {i : Fin 4} {x : Int64} {ls1 : List (Nat × Value)} (hd : decode μ.2.1 pc = .ok (.lstore_n i, 1)) (hn : (i : Nat) + 1 < μ.2.2.1) (h1 : mst2 (i : Nat) (.long x) ls = ls1) (k : mW G l d μ (pc + 1) ls1 st σ Q) : mW G l d μ pc ls (.long x :: st) σ Q := by
  subst h1
  exact fun p e s m args below meth c H locs cells slots lsr Z R hR hF hP hS hl hQ => lv_lstore_n hF.1 hF.2.1 hd rfl hl hn (mst2_map (G := G) (i : Nat) (.long x) ls) (fun ls2 hl2 => k p e s m args below meth c H locs cells slots ls2 Z R hR hF hP hS hl2 hQ)
theorem m_astore {i : Nat} {x : Nat} {ls1 : List (Nat × Value)} (hd : decode μ.2.1 pc = .ok (.astore i, 2)) (hn : i < μ.2.2.1) (h1 : mst1 i (.ref x) ls = ls1) (k : mW G l d μ (pc + 2) ls1 st σ Q) : mW G l d μ pc ls (.ref x :: st) σ Q := by
  subst h1
  exact fun p e s m args below meth c H locs cells slots lsr Z R hR hF hP hS hl hQ => lv_astore hF.1 hF.2.1 hd  hl hn (mst1_map (G := G) i (.ref x) ls) (fun ls2 hl2 => k p e s m args below meth c H locs cells slots ls2 Z R hR hF hP hS hl2 hQ)
theorem m_astore_n {i : Fin 4} {x : Nat} {ls1 : List (Nat × Value)} (hd : decode μ.2.1 pc = .ok (.astore_n i, 1)) (hn : (i : Nat) < μ.2.2.1) (h1 : mst1 (i : Nat) (.ref x) ls = ls1) (k : mW G l d μ (pc + 1) ls1 st σ Q) : mW G l d μ pc ls (.ref x :: st) σ Q := by
  subst h1
  exact fun p e s m args below meth c H locs cells slots lsr Z R hR hF hP hS hl hQ => lv_astore_n hF.1 hF.2.1 hd rfl hl hn (mst1_map (G := G) (i : Nat) (.ref x) ls) (fun ls2 hl2 => k p e s m args below meth c H locs cells slots ls2 Z R hR hF hP hS hl2 hQ)
theorem m_iinc {i : Nat} {n : Int} {x v : Int32} {ls1 : List (Nat × Value)} (hd : decode μ.2.1 pc = .ok (.iinc i n, 3)) (j : Nat) (hj : ls[j]? = some (i, .int x)) (hv : x + Int32.ofInt n = v) (hn : i < μ.2.2.1) (h1 : mst1 i (.int v) ls = ls1) (k : mW G l d μ (pc + 3) ls1 st σ Q) : mW G l d μ pc ls st σ Q := by
  subst h1
  exact fun p e s m args below meth c H locs cells slots lsr Z R hR hF hP hS hl hQ => lv_iinc hF.1 hF.2.1 hd hl (mlv_at hj) hv hn (mst1_map (G := G) i (.int v) ls) (fun ls2 hl2 => k p e s m args below meth c H locs cells slots ls2 Z R hR hF hP hS hl2 hQ)
theorem m_icmp_eq {x y : Int32} {off : Int} (hd : decode μ.2.1 pc = .ok (.if_icmp .eq off, 3)) (tgt : Nat) (ht : (pc : Int) + off = (tgt : Int)) (kt : x = y → mW G l d μ tgt ls st σ Q) (kf : ¬ (x = y) → mW G l d μ (pc + 3) ls st σ Q) : mW G l d μ pc ls (.int y :: .int x :: st) σ Q :=
  fun p e s m args below meth c H locs cells slots lsr Z R hR hF hP hS hl hQ => lv_icmp_eq hF.1 hF.2.1 hd ht (fun h => kt h p e s m args below meth c H locs cells slots lsr Z R hR hF hP hS hl hQ) (fun h => kf h p e s m args below meth c H locs cells slots lsr Z R hR hF hP hS hl hQ)
theorem m_if_eq {x : Int32} {off : Int} (hd : decode μ.2.1 pc = .ok (.ifCond .eq off, 3)) (tgt : Nat) (ht : (pc : Int) + off = (tgt : Int)) (kt : x = 0 → mW G l d μ tgt ls st σ Q) (kf : ¬ (x = 0) → mW G l d μ (pc + 3) ls st σ Q) : mW G l d μ pc ls (.int x :: st) σ Q :=
  fun p e s m args below meth c H locs cells slots lsr Z R hR hF hP hS hl hQ => lv_if_eq hF.1 hF.2.1 hd ht (fun h => kt h p e s m args below meth c H locs cells slots lsr Z R hR hF hP hS hl hQ) (fun h => kf h p e s m args below meth c H locs cells slots lsr Z R hR hF hP hS hl hQ)
theorem m_icmp_ne {x y : Int32} {off : Int} (hd : decode μ.2.1 pc = .ok (.if_icmp .ne off, 3)) (tgt : Nat) (ht : (pc : Int) + off = (tgt : Int)) (kt : x ≠ y → mW G l d μ tgt ls st σ Q) (kf : x = y → mW G l d μ (pc + 3) ls st σ Q) : mW G l d μ pc ls (.int y :: .int x :: st) σ Q :=
  fun p e s m args below meth c H locs cells slots lsr Z R hR hF hP hS hl hQ => lv_icmp_ne hF.1 hF.2.1 hd ht (fun h => kt h p e s m args below meth c H locs cells slots lsr Z R hR hF hP hS hl hQ) (fun h => kf h p e s m args below meth c H locs cells slots lsr Z R hR hF hP hS hl hQ)
theorem m_if_ne {x : Int32} {off : Int} (hd : decode μ.2.1 pc = .ok (.ifCond .ne off, 3)) (tgt : Nat) (ht : (pc : Int) + off = (tgt : Int)) (kt : x ≠ 0 → mW G l d μ tgt ls st σ Q) (kf : x = 0 → mW G l d μ (pc + 3) ls st σ Q) : mW G l d μ pc ls (.int x :: st) σ Q :=
  fun p e s m args below meth c H locs cells slots lsr Z R hR hF hP hS hl hQ => lv_if_ne hF.1 hF.2.1 hd ht (fun h => kt h p e s m args below meth c H locs cells slots lsr Z R hR hF hP hS hl hQ) (fun h => kf h p e s m args below meth c H locs cells slots lsr Z R hR hF hP hS hl hQ)
theorem m_icmp_lt {x y : Int32} {off : Int} (hd : decode μ.2.1 pc = .ok (.if_icmp .lt off, 3)) (tgt : Nat) (ht : (pc : Int) + off = (tgt : Int)) (kt : x < y → mW G l d μ tgt ls st σ Q) (kf : ¬ (x < y) → mW G l d μ (pc + 3) ls st σ Q) : mW G l d μ pc ls (.int y :: .int x :: st) σ Q :=
  fun p e s m args below meth c H locs cells slots lsr Z R hR hF hP hS hl hQ => lv_icmp_lt hF.1 hF.2.1 hd ht (fun h => kt h p e s m args below meth c H locs cells slots lsr Z R hR hF hP hS hl hQ) (fun h => kf h p e s m args below meth c H locs cells slots lsr Z R hR hF hP hS hl hQ)
theorem m_if_lt {x : Int32} {off : Int} (hd : decode μ.2.1 pc = .ok (.ifCond .lt off, 3)) (tgt : Nat) (ht : (pc : Int) + off = (tgt : Int)) (kt : x < 0 → mW G l d μ tgt ls st σ Q) (kf : ¬ (x < 0) → mW G l d μ (pc + 3) ls st σ Q) : mW G l d μ pc ls (.int x :: st) σ Q :=
  fun p e s m args below meth c H locs cells slots lsr Z R hR hF hP hS hl hQ => lv_if_lt hF.1 hF.2.1 hd ht (fun h => kt h p e s m args below meth c H locs cells slots lsr Z R hR hF hP hS hl hQ) (fun h => kf h p e s m args below meth c H locs cells slots lsr Z R hR hF hP hS hl hQ)
theorem m_icmp_ge {x y : Int32} {off : Int} (hd : decode μ.2.1 pc = .ok (.if_icmp .ge off, 3)) (tgt : Nat) (ht : (pc : Int) + off = (tgt : Int)) (kt : y ≤ x → mW G l d μ tgt ls st σ Q) (kf : ¬ (y ≤ x) → mW G l d μ (pc + 3) ls st σ Q) : mW G l d μ pc ls (.int y :: .int x :: st) σ Q :=
  fun p e s m args below meth c H locs cells slots lsr Z R hR hF hP hS hl hQ => lv_icmp_ge hF.1 hF.2.1 hd ht (fun h => kt h p e s m args below meth c H locs cells slots lsr Z R hR hF hP hS hl hQ) (fun h => kf h p e s m args below meth c H locs cells slots lsr Z R hR hF hP hS hl hQ)
theorem m_if_ge {x : Int32} {off : Int} (hd : decode μ.2.1 pc = .ok (.ifCond .ge off, 3)) (tgt : Nat) (ht : (pc : Int) + off = (tgt : Int)) (kt : 0 ≤ x → mW G l d μ tgt ls st σ Q) (kf : ¬ (0 ≤ x) → mW G l d μ (pc + 3) ls st σ Q) : mW G l d μ pc ls (.int x :: st) σ Q :=
  fun p e s m args below meth c H locs cells slots lsr Z R hR hF hP hS hl hQ => lv_if_ge hF.1 hF.2.1 hd ht (fun h => kt h p e s m args below meth c H locs cells slots lsr Z R hR hF hP hS hl hQ) (fun h => kf h p e s m args below meth c H locs cells slots lsr Z R hR hF hP hS hl hQ)
theorem m_icmp_gt {x y : Int32} {off : Int} (hd : decode μ.2.1 pc = .ok (.if_icmp .gt off, 3)) (tgt : Nat) (ht : (pc : Int) + off = (tgt : Int)) (kt : y < x → mW G l d μ tgt ls st σ Q) (kf : ¬ (y < x) → mW G l d μ (pc + 3) ls st σ Q) : mW G l d μ pc ls (.int y :: .int x :: st) σ Q :=
  fun p e s m args below meth c H locs cells slots lsr Z R hR hF hP hS hl hQ => lv_icmp_gt hF.1 hF.2.1 hd ht (fun h => kt h p e s m args below meth c H locs cells slots lsr Z R hR hF hP hS hl hQ) (fun h => kf h p e s m args below meth c H locs cells slots lsr Z R hR hF hP hS hl hQ)
theorem m_if_gt {x : Int32} {off : Int} (hd : decode μ.2.1 pc = .ok (.ifCond .gt off, 3)) (tgt : Nat) (ht : (pc : Int) + off = (tgt : Int)) (kt : 0 < x → mW G l d μ tgt ls st σ Q) (kf : ¬ (0 < x) → mW G l d μ (pc + 3) ls st σ Q) : mW G l d μ pc ls (.int x :: st) σ Q :=
  fun p e s m args below meth c H locs cells slots lsr Z R hR hF hP hS hl hQ => lv_if_gt hF.1 hF.2.1 hd ht (fun h => kt h p e s m args below meth c H locs cells slots lsr Z R hR hF hP hS hl hQ) (fun h => kf h p e s m args below meth c H locs cells slots lsr Z R hR hF hP hS hl hQ)
theorem m_icmp_le {x y : Int32} {off : Int} (hd : decode μ.2.1 pc = .ok (.if_icmp .le off, 3)) (tgt : Nat) (ht : (pc : Int) + off = (tgt : Int)) (kt : x ≤ y → mW G l d μ tgt ls st σ Q) (kf : ¬ (x ≤ y) → mW G l d μ (pc + 3) ls st σ Q) : mW G l d μ pc ls (.int y :: .int x :: st) σ Q :=
  fun p e s m args below meth c H locs cells slots lsr Z R hR hF hP hS hl hQ => lv_icmp_le hF.1 hF.2.1 hd ht (fun h => kt h p e s m args below meth c H locs cells slots lsr Z R hR hF hP hS hl hQ) (fun h => kf h p e s m args below meth c H locs cells slots lsr Z R hR hF hP hS hl hQ)
theorem m_if_le {x : Int32} {off : Int} (hd : decode μ.2.1 pc = .ok (.ifCond .le off, 3)) (tgt : Nat) (ht : (pc : Int) + off = (tgt : Int)) (kt : x ≤ 0 → mW G l d μ tgt ls st σ Q) (kf : ¬ (x ≤ 0) → mW G l d μ (pc + 3) ls st σ Q) : mW G l d μ pc ls (.int x :: st) σ Q :=
  fun p e s m args below meth c H locs cells slots lsr Z R hR hF hP hS hl hQ => lv_if_le hF.1 hF.2.1 hd ht (fun h => kt h p e s m args below meth c H locs cells slots lsr Z R hR hF hP hS hl hQ) (fun h => kf h p e s m args below meth c H locs cells slots lsr Z R hR hF hP hS hl hQ)
theorem m_goto {off : Int} (hd : decode μ.2.1 pc = .ok (.goto off, 3)) (tgt : Nat) (ht : (pc : Int) + off = (tgt : Int)) (k : mW G l d μ tgt ls st σ Q) : mW G l d μ pc ls st σ Q :=
  fun p e s m args below meth c H locs cells slots lsr Z R hR hF hP hS hl hQ => lv_goto hF.1 hF.2.1 hd ht (k p e s m args below meth c H locs cells slots lsr Z R hR hF hP hS hl hQ)
-- ===== the heap =====
theorem mshp_small : ∀ q ∈ mshpL, q.2 ≤ 256 := by decide +kernel
theorem mshp_len {x t n : Nat} (h : mshp x = (t, n)) : n ≤ 256 := by
  have h1 : (mshpL.getD x (99, 0)).2 = n := congrArg Prod.snd h
  rw [← h1, List.getD_eq_getElem?_getD]
  cases hq : mshpL[x]? with
  | none => exact Nat.zero_le _
  | some q => exact mshp_small q (List.mem_of_getElem? hq)
theorem mshp_tag : ∀ q ∈ mshpL, q.1 ≤ 13 := by decide +kernel
theorem mE_i {x n : Nat} (h : mshp x = (11, n)) : mE G σ x = .inl (G.2.1 0, n, .inl (σ.1 x)) := by unfold mE; rw [h]; rfl
theorem mE_z {x n : Nat} (h : mshp x = (12, n)) : mE G σ x = .inl (G.2.1 2, n, .inl (σ.1 x)) := by unfold mE; rw [h]; rfl
theorem mE_g {x n : Nat} (h : mshp x = (13, n)) : mE G σ x = .inl (G.2.1 1, n, .inr (.inr (.inr (.inr (fun j => some (G.2.2.2.1 (x + 1 + j))))))) := by unfold mE; rw [h]; rfl
theorem mE_o {x ci n : Nat} (h : mshp x = (ci, n)) (hc : ci ≤ 10) : mE G σ x = .inr (ci, (List.range n).map (mfv G σ ci x)) := by
  unfold mE
  rw [h]
  rcases (show ci = 0 ∨ ci = 1 ∨ ci = 2 ∨ ci = 3 ∨ ci = 4 ∨ ci = 5 ∨ ci = 6 ∨ ci = 7 ∨ ci = 8 ∨ ci = 9 ∨ ci = 10 by omega) with rfl | rfl | rfl | rfl | rfl | rfl | rfl | rfl | rfl | rfl | rfl <;> rfl
/-- the store with one number changed -/
def us (σ : mS) (x j : Nat) (v : Int32) : mS := (fun y => if y = x then upd (σ.1 x) j v else σ.1 y, σ.2)
theorem us_ne {x y j : Nat} {v : Int32} (h : y ≠ x) : (us σ x j v).1 y = σ.1 y := if_neg h
theorem us_eq {x j : Nat} {v : Int32} : (us σ x j v).1 x = upd (σ.1 x) j v := if_pos rfl
theorem mE_ne {σ1 : mS} {y : Nat} (h : σ1.1 y = σ.1 y) (h2 : σ1.2 = σ.2) : mE G σ1 y = mE G σ y := by
  have e : mfv G σ1 (mshp y).1 y = mfv G σ (mshp y).1 y := by
    funext k
    unfold mfv
    rw [h, h2]
  unfold mE
  rw [h]
  split <;> first | rfl | (rw [e])
theorem mws_set {σ1 : mS} {x : Nat} {ee : va_E} (hx : x < mNA) (h1 : mE G σ1 x = ee) (h2 : ∀ y, y ≠ x → mE G σ1 y = mE G σ y) : (mws G σ).set x (G.2.2.2.1 x, ee) = mws G σ1 := by
  apply List.ext_getElem?
  intro y
  by_cases hy : y = x
  · subst hy
    rw [List.getElem?_set_self (by unfold mws; rw [List.length_map, List.length_range]; exact hx), mws_at hx, h1]
  · rw [List.getElem?_set_ne (fun h => hy h.symm)]
    by_cases hl : y < mNA
    · rw [mws_at hl, mws_at hl, h2 y hy]
    · rw [List.getElem?_eq_none (by unfold mws; rw [List.length_map, List.length_range]; omega), List.getElem?_eq_none (by unfold mws; rw [List.length_map, List.length_range]; omega)]
theorem mws_D {s : State} (h : mEnv G s) : va_D G.2.2.1 (mws G σ) := by
  have hlen : (mws G σ).length = mNA := by unfold mws; rw [List.length_map, List.length_range]
  refine ⟨fun i j p q hi hj e => ?_, fun k q hk => ?_⟩
  · have li : i < mNA := by rw [← hlen]; exact (List.getElem?_eq_some_iff.mp hi).1
    have lj : j < mNA := by rw [← hlen]; exact (List.getElem?_eq_some_iff.mp hj).1
    rw [mws_at li] at hi
    rw [mws_at lj] at hj
    cases hi; cases hj
    exact h.2.2.2.1 i j li lj e
  · have lk : k < mNA := by rw [← hlen]; exact (List.getElem?_eq_some_iff.mp hk).1
    rw [mws_at lk] at hk
    cases hk
    exact h.2.2.2.2 k lk
theorem m_env {p : Program} {s : State} {m : MethodId} {args : Array Value} {meth : Method} {c : Code} (hF : mFix G μ p s m args meth c) : mEnv G s := hF.2.2.2.2.2.2.2
theorem m_ix {j n : Nat} (hj : j < n) (hn : n ≤ 256) : vp_in (nI j) n ∧ (nI j).toNatClampNeg = j := ⟨vp_in_nI hj (Nat.lt_of_le_of_lt hn (by decide)), nI_clamp (Nat.lt_of_lt_of_le hj (Nat.le_trans hn (by decide)))⟩
theorem m_iald {x n : Nat} {i : Int32} (hd : decode μ.2.1 pc = .ok (.iaload, 1)) (hx : mshp x = (11, n)) (j : Nat) (hi : i = nI j) (hj : j < n) (k : mW G l d μ (pc + 1) ls (.int (σ.1 x j) :: st) σ Q) : mW G l d μ pc ls (.int i :: .ref x :: st) σ Q := by
  subst hi
  intro p e s m args below meth c H locs cells slots lsr Z R hR hF hP hS hl hQ
  obtain ⟨h1, h2⟩ := m_ix hj (mshp_len hx)
  refine va_iald hF.1 hF.2.1 (m_env hF).1 hP x 0 (f := σ.1 x) (n := n) (cA := G.2.1 0) (by rw [mws_at (mshp_lt hx (by decide)), mE_i hx]) rfl h1 hd ?_
  rw [h2]
  exact k p e s m args below meth c H locs cells slots lsr Z R hR hF hP hS hl hQ
theorem m_iast {x n : Nat} {i v : Int32} (hd : decode μ.2.1 pc = .ok (.iastore, 1)) (hx : mshp x = (11, n)) (j : Nat) (hi : i = nI j) (hj : j < n) (k : mW G l d μ (pc + 1) ls st (us σ x j v) Q) : mW G l d μ pc ls (.int v :: .int i :: .ref x :: st) σ Q := by
  subst hi
  intro p e s m args below meth c H locs cells slots lsr Z R hR hF hP hS hl hQ
  obtain ⟨h1, h2⟩ := m_ix hj (mshp_len hx)
  refine va_iast hF.1 hF.2.1 (m_env hF).1 hP (mws_D (m_env hF)) hS x 0 (f := σ.1 x) (n := n) (cA := G.2.1 0) (by rw [mws_at (mshp_lt hx (by decide)), mE_i hx]) rfl h1 hd (fun H1 locs1 hP1 _ hS1 => ?_)
  rw [h2, mws_set (σ1 := us σ x j v) (mshp_lt hx (by decide)) (by rw [mE_i hx, us_eq]) (fun y hy => mE_ne (us_ne hy) rfl)] at hP1
  exact k p e s m args below meth c H1 locs1 cells slots lsr Z R hR hF hP1 hS1 hl hQ
theorem m_zald {x n : Nat} {i : Int32} (hd : decode μ.2.1 pc = .ok (.baload, 1)) (hx : mshp x = (12, n)) (j : Nat) (hi : i = nI j) (hj : j < n) (k : mW G l d μ (pc + 1) ls (.int (σ.1 x j) :: st) σ Q) : mW G l d μ pc ls (.int i :: .ref x :: st) σ Q := by
  subst hi
  intro p e s m args below meth c H locs cells slots lsr Z R hR hF hP hS hl hQ
  obtain ⟨h1, h2⟩ := m_ix hj (mshp_len hx)
  refine va_zald hF.1 hF.2.1 (m_env hF).1 hP x 2 (f := σ.1 x) (n := n) (cA := G.2.1 2) (by rw [mws_at (mshp_lt hx (by decide)), mE_z hx]) rfl h1 hd ?_
  rw [h2]
  exact k p e s m args below meth c H locs cells slots lsr Z R hR hF hP hS hl hQ
theorem m_zast {x n : Nat} {i v : Int32} (hd : decode μ.2.1 pc = .ok (.bastore, 1)) (hx : mshp x = (12, n)) (j : Nat) (hi : i = nI j) (hj : j < n) (hv : vp_nar .boolean v = v) (k : mW G l d μ (pc + 1) ls st (us σ x j v) Q) : mW G l d μ pc ls (.int v :: .int i :: .ref x :: st) σ Q := by
  subst hi
  intro p e s m args below meth c H locs cells slots lsr Z R hR hF hP hS hl hQ
  obtain ⟨h1, h2⟩ := m_ix hj (mshp_len hx)
  refine va_zast hF.1 hF.2.1 (m_env hF).1 hP (mws_D (m_env hF)) hS x 2 (f := σ.1 x) (n := n) (cA := G.2.1 2) (by rw [mws_at (mshp_lt hx (by decide)), mE_z hx]) rfl h1 hd (fun H1 locs1 hP1 _ hS1 => ?_)
  rw [h2, hv, mws_set (σ1 := us σ x j v) (mshp_lt hx (by decide)) (by rw [mE_z hx, us_eq]) (fun y hy => mE_ne (us_ne hy) rfl)] at hP1
  exact k p e s m args below meth c H1 locs1 cells slots lsr Z R hR hF hP1 hS1 hl hQ
theorem m_aald {x n : Nat} {i : Int32} (hd : decode μ.2.1 pc = .ok (.aaload, 1)) (hx : mshp x = (13, n)) (j : Nat) (hi : i = nI j) (hj : j < n) (k : mW G l d μ (pc + 1) ls (.ref (x + 1 + j) :: st) σ Q) : mW G l d μ pc ls (.int i :: .ref x :: st) σ Q := by
  subst hi
  intro p e s m args below meth c H locs cells slots lsr Z R hR hF hP hS hl hQ
  obtain ⟨h1, h2⟩ := m_ix hj (mshp_len hx)
  have hlt : (nI j).toNatClampNeg < n := by rw [h2]; exact hj
  have ha : (mws G σ)[x]? = some (G.2.2.2.1 x, .inl (G.2.1 1, n, .inr (.inr (.inr (.inr (fun j => some (G.2.2.2.1 (x + 1 + j)))))))) := by rw [mws_at (mshp_lt hx (by decide)), mE_g hx]
  refine W.aald (v := va_rf ((fun j => some (G.2.2.2.1 (x + 1 + j))) (nI j).toNatClampNeg)) (ty := .array .int) hF.1 hF.2.1 (hP x _ ha) (((m_env hF).1.2 1 _ rfl).1 n (fun i => va_rf ((fun j => some (G.2.2.2.1 (x + 1 + j))) i))) rfl (fun q => by cases q) (by show ¬ (nI j < 0 ∨ (arrV _ _ _).slots.size ≤ _); rw [arrV_size]; exact h1) (by show (arrV _ _ _).slots[_]? = _; rw [arrV_read _ _ hlt]) rfl rfl hd ?_
  rw [h2]
  exact k p e s m args below meth c H locs cells slots lsr Z R hR hF hP hS hl hQ
theorem m_alen {x n : Nat} (hd : decode μ.2.1 pc = .ok (.arraylength, 1)) (hx : mshp x = (11, n)) (k : mW G l d μ (pc + 1) ls (.int (nI n) :: st) σ Q) : mW G l d μ pc ls (.ref x :: st) σ Q := by
  intro p e s m args below meth c H locs cells slots lsr Z R hR hF hP hS hl hQ
  refine va_alen hF.1 hF.2.1 (m_env hF).1 hP x 0 (cA := G.2.1 0) (x := (n, .inl (σ.1 x))) (by rw [mws_at (mshp_lt hx (by decide)), mE_i hx]) (ty := .int) rfl (v := nI n) rfl hd ?_
  exact k p e s m args below meth c H locs cells slots lsr Z R hR hF hP hS hl hQ
-- ===== fields =====
def mFT (ci : Nat) : Nat → FieldType := match ci with
  | 0 => tyX0
  | 1 => tyX1
  | 2 => tyX2
  | 3 => tyX3
  | 4 => tyX4
  | 5 => tyX5
  | 6 => tyX6
  | 7 => tyX7
  | 8 => tyX9
  | 9 => tyX10
  | _ => tyX11
/-- entry index of class own's pool is field k of class ci -/
def mFL (own : String) (index ci k : Nat) : Prop := ∃ (q : vw_C) (ref : String), vwCl[ci]? = some q ∧ k < q.2.2 ∧ (∀ w ∈ u_ws q.1 q.2.1 q.2.2, w ∈ mtbl) ∧ Cond.fieldLink own index ref (q.2.1 k).2.1 (q.2.1 k).2.2.1 ∈ mtbl ∧ (ref = (q.2.1 k).1 ∨ Cond.sameField ref (q.2.1 k).1 (q.2.1 k).2.1 (q.2.1 k).2.2.1 ∈ mtbl)
def mFW (own : String) (index ci k : Nat) : Prop := mFL own index ci k ∧ ∃ q : vw_C, vwCl[ci]? = some q ∧ (q.2.1 k).2.2.2 = false ∧ (∀ k, k < q.2.2 → parseFieldDescriptor (q.2.1 k).2.2.1 = some (mFT ci k)) ∧ ∀ a, a < q.2.2 → ∀ b, b < q.2.2 → a ≠ b → (q.2.1 a).2.1 ≠ (q.2.1 b).2.1
theorem m_same {args : Array Value} {s : State} {ref C n dd : String} (hts : ∀ w ∈ mtbl, w.before args s = true) (h : ref = C ∨ Cond.sameField ref C n dd ∈ mtbl) : ∀ x, s.fieldFound? C n dd = some x → s.fieldFound? ref n dd = some x := by
  rcases h with rfl | h
  · exact fun _ h => h
  · exact fun x hx => u_same (hts _ h) x hx
theorem mshp_N {x ci N : Nat} {q : vw_C} (hx : mshp x = (ci, N)) (hc : vwCl[ci]? = some q) : N = q.2.2 := by
  have h1 : ∀ r ∈ mshpL, ∀ q : vw_C, vwCl[r.1]? = some q → r.2 = q.2.2 := by
    intro r hr q hq
    have h2 : mshpL.all (fun r => decide ((vwCl[r.1]?).map (fun q : vw_C => q.2.2) = none ∨ (vwCl[r.1]?).map (fun q : vw_C => q.2.2) = some r.2)) = true := by decide +kernel
    have h3 := List.all_eq_true.mp h2 r hr
    rw [hq] at h3
    simp at h3
    exact h3.symm
  have hlt : x < mshpL.length := by
    by_cases h : x < mshpL.length
    · exact h
    · exfalso
      have e : mshp x = (99, 0) := by
        unfold mshp
        rw [List.getD_eq_getElem?_getD, List.getElem?_eq_none (Nat.le_of_not_lt h)]; rfl
      rw [e] at hx
      have e2 : (99 : Nat) = ci := congrArg Prod.fst hx
      rw [← e2] at hc
      have e3 : (vwCl[99]? : Option vw_C) = none := rfl
      rw [e3] at hc
      cases hc
  have hm : mshp x ∈ mshpL := by
    unfold mshp
    rw [List.getD_eq_getElem?_getD, List.getElem?_eq_getElem hlt]
    exact List.getElem_mem hlt
  have := h1 _ hm q (by rw [hx]; exact hc)
  rw [hx] at this
  exact this
theorem m_getF {x ci N k index : Nat} {v : Value} (hd : decode μ.2.1 pc = .ok (.getfield index, 3)) (hL : mFL μ.1.cls index ci k) (hx : mshp x = (ci, N)) (hc : ci ≤ 10) (hv : mfv G σ ci x k = mv G v) (kk : mW G l d μ (pc + 3) ls (v :: st) σ Q) : mW G l d μ pc ls (.ref x :: st) σ Q := by
  intro p e s m args below meth c H locs cells slots lsr Z R hR hF hP hS hl hQ
  obtain ⟨q, ref, h1, h2, h3, h4, h5⟩ := hL
  have hN := mshp_N hx h1
  have hts := hF.2.2.2.2.2.1
  refine va_get (ci := ci) (v := mv G v) (C := q.1) (T := q.2.1) (N := q.2.2) hF.1 hF.2.1 hts h3 hF.2.2.2.2.1 (m_env hF).1 hP x (fs := (List.range N).map (mfv G σ ci x)) (by rw [mws_at (mshp_lt hx (by omega)), mE_o hx hc]) h1 k h2 (hts _ h4) (m_same hts h5) ?_ hd ?_
  · rw [List.getElem?_map, List.getElem?_range (by rw [hN]; exact h2), ← hv]; rfl
  · exact kk p e s m args below meth c H locs cells slots lsr Z R hR hF hP hS hl hQ
theorem m_getI {x ci N index : Nat} (k : Nat) (hd : decode μ.2.1 pc = .ok (.getfield index, 3)) (hL : mFL μ.1.cls index ci k) (hk : mkd ci k = 0) (hc : ci ≤ 10) (hx : mshp x = (ci, N)) (kk : mW G l d μ (pc + 3) ls (.int (σ.1 x k) :: st) σ Q) : mW G l d μ pc ls (.ref x :: st) σ Q :=
  m_getF hd hL hx hc (by unfold mfv; rw [hk]; rfl) kk
theorem m_getR {x ci N index : Nat} (k r : Nat) (hd : decode μ.2.1 pc = .ok (.getfield index, 3)) (hL : mFL μ.1.cls index ci k) (hk : mkd ci k = 1) (hc : ci ≤ 10) (hr : moff ci x k = r) (hx : mshp x = (ci, N)) (kk : mW G l d μ (pc + 3) ls (.ref r :: st) σ Q) : mW G l d μ pc ls (.ref x :: st) σ Q :=
  m_getF hd hL hx hc (by unfold mfv; rw [hk, hr]; rfl) kk
theorem m_getL {x ci N index : Nat} (k : Nat) (hd : decode μ.2.1 pc = .ok (.getfield index, 3)) (hL : mFL μ.1.cls index ci k) (hk : mkd ci k = 2) (hc : ci ≤ 10) (hx : mshp x = (ci, N)) (kk : mW G l d μ (pc + 3) ls (.long σ.2 :: st) σ Q) : mW G l d μ pc ls (.ref x :: st) σ Q :=
  m_getF hd hL hx hc (by unfold mfv; rw [hk]; rfl) kk
theorem mfv_us {x ci N k : Nat} {v : Int32} (hk : mkd ci k = 0) (hkN : k < N) : ((List.range N).map (mfv G σ ci x)).set k (.int v) = (List.range N).map (mfv G (us σ x k v) ci x) := by
  apply List.ext_getElem?
  intro i
  by_cases hi : i = k
  · subst hi
    rw [List.getElem?_set_self (by rw [List.length_map, List.length_range]; exact hkN), List.getElem?_map, List.getElem?_range hkN]
    show some (Value.int v) = some (mfv G (us σ x i v) ci x i)
    unfold mfv
    rw [hk, us_eq]
    show some (Value.int v) = some (Value.int (upd (σ.1 x) i v i))
    rw [pk_us]
  · rw [List.getElem?_set_ne (fun h => hi h.symm), List.getElem?_map, List.getElem?_map]
    by_cases hiN : i < N
    · rw [List.getElem?_range hiN]
      show some (mfv G σ ci x i) = some (mfv G (us σ x k v) ci x i)
      unfold mfv
      rw [us_eq, pk_un hi]
      rfl
    · rw [List.getElem?_eq_none (by rw [List.length_range]; omega)]
      rfl
theorem mhash_only : ∀ y, y < mNA → (mshp y).1 = 2 → y = 110 := by decide +kernel
theorem mE_hash {y : Nat} {v : Int64} (hy : y ≠ 110) : mE G (σ.1, v) y = mE G σ y := by
  by_cases h2 : (mshp y).1 = 2
  · by_cases hl : y < mNA
    · exact absurd (mhash_only y hl h2) hy
    · exfalso
      have e : mshp y = (99, 0) := by
        unfold mshp
        rw [List.getD_eq_getElem?_getD, List.getElem?_eq_none (by show mshpL.length ≤ y; exact Nat.le_of_not_lt hl)]
        rfl
      rw [e] at h2
      exact absurd h2 (by decide)
  · have e : mfv G (σ.1, v) (mshp y).1 y = mfv G σ (mshp y).1 y := by
      funext k
      unfold mfv
      have h3 : mkd (mshp y).1 k = 0 ∨ mkd (mshp y).1 k = 1 := by
        unfold mkd
        split <;> first | exact Or.inr rfl | exact Or.inl rfl | (exfalso; exact h2 (by assumption))
      rcases h3 with h3 | h3 <;> (rw [h3]; rfl)
    unfold mE
    split <;> first | rfl | (rw [e])
theorem m_putI {x ci N index : Nat} {v : Int32} (k : Nat) (hd : decode μ.2.1 pc = .ok (.putfield index, 3)) (hL : mFW μ.1.cls index ci k) (hk : mkd ci k = 0) (hc : ci ≤ 10) (hn : narrow (mFT ci k) (.int v) = .int v) (hfit : fits (mFT ci k) (.int v) = true) (hx : mshp x = (ci, N)) (kk : mW G l d μ (pc + 3) ls st (us σ x k v) Q) : mW G l d μ pc ls (.int v :: .ref x :: st) σ Q := by
  intro p e s m args below meth c H locs cells slots lsr Z R hR hF hP hS hl hQ
  obtain ⟨⟨q, ref, h1, h2, h3, h4, h5⟩, q', h1', h6, h7, h8⟩ := hL
  cases h1.symm.trans h1'
  have hN := mshp_N hx h1
  have hts := hF.2.2.2.2.2.1
  refine va_put (ci := ci) (v := .int v) (ty := mFT ci k) (C := q.1) (T := q.2.1) (N := q.2.2) hF.1 hF.2.1 hts h3 (mFT ci) h7 h8 hF.2.2.2.2.1 (m_env hF).1 hP (mws_D (m_env hF)) hS x (fs := (List.range N).map (mfv G σ ci x)) (by rw [mws_at (mshp_lt hx (by omega)), mE_o hx hc]) h1 k h2 (hts _ h4) (m_same hts h5) h6 (h7 k h2) hn hfit (by rw [List.length_map, List.length_range, hN]; exact h2) hd (fun H1 locs1 hP1 _ hS1 => ?_)
  rw [mfv_us hk (by rw [hN]; exact h2), mws_set (σ1 := us σ x k v) (mshp_lt hx (by omega)) (mE_o hx hc) (fun y hy => mE_ne (us_ne hy) rfl)] at hP1
  exact kk p e s m args below meth c H1 locs1 cells slots lsr Z R hR hF hP1 hS1 hl hQ
/-- Hash.value: the one long of the store -/
theorem m_putL {index : Nat} {v : Int64} (hd : decode μ.2.1 pc = .ok (.putfield index, 3)) (hL : mFW μ.1.cls index 2 0) (kk : mW G l d μ (pc + 3) ls st (σ.1, v) Q) : mW G l d μ pc ls (.long v :: .ref 110 :: st) σ Q := by
  intro p e s m args below meth c H locs cells slots lsr Z R hR hF hP hS hl hQ
  obtain ⟨⟨q, ref, h1, h2, h3, h4, h5⟩, q', h1', h6, h7, h8⟩ := hL
  cases h1.symm.trans h1'
  have hx : mshp 110 = (2, 1) := rfl
  have hN := mshp_N hx h1
  have hts := hF.2.2.2.2.2.1
  refine va_put (ci := 2) (v := .long v) (ty := mFT 2 0) (C := q.1) (T := q.2.1) (N := q.2.2) hF.1 hF.2.1 hts h3 (mFT 2) h7 h8 hF.2.2.2.2.1 (m_env hF).1 hP (mws_D (m_env hF)) hS 110 (fs := (List.range 1).map (mfv G σ 2 110)) (by rw [mws_at (mshp_lt hx (by decide)), mE_o hx (by decide)]) h1 0 h2 (hts _ h4) (m_same hts h5) h6 (h7 0 h2) rfl rfl (by rw [List.length_map, List.length_range]; decide) hd (fun H1 locs1 hP1 _ hS1 => ?_)
  have hP2 : va_P G.1 vwCl (mws G (σ.1, v)) H1 := by
    rw [← mws_set (G := G) (σ := σ) (σ1 := (σ.1, v)) (x := 110) (ee := .inr (2, [Value.long v])) (mshp_lt hx (by decide)) (mE_o hx (by decide)) (fun y hy => mE_hash hy)]
    exact hP1
  exact kk p e s m args below meth c H1 locs1 cells slots lsr Z R hR hF hP2 hS1 hl hQ
-- ===== what lies outside =====
theorem m_xald {i : Nat} {j : Nat} {ii : Int32} (hd : decode μ.2.1 pc = .ok (.iaload, 1)) (q : String × List Int32) (hq : msta[i]? = some q) (hi : ii = nI j) (hj : j < q.2.length) (hl4 : q.2.length ≤ 256) (k : mW G l d μ (pc + 1) ls (.int (q.2.getD j 0) :: st) σ Q) : mW G l d μ pc ls (.int ii :: .ref (1000 + i) :: st) σ Q := by
  subst hi
  intro p e s m args below meth c H locs cells slots lsr Z R hR hF hP hS hl hQ
  obtain ⟨h1, h2⟩ := m_ix hj hl4
  refine va_ti hF.1 hF.2.1 ((m_env hF).2.1.2.1 i q hq).2 hS h1 (v := .int (q.2.getD j 0)) (by rw [h2]) hd ?_
  exact k p e s m args below meth c H locs cells slots lsr Z R hR hF hP hS hl hQ
/-- the script -/
theorem m_sald {j : Nat} {ii : Int32} (hd : decode μ.2.1 pc = .ok (.iaload, 1)) (hi : ii = nI j) (hj : j < G.2.2.2.2.1) (hl4 : G.2.2.2.2.1 ≤ 384) (k : mW G l d μ (pc + 1) ls (.int (G.2.2.2.2.2 j) :: st) σ Q) : mW G l d μ pc ls (.int ii :: .ref 1030 :: st) σ Q := by
  subst hi
  intro p e s m args below meth c H locs cells slots lsr Z R hR hF hP hS hl hQ
  refine va_ti hF.1 hF.2.1 ((m_env hF).2.1.2.2.2.2) hS (vp_in_nI hj (Nat.lt_of_le_of_lt hl4 (by decide))) (v := .int (G.2.2.2.2.2 j)) (by rw [nI_clamp (Nat.lt_of_lt_of_le hj (Nat.le_trans hl4 (by decide)))]) hd ?_
  exact k p e s m args below meth c H locs cells slots lsr Z R hR hF hP hS hl hQ
theorem m_slen (hd : decode μ.2.1 pc = .ok (.arraylength, 1)) (k : mW G l d μ (pc + 1) ls (.int (nI G.2.2.2.2.1) :: st) σ Q) : mW G l d μ pc ls (.ref 1030 :: st) σ Q := by
  intro p e s m args below meth c H locs cells slots lsr Z R hR hF hP hS hl hQ
  refine va_tlen hF.1 hF.2.1 ((m_env hF).2.1.2.2.2.2) hS (v := nI G.2.2.2.2.1) rfl hd ?_
  exact k p e s m args below meth c H locs cells slots lsr Z R hR hF hP hS hl hQ
/-- the digest's moments are read with their length too -/
theorem m_xlen {i : Nat} (hd : decode μ.2.1 pc = .ok (.arraylength, 1)) (q : String × List Int32) (hq : msta[i]? = some q) (k : mW G l d μ (pc + 1) ls (.int (nI q.2.length) :: st) σ Q) : mW G l d μ pc ls (.ref (1000 + i) :: st) σ Q := by
  intro p e s m args below meth c H locs cells slots lsr Z R hR hF hP hS hl hQ
  refine va_tlen hF.1 hF.2.1 ((m_env hF).2.1.2.1 i q hq).2 hS (v := nI q.2.length) rfl hd ?_
  exact k p e s m args below meth c H locs cells slots lsr Z R hR hF hP hS hl hQ
/-- the bytes of a constant text -/
theorem m_bald {i : Nat} {j : Nat} {ii : Int32} (hd : decode μ.2.1 pc = .ok (.baload, 1)) (q : String × Nat × String × List Int32) (hq : mstr[i]? = some q) (hi : ii = nI j) (hj : j < q.2.2.2.length) (hl4 : q.2.2.2.length ≤ 256) (k : mW G l d μ (pc + 1) ls (.int (q.2.2.2.getD j 0) :: st) σ Q) : mW G l d μ pc ls (.int ii :: .ref (1020 + i) :: st) σ Q := by
  subst hi
  intro p e s m args below meth c H locs cells slots lsr Z R hR hF hP hS hl hQ
  obtain ⟨h1, h2⟩ := m_ix hj hl4
  refine va_tb hF.1 hF.2.1 ((m_env hF).2.1.2.2.2.1 i q hq).2.2.2.2 hS h1 (v := .int (q.2.2.2.getD j 0)) (by rw [h2]) hd ?_
  exact k p e s m args below meth c H locs cells slots lsr Z R hR hF hP hS hl hQ
theorem m_blen {i : Nat} (hd : decode μ.2.1 pc = .ok (.arraylength, 1)) (q : String × Nat × String × List Int32) (hq : mstr[i]? = some q) (k : mW G l d μ (pc + 1) ls (.int (nI q.2.2.2.length) :: st) σ Q) : mW G l d μ pc ls (.ref (1020 + i) :: st) σ Q := by
  intro p e s m args below meth c H locs cells slots lsr Z R hR hF hP hS hl hQ
  refine va_tlen hF.1 hF.2.1 ((m_env hF).2.1.2.2.2.1 i q hq).2.2.2.2 hS (v := nI q.2.2.2.length) rfl hd ?_
  exact k p e s m args below meth c H locs cells slots lsr Z R hR hF hP hS hl hQ
theorem m_ldcS {i index : Nat} (hd : decode μ.2.1 pc = .ok (.ldc index, 2)) (q : String × Nat × String × List Int32) (hq : mstr[i]? = some q) (h1 : q.1 = μ.1.cls) (h2 : q.2.1 = index) (k : mW G l d μ (pc + 2) ls (.ref (1010 + i) :: st) σ Q) : mW G l d μ pc ls st σ Q := by
  subst h2
  intro p e s m args below meth c H locs cells slots lsr Z R hR hF hP hS hl hQ
  refine va_ldcS (own := q.1) hF.1 hF.2.1 (by rw [h1]; exact hF.2.2.2.2.1) ((m_env hF).2.1.2.2.2.1 i q hq).1 hd ?_
  exact k p e s m args below meth c H locs cells slots lsr Z R hR hF hP hS hl hQ
theorem m_coder {i index : Nat} (hd : decode μ.2.1 pc = .ok (.getfield index, 3)) (q : String × Nat × String × List Int32) (hq : mstr[i]? = some q) (hL : Cond.fieldLink μ.1.cls index "java/lang/String" "coder" "B" ∈ mtbl) (k : mW G l d μ (pc + 3) ls (.int 0 :: st) σ Q) : mW G l d μ pc ls (.ref (1010 + i) :: st) σ Q := by
  intro p e s m args below meth c H locs cells slots lsr Z R hR hF hP hS hl hQ
  refine vk_getf hF.1 hF.2.1 ((m_env hF).2.1.2.2.2.1 i q hq).2.2.1 hS hF.2.2.2.2.1 (hF.2.2.2.2.2.1 _ hL) (fun _ h => h) hd ?_
  exact k p e s m args below meth c H locs cells slots lsr Z R hR hF hP hS hl hQ
theorem m_value {i index : Nat} (hd : decode μ.2.1 pc = .ok (.getfield index, 3)) (q : String × Nat × String × List Int32) (hq : mstr[i]? = some q) (hL : Cond.fieldLink μ.1.cls index "java/lang/String" "value" "[B" ∈ mtbl) (k : mW G l d μ (pc + 3) ls (.ref (1020 + i) :: st) σ Q) : mW G l d μ pc ls (.ref (1010 + i) :: st) σ Q := by
  intro p e s m args below meth c H locs cells slots lsr Z R hR hF hP hS hl hQ
  refine vk_getf hF.1 hF.2.1 ((m_env hF).2.1.2.2.2.1 i q hq).2.2.2.1 hS hF.2.2.2.2.1 (hF.2.2.2.2.2.1 _ hL) (fun _ h => h) hd ?_
  exact k p e s m args below meth c H locs cells slots lsr Z R hR hF hP hS hl hQ
theorem m_compact {index : Nat} (hd : decode μ.2.1 pc = .ok (.getstatic index, 3)) (hL : Cond.fieldLink μ.1.cls index "java/lang/String" "COMPACT_STRINGS" "Z" ∈ mtbl) (k : mW G l d μ (pc + 3) ls (.int 1 :: st) σ Q) : mW G l d μ pc ls st σ Q := by
  intro p e s m args below meth c H locs cells slots lsr Z R hR hF hP hS hl hQ
  refine va_gets hF.1 hF.2.1 (m_env hF).2.1.2.2.1 hS hF.2.2.2.2.1 (hF.2.2.2.2.2.1 _ hL) (fun _ h => h) hd ?_
  exact k p e s m args below meth c H locs cells slots lsr Z R hR hF hP hS hl hQ
theorem m_gets {i index : Nat} (hd : decode μ.2.1 pc = .ok (.getstatic index, 3)) (q : String × List Int32) (hq : msta[i]? = some q) (hL : Cond.fieldLink μ.1.cls index "DodgemDebate" q.1 "[I" ∈ mtbl ∨ Cond.fieldLinkNest μ.1.cls index "DodgemDebate" q.1 "[I" "DodgemDebate" ∈ mnest) (k : mW G l d μ (pc + 3) ls (.ref (1000 + i) :: st) σ Q) : mW G l d μ pc ls st σ Q := by
  intro p e s m args below meth c H locs cells slots lsr Z R hR hF hP hS hl hQ
  have hk := k p e s m args below meth c H locs cells slots lsr Z R hR hF hP hS hl hQ
  rcases hL with hL | hL
  · exact va_gets hF.1 hF.2.1 ((m_env hF).2.1.2.1 i q hq).1 hS hF.2.2.2.2.1 (hF.2.2.2.2.2.1 _ hL) (fun _ h => h) hd hk
  · exact va_getsN hF.1 hF.2.1 ((m_env hF).2.1.2.1 i q hq).1 hS hF.2.2.2.2.1 (va_Nw.use rfl ((m_env hF).2.1.1 _ hL)) (fun _ h => h) hd hk
theorem m_ldc {index : Nat} {v : Int32} (hd : decode μ.2.1 pc = .ok (.ldc index, 2)) (hL : Cond.constant μ.1.cls index v ∈ mtbl) (k : mW G l d μ (pc + 2) ls (.int v :: st) σ Q) : mW G l d μ pc ls st σ Q :=
  fun p e s m args below meth c H locs cells slots lsr Z R hR hF hP hS hl hQ => lv_ldc hF.1 hF.2.1 hF.2.2.2.2.1 (hF.2.2.2.2.2.1 _ hL) hd (k p e s m args below meth c H locs cells slots lsr Z R hR hF hP hS hl hQ)
theorem m_ldc_w {index : Nat} {v : Int32} (hd : decode μ.2.1 pc = .ok (.ldc_w index, 3)) (hL : Cond.constant μ.1.cls index v ∈ mtbl) (k : mW G l d μ (pc + 3) ls (.int v :: st) σ Q) : mW G l d μ pc ls st σ Q :=
  fun p e s m args below meth c H locs cells slots lsr Z R hR hF hP hS hl hQ => lv_ldcw hF.1 hF.2.1 hF.2.2.2.2.1 (hF.2.2.2.2.2.1 _ hL) hd (k p e s m args below meth c H locs cells slots lsr Z R hR hF hP hS hl hQ)
theorem m_ldc2_w {index : Nat} {v : Int64} (hd : decode μ.2.1 pc = .ok (.ldc2_w index, 3)) (hL : Cond.constantLong μ.1.cls index v ∈ mtbl) (k : mW G l d μ (pc + 3) ls (.long v :: st) σ Q) : mW G l d μ pc ls st σ Q :=
  fun p e s m args below meth c H locs cells slots lsr Z R hR hF hP hS hl hQ => lv_ldc2 hF.1 hF.2.1 hF.2.2.2.2.1 (hF.2.2.2.2.2.1 _ hL) hd (k p e s m args below meth c H locs cells slots lsr Z R hR hF hP hS hl hQ)
theorem m_tableIn {dflt lo hi : Int} {offs : Array Int} {len : Nat} {x : Int32} {off : Int} (hd : decode μ.2.1 pc = .ok (.tableswitch dflt lo hi offs, len)) (h1 : ¬ x.toInt < lo) (h2 : ¬ hi < x.toInt) (ho : offs[(x.toInt - lo).toNat]? = some off) (tgt : Nat) (ht : (pc : Int) + off = (tgt : Int)) (k : mW G l d μ tgt ls st σ Q) : mW G l d μ pc ls (.int x :: st) σ Q :=
  fun p e s m args below meth c H locs cells slots lsr Z R hR hF hP hS hl hQ => lv_tableIn hF.1 hF.2.1 hd h1 h2 ho ht (k p e s m args below meth c H locs cells slots lsr Z R hR hF hP hS hl hQ)
theorem m_tableOut {dflt lo hi : Int} {offs : Array Int} {len : Nat} {x : Int32} (hd : decode μ.2.1 pc = .ok (.tableswitch dflt lo hi offs, len)) (h : x.toInt < lo ∨ hi < x.toInt) (tgt : Nat) (ht : (pc : Int) + dflt = (tgt : Int)) (k : mW G l d μ tgt ls st σ Q) : mW G l d μ pc ls (.int x :: st) σ Q :=
  fun p e s m args below meth c H locs cells slots lsr Z R hR hF hP hS hl hQ => lv_tableOut hF.1 hF.2.1 hd h ht (k p e s m args below meth c H locs cells slots lsr Z R hR hF hP hS hl hQ)
end MM
end
section
/-! ===== contracts and calls of the small machine ===== -/
theorem mtb {w : Cond} (i : Nat) (h : tables_1[i]? = some w) (hg : goodWord w = true) : w ∈ mtbl := List.mem_filter.mpr ⟨List.mem_append_right _ (List.mem_append_right _ (List.mem_of_getElem? h)), hg⟩
theorem mtbs {w : Cond} (h : w ∈ k2_sels lw_privs) (hg : goodWord w = true) : w ∈ mtbl := List.mem_filter.mpr ⟨List.mem_append_right _ (List.mem_append_left _ h), hg⟩
theorem mtbx {w : Cond} (h : w ∈ mxtra) (hg : goodWord w = true) : w ∈ mtbl := List.mem_filter.mpr ⟨List.mem_append_left _ h, hg⟩
theorem mtbl_good {w : Cond} (h : w ∈ mtbl) : goodWord w = true := (List.mem_filter.mp h).2
theorem mtbl_in {ws : List Cond} (h : ∀ w ∈ ws, w ∈ mtbl) : GoodIn mtbl ws := fun w hw => ⟨h w hw, good_of_word (mtbl_good (h w hw))⟩
/-- the words of a method's contract -/
def mwd (μ : mM) : List Cond := .code μ.1 μ.2.1 μ.2.2.1 μ.2.2.2 :: mtbl
theorem mwd_in {μ : mM} (h : Cond.code μ.1 μ.2.1 μ.2.2.1 μ.2.2.2 ∈ mtbl) : GoodIn mtbl (mwd μ) := mtbl_in (fun w hw => by
  rcases List.mem_cons.mp hw with rfl | h1
  · exact h
  · exact h1)
abbrev mrm (d : Nat) : Room := { frames := d, cells := 0, slots := 0, locals := 39 * d }
/-- a method's end: an answer and a store that Q allows -/
def mQc (G : mG) (Q : Option Value → mS → Prop) : Array Value → State → Outcome → State → Prop := fun _ st o t => (∃ (v : Option Value) (σ1 : mS), Q v σ1 ∧ o = .returned (v.map (mv G)) ∧ va_P G.1 vwCl (mws G σ1) t.heap) ∧ va_F G.2.2.1 st t
/-- the contract of method μ from these arguments and this store, with d frames -/
def mMet (G : mG) (l : Launch) (d : Nat) (μ : mM) (As : List Value) (σ : mS) (Q : Option Value → mS → Prop) : Prop :=
  Met l μ.1 (mwd μ) (mrm d) (va_Pc (As.map (mv G)) (fun U => va_P G.1 vwCl (mws G σ) U.heap ∧ mEnv G U)) (mQc G Q) 0 0 G.2.2.1
theorem mExt.warm {G : mG} {s U : State} {H : Heap} {locs : List Loc} (hW : s.WarmedH U.vm) (hS : va_S G.2.2.1 s.heap H locs) (hU : U.heap = H) (h : mExt G s s.heap) : mExt G U U.heap := by
  subst hU
  have hvm := hW.alike
  obtain ⟨h1, h2, h3, h4, h5⟩ := h
  refine ⟨fun w hw => ?_, fun i q hq => ⟨((h2 i q hq).1.kept hS.2.1).moved hvm, ((h2 i q hq).2.kept hS.2.1).moved hvm⟩, (h3.kept hS.2.1).moved hvm, fun i q hq => ⟨(h4 i q hq).1.warm hW, ((h4 i q hq).2.1.kept hS.2.1).moved hvm, ((h4 i q hq).2.2.1.kept hS.2.1).moved hvm, ((h4 i q hq).2.2.2.1.kept hS.2.1).moved hvm, ((h4 i q hq).2.2.2.2.kept hS.2.1).moved hvm⟩, (h5.kept hS.2.1).moved hvm⟩
  have h9 := h1 w hw
  simp only [mnest, List.mem_cons, List.not_mem_nil, or_false] at hw
  rcases hw with rfl | rfl | rfl | rfl | rfl | rfl | rfl <;> first | exact va_Nw.warmF hW h9 | exact va_Nw.warmM hW h9 | exact va_Nw.warmD hW h9
theorem mEnv.warm {G : mG} {s U : State} {H : Heap} {locs : List Loc} (hW : s.WarmedH U.vm) (hS : va_S G.2.2.1 s.heap H locs) (hU : U.heap = H) (h : mEnv G s) : mEnv G U :=
  ⟨va_K.moved hW.alike h.1, h.2.1.warm hW hS hU, fun q hq => h.2.2.1 q (Nat.le_trans hS.1 (by rw [← hU]; exact hq)), h.2.2.2⟩
theorem mEnv.calling {G : mG} {U : State} (g : JFrame) (mk : MethodId) (a : Array Value) (h : mEnv G U) : mEnv G (U.calling g mk a) := by
  have e1 : (U.calling g mk a).vm = U.vm := rfl
  have e2 : (U.calling g mk a).heap = U.heap := rfl
  obtain ⟨h1, ⟨i1, i2, i3, i4, i5⟩, h3, h4⟩ := h
  have hvm : U.vm.Alike (U.calling g mk a).vm := Vm.Alike.refl U.vm
  refine ⟨va_K.moved hvm h1, ⟨fun w hw => ?_, fun i q hq => ⟨(i2 i q hq).1.moved hvm, (i2 i q hq).2.moved hvm⟩, i3.moved hvm, fun i q hq => ⟨(i4 i q hq).1.same e1, (i4 i q hq).2.1.moved hvm, (i4 i q hq).2.2.1.moved hvm, (i4 i q hq).2.2.2.1.moved hvm, (i4 i q hq).2.2.2.2.moved hvm⟩, i5.moved hvm⟩, h3, h4⟩
  have h9 := i1 w hw
  have hg : w.onTables = true := by
    simp only [mnest, List.mem_cons, List.not_mem_nil, or_false] at hw
    rcases hw with rfl | rfl | rfl | rfl | rfl | rfl | rfl <;> rfl
  exact va_Nw.same hg e1.symm h9
section MC
variable {G : mG} {l : Launch} {d : Nat} {μ : mM} {pc : Nat} {ls : List (Nat × Value)} {st : List Value} {σ : mS} {Q : Option Value → mS → Prop}
/-- an answer fits the method's type -/
def mFit : Option FieldType → Option Value → Prop
  | none, none => True
  | some ty, some (.int r) => narrow ty (.int r) = .int r
  | some .long, some (.long _) => True
  | some (.object _), some (.ref _) => True
  | _, _ => False
theorem lv_args_map : ∀ (i : Nat) (As : List Value), lv_args i (As.map (mv G)) = (lv_args i As).map (mlv G)
  | _, [] => rfl
  | i, v :: vs => by
    show (i, mv G v) :: lv_args (if (mv G v).category = 2 then i + 2 else i + 1) (vs.map (mv G)) = mlv G (i, v) :: (lv_args (if v.category = 2 then i + 2 else i + 1) vs).map (mlv G)
    rw [mv_cat rfl, lv_args_map]
    rfl
theorem lg_sl_map : ∀ As : List Value, (lg_sl (As.map (mv G))).length = (lg_sl As).length
  | [] => rfl
  | v :: vs => by
    have ih := lg_sl_map vs
    unfold lg_sl at ih ⊢
    rw [List.map_cons, List.flatMap_cons, List.flatMap_cons, List.length_append, List.length_append, ih, mv_cat (G := G) (v := v) rfl]
    by_cases h : v.category = 2
    · rw [if_pos h, if_pos h]; rfl
    · rw [if_neg h, if_neg h]; rfl
/-- a contract out of the walk of its body -/
theorem mMet.of {As : List Value} {ls0 : List (Nat × Value)} (hcode : Cond.code μ.1 μ.2.1 μ.2.2.1 μ.2.2.2 ∈ mtbl) (hpl : plainName μ.1.cls = true) (hlen : (lg_sl As).length ≤ μ.2.2.1) (hls : lv_args 0 As = ls0) (hfit : ∀ v σ1, Q v σ1 → mFit μ.2.2.2 v) (h : mW G l d μ 0 ls0 [] σ Q) : mMet G l d μ As σ Q := by
  subst hls
  refine Met.ofW (cc := μ.2.1) (maxL := μ.2.2.1) (ret := μ.2.2.2) hpl rfl ?_
  intro p e s m args below meth c s₁ B hml hv
  obtain ⟨rfl, hP, hE⟩ := hv
  have hts := atoms_spec (ws := mwd μ) B.pre
  have hF : mFix G μ p s m (As.map (mv G)).toArray meth c := ⟨B.exec, B.bytes, hml, B.returns, findClass_of_methodNamed B.named, fun w hw => hts w (List.mem_cons_of_mem _ hw), B.notSynchronized, hE⟩
  have hl := lv_entry (As.map (mv G)) (n := μ.2.2.1) (by rw [lg_sl_map]; exact hlen)
  rw [lg_entry_eq]
  rw [lv_args_map] at hl
  refine h p e s m _ below meth c s.heap [] 0 0 _ _ (mrm d) ⟨Nat.le_refl _, Nat.le_refl _, Nat.zero_le _, Nat.zero_le _⟩ hF hP va_S.rf hl ?_
  intro v σ1 H1 locs1 lsr1 pc1 hq hP1 hS1 hret
  have hfv := hfit v σ1 hq
  have hend : ∀ t : State, t.heap = H1 → s.WarmedH t.vm → mQc G Q (As.map (mv G)).toArray s (.returned (v.map (mv G))) t := fun t ht _ => ⟨⟨v, σ1, hq, rfl, by rw [ht]; exact hP1⟩, hS1.F ht⟩
  have hr := hF.2.2.2.1
  have hlk := hF.2.2.2.2.2.2.1
  match v, hret, hfv with
  | none, hret, hfv =>
    have e : μ.2.2.2 = none := by
      cases h9 : μ.2.2.2 with
      | none => rfl
      | some ty => rw [h9] at hfv; cases ty <;> exact hfv.elim
    exact W.vret hF.1 hF.2.1 (hr.trans e) hend hS1.2.2 hret
  | some (.int r), hret, hfv =>
    cases h9 : μ.2.2.2 with
    | none => rw [h9] at hfv; exact hfv.elim
    | some ty =>
      rw [h9] at hfv
      exact W.zret hF.1 hF.2.1 (hr.trans h9) (by cases ty <;> exact hfv) hend hS1.2.2 hret
  | some (.long r), hret, hfv =>
    cases h9 : μ.2.2.2 with
    | none => rw [h9] at hfv; exact hfv.elim
    | some ty =>
      rw [h9] at hfv
      cases ty with
      | long => exact W.lret hF.1 hF.2.1 (hr.trans h9) hend hS1.2.2 hret
      | _ => exact hfv.elim
  | some (.ref r), hret, hfv =>
    cases h9 : μ.2.2.2 with
    | none => rw [h9] at hfv; exact hfv.elim
    | some ty =>
      rw [h9] at hfv
      cases ty with
      | object nm => exact W.aret hF.1 hF.2.1 (hr.trans h9) (Or.inl ⟨_, rfl⟩) (Or.inr ⟨_, rfl⟩) hend hS1.2.2 hret
      | _ => exact hfv.elim
/-- returns -/
theorem m_ret (v : Option Value) (hs : v.toList = st) (hr : mRet μ pc v) (hq : Q v σ) : mW G l d μ pc ls st σ Q := by
  subst hs
  intro p e s m args below meth c H locs cells slots lsr Z R hR hF hP hS hl hQ
  have := hQ v σ H locs lsr pc hq hP hS hr
  cases v <;> exact this
theorem m_ireturn {r : Int32} (hd : decode μ.2.1 pc = .ok (.ireturn, 1)) (hq : Q (some (.int r)) σ) : mW G l d μ pc ls [.int r] σ Q := m_ret (some (.int r)) rfl hd hq
theorem m_lreturn {r : Int64} (hd : decode μ.2.1 pc = .ok (.lreturn, 1)) (hq : Q (some (.long r)) σ) : mW G l d μ pc ls [.long r] σ Q := m_ret (some (.long r)) rfl hd hq
theorem m_areturn {r : Nat} (hd : decode μ.2.1 pc = .ok (.areturn, 1)) (hq : Q (some (.ref r)) σ) : mW G l d μ pc ls [.ref r] σ Q := m_ret (some (.ref r)) rfl hd hq
theorem m_return (hd : decode μ.2.1 pc = .ok (.return_, 1)) (hq : Q none σ) : mW G l d μ pc ls [] σ Q := m_ret none rfl hd hq
/-- what a run of a callee gives its caller -/
theorem m_goes {As rest : List Value} {Q1 : Option Value → mS → Prop} {p : Program} {e : Env} {s : State} {m : MethodId} {args : Array Value} {below : List Frame} {meth : Method} {c : Code} {H : Heap} {locs : List Loc} {cells slots : Nat} {lsr : Array Slot} {Z : State → Prop} {R : Room} {stk : List Value} {a : Array Value}
    (hr : va_Run p l e R s m args below meth c H locs cells slots 0 0 (F0 m pc lsr stk) (rest.map (mv G)) (mQc G Q1 a) G.2.2.1) (hS : va_S G.2.2.1 s.heap H locs)
    (kk : ∀ (v : Option Value) (σ1 : mS) (H1 : Heap) (locs1 : List Loc), Q1 v σ1 → va_P G.1 vwCl (mws G σ1) H1 → va_S G.2.2.1 s.heap H1 locs1 → W p l e R s m args below meth c H1 locs1 cells slots Z (F0 m (pc + 3) lsr ((v.toList ++ rest).map (mv G)))) : W p l e R s m args below meth c H locs cells slots Z (F0 m pc lsr stk) := by
  intro T hT X
  obtain ⟨v, st₀, t, T', L, h0, X', hL, e1, e2, ⟨⟨v1, σ1, hq, hv, hP1⟩, hz, hk⟩, stp⟩ := hr T hT X
  cases hv
  rw [h0] at hz hk
  obtain ⟨t2, a1, b1⟩ := kk v1 σ1 T'.heap (locs ++ L) hq (by rw [e1]; exact hP1)
    ⟨Nat.le_trans hS.1 (by rw [e1]; exact hz), fun q h1 h2 => by rw [e1, hk q (Nat.lt_of_lt_of_le h1 hS.1) h2]; exact hS.2.1 q h1 h2, fun q hq => by
      rcases List.mem_append.mp hq with h | h
      · exact hS.2.2 q h
      · exact hL q h⟩ T' rfl X'
  refine ⟨t2, stp t2 ?_, b1⟩
  rw [List.map_append] at a1
  cases v1 <;> exact a1
def mArity (y : MethodName) (n : Nat) : Prop := y.cls ≠ "java/lang/invoke/MethodHandle" ∧ y.cls ≠ "java/lang/invoke/VarHandle" ∧ (parseMethodDescriptor y.desc).map (fun dd => dd.parameters.length) = some n
/-- how class own's entry index calls μ1 on an object of class ci -/
def mCV (own : String) (index ci n : Nat) (μ1 : mM) : Prop := (∃ q : vw_C, vwCl[ci]? = some q ∧ μ1.1.cls = q.1) ∧ Cond.code μ1.1 μ1.2.1 μ1.2.2.1 μ1.2.2.2 ∈ mtbl ∧ Cond.methodLink own index μ1.1 ∈ mtbl ∧ Cond.instanceMethod μ1.1 ∈ mtbl ∧ Cond.selects μ1.1.cls μ1.1 μ1.1 ∈ mtbl ∧ Cond.initialized μ1.1.cls ∈ mtbl ∧ mArity μ1.1 n ∧ μ1.2.2.1 ≤ 20
def mCS (own : String) (index n : Nat) (μ1 : mM) : Prop := Cond.code μ1.1 μ1.2.1 μ1.2.2.1 μ1.2.2.2 ∈ mtbl ∧ (Cond.methodLink own index μ1.1 ∈ mtbl ∨ Cond.methodLinkNest own index μ1.1 "DodgemDebate" ∈ mnest) ∧ Cond.static μ1.1 ∈ mtbl ∧ Cond.initialized μ1.1.cls ∈ mtbl ∧ mArity μ1.1 n ∧ μ1.2.2.1 ≤ 20
theorem m_blind {As : List Value} : FrameBlind (va_Pc (As.map (mv G)) (fun U => va_P G.1 vwCl (mws G σ) U.heap ∧ mEnv G U)) := fun a U g mk q => ⟨q.1, q.2.1, q.2.2.calling g mk a⟩
theorem m_roomy {d d1 n : Nat} {R : Room} (h : d ≤ R.frames ∧ 39 * d ≤ R.locals) (h1 : d1 < d) (hn : n ≤ 20) : (mrm d1).frames + 1 ≤ R.frames ∧ 8 + (n + 11) + (mrm d1).locals ≤ R.locals := by
  show d1 + 1 ≤ R.frames ∧ 8 + (n + 11) + 39 * d1 ≤ R.locals
  omega
theorem m_callV {μ1 : mM} {ci N x index n d1 : Nat} {As stk : List Value} {Q1 : Option Value → mS → Prop} (hd : decode μ.2.1 pc = .ok (.invokevirtual index, 3)) (hC : mCV μ.1.cls index ci n μ1) (hx : mshp x = (ci, N)) (hc : ci ≤ 10) (hd1 : d1 < d) (hn : As.length = n) (hst : stk = As.reverse ++ .ref x :: st) (hw : (st.map fun v => v.category).sum ≤ 8)
    (hM : mMet G l d1 μ1 (.ref x :: As) σ Q1) (k : ∀ (v : Option Value) (σ1 : mS), Q1 v σ1 → mW G l d μ (pc + 3) ls (v.toList ++ st) σ1 Q) : mW G l d μ pc ls stk σ Q := by
  subst hst
  intro p e s m args below meth c H locs cells slots lsr Z R hR hF hP hS hl hQ
  obtain ⟨⟨q, hq, hcl⟩, c1, c2, c3, c4, c5, c6, c7⟩ := hC
  have hts := hF.2.2.2.2.2.1
  have hrun : va_Run p l e R s m args below meth c H locs cells slots 0 0 (F0 m pc lsr ((As.reverse ++ .ref x :: st).map (mv G))) (st.map (mv G)) (mQc G Q1 (Value.ref (G.2.2.2.1 x) :: As.map (mv G)).toArray) G.2.2.1 := by
    refine va_runV (C := μ1.1.cls) (b := G.2.2.2.1 x) (As := As.map (mv G)) (bytes := μ1.2.1) (maxL := μ1.2.2.1) (ret := μ1.2.2.2) (n := n) (own := μ.1.cls) (Ts := mtbl) (index := index) (rm := mrm d1) (ws := mwd μ1) ⟨hF.1, hF.2.1, hF.2.2.1, hF.2.2.2.2.1, hts⟩ hM ⟨callB_of n hts (mwd_in c1) rfl rfl rfl (hts _ c5) (hts _ c2) c6 (m_roomy ⟨hR.1, hR.2.1⟩ hd1 c7), hts _ c3, hts _ c4⟩ ⟨m_blind, ?_, fun U hU hW => ⟨rfl, by rw [hU]; exact hP, (m_env hF).warm hW hS hU⟩⟩ rfl (by rw [List.length_map]; exact hn) hl.1 (by rw [List.map_append, List.map_reverse]; rfl) (lv_room (by rw [mv_cats]; exact hw)) hd ⟨hR.2.2.1, hR.2.2.2⟩
    rw [hcl]
    exact va_recv (m_env hF).1 hP hq (q0 := x) (fs := (List.range N).map (mfv G σ ci x)) (by rw [mws_at (mshp_lt hx (by omega)), mE_o hx hc])
  exact m_goes (As := As) hrun hS (fun v σ1 H1 locs1 hq1 hP1 hS1 => k v σ1 hq1 p e s m args below meth c H1 locs1 cells slots lsr Z R hR hF hP1 hS1 hl hQ)
theorem m_callS {μ1 : mM} {index n d1 : Nat} {As stk : List Value} {Q1 : Option Value → mS → Prop} (hd : decode μ.2.1 pc = .ok (.invokestatic index, 3)) (hC : mCS μ.1.cls index n μ1) (hd1 : d1 < d) (hn : As.length = n) (hst : stk = As.reverse ++ st) (hw : (st.map fun v => v.category).sum ≤ 8)
    (hM : mMet G l d1 μ1 As σ Q1) (k : ∀ (v : Option Value) (σ1 : mS), Q1 v σ1 → mW G l d μ (pc + 3) ls (v.toList ++ st) σ1 Q) : mW G l d μ pc ls stk σ Q := by
  subst hst
  intro p e s m args below meth c H locs cells slots lsr Z R hR hF hP hS hl hQ
  obtain ⟨c1, c2, c3, c5, c6, c7⟩ := hC
  have hts := hF.2.2.2.2.2.1
  have hrun : va_Run p l e R s m args below meth c H locs cells slots 0 0 (F0 m pc lsr ((As.reverse ++ st).map (mv G))) (st.map (mv G)) (mQc G Q1 (As.map (mv G)).toArray) G.2.2.1 := by
    rcases c2 with c2 | c2
    · exact va_runS (As := As.map (mv G)) (bytes := μ1.2.1) (maxL := μ1.2.2.1) (ret := μ1.2.2.2) (n := n) (own := μ.1.cls) (Ts := mtbl) (index := index) (rm := mrm d1) (ws := mwd μ1) ⟨hF.1, hF.2.1, hF.2.2.1, hF.2.2.2.2.1, hts⟩ hM ⟨callB_of n hts (mwd_in c1) rfl rfl rfl (hts _ c5) (hts _ c2) c6 (m_roomy ⟨hR.1, hR.2.1⟩ hd1 c7), hts _ c3⟩ ⟨m_blind, fun U hU hW => ⟨rfl, by rw [hU]; exact hP, (m_env hF).warm hW hS hU⟩⟩ rfl (by rw [List.length_map]; exact hn) hl.1 (by rw [List.map_append, List.map_reverse]) (lv_room (by rw [mv_cats]; exact hw)) hd ⟨hR.2.2.1, hR.2.2.2⟩
    · exact va_runSN (As := As.map (mv G)) (bytes := μ1.2.1) (maxL := μ1.2.2.1) (ret := μ1.2.2.2) (n := n) (own := μ.1.cls) (Ts := mtbl) (index := index) (rm := mrm d1) (ws := mwd μ1) (host := "DodgemDebate") ⟨hF.1, hF.2.1, hF.2.2.1, hF.2.2.2.2.1, hts⟩ hM ⟨va_cnB n hts (mwd_in c1) rfl rfl rfl ((m_env hF).2.1.1 _ c2) (hts _ c5) c6 (m_roomy ⟨hR.1, hR.2.1⟩ hd1 c7), hts _ c3, trivial⟩ ⟨m_blind, fun U hU hW => ⟨rfl, by rw [hU]; exact hP, (m_env hF).warm hW hS hU⟩⟩ rfl (by rw [List.length_map]; exact hn) hl.1 (by rw [List.map_append, List.map_reverse]) (lv_room (by rw [mv_cats]; exact hw)) hd ⟨hR.2.2.1, hR.2.2.2⟩
  exact m_goes (As := As) hrun hS (fun v σ1 H1 locs1 hq1 hP1 hS1 => k v σ1 hq1 p e s m args below meth c H1 locs1 cells slots lsr Z R hR hF hP1 hS1 hl hQ)
/-- a method of a constant text -/
def mCX (own : String) (index n : Nat) (μ1 : mM) : Prop := μ1.1.cls = "java/lang/String" ∧ Cond.code μ1.1 μ1.2.1 μ1.2.2.1 μ1.2.2.2 ∈ mtbl ∧ Cond.methodLink own index μ1.1 ∈ mtbl ∧ Cond.instanceMethod μ1.1 ∈ mtbl ∧ Cond.selects μ1.1.cls μ1.1 μ1.1 ∈ mtbl ∧ Cond.initialized μ1.1.cls ∈ mtbl ∧ mArity μ1.1 n ∧ μ1.2.2.1 ≤ 20
theorem m_callX {μ1 : mM} {i index n d1 : Nat} {As stk : List Value} {Q1 : Option Value → mS → Prop} (hd : decode μ.2.1 pc = .ok (.invokevirtual index, 3)) (hC : mCX μ.1.cls index n μ1) (q : String × Nat × String × List Int32) (hq : mstr[i]? = some q) (hd1 : d1 < d) (hn : As.length = n) (hst : stk = As.reverse ++ .ref (1010 + i) :: st) (hw : (st.map fun v => v.category).sum ≤ 8)
    (hM : mMet G l d1 μ1 (.ref (1010 + i) :: As) σ Q1) (k : ∀ (v : Option Value) (σ1 : mS), Q1 v σ1 → mW G l d μ (pc + 3) ls (v.toList ++ st) σ1 Q) : mW G l d μ pc ls stk σ Q := by
  subst hst
  intro p e s m args below meth c H locs cells slots lsr Z R hR hF hP hS hl hQ
  obtain ⟨hcl, c1, c2, c3, c4, c5, c6, c7⟩ := hC
  have hts := hF.2.2.2.2.2.1
  have hrun : va_Run p l e R s m args below meth c H locs cells slots 0 0 (F0 m pc lsr ((As.reverse ++ .ref (1010 + i) :: st).map (mv G))) (st.map (mv G)) (mQc G Q1 (Value.ref (G.2.2.2.1 (1010 + i)) :: As.map (mv G)).toArray) G.2.2.1 := by
    refine va_runV (C := μ1.1.cls) (b := G.2.2.2.1 (1010 + i)) (As := As.map (mv G)) (bytes := μ1.2.1) (maxL := μ1.2.2.1) (ret := μ1.2.2.2) (n := n) (own := μ.1.cls) (Ts := mtbl) (index := index) (rm := mrm d1) (ws := mwd μ1) ⟨hF.1, hF.2.1, hF.2.2.1, hF.2.2.2.2.1, hts⟩ hM ⟨callB_of n hts (mwd_in c1) rfl rfl rfl (hts _ c5) (hts _ c2) c6 (m_roomy ⟨hR.1, hR.2.1⟩ hd1 c7), hts _ c3, hts _ c4⟩ ⟨m_blind, ?_, fun U hU hW => ⟨rfl, by rw [hU]; exact hP, (m_env hF).warm hW hS hU⟩⟩ rfl (by rw [List.length_map]; exact hn) hl.1 (by rw [List.map_append, List.map_reverse]; rfl) (lv_room (by rw [mv_cats]; exact hw)) hd ⟨hR.2.2.1, hR.2.2.2⟩
    rw [hcl]
    obtain ⟨cell, g1, g2, g3, -⟩ := ((m_env hF).2.1.2.2.2.1 i q hq).2.1.kept hS.2.1
    exact ⟨cell, g1, g2, g3⟩
  exact m_goes (As := As) hrun hS (fun v σ1 H1 locs1 hq1 hP1 hS1 => k v σ1 hq1 p e s m args below meth c H1 locs1 cells slots lsr Z R hR hF hP1 hS1 hl hQ)
/-- an inherited method, or one that overrides what the reference names -/
def mCU (own C owner : String) (index n : Nat) (x : MethodName) (μ1 : mM) : Prop := Cond.code μ1.1 μ1.2.1 μ1.2.2.1 μ1.2.2.2 ∈ mtbl ∧ Cond.methodLink own index x ∈ mtbl ∧ Cond.sameMethod x.cls owner x.name x.desc ∈ mtbl ∧ Cond.selects C x μ1.1 ∈ mtbl ∧ Cond.instanceMethod μ1.1 ∈ mtbl ∧ Cond.initialized μ1.1.cls ∈ mtbl ∧ (owner ≠ "java/lang/invoke/MethodHandle" ∧ owner ≠ "java/lang/invoke/VarHandle" ∧ (parseMethodDescriptor x.desc).map (fun dd => dd.parameters.length) = some n) ∧ (Cond.declares ⟨owner, x.name, x.desc⟩ ∈ mnest ∨ μ1.1 = ⟨owner, x.name, x.desc⟩) ∧ μ1.2.2.1 ≤ 20
theorem m_callU {μ1 : mM} {ci N x index n d1 : Nat} {C owner : String} {xn : MethodName} {As stk : List Value} {Q1 : Option Value → mS → Prop} {qc : vw_C} (hd : decode μ.2.1 pc = .ok (.invokevirtual index, 3)) (hC : mCU μ.1.cls C owner index n xn μ1) (hqc : vwCl[ci]? = some qc) (hcl : C = qc.1) (hx : mshp x = (ci, N)) (hc : ci ≤ 10) (hd1 : d1 < d) (hn : As.length = n) (hst : stk = As.reverse ++ .ref x :: st) (hw : (st.map fun v => v.category).sum ≤ 8)
    (hM : mMet G l d1 μ1 (.ref x :: As) σ Q1) (k : ∀ (v : Option Value) (σ1 : mS), Q1 v σ1 → mW G l d μ (pc + 3) ls (v.toList ++ st) σ1 Q) : mW G l d μ pc ls stk σ Q := by
  subst hst
  intro p e s m args below meth c H locs cells slots lsr Z R hR hF hP hS hl hQ
  obtain ⟨c1, c2, c3, c4, c5, c6, c7, c8, c9⟩ := hC
  have hts := hF.2.2.2.2.2.1
  have hG := mwd_in c1
  have hr9 := m_roomy ⟨hR.1, hR.2.1⟩ hd1 c9
  have hcu : va_CU R s args μ.1.cls C owner index xn μ1.1 μ1.2.1 μ1.2.2.1 μ1.2.2.2 (mwd μ1) (mrm d1) 0 0 n := by
    refine ⟨⟨rfl, rfl, hr9.1, hr9.2, pay_in hts hG, List.mem_cons_self⟩, hts _ c1, hts _ c6, ⟨c7.1, c7.2.1⟩, fun sig h => ?_, hts _ c2, hts _ c3, ?_, hts _ c4, hts _ c5⟩
    · have h2 := c7.2.2
      rw [h] at h2
      exact (Option.some.inj h2).symm
    · rcases c8 with c8 | c8
      · exact va_Decl.abs ((m_env hF).2.1.1 _ c8)
      · rw [← c8]
        exact va_Decl.of (hts _ c5) (hts _ c1)
  have hrun : va_Run p l e R s m args below meth c H locs cells slots 0 0 (F0 m pc lsr ((As.reverse ++ .ref x :: st).map (mv G))) (st.map (mv G)) (mQc G Q1 (Value.ref (G.2.2.2.1 x) :: As.map (mv G)).toArray) G.2.2.1 := by
    refine va_runU (C := C) (owner := owner) (x := xn) (b := G.2.2.2.1 x) (As := As.map (mv G)) (bytes := μ1.2.1) (maxL := μ1.2.2.1) (ret := μ1.2.2.2) (n := n) (own := μ.1.cls) (Ts := mtbl) (index := index) (rm := mrm d1) (ws := mwd μ1) ⟨hF.1, hF.2.1, hF.2.2.1, hF.2.2.2.2.1, hts⟩ hM hcu ⟨m_blind, ?_, fun U hU hW => ⟨rfl, by rw [hU]; exact hP, (m_env hF).warm hW hS hU⟩⟩ rfl (by rw [List.length_map]; exact hn) hl.1 (by rw [List.map_append, List.map_reverse]; rfl) (lv_room (by rw [mv_cats]; exact hw)) hd ⟨hR.2.2.1, hR.2.2.2⟩
    rw [hcl]
    exact va_recv (m_env hF).1 hP hqc (q0 := x) (fs := (List.range N).map (mfv G σ ci x)) (by rw [mws_at (mshp_lt hx (by omega)), mE_o hx hc])
  exact m_goes (As := As) hrun hS (fun v σ1 H1 locs1 hq1 hP1 hS1 => k v σ1 hq1 p e s m args below meth c H1 locs1 cells slots lsr Z R hR hF hP1 hS1 hl hQ)
/-- the store with one row changed -/
def ur (σ : mS) (y : Nat) (f : Nat → Int32) : mS := (fun z => if z = y then f else σ.1 z, σ.2)
theorem ur_ne {y z : Nat} {f : Nat → Int32} (h : z ≠ y) : (ur σ y f).1 z = σ.1 z := if_neg h
theorem ur_eq {y : Nat} {f : Nat → Int32} : (ur σ y f).1 y = f := if_pos rfl
theorem nfw : nativeFrameWords "java/lang/System" "arraycopy" 5 + 11 ≤ 31 := by decide
theorem m_copy {x y nx ny index sp dp n : Nat} {isp idp inn : Int32} (hd : decode μ.2.1 pc = .ok (.invokestatic index, 3)) (hL : Cond.methodLink μ.1.cls index arraycopyName ∈ mtbl) (hnat : Cond.native arraycopyName ∈ mtbl) (hsta : Cond.static arraycopyName ∈ mtbl) (hini : Cond.initialized "java/lang/System" ∈ mtbl) (hx : mshp x = (11, nx)) (hy : mshp y = (11, ny)) (e1 : isp = nI sp) (e2 : idp = nI dp) (e3 : inn = nI n) (h1 : sp + n ≤ nx) (h2 : dp + n ≤ ny) (hd0 : 0 < d) (hw : (st.map fun v => v.category).sum ≤ 8)
    (k : mW G l d μ (pc + 3) ls st (ur σ y (va_cpy (σ.1 x) (σ.1 y) sp dp n)) Q) : mW G l d μ pc ls (.int inn :: .int idp :: .ref y :: .int isp :: .ref x :: st) σ Q := by
  subst e1 e2 e3
  intro p e s m args below meth c H locs cells slots lsr Z R hR hF hP hS hl hQ
  have hts := hF.2.2.2.2.2.1
  have lx := mshp_len hx
  have ly := mshp_len hy
  have b : ∀ q, q ≤ 256 → q < 2 ^ 31 := fun q hq => Nat.lt_of_le_of_lt hq (by decide)
  refine va_copyi hF.1 hF.2.1 (hF.2.2.1.trans hl.1.symm) hF.2.2.2.2.1 (hts _ hL) (hts _ hnat) (hts _ hsta) (hts _ hini) (m_env hF).1 hP (mws_D (m_env hF)) hS x y 0 0 (a0 := G.2.2.2.1 x) (c0 := G.2.1 0) (c1 := G.2.1 0) (n0 := nx) (n1 := ny) (f := σ.1 x) (g := σ.1 y) (ty := .int) (by rw [mws_at (mshp_lt hx (by decide)), mE_i hx]) (by rw [mws_at (mshp_lt hy (by decide)), mE_i hy]) rfl rfl rfl (nI_pos (b _ (by omega))) (nI_pos (b _ (by omega))) (nI_pos (b _ (by omega))) (by rw [nI_clamp (b _ (by omega)), nI_clamp (b _ (by omega))]; exact h1) (by rw [nI_clamp (b _ (by omega)), nI_clamp (b _ (by omega))]; exact h2) (fun _ _ => rfl) (by omega) (by rw [mv_cats]; have := nfw; omega) hd (fun H1 locs1 hP1 _ hS1 => ?_)
  rw [nI_clamp (b sp (by omega)), nI_clamp (b dp (by omega)), nI_clamp (b n (by omega)), mws_set (σ1 := ur σ y (va_cpy (σ.1 x) (σ.1 y) sp dp n)) (mshp_lt hy (by decide)) (by rw [mE_i hy, ur_eq]) (fun z hz => mE_ne (ur_ne hz) rfl)] at hP1
  exact k p e s m args below meth c H1 locs1 cells slots lsr Z R hR hF hP1 hS1 hl hQ
end MC
end
