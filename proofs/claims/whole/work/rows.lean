section
-- ===== PART A: goes FIRST, ahead of the names: the tables' words, and 'selects' of the private methods out of them =====
/-- a private method of a class that the tables say can be made, by its rows of tables_1 -/
def lw_okq (q : MethodName × Nat) : Prop := (q.1.cls ≠ "java/lang/invoke/MethodHandle" ∧ q.1.cls ≠ "java/lang/invoke/VarHandle") ∧ Cond.instantiable q.1.cls q.2 ∈ tables_1 ∧ Cond.privateMethod q.1 ∈ tables_1 ∧ Cond.instanceMethod q.1 ∈ tables_1
theorem lw_p0 : lw_okq (⟨"DodgemDebate", "textOf", "(I)LDodgemDebate$Text;"⟩, 11) := ⟨⟨by decide +kernel, by decide +kernel⟩, List.mem_of_getElem? (i := 23) (by decide +kernel), List.mem_of_getElem? (i := 326) (by decide +kernel), List.mem_of_getElem? (i := 327) (by decide +kernel)⟩
theorem lw_p1 : lw_okq (⟨"DodgemDebate", "settle", "()V"⟩, 11) := ⟨⟨by decide +kernel, by decide +kernel⟩, List.mem_of_getElem? (i := 23) (by decide +kernel), List.mem_of_getElem? (i := 346) (by decide +kernel), List.mem_of_getElem? (i := 347) (by decide +kernel)⟩
theorem lw_p2 : lw_okq (⟨"DodgemDebate$Cars", "freeY", "(II)I"⟩, 5) := ⟨⟨by decide +kernel, by decide +kernel⟩, List.mem_of_getElem? (i := 48) (by decide +kernel), List.mem_of_getElem? (i := 454) (by decide +kernel), List.mem_of_getElem? (i := 455) (by decide +kernel)⟩
theorem lw_p3 : lw_okq (⟨"DodgemDebate$Run", "begin", "(LDodgemDebate$Cars;)V"⟩, 10) := ⟨⟨by decide +kernel, by decide +kernel⟩, List.mem_of_getElem? (i := 182) (by decide +kernel), List.mem_of_getElem? (i := 477) (by decide +kernel), List.mem_of_getElem? (i := 478) (by decide +kernel)⟩
theorem lw_p4 : lw_okq (⟨"DodgemDebate$Run", "doEvents", "(LDodgemDebate$Events;II)V"⟩, 10) := ⟨⟨by decide +kernel, by decide +kernel⟩, List.mem_of_getElem? (i := 182) (by decide +kernel), List.mem_of_getElem? (i := 484) (by decide +kernel), List.mem_of_getElem? (i := 485) (by decide +kernel)⟩
theorem lw_p5 : lw_okq (⟨"DodgemDebate$Run", "doSteers", "(LDodgemDebate$Cars;LDodgemDebate$Steers;I)V"⟩, 10) := ⟨⟨by decide +kernel, by decide +kernel⟩, List.mem_of_getElem? (i := 182) (by decide +kernel), List.mem_of_getElem? (i := 488) (by decide +kernel), List.mem_of_getElem? (i := 489) (by decide +kernel)⟩
theorem lw_p6 : lw_okq (⟨"DodgemDebate$Run", "go", "(LDodgemDebate$Cars;II)V"⟩, 10) := ⟨⟨by decide +kernel, by decide +kernel⟩, List.mem_of_getElem? (i := 182) (by decide +kernel), List.mem_of_getElem? (i := 492) (by decide +kernel), List.mem_of_getElem? (i := 493) (by decide +kernel)⟩
theorem lw_p7 : lw_okq (⟨"DodgemDebate$Run", "countStrike", "(IIII)V"⟩, 10) := ⟨⟨by decide +kernel, by decide +kernel⟩, List.mem_of_getElem? (i := 182) (by decide +kernel), List.mem_of_getElem? (i := 503) (by decide +kernel), List.mem_of_getElem? (i := 504) (by decide +kernel)⟩
theorem lw_p8 : lw_okq (⟨"DodgemDebate$Run", "shift", "(III)V"⟩, 10) := ⟨⟨by decide +kernel, by decide +kernel⟩, List.mem_of_getElem? (i := 182) (by decide +kernel), List.mem_of_getElem? (i := 507) (by decide +kernel), List.mem_of_getElem? (i := 508) (by decide +kernel)⟩
theorem lw_p9 : lw_okq (⟨"DodgemDebate$Run", "keep", "(I)V"⟩, 10) := ⟨⟨by decide +kernel, by decide +kernel⟩, List.mem_of_getElem? (i := 182) (by decide +kernel), List.mem_of_getElem? (i := 511) (by decide +kernel), List.mem_of_getElem? (i := 512) (by decide +kernel)⟩
theorem lw_p10 : lw_okq (⟨"DodgemDebate", "ayesAhead", "(I)I"⟩, 11) := ⟨⟨by decide +kernel, by decide +kernel⟩, List.mem_of_getElem? (i := 23) (by decide +kernel), List.mem_of_getElem? (i := 658) (by decide +kernel), List.mem_of_getElem? (i := 659) (by decide +kernel)⟩
theorem lw_p11 : lw_okq (⟨"DodgemDebate$Trials", "touchesAll", "(I)Z"⟩, 10) := ⟨⟨by decide +kernel, by decide +kernel⟩, List.mem_of_getElem? (i := 228) (by decide +kernel), List.mem_of_getElem? (i := 674) (by decide +kernel), List.mem_of_getElem? (i := 675) (by decide +kernel)⟩
theorem lw_p12 : lw_okq (⟨"DodgemDebate$Trials", "agrees", "(III)Z"⟩, 10) := ⟨⟨by decide +kernel, by decide +kernel⟩, List.mem_of_getElem? (i := 228) (by decide +kernel), List.mem_of_getElem? (i := 721) (by decide +kernel), List.mem_of_getElem? (i := 722) (by decide +kernel)⟩
theorem lw_p13 : lw_okq (⟨"DodgemDebate$Trials", "cellOf", "(II)I"⟩, 10) := ⟨⟨by decide +kernel, by decide +kernel⟩, List.mem_of_getElem? (i := 228) (by decide +kernel), List.mem_of_getElem? (i := 737) (by decide +kernel), List.mem_of_getElem? (i := 738) (by decide +kernel)⟩
theorem lw_p14 : lw_okq (⟨"DodgemDebate$Trials", "mostAlike", "(I)I"⟩, 10) := ⟨⟨by decide +kernel, by decide +kernel⟩, List.mem_of_getElem? (i := 228) (by decide +kernel), List.mem_of_getElem? (i := 742) (by decide +kernel), List.mem_of_getElem? (i := 743) (by decide +kernel)⟩
theorem lw_p15 : lw_okq (⟨"DodgemDebate$Trials", "findStruck", "()V"⟩, 10) := ⟨⟨by decide +kernel, by decide +kernel⟩, List.mem_of_getElem? (i := 228) (by decide +kernel), List.mem_of_getElem? (i := 756) (by decide +kernel), List.mem_of_getElem? (i := 757) (by decide +kernel)⟩
def lw_privs_1 : List (MethodName × Nat) := [(⟨"DodgemDebate", "textOf", "(I)LDodgemDebate$Text;"⟩, 11), (⟨"DodgemDebate", "settle", "()V"⟩, 11), (⟨"DodgemDebate$Cars", "freeY", "(II)I"⟩, 5), (⟨"DodgemDebate$Run", "begin", "(LDodgemDebate$Cars;)V"⟩, 10), (⟨"DodgemDebate$Run", "doEvents", "(LDodgemDebate$Events;II)V"⟩, 10), (⟨"DodgemDebate$Run", "doSteers", "(LDodgemDebate$Cars;LDodgemDebate$Steers;I)V"⟩, 10), (⟨"DodgemDebate$Run", "go", "(LDodgemDebate$Cars;II)V"⟩, 10), (⟨"DodgemDebate$Run", "countStrike", "(IIII)V"⟩, 10), (⟨"DodgemDebate$Run", "shift", "(III)V"⟩, 10), (⟨"DodgemDebate$Run", "keep", "(I)V"⟩, 10), (⟨"DodgemDebate", "ayesAhead", "(I)I"⟩, 11), (⟨"DodgemDebate$Trials", "touchesAll", "(I)Z"⟩, 10), (⟨"DodgemDebate$Trials", "agrees", "(III)Z"⟩, 10), (⟨"DodgemDebate$Trials", "cellOf", "(II)I"⟩, 10), (⟨"DodgemDebate$Trials", "mostAlike", "(I)I"⟩, 10), (⟨"DodgemDebate$Trials", "findStruck", "()V"⟩, 10)]
theorem lw_r1 : ∀ q ∈ lw_privs_1, lw_okq q := List.forall_mem_cons.mpr ⟨lw_p0, List.forall_mem_cons.mpr ⟨lw_p1, List.forall_mem_cons.mpr ⟨lw_p2, List.forall_mem_cons.mpr ⟨lw_p3, List.forall_mem_cons.mpr ⟨lw_p4, List.forall_mem_cons.mpr ⟨lw_p5, List.forall_mem_cons.mpr ⟨lw_p6, List.forall_mem_cons.mpr ⟨lw_p7, List.forall_mem_cons.mpr ⟨lw_p8, List.forall_mem_cons.mpr ⟨lw_p9, List.forall_mem_cons.mpr ⟨lw_p10, List.forall_mem_cons.mpr ⟨lw_p11, List.forall_mem_cons.mpr ⟨lw_p12, List.forall_mem_cons.mpr ⟨lw_p13, List.forall_mem_cons.mpr ⟨lw_p14, List.forall_mem_cons.mpr ⟨lw_p15, fun _ h => absurd h List.not_mem_nil⟩⟩⟩⟩⟩⟩⟩⟩⟩⟩⟩⟩⟩⟩⟩⟩
theorem lw_p16 : lw_okq (⟨"DodgemDebate$Trials", "weightOf", "(II)J"⟩, 10) := ⟨⟨by decide +kernel, by decide +kernel⟩, List.mem_of_getElem? (i := 228) (by decide +kernel), List.mem_of_getElem? (i := 764) (by decide +kernel), List.mem_of_getElem? (i := 765) (by decide +kernel)⟩
theorem lw_p17 : lw_okq (⟨"DodgemDebate", "fractionPart", "(JI)J"⟩, 11) := ⟨⟨by decide +kernel, by decide +kernel⟩, List.mem_of_getElem? (i := 23) (by decide +kernel), List.mem_of_getElem? (i := 768) (by decide +kernel), List.mem_of_getElem? (i := 769) (by decide +kernel)⟩
theorem lw_p18 : lw_okq (⟨"DodgemDebate", "addTold", "()V"⟩, 11) := ⟨⟨by decide +kernel, by decide +kernel⟩, List.mem_of_getElem? (i := 23) (by decide +kernel), List.mem_of_getElem? (i := 847) (by decide +kernel), List.mem_of_getElem? (i := 848) (by decide +kernel)⟩
theorem lw_p19 : lw_okq (⟨"DodgemDebate", "addCar", "(I)V"⟩, 11) := ⟨⟨by decide +kernel, by decide +kernel⟩, List.mem_of_getElem? (i := 23) (by decide +kernel), List.mem_of_getElem? (i := 858) (by decide +kernel), List.mem_of_getElem? (i := 859) (by decide +kernel)⟩
theorem lw_p20 : lw_okq (⟨"DodgemDebate", "addHouse", "()V"⟩, 11) := ⟨⟨by decide +kernel, by decide +kernel⟩, List.mem_of_getElem? (i := 23) (by decide +kernel), List.mem_of_getElem? (i := 864) (by decide +kernel), List.mem_of_getElem? (i := 865) (by decide +kernel)⟩
theorem lw_p21 : lw_okq (⟨"DodgemDebate", "addWhole", "()V"⟩, 11) := ⟨⟨by decide +kernel, by decide +kernel⟩, List.mem_of_getElem? (i := 23) (by decide +kernel), List.mem_of_getElem? (i := 869) (by decide +kernel), List.mem_of_getElem? (i := 870) (by decide +kernel)⟩
theorem lw_p22 : lw_okq (⟨"DodgemDebateModel", "faultOf", "(I)I"⟩, 53) := ⟨⟨by decide +kernel, by decide +kernel⟩, List.mem_of_getElem? (i := 876) (by decide +kernel), List.mem_of_getElem? (i := 1065) (by decide +kernel), List.mem_of_getElem? (i := 1066) (by decide +kernel)⟩
theorem lw_p23 : lw_okq (⟨"DodgemDebateModel", "readsParts", "(I)I"⟩, 53) := ⟨⟨by decide +kernel, by decide +kernel⟩, List.mem_of_getElem? (i := 876) (by decide +kernel), List.mem_of_getElem? (i := 1069) (by decide +kernel), List.mem_of_getElem? (i := 1070) (by decide +kernel)⟩
theorem lw_p24 : lw_okq (⟨"DodgemDebateModel", "readsCar", "(II)I"⟩, 53) := ⟨⟨by decide +kernel, by decide +kernel⟩, List.mem_of_getElem? (i := 876) (by decide +kernel), List.mem_of_getElem? (i := 1073) (by decide +kernel), List.mem_of_getElem? (i := 1074) (by decide +kernel)⟩
theorem lw_p25 : lw_okq (⟨"DodgemDebateModel", "byteAt", "(II)I"⟩, 53) := ⟨⟨by decide +kernel, by decide +kernel⟩, List.mem_of_getElem? (i := 876) (by decide +kernel), List.mem_of_getElem? (i := 1077) (by decide +kernel), List.mem_of_getElem? (i := 1078) (by decide +kernel)⟩
theorem lw_p26 : lw_okq (⟨"DodgemDebateModel", "isTold", "(III)Z"⟩, 53) := ⟨⟨by decide +kernel, by decide +kernel⟩, List.mem_of_getElem? (i := 876) (by decide +kernel), List.mem_of_getElem? (i := 1090) (by decide +kernel), List.mem_of_getElem? (i := 1091) (by decide +kernel)⟩
theorem lw_p27 : lw_okq (⟨"DodgemDebateModel", "readsSteer", "(II)I"⟩, 53) := ⟨⟨by decide +kernel, by decide +kernel⟩, List.mem_of_getElem? (i := 876) (by decide +kernel), List.mem_of_getElem? (i := 1094) (by decide +kernel), List.mem_of_getElem? (i := 1095) (by decide +kernel)⟩
theorem lw_p28 : lw_okq (⟨"DodgemDebateModel", "isCar", "(I)Z"⟩, 53) := ⟨⟨by decide +kernel, by decide +kernel⟩, List.mem_of_getElem? (i := 876) (by decide +kernel), List.mem_of_getElem? (i := 1102) (by decide +kernel), List.mem_of_getElem? (i := 1103) (by decide +kernel)⟩
theorem lw_p29 : lw_okq (⟨"DodgemDebateModel", "reads", "()V"⟩, 53) := ⟨⟨by decide +kernel, by decide +kernel⟩, List.mem_of_getElem? (i := 876) (by decide +kernel), List.mem_of_getElem? (i := 1106) (by decide +kernel), List.mem_of_getElem? (i := 1107) (by decide +kernel)⟩
theorem lw_p30 : lw_okq (⟨"DodgemDebateModel", "carOf", "(II)I"⟩, 53) := ⟨⟨by decide +kernel, by decide +kernel⟩, List.mem_of_getElem? (i := 876) (by decide +kernel), List.mem_of_getElem? (i := 1110) (by decide +kernel), List.mem_of_getElem? (i := 1111) (by decide +kernel)⟩
theorem lw_p31 : lw_okq (⟨"DodgemDebateModel", "steerTold", "(II)I"⟩, 53) := ⟨⟨by decide +kernel, by decide +kernel⟩, List.mem_of_getElem? (i := 876) (by decide +kernel), List.mem_of_getElem? (i := 1121) (by decide +kernel), List.mem_of_getElem? (i := 1122) (by decide +kernel)⟩
def lw_privs_2 : List (MethodName × Nat) := [(⟨"DodgemDebate$Trials", "weightOf", "(II)J"⟩, 10), (⟨"DodgemDebate", "fractionPart", "(JI)J"⟩, 11), (⟨"DodgemDebate", "addTold", "()V"⟩, 11), (⟨"DodgemDebate", "addCar", "(I)V"⟩, 11), (⟨"DodgemDebate", "addHouse", "()V"⟩, 11), (⟨"DodgemDebate", "addWhole", "()V"⟩, 11), (⟨"DodgemDebateModel", "faultOf", "(I)I"⟩, 53), (⟨"DodgemDebateModel", "readsParts", "(I)I"⟩, 53), (⟨"DodgemDebateModel", "readsCar", "(II)I"⟩, 53), (⟨"DodgemDebateModel", "byteAt", "(II)I"⟩, 53), (⟨"DodgemDebateModel", "isTold", "(III)Z"⟩, 53), (⟨"DodgemDebateModel", "readsSteer", "(II)I"⟩, 53), (⟨"DodgemDebateModel", "isCar", "(I)Z"⟩, 53), (⟨"DodgemDebateModel", "reads", "()V"⟩, 53), (⟨"DodgemDebateModel", "carOf", "(II)I"⟩, 53), (⟨"DodgemDebateModel", "steerTold", "(II)I"⟩, 53)]
theorem lw_r2 : ∀ q ∈ lw_privs_2, lw_okq q := List.forall_mem_cons.mpr ⟨lw_p16, List.forall_mem_cons.mpr ⟨lw_p17, List.forall_mem_cons.mpr ⟨lw_p18, List.forall_mem_cons.mpr ⟨lw_p19, List.forall_mem_cons.mpr ⟨lw_p20, List.forall_mem_cons.mpr ⟨lw_p21, List.forall_mem_cons.mpr ⟨lw_p22, List.forall_mem_cons.mpr ⟨lw_p23, List.forall_mem_cons.mpr ⟨lw_p24, List.forall_mem_cons.mpr ⟨lw_p25, List.forall_mem_cons.mpr ⟨lw_p26, List.forall_mem_cons.mpr ⟨lw_p27, List.forall_mem_cons.mpr ⟨lw_p28, List.forall_mem_cons.mpr ⟨lw_p29, List.forall_mem_cons.mpr ⟨lw_p30, List.forall_mem_cons.mpr ⟨lw_p31, fun _ h => absurd h List.not_mem_nil⟩⟩⟩⟩⟩⟩⟩⟩⟩⟩⟩⟩⟩⟩⟩⟩
theorem lw_p32 : lw_okq (⟨"DodgemDebateModel", "meets", "(I)I"⟩, 53) := ⟨⟨by decide +kernel, by decide +kernel⟩, List.mem_of_getElem? (i := 876) (by decide +kernel), List.mem_of_getElem? (i := 1149) (by decide +kernel), List.mem_of_getElem? (i := 1150) (by decide +kernel)⟩
theorem lw_p33 : lw_okq (⟨"DodgemDebateModel", "atOf", "(III)I"⟩, 53) := ⟨⟨by decide +kernel, by decide +kernel⟩, List.mem_of_getElem? (i := 876) (by decide +kernel), List.mem_of_getElem? (i := 1158) (by decide +kernel), List.mem_of_getElem? (i := 1159) (by decide +kernel)⟩
theorem lw_p34 : lw_okq (⟨"DodgemDebateModel", "runsTold", "()V"⟩, 53) := ⟨⟨by decide +kernel, by decide +kernel⟩, List.mem_of_getElem? (i := 876) (by decide +kernel), List.mem_of_getElem? (i := 1162) (by decide +kernel), List.mem_of_getElem? (i := 1163) (by decide +kernel)⟩
theorem lw_p35 : lw_okq (⟨"DodgemDebateModel", "asTold", "()V"⟩, 53) := ⟨⟨by decide +kernel, by decide +kernel⟩, List.mem_of_getElem? (i := 876) (by decide +kernel), List.mem_of_getElem? (i := 1166) (by decide +kernel), List.mem_of_getElem? (i := 1167) (by decide +kernel)⟩
theorem lw_p36 : lw_okq (⟨"DodgemDebateModel", "runs", "()V"⟩, 53) := ⟨⟨by decide +kernel, by decide +kernel⟩, List.mem_of_getElem? (i := 876) (by decide +kernel), List.mem_of_getElem? (i := 1170) (by decide +kernel), List.mem_of_getElem? (i := 1171) (by decide +kernel)⟩
theorem lw_p37 : lw_okq (⟨"DodgemDebateModel", "goesBy", "(I)V"⟩, 53) := ⟨⟨by decide +kernel, by decide +kernel⟩, List.mem_of_getElem? (i := 876) (by decide +kernel), List.mem_of_getElem? (i := 1174) (by decide +kernel), List.mem_of_getElem? (i := 1175) (by decide +kernel)⟩
theorem lw_p38 : lw_okq (⟨"DodgemDebateModel", "steersAll", "(I)V"⟩, 53) := ⟨⟨by decide +kernel, by decide +kernel⟩, List.mem_of_getElem? (i := 876) (by decide +kernel), List.mem_of_getElem? (i := 1181) (by decide +kernel), List.mem_of_getElem? (i := 1182) (by decide +kernel)⟩
theorem lw_p39 : lw_okq (⟨"DodgemDebateModel", "drives", "(II)V"⟩, 53) := ⟨⟨by decide +kernel, by decide +kernel⟩, List.mem_of_getElem? (i := 876) (by decide +kernel), List.mem_of_getElem? (i := 1185) (by decide +kernel), List.mem_of_getElem? (i := 1186) (by decide +kernel)⟩
theorem lw_p40 : lw_okq (⟨"DodgemDebateModel", "whoIn", "(II)I"⟩, 53) := ⟨⟨by decide +kernel, by decide +kernel⟩, List.mem_of_getElem? (i := 876) (by decide +kernel), List.mem_of_getElem? (i := 1195) (by decide +kernel), List.mem_of_getElem? (i := 1196) (by decide +kernel)⟩
theorem lw_p41 : lw_okq (⟨"DodgemDebateModel", "comes", "(III)V"⟩, 53) := ⟨⟨by decide +kernel, by decide +kernel⟩, List.mem_of_getElem? (i := 876) (by decide +kernel), List.mem_of_getElem? (i := 1199) (by decide +kernel), List.mem_of_getElem? (i := 1200) (by decide +kernel)⟩
theorem lw_p42 : lw_okq (⟨"DodgemDebateModel", "runsInto", "(IIII)V"⟩, 53) := ⟨⟨by decide +kernel, by decide +kernel⟩, List.mem_of_getElem? (i := 876) (by decide +kernel), List.mem_of_getElem? (i := 1203) (by decide +kernel), List.mem_of_getElem? (i := 1204) (by decide +kernel)⟩
theorem lw_p43 : lw_okq (⟨"DodgemDebateModel", "whoOf", "(III)I"⟩, 53) := ⟨⟨by decide +kernel, by decide +kernel⟩, List.mem_of_getElem? (i := 876) (by decide +kernel), List.mem_of_getElem? (i := 1211) (by decide +kernel), List.mem_of_getElem? (i := 1212) (by decide +kernel)⟩
theorem lw_p44 : lw_okq (⟨"DodgemDebateModel", "houseOf", "(II)I"⟩, 53) := ⟨⟨by decide +kernel, by decide +kernel⟩, List.mem_of_getElem? (i := 876) (by decide +kernel), List.mem_of_getElem? (i := 1219) (by decide +kernel), List.mem_of_getElem? (i := 1220) (by decide +kernel)⟩
theorem lw_p45 : lw_okq (⟨"DodgemDebateModel", "ayesAt", "(I)I"⟩, 53) := ⟨⟨by decide +kernel, by decide +kernel⟩, List.mem_of_getElem? (i := 876) (by decide +kernel), List.mem_of_getElem? (i := 1223) (by decide +kernel), List.mem_of_getElem? (i := 1224) (by decide +kernel)⟩
theorem lw_p46 : lw_okq (⟨"DodgemDebateModel", "strikesOf", "()I"⟩, 53) := ⟨⟨by decide +kernel, by decide +kernel⟩, List.mem_of_getElem? (i := 876) (by decide +kernel), List.mem_of_getElem? (i := 1231) (by decide +kernel), List.mem_of_getElem? (i := 1232) (by decide +kernel)⟩
theorem lw_p47 : lw_okq (⟨"DodgemDebateModel", "firstOf", "(I)I"⟩, 53) := ⟨⟨by decide +kernel, by decide +kernel⟩, List.mem_of_getElem? (i := 876) (by decide +kernel), List.mem_of_getElem? (i := 1239) (by decide +kernel), List.mem_of_getElem? (i := 1240) (by decide +kernel)⟩
def lw_privs_3 : List (MethodName × Nat) := [(⟨"DodgemDebateModel", "meets", "(I)I"⟩, 53), (⟨"DodgemDebateModel", "atOf", "(III)I"⟩, 53), (⟨"DodgemDebateModel", "runsTold", "()V"⟩, 53), (⟨"DodgemDebateModel", "asTold", "()V"⟩, 53), (⟨"DodgemDebateModel", "runs", "()V"⟩, 53), (⟨"DodgemDebateModel", "goesBy", "(I)V"⟩, 53), (⟨"DodgemDebateModel", "steersAll", "(I)V"⟩, 53), (⟨"DodgemDebateModel", "drives", "(II)V"⟩, 53), (⟨"DodgemDebateModel", "whoIn", "(II)I"⟩, 53), (⟨"DodgemDebateModel", "comes", "(III)V"⟩, 53), (⟨"DodgemDebateModel", "runsInto", "(IIII)V"⟩, 53), (⟨"DodgemDebateModel", "whoOf", "(III)I"⟩, 53), (⟨"DodgemDebateModel", "houseOf", "(II)I"⟩, 53), (⟨"DodgemDebateModel", "ayesAt", "(I)I"⟩, 53), (⟨"DodgemDebateModel", "strikesOf", "()I"⟩, 53), (⟨"DodgemDebateModel", "firstOf", "(I)I"⟩, 53)]
theorem lw_r3 : ∀ q ∈ lw_privs_3, lw_okq q := List.forall_mem_cons.mpr ⟨lw_p32, List.forall_mem_cons.mpr ⟨lw_p33, List.forall_mem_cons.mpr ⟨lw_p34, List.forall_mem_cons.mpr ⟨lw_p35, List.forall_mem_cons.mpr ⟨lw_p36, List.forall_mem_cons.mpr ⟨lw_p37, List.forall_mem_cons.mpr ⟨lw_p38, List.forall_mem_cons.mpr ⟨lw_p39, List.forall_mem_cons.mpr ⟨lw_p40, List.forall_mem_cons.mpr ⟨lw_p41, List.forall_mem_cons.mpr ⟨lw_p42, List.forall_mem_cons.mpr ⟨lw_p43, List.forall_mem_cons.mpr ⟨lw_p44, List.forall_mem_cons.mpr ⟨lw_p45, List.forall_mem_cons.mpr ⟨lw_p46, List.forall_mem_cons.mpr ⟨lw_p47, fun _ h => absurd h List.not_mem_nil⟩⟩⟩⟩⟩⟩⟩⟩⟩⟩⟩⟩⟩⟩⟩⟩
theorem lw_p48 : lw_okq (⟨"DodgemDebateModel", "bestOf", "()I"⟩, 53) := ⟨⟨by decide +kernel, by decide +kernel⟩, List.mem_of_getElem? (i := 876) (by decide +kernel), List.mem_of_getElem? (i := 1247) (by decide +kernel), List.mem_of_getElem? (i := 1248) (by decide +kernel)⟩
theorem lw_p49 : lw_okq (⟨"DodgemDebateModel", "meekOf", "()I"⟩, 53) := ⟨⟨by decide +kernel, by decide +kernel⟩, List.mem_of_getElem? (i := 876) (by decide +kernel), List.mem_of_getElem? (i := 1255) (by decide +kernel), List.mem_of_getElem? (i := 1256) (by decide +kernel)⟩
theorem lw_p50 : lw_okq (⟨"DodgemDebateModel", "meekNow", "()I"⟩, 53) := ⟨⟨by decide +kernel, by decide +kernel⟩, List.mem_of_getElem? (i := 876) (by decide +kernel), List.mem_of_getElem? (i := 1259) (by decide +kernel), List.mem_of_getElem? (i := 1260) (by decide +kernel)⟩
theorem lw_p51 : lw_okq (⟨"DodgemDebateModel", "jamOf", "(I)I"⟩, 53) := ⟨⟨by decide +kernel, by decide +kernel⟩, List.mem_of_getElem? (i := 876) (by decide +kernel), List.mem_of_getElem? (i := 1267) (by decide +kernel), List.mem_of_getElem? (i := 1268) (by decide +kernel)⟩
theorem lw_p52 : lw_okq (⟨"DodgemDebateModel", "carriedOf", "()I"⟩, 53) := ⟨⟨by decide +kernel, by decide +kernel⟩, List.mem_of_getElem? (i := 876) (by decide +kernel), List.mem_of_getElem? (i := 1275) (by decide +kernel), List.mem_of_getElem? (i := 1276) (by decide +kernel)⟩
theorem lw_p53 : lw_okq (⟨"DodgemDebateModel", "standOf", "(II)I"⟩, 53) := ⟨⟨by decide +kernel, by decide +kernel⟩, List.mem_of_getElem? (i := 876) (by decide +kernel), List.mem_of_getElem? (i := 1283) (by decide +kernel), List.mem_of_getElem? (i := 1284) (by decide +kernel)⟩
theorem lw_p54 : lw_okq (⟨"DodgemDebateModel", "isOther", "(III)Z"⟩, 53) := ⟨⟨by decide +kernel, by decide +kernel⟩, List.mem_of_getElem? (i := 876) (by decide +kernel), List.mem_of_getElem? (i := 1287) (by decide +kernel), List.mem_of_getElem? (i := 1288) (by decide +kernel)⟩
theorem lw_p55 : lw_okq (⟨"DodgemDebateModel", "betterOf", "(III)I"⟩, 53) := ⟨⟨by decide +kernel, by decide +kernel⟩, List.mem_of_getElem? (i := 876) (by decide +kernel), List.mem_of_getElem? (i := 1295) (by decide +kernel), List.mem_of_getElem? (i := 1296) (by decide +kernel)⟩
theorem lw_p56 : lw_okq (⟨"DodgemDebateModel", "ringOf", "(I)I"⟩, 53) := ⟨⟨by decide +kernel, by decide +kernel⟩, List.mem_of_getElem? (i := 876) (by decide +kernel), List.mem_of_getElem? (i := 1303) (by decide +kernel), List.mem_of_getElem? (i := 1304) (by decide +kernel)⟩
theorem lw_p57 : lw_okq (⟨"DodgemDebateModel", "spareBy", "()I"⟩, 53) := ⟨⟨by decide +kernel, by decide +kernel⟩, List.mem_of_getElem? (i := 876) (by decide +kernel), List.mem_of_getElem? (i := 1311) (by decide +kernel), List.mem_of_getElem? (i := 1312) (by decide +kernel)⟩
theorem lw_p58 : lw_okq (⟨"DodgemDebateModel", "isSpared", "(I)Z"⟩, 53) := ⟨⟨by decide +kernel, by decide +kernel⟩, List.mem_of_getElem? (i := 876) (by decide +kernel), List.mem_of_getElem? (i := 1315) (by decide +kernel), List.mem_of_getElem? (i := 1316) (by decide +kernel)⟩
theorem lw_p59 : lw_okq (⟨"DodgemDebateModel", "ofRow", "(II)I"⟩, 53) := ⟨⟨by decide +kernel, by decide +kernel⟩, List.mem_of_getElem? (i := 876) (by decide +kernel), List.mem_of_getElem? (i := 1319) (by decide +kernel), List.mem_of_getElem? (i := 1320) (by decide +kernel)⟩
theorem lw_p60 : lw_okq (⟨"DodgemDebateModel", "neverNow", "()I"⟩, 53) := ⟨⟨by decide +kernel, by decide +kernel⟩, List.mem_of_getElem? (i := 876) (by decide +kernel), List.mem_of_getElem? (i := 1335) (by decide +kernel), List.mem_of_getElem? (i := 1336) (by decide +kernel)⟩
theorem lw_p61 : lw_okq (⟨"DodgemDebateModel", "isSeen", "()Z"⟩, 53) := ⟨⟨by decide +kernel, by decide +kernel⟩, List.mem_of_getElem? (i := 876) (by decide +kernel), List.mem_of_getElem? (i := 1339) (by decide +kernel), List.mem_of_getElem? (i := 1340) (by decide +kernel)⟩
theorem lw_p62 : lw_okq (⟨"DodgemDebateModel", "sortsBy", "(I)I"⟩, 53) := ⟨⟨by decide +kernel, by decide +kernel⟩, List.mem_of_getElem? (i := 876) (by decide +kernel), List.mem_of_getElem? (i := 1347) (by decide +kernel), List.mem_of_getElem? (i := 1348) (by decide +kernel)⟩
theorem lw_p63 : lw_okq (⟨"DodgemDebateModel", "heavyBy", "(I)I"⟩, 53) := ⟨⟨by decide +kernel, by decide +kernel⟩, List.mem_of_getElem? (i := 876) (by decide +kernel), List.mem_of_getElem? (i := 1351) (by decide +kernel), List.mem_of_getElem? (i := 1352) (by decide +kernel)⟩
def lw_privs_4 : List (MethodName × Nat) := [(⟨"DodgemDebateModel", "bestOf", "()I"⟩, 53), (⟨"DodgemDebateModel", "meekOf", "()I"⟩, 53), (⟨"DodgemDebateModel", "meekNow", "()I"⟩, 53), (⟨"DodgemDebateModel", "jamOf", "(I)I"⟩, 53), (⟨"DodgemDebateModel", "carriedOf", "()I"⟩, 53), (⟨"DodgemDebateModel", "standOf", "(II)I"⟩, 53), (⟨"DodgemDebateModel", "isOther", "(III)Z"⟩, 53), (⟨"DodgemDebateModel", "betterOf", "(III)I"⟩, 53), (⟨"DodgemDebateModel", "ringOf", "(I)I"⟩, 53), (⟨"DodgemDebateModel", "spareBy", "()I"⟩, 53), (⟨"DodgemDebateModel", "isSpared", "(I)Z"⟩, 53), (⟨"DodgemDebateModel", "ofRow", "(II)I"⟩, 53), (⟨"DodgemDebateModel", "neverNow", "()I"⟩, 53), (⟨"DodgemDebateModel", "isSeen", "()Z"⟩, 53), (⟨"DodgemDebateModel", "sortsBy", "(I)I"⟩, 53), (⟨"DodgemDebateModel", "heavyBy", "(I)I"⟩, 53)]
theorem lw_r4 : ∀ q ∈ lw_privs_4, lw_okq q := List.forall_mem_cons.mpr ⟨lw_p48, List.forall_mem_cons.mpr ⟨lw_p49, List.forall_mem_cons.mpr ⟨lw_p50, List.forall_mem_cons.mpr ⟨lw_p51, List.forall_mem_cons.mpr ⟨lw_p52, List.forall_mem_cons.mpr ⟨lw_p53, List.forall_mem_cons.mpr ⟨lw_p54, List.forall_mem_cons.mpr ⟨lw_p55, List.forall_mem_cons.mpr ⟨lw_p56, List.forall_mem_cons.mpr ⟨lw_p57, List.forall_mem_cons.mpr ⟨lw_p58, List.forall_mem_cons.mpr ⟨lw_p59, List.forall_mem_cons.mpr ⟨lw_p60, List.forall_mem_cons.mpr ⟨lw_p61, List.forall_mem_cons.mpr ⟨lw_p62, List.forall_mem_cons.mpr ⟨lw_p63, fun _ h => absurd h List.not_mem_nil⟩⟩⟩⟩⟩⟩⟩⟩⟩⟩⟩⟩⟩⟩⟩⟩
theorem lw_p64 : lw_okq (⟨"DodgemDebateModel", "askOf", "(I)I"⟩, 53) := ⟨⟨by decide +kernel, by decide +kernel⟩, List.mem_of_getElem? (i := 876) (by decide +kernel), List.mem_of_getElem? (i := 1359) (by decide +kernel), List.mem_of_getElem? (i := 1360) (by decide +kernel)⟩
theorem lw_p65 : lw_okq (⟨"DodgemDebateModel", "chanceOf", "(III)J"⟩, 53) := ⟨⟨by decide +kernel, by decide +kernel⟩, List.mem_of_getElem? (i := 876) (by decide +kernel), List.mem_of_getElem? (i := 1367) (by decide +kernel), List.mem_of_getElem? (i := 1368) (by decide +kernel)⟩
theorem lw_p66 : lw_okq (⟨"DodgemDebateModel", "agesOf", "(III)I"⟩, 53) := ⟨⟨by decide +kernel, by decide +kernel⟩, List.mem_of_getElem? (i := 876) (by decide +kernel), List.mem_of_getElem? (i := 1382) (by decide +kernel), List.mem_of_getElem? (i := 1383) (by decide +kernel)⟩
theorem lw_p67 : lw_okq (⟨"DodgemDebateModel", "pointsAll", "()I"⟩, 53) := ⟨⟨by decide +kernel, by decide +kernel⟩, List.mem_of_getElem? (i := 876) (by decide +kernel), List.mem_of_getElem? (i := 1387) (by decide +kernel), List.mem_of_getElem? (i := 1388) (by decide +kernel)⟩
theorem lw_p68 : lw_okq (⟨"DodgemDebateModel", "lacks", "(III)I"⟩, 53) := ⟨⟨by decide +kernel, by decide +kernel⟩, List.mem_of_getElem? (i := 876) (by decide +kernel), List.mem_of_getElem? (i := 1403) (by decide +kernel), List.mem_of_getElem? (i := 1404) (by decide +kernel)⟩
theorem lw_p69 : lw_okq (⟨"DodgemDebateModel", "keep", "(III)V"⟩, 53) := ⟨⟨by decide +kernel, by decide +kernel⟩, List.mem_of_getElem? (i := 876) (by decide +kernel), List.mem_of_getElem? (i := 1407) (by decide +kernel), List.mem_of_getElem? (i := 1408) (by decide +kernel)⟩
theorem lw_p70 : lw_okq (⟨"DodgemDebateModel", "sumOf", "(I)I"⟩, 53) := ⟨⟨by decide +kernel, by decide +kernel⟩, List.mem_of_getElem? (i := 876) (by decide +kernel), List.mem_of_getElem? (i := 1428) (by decide +kernel), List.mem_of_getElem? (i := 1429) (by decide +kernel)⟩
theorem lw_p71 : lw_okq (⟨"DodgemDebateModel", "carDigest", "(JI)J"⟩, 53) := ⟨⟨by decide +kernel, by decide +kernel⟩, List.mem_of_getElem? (i := 876) (by decide +kernel), List.mem_of_getElem? (i := 1439) (by decide +kernel), List.mem_of_getElem? (i := 1440) (by decide +kernel)⟩
theorem lw_p72 : lw_okq (⟨"DodgemDebateModel", "momentDigest", "(JII)J"⟩, 53) := ⟨⟨by decide +kernel, by decide +kernel⟩, List.mem_of_getElem? (i := 876) (by decide +kernel), List.mem_of_getElem? (i := 1443) (by decide +kernel), List.mem_of_getElem? (i := 1444) (by decide +kernel)⟩
def lw_privs_5 : List (MethodName × Nat) := [(⟨"DodgemDebateModel", "askOf", "(I)I"⟩, 53), (⟨"DodgemDebateModel", "chanceOf", "(III)J"⟩, 53), (⟨"DodgemDebateModel", "agesOf", "(III)I"⟩, 53), (⟨"DodgemDebateModel", "pointsAll", "()I"⟩, 53), (⟨"DodgemDebateModel", "lacks", "(III)I"⟩, 53), (⟨"DodgemDebateModel", "keep", "(III)V"⟩, 53), (⟨"DodgemDebateModel", "sumOf", "(I)I"⟩, 53), (⟨"DodgemDebateModel", "carDigest", "(JI)J"⟩, 53), (⟨"DodgemDebateModel", "momentDigest", "(JII)J"⟩, 53)]
theorem lw_r5 : ∀ q ∈ lw_privs_5, lw_okq q := List.forall_mem_cons.mpr ⟨lw_p64, List.forall_mem_cons.mpr ⟨lw_p65, List.forall_mem_cons.mpr ⟨lw_p66, List.forall_mem_cons.mpr ⟨lw_p67, List.forall_mem_cons.mpr ⟨lw_p68, List.forall_mem_cons.mpr ⟨lw_p69, List.forall_mem_cons.mpr ⟨lw_p70, List.forall_mem_cons.mpr ⟨lw_p71, List.forall_mem_cons.mpr ⟨lw_p72, fun _ h => absurd h List.not_mem_nil⟩⟩⟩⟩⟩⟩⟩⟩⟩
def lw_privs : List (MethodName × Nat) := lw_privs_1 ++ (lw_privs_2 ++ (lw_privs_3 ++ (lw_privs_4 ++ (lw_privs_5))))
def lw_tbl : List Cond := k2_sels lw_privs ++ tables_1
theorem lw_privs_ok : ∀ q ∈ lw_privs, lw_okq q := by
  show ∀ q ∈ lw_privs_1 ++ (lw_privs_2 ++ (lw_privs_3 ++ (lw_privs_4 ++ (lw_privs_5)))), lw_okq q
  exact List.forall_mem_append.mpr ⟨lw_r1, List.forall_mem_append.mpr ⟨lw_r2, List.forall_mem_append.mpr ⟨lw_r3, List.forall_mem_append.mpr ⟨lw_r4, lw_r5⟩⟩⟩⟩
end
section
def RX0 : String := "DodgemDebate$Cars"
def TX0 : u_T := fun k => match k with
  | 0 => ("DodgemDebate$Told", "rows", "[[I", true)
  | 1 => ("DodgemDebate$Told", "most", "I", true)
  | 2 => ("DodgemDebate$Told", "parts", "I", true)
  | 3 => ("DodgemDebate$Told", "size", "I", false)
  | _ => ("DodgemDebate$Told", "flaw", "I", false)
def tyX0 : Nat → FieldType := fun k => match k with
  | 0 => .array (.array .int)
  | 1 => .int
  | 2 => .int
  | 3 => .int
  | _ => .int
abbrev wsX00 : List Cond := u_ws RX0 TX0 5
theorem nmX0 : ∀ a, a < 5 → ∀ b, b < 5 → a ≠ b → (TX0 a).2.1 ≠ (TX0 b).2.1 := by decide +kernel
theorem tyX0_ok : ∀ k, k < 5 → parseFieldDescriptor (TX0 k).2.2.1 = some (tyX0 k) := by decide +kernel
abbrev cX0_init : ByteArray := prog_2_method_1_code
def yX0_init : MethodName := ⟨RX0, "<init>", "()V"⟩
abbrev cX0_meaning : ByteArray := prog_2_method_2_code
def yX0_meaning : MethodName := ⟨RX0, "meaning", "(IIC)I"⟩
abbrev cX0_freeY : ByteArray := prog_2_method_3_code
def yX0_freeY : MethodName := ⟨RX0, "freeY", "(II)I"⟩
abbrev cX0_isTaken : ByteArray := prog_2_method_4_code
def yX0_isTaken : MethodName := ⟨RX0, "isTaken", "(IIII)Z"⟩
abbrev cX0_ayesAsTold : ByteArray := prog_2_method_5_code
def yX0_ayesAsTold : MethodName := ⟨RX0, "ayesAsTold", "()I"⟩
abbrev cX0_becomeLike : ByteArray := prog_2_method_6_code
def yX0_becomeLike : MethodName := ⟨RX0, "becomeLike", "(LDodgemDebate$Cars;)V"⟩
def RX1 : String := "DodgemDebate$Events"
def TX1 : u_T := fun k => match k with
  | 0 => ("DodgemDebate$Events", "kind", "[I", true)
  | 1 => ("DodgemDebate$Events", "moment", "[I", true)
  | 2 => ("DodgemDebate$Events", "car", "[I", true)
  | _ => ("DodgemDebate$Events", "size", "I", false)
def tyX1 : Nat → FieldType := fun k => match k with
  | 0 => .array .int
  | 1 => .array .int
  | 2 => .array .int
  | _ => .int
abbrev wsX10 : List Cond := u_ws RX1 TX1 4
theorem nmX1 : ∀ a, a < 4 → ∀ b, b < 4 → a ≠ b → (TX1 a).2.1 ≠ (TX1 b).2.1 := by decide +kernel
theorem tyX1_ok : ∀ k, k < 4 → parseFieldDescriptor (TX1 k).2.2.1 = some (tyX1 k) := by decide +kernel
abbrev cX1_init : ByteArray := prog_3_method_1_code
def yX1_init : MethodName := ⟨RX1, "<init>", "()V"⟩
abbrev cX1_fits : ByteArray := prog_3_method_2_code
def yX1_fits : MethodName := ⟨RX1, "fits", "(III)Z"⟩
abbrev cX1_append : ByteArray := prog_3_method_3_code
def yX1_append : MethodName := ⟨RX1, "append", "(III)V"⟩
def RX2 : String := "DodgemDebate$Hash"
def TX2 : u_T := fun k => match k with
  | _ => ("DodgemDebate$Hash", "value", "J", false)
def tyX2 : Nat → FieldType := fun k => match k with
  | _ => .long
abbrev wsX20 : List Cond := u_ws RX2 TX2 1
theorem nmX2 : ∀ a, a < 1 → ∀ b, b < 1 → a ≠ b → (TX2 a).2.1 ≠ (TX2 b).2.1 := by decide +kernel
theorem tyX2_ok : ∀ k, k < 1 → parseFieldDescriptor (TX2 k).2.2.1 = some (tyX2 k) := by decide +kernel
abbrev cX2_init : ByteArray := prog_4_method_1_code
def yX2_init : MethodName := ⟨RX2, "<init>", "()V"⟩
abbrev cX2_add : ByteArray := prog_4_method_2_code
def yX2_add : MethodName := ⟨RX2, "add", "(J)V"⟩
def RX3 : String := "DodgemDebate$Run"
def TX3 : u_T := fun k => match k with
  | 0 => ("DodgemDebate$Run", "now", "[[I", true)
  | 1 => ("DodgemDebate$Run", "past", "[[I", true)
  | 2 => ("DodgemDebate$Run", "board", "[I", true)
  | 3 => ("DodgemDebate$Run", "rung", "[I", true)
  | 4 => ("DodgemDebate$Run", "stuck", "[I", true)
  | 5 => ("DodgemDebate$Run", "size", "I", false)
  | 6 => ("DodgemDebate$Run", "strikeCount", "I", false)
  | 7 => ("DodgemDebate$Run", "firstMoment", "I", false)
  | 8 => ("DodgemDebate$Run", "firstCar", "I", false)
  | _ => ("DodgemDebate$Run", "touched", "I", false)
def tyX3 : Nat → FieldType := fun k => match k with
  | 0 => .array (.array .int)
  | 1 => .array (.array .int)
  | 2 => .array .int
  | 3 => .array .int
  | 4 => .array .int
  | 5 => .int
  | 6 => .int
  | 7 => .int
  | 8 => .int
  | _ => .int
abbrev wsX30 : List Cond := u_ws RX3 TX3 10
theorem nmX3 : ∀ a, a < 10 → ∀ b, b < 10 → a ≠ b → (TX3 a).2.1 ≠ (TX3 b).2.1 := by decide +kernel
theorem tyX3_ok : ∀ k, k < 10 → parseFieldDescriptor (TX3 k).2.2.1 = some (tyX3 k) := by decide +kernel
abbrev cX3_init : ByteArray := prog_5_method_1_code
def yX3_init : MethodName := ⟨RX3, "<init>", "()V"⟩
abbrev cX3_play : ByteArray := prog_5_method_2_code
def yX3_play : MethodName := ⟨RX3, "play", "(LDodgemDebate$Cars;LDodgemDebate$Steers;LDodgemDebate$Events;I)V"⟩
abbrev cX3_begin : ByteArray := prog_5_method_3_code
def yX3_begin : MethodName := ⟨RX3, "begin", "(LDodgemDebate$Cars;)V"⟩
abbrev cX3_doEvents : ByteArray := prog_5_method_4_code
def yX3_doEvents : MethodName := ⟨RX3, "doEvents", "(LDodgemDebate$Events;II)V"⟩
abbrev cX3_doSteers : ByteArray := prog_5_method_5_code
def yX3_doSteers : MethodName := ⟨RX3, "doSteers", "(LDodgemDebate$Cars;LDodgemDebate$Steers;I)V"⟩
abbrev cX3_go : ByteArray := prog_5_method_6_code
def yX3_go : MethodName := ⟨RX3, "go", "(LDodgemDebate$Cars;II)V"⟩
abbrev cX3_countStrike : ByteArray := prog_5_method_7_code
def yX3_countStrike : MethodName := ⟨RX3, "countStrike", "(IIII)V"⟩
abbrev cX3_shift : ByteArray := prog_5_method_8_code
def yX3_shift : MethodName := ⟨RX3, "shift", "(III)V"⟩
abbrev cX3_keep : ByteArray := prog_5_method_9_code
def yX3_keep : MethodName := ⟨RX3, "keep", "(I)V"⟩
abbrev cX3_behind : ByteArray := prog_5_method_10_code
def yX3_behind : MethodName := ⟨RX3, "behind", "(III)I"⟩
abbrev cX3_inCell : ByteArray := prog_5_method_11_code
def yX3_inCell : MethodName := ⟨RX3, "inCell", "(III)I"⟩
abbrev cX3_ayes : ByteArray := prog_5_method_12_code
def yX3_ayes : MethodName := ⟨RX3, "ayes", "(I)I"⟩
abbrev cX3_leader : ByteArray := prog_5_method_13_code
def yX3_leader : MethodName := ⟨RX3, "leader", "()I"⟩
abbrev cX3_untouched : ByteArray := prog_5_method_14_code
def yX3_untouched : MethodName := ⟨RX3, "untouched", "()I"⟩
abbrev cX3_worstJam : ByteArray := prog_5_method_15_code
def yX3_worstJam : MethodName := ⟨RX3, "worstJam", "()I"⟩
abbrev cX3_allPoints : ByteArray := prog_5_method_16_code
def yX3_allPoints : MethodName := ⟨RX3, "allPoints", "()I"⟩
abbrev cX3_wasStruck : ByteArray := prog_5_method_17_code
def yX3_wasStruck : MethodName := ⟨RX3, "wasStruck", "(I)Z"⟩
def RX4 : String := "DodgemDebate$Sheets"
def TX4 : u_T := fun k => match k with
  | 0 => ("DodgemDebate$Sheets", "items", "[[I", true)
  | 1 => ("DodgemDebate$Sheets", "form", "[I", true)
  | 2 => ("DodgemDebate$Sheets", "length", "[I", true)
  | _ => ("DodgemDebate$Sheets", "latest", "I", false)
def tyX4 : Nat → FieldType := fun k => match k with
  | 0 => .array (.array .int)
  | 1 => .array .int
  | 2 => .array .int
  | _ => .int
abbrev wsX40 : List Cond := u_ws RX4 TX4 4
theorem nmX4 : ∀ a, a < 4 → ∀ b, b < 4 → a ≠ b → (TX4 a).2.1 ≠ (TX4 b).2.1 := by decide +kernel
theorem tyX4_ok : ∀ k, k < 4 → parseFieldDescriptor (TX4 k).2.2.1 = some (tyX4 k) := by decide +kernel
abbrev cX4_init : ByteArray := prog_6_method_1_code
def yX4_init : MethodName := ⟨RX4, "<init>", "()V"⟩
abbrev cX4_found : ByteArray := prog_6_method_2_code
def yX4_found : MethodName := ⟨RX4, "found", "(I)I"⟩
abbrev cX4_isLost : ByteArray := prog_6_method_3_code
def yX4_isLost : MethodName := ⟨RX4, "isLost", "(I)Z"⟩
abbrev cX4_begin : ByteArray := prog_6_method_4_code
def yX4_begin : MethodName := ⟨RX4, "begin", "(III)V"⟩
abbrev cX4_barTo : ByteArray := prog_6_method_5_code
def yX4_barTo : MethodName := ⟨RX4, "barTo", "(III)I"⟩
abbrev cX4_hasSpan : ByteArray := prog_6_method_6_code
def yX4_hasSpan : MethodName := ⟨RX4, "hasSpan", "(III)Z"⟩
abbrev cX4_lowestBits : ByteArray := prog_6_method_7_code
def yX4_lowestBits : MethodName := ⟨RX4, "lowestBits", "(II)I"⟩
def RX5 : String := "DodgemDebate$Sightings"
def TX5 : u_T := fun k => match k with
  | 0 => ("DodgemDebate$Sightings", "moment", "[I", true)
  | 1 => ("DodgemDebate$Sightings", "car", "[I", true)
  | 2 => ("DodgemDebate$Sightings", "x", "[I", true)
  | 3 => ("DodgemDebate$Sightings", "y", "[I", true)
  | _ => ("DodgemDebate$Sightings", "size", "I", false)
def tyX5 : Nat → FieldType := fun k => match k with
  | 0 => .array .int
  | 1 => .array .int
  | 2 => .array .int
  | 3 => .array .int
  | _ => .int
abbrev wsX50 : List Cond := u_ws RX5 TX5 5
theorem nmX5 : ∀ a, a < 5 → ∀ b, b < 5 → a ≠ b → (TX5 a).2.1 ≠ (TX5 b).2.1 := by decide +kernel
theorem tyX5_ok : ∀ k, k < 5 → parseFieldDescriptor (TX5 k).2.2.1 = some (tyX5 k) := by decide +kernel
abbrev cX5_init : ByteArray := prog_7_method_1_code
def yX5_init : MethodName := ⟨RX5, "<init>", "()V"⟩
abbrev cX5_append : ByteArray := prog_7_method_2_code
def yX5_append : MethodName := ⟨RX5, "append", "(IIII)V"⟩
abbrev cX5_comeOutIn : ByteArray := prog_7_method_3_code
def yX5_comeOutIn : MethodName := ⟨RX5, "comeOutIn", "(LDodgemDebate$Run;)Z"⟩
def RX6 : String := "DodgemDebate$Steers"
def TX6 : u_T := fun k => match k with
  | 0 => ("DodgemDebate$Told", "rows", "[[I", true)
  | 1 => ("DodgemDebate$Told", "most", "I", true)
  | 2 => ("DodgemDebate$Told", "parts", "I", true)
  | 3 => ("DodgemDebate$Told", "size", "I", false)
  | _ => ("DodgemDebate$Told", "flaw", "I", false)
def tyX6 : Nat → FieldType := fun k => match k with
  | 0 => .array (.array .int)
  | 1 => .int
  | 2 => .int
  | 3 => .int
  | _ => .int
abbrev wsX60 : List Cond := u_ws RX6 TX6 5
theorem nmX6 : ∀ a, a < 5 → ∀ b, b < 5 → a ≠ b → (TX6 a).2.1 ≠ (TX6 b).2.1 := by decide +kernel
theorem tyX6_ok : ∀ k, k < 5 → parseFieldDescriptor (TX6 k).2.2.1 = some (tyX6 k) := by decide +kernel
abbrev cX6_init : ByteArray := prog_8_method_1_code
def yX6_init : MethodName := ⟨RX6, "<init>", "()V"⟩
abbrev cX6_meaning : ByteArray := prog_8_method_2_code
def yX6_meaning : MethodName := ⟨RX6, "meaning", "(IIC)I"⟩
abbrev cX6_lend : ByteArray := prog_8_method_3_code
def yX6_lend : MethodName := ⟨RX6, "lend", "(III)V"⟩
abbrev cX6_giveBack : ByteArray := prog_8_method_4_code
def yX6_giveBack : MethodName := ⟨RX6, "giveBack", "()V"⟩
def RX7 : String := "DodgemDebate$Text"
def TX7 : u_T := fun k => match k with
  | 0 => ("DodgemDebate$Text", "bytes", "[I", true)
  | _ => ("DodgemDebate$Text", "length", "I", false)
def tyX7 : Nat → FieldType := fun k => match k with
  | 0 => .array .int
  | _ => .int
abbrev wsX70 : List Cond := u_ws RX7 TX7 2
theorem nmX7 : ∀ a, a < 2 → ∀ b, b < 2 → a ≠ b → (TX7 a).2.1 ≠ (TX7 b).2.1 := by decide +kernel
theorem tyX7_ok : ∀ k, k < 2 → parseFieldDescriptor (TX7 k).2.2.1 = some (tyX7 k) := by decide +kernel
abbrev cX7_init : ByteArray := prog_9_method_1_code
def yX7_init : MethodName := ⟨RX7, "<init>", "()V"⟩
abbrev cX7_append : ByteArray := prog_9_method_2_code
def yX7_append : MethodName := ⟨RX7, "append", "(I)V"⟩
def RX8 : String := "DodgemDebate$Told"
def TX8 : u_T := fun k => match k with
  | _ => ("", "", "", false)
def tyX8 : Nat → FieldType := fun k => match k with
  | _ => .int
abbrev wsX80 : List Cond := u_ws RX8 TX8 0
theorem nmX8 : ∀ a, a < 0 → ∀ b, b < 0 → a ≠ b → (TX8 a).2.1 ≠ (TX8 b).2.1 := by decide +kernel
theorem tyX8_ok : ∀ k, k < 0 → parseFieldDescriptor (TX8 k).2.2.1 = some (tyX8 k) := by decide +kernel
abbrev cX8_init : ByteArray := prog_10_method_1_code
def yX8_init : MethodName := ⟨RX8, "<init>", "([[III)V"⟩
abbrev cX8_learn : ByteArray := prog_10_method_3_code
def yX8_learn : MethodName := ⟨RX8, "learn", "(LDodgemDebate$Text;)V"⟩
abbrev cX8_takes : ByteArray := prog_10_method_4_code
def yX8_takes : MethodName := ⟨RX8, "takes", "(IIC)Z"⟩
def RX9 : String := "DodgemDebate$Trials"
def TX9 : u_T := fun k => match k with
  | 0 => ("DodgemDebate$Trials", "told", "LDodgemDebate$Cars;", true)
  | 1 => ("DodgemDebate$Trials", "steers", "LDodgemDebate$Steers;", true)
  | 2 => ("DodgemDebate$Trials", "events", "LDodgemDebate$Events;", true)
  | 3 => ("DodgemDebate$Trials", "sightings", "LDodgemDebate$Sightings;", true)
  | 4 => ("DodgemDebate$Trials", "tried", "LDodgemDebate$Cars;", true)
  | 5 => ("DodgemDebate$Trials", "drawn", "LDodgemDebate$Events;", true)
  | 6 => ("DodgemDebate$Trials", "run", "LDodgemDebate$Run;", true)
  | 7 => ("DodgemDebate$Trials", "cells", "[[I", true)
  | 8 => ("DodgemDebate$Trials", "struck", "[I", true)
  | _ => ("DodgemDebate$Trials", "struckKnown", "Z", false)
def tyX9 : Nat → FieldType := fun k => match k with
  | 0 => .object "DodgemDebate$Cars"
  | 1 => .object "DodgemDebate$Steers"
  | 2 => .object "DodgemDebate$Events"
  | 3 => .object "DodgemDebate$Sightings"
  | 4 => .object "DodgemDebate$Cars"
  | 5 => .object "DodgemDebate$Events"
  | 6 => .object "DodgemDebate$Run"
  | 7 => .array (.array .int)
  | 8 => .array .int
  | _ => .boolean
abbrev wsX90 : List Cond := u_ws RX9 TX9 10
theorem nmX9 : ∀ a, a < 10 → ∀ b, b < 10 → a ≠ b → (TX9 a).2.1 ≠ (TX9 b).2.1 := by decide +kernel
theorem tyX9_ok : ∀ k, k < 10 → parseFieldDescriptor (TX9 k).2.2.1 = some (tyX9 k) := by decide +kernel
abbrev cX9_init : ByteArray := prog_11_method_1_code
def yX9_init : MethodName := ⟨RX9, "<init>", "(LDodgemDebate$Cars;LDodgemDebate$Steers;LDodgemDebate$Events;LDodgemDebate$Sightings;)V"⟩
abbrev cX9_bestStand : ByteArray := prog_11_method_2_code
def yX9_bestStand : MethodName := ⟨RX9, "bestStand", "(I)I"⟩
abbrev cX9_bestTurn : ByteArray := prog_11_method_3_code
def yX9_bestTurn : MethodName := ⟨RX9, "bestTurn", "(II)I"⟩
abbrev cX9_fewestSpared : ByteArray := prog_11_method_4_code
def yX9_fewestSpared : MethodName := ⟨RX9, "fewestSpared", "()I"⟩
abbrev cX9_touchesAll : ByteArray := prog_11_method_5_code
def yX9_touchesAll : MethodName := ⟨RX9, "touchesAll", "(I)Z"⟩
abbrev cX9_eventsThatNeverWere : ByteArray := prog_11_method_6_code
def yX9_eventsThatNeverWere : MethodName := ⟨RX9, "eventsThatNeverWere", "()I"⟩
abbrev cX9_sortsOf : ByteArray := prog_11_method_7_code
def yX9_sortsOf : MethodName := ⟨RX9, "sortsOf", "(I)I"⟩
abbrev cX9_weightsOf : ByteArray := prog_11_method_8_code
def yX9_weightsOf : MethodName := ⟨RX9, "weightsOf", "(I)I"⟩
abbrev cX9_agrees : ByteArray := prog_11_method_9_code
def yX9_agrees : MethodName := ⟨RX9, "agrees", "(III)Z"⟩
abbrev cX9_momentToLook : ByteArray := prog_11_method_10_code
def yX9_momentToLook : MethodName := ⟨RX9, "momentToLook", "(I)I"⟩
abbrev cX9_cellOf : ByteArray := prog_11_method_11_code
def yX9_cellOf : MethodName := ⟨RX9, "cellOf", "(II)I"⟩
abbrev cX9_mostAlike : ByteArray := prog_11_method_12_code
def yX9_mostAlike : MethodName := ⟨RX9, "mostAlike", "(I)I"⟩
abbrev cX9_weighStruck : ByteArray := prog_11_method_13_code
def yX9_weighStruck : MethodName := ⟨RX9, "weighStruck", "(II)J"⟩
abbrev cX9_weightOf : ByteArray := prog_11_method_14_code
def yX9_weightOf : MethodName := ⟨RX9, "weightOf", "(II)J"⟩
abbrev cX9_findStruck : ByteArray := prog_11_method_15_code
def yX9_findStruck : MethodName := ⟨RX9, "findStruck", "()V"⟩
abbrev cX9_playAges : ByteArray := prog_11_method_16_code
def yX9_playAges : MethodName := ⟨RX9, "playAges", "(II)V"⟩
abbrev cX9_nextSeed : ByteArray := prog_11_method_17_code
def yX9_nextSeed : MethodName := ⟨RX9, "nextSeed", "(I)I"⟩
abbrev cX9_lot : ByteArray := prog_11_method_18_code
def yX9_lot : MethodName := ⟨RX9, "lot", "(II)I"⟩
def RX10 : String := "DodgemDebate"
def TX10 : u_T := fun k => match k with
  | 0 => ("DodgemDebate", "carText", "LDodgemDebate$Text;", true)
  | 1 => ("DodgemDebate", "steerText", "LDodgemDebate$Text;", true)
  | 2 => ("DodgemDebate", "cars", "LDodgemDebate$Cars;", true)
  | 3 => ("DodgemDebate", "steers", "LDodgemDebate$Steers;", true)
  | 4 => ("DodgemDebate", "events", "LDodgemDebate$Events;", true)
  | 5 => ("DodgemDebate", "sightings", "LDodgemDebate$Sightings;", true)
  | 6 => ("DodgemDebate", "sheets", "LDodgemDebate$Sheets;", true)
  | 7 => ("DodgemDebate", "run", "LDodgemDebate$Run;", true)
  | 8 => ("DodgemDebate", "trials", "LDodgemDebate$Trials;", true)
  | 9 => ("DodgemDebate", "hash", "LDodgemDebate$Hash;", true)
  | _ => ("DodgemDebate", "stale", "Z", false)
def tyX10 : Nat → FieldType := fun k => match k with
  | 0 => .object "DodgemDebate$Text"
  | 1 => .object "DodgemDebate$Text"
  | 2 => .object "DodgemDebate$Cars"
  | 3 => .object "DodgemDebate$Steers"
  | 4 => .object "DodgemDebate$Events"
  | 5 => .object "DodgemDebate$Sightings"
  | 6 => .object "DodgemDebate$Sheets"
  | 7 => .object "DodgemDebate$Run"
  | 8 => .object "DodgemDebate$Trials"
  | 9 => .object "DodgemDebate$Hash"
  | _ => .boolean
abbrev wsX100 : List Cond := u_ws RX10 TX10 11
theorem nmX10 : ∀ a, a < 11 → ∀ b, b < 11 → a ≠ b → (TX10 a).2.1 ≠ (TX10 b).2.1 := by decide +kernel
theorem tyX10_ok : ∀ k, k < 11 → parseFieldDescriptor (TX10 k).2.2.1 = some (tyX10 k) := by decide +kernel
abbrev cX10_init : ByteArray := prog_1_method_1_code
def yX10_init : MethodName := ⟨RX10, "<init>", "()V"⟩
abbrev cX10_type : ByteArray := prog_1_method_2_code
def yX10_type : MethodName := ⟨RX10, "type", "(II)I"⟩
abbrev cX10_wipe : ByteArray := prog_1_method_3_code
def yX10_wipe : MethodName := ⟨RX10, "wipe", "(I)I"⟩
abbrev cX10_undo : ByteArray := prog_1_method_4_code
def yX10_undo : MethodName := ⟨RX10, "undo", "(I)I"⟩
abbrev cX10_fault : ByteArray := prog_1_method_5_code
def yX10_fault : MethodName := ⟨RX10, "fault", "(I)I"⟩
abbrev cX10_car : ByteArray := prog_1_method_6_code
def yX10_car : MethodName := ⟨RX10, "car", "(II)I"⟩
abbrev cX10_steer : ByteArray := prog_1_method_7_code
def yX10_steer : MethodName := ⟨RX10, "steer", "(II)I"⟩
abbrev cX10_event : ByteArray := prog_1_method_8_code
def yX10_event : MethodName := ⟨RX10, "event", "(III)I"⟩
abbrev cX10_back : ByteArray := prog_1_method_9_code
def yX10_back : MethodName := ⟨RX10, "back", "()I"⟩
abbrev cX10_read : ByteArray := prog_1_method_10_code
def yX10_read : MethodName := ⟨RX10, "read", "(I)I"⟩
abbrev cX10_at : ByteArray := prog_1_method_11_code
def yX10_at : MethodName := ⟨RX10, "at", "(III)I"⟩
abbrev cX10_who : ByteArray := prog_1_method_12_code
def yX10_who : MethodName := ⟨RX10, "who", "(III)I"⟩
abbrev cX10_house : ByteArray := prog_1_method_13_code
def yX10_house : MethodName := ⟨RX10, "house", "(II)I"⟩
abbrev cX10_strikes : ByteArray := prog_1_method_14_code
def yX10_strikes : MethodName := ⟨RX10, "strikes", "()I"⟩
abbrev cX10_first : ByteArray := prog_1_method_15_code
def yX10_first : MethodName := ⟨RX10, "first", "(I)I"⟩
abbrev cX10_best : ByteArray := prog_1_method_16_code
def yX10_best : MethodName := ⟨RX10, "best", "()I"⟩
abbrev cX10_meek : ByteArray := prog_1_method_17_code
def yX10_meek : MethodName := ⟨RX10, "meek", "()I"⟩
abbrev cX10_jam : ByteArray := prog_1_method_18_code
def yX10_jam : MethodName := ⟨RX10, "jam", "(I)I"⟩
abbrev cX10_carried : ByteArray := prog_1_method_19_code
def yX10_carried : MethodName := ⟨RX10, "carried", "()I"⟩
abbrev cX10_stand : ByteArray := prog_1_method_20_code
def yX10_stand : MethodName := ⟨RX10, "stand", "(II)I"⟩
abbrev cX10_better : ByteArray := prog_1_method_21_code
def yX10_better : MethodName := ⟨RX10, "better", "(III)I"⟩
abbrev cX10_ring : ByteArray := prog_1_method_22_code
def yX10_ring : MethodName := ⟨RX10, "ring", "(I)I"⟩
abbrev cX10_spare : ByteArray := prog_1_method_23_code
def yX10_spare : MethodName := ⟨RX10, "spare", "(I)I"⟩
abbrev cX10_seen : ByteArray := prog_1_method_24_code
def yX10_seen : MethodName := ⟨RX10, "seen", "(IIII)I"⟩
abbrev cX10_forget : ByteArray := prog_1_method_25_code
def yX10_forget : MethodName := ⟨RX10, "forget", "()I"⟩
abbrev cX10_never : ByteArray := prog_1_method_26_code
def yX10_never : MethodName := ⟨RX10, "never", "()I"⟩
abbrev cX10_was : ByteArray := prog_1_method_27_code
def yX10_was : MethodName := ⟨RX10, "was", "(II)I"⟩
abbrev cX10_ask : ByteArray := prog_1_method_28_code
def yX10_ask : MethodName := ⟨RX10, "ask", "(I)I"⟩
abbrev cX10_chance : ByteArray := prog_1_method_29_code
def yX10_chance : MethodName := ⟨RX10, "chance", "(III)J"⟩
abbrev cX10_ages : ByteArray := prog_1_method_30_code
def yX10_ages : MethodName := ⟨RX10, "ages", "(III)I"⟩
abbrev cX10_sheet : ByteArray := prog_1_method_31_code
def yX10_sheet : MethodName := ⟨RX10, "sheet", "(III)I"⟩
abbrev cX10_lose : ByteArray := prog_1_method_32_code
def yX10_lose : MethodName := ⟨RX10, "lose", "(I)I"⟩
abbrev cX10_put : ByteArray := prog_1_method_33_code
def yX10_put : MethodName := ⟨RX10, "put", "(IIII)I"⟩
abbrev cX10_get : ByteArray := prog_1_method_34_code
def yX10_get : MethodName := ⟨RX10, "get", "(III)I"⟩
abbrev cX10_copy : ByteArray := prog_1_method_35_code
def yX10_copy : MethodName := ⟨RX10, "copy", "(IIIII)I"⟩
abbrev cX10_write : ByteArray := prog_1_method_36_code
def yX10_write : MethodName := ⟨RX10, "write", "(II)I"⟩
abbrev cX10_count : ByteArray := prog_1_method_37_code
def yX10_count : MethodName := ⟨RX10, "count", "(I)I"⟩
abbrev cX10_digest : ByteArray := prog_1_method_38_code
def yX10_digest : MethodName := ⟨RX10, "digest", "()J"⟩
abbrev cX10_addTold : ByteArray := prog_1_method_39_code
def yX10_addTold : MethodName := ⟨RX10, "addTold", "()V"⟩
abbrev cX10_addCar : ByteArray := prog_1_method_40_code
def yX10_addCar : MethodName := ⟨RX10, "addCar", "(I)V"⟩
abbrev cX10_addHouse : ByteArray := prog_1_method_41_code
def yX10_addHouse : MethodName := ⟨RX10, "addHouse", "()V"⟩
abbrev cX10_addWhole : ByteArray := prog_1_method_42_code
def yX10_addWhole : MethodName := ⟨RX10, "addWhole", "()V"⟩
abbrev cX10_within : ByteArray := prog_1_method_43_code
def yX10_within : MethodName := ⟨RX10, "within", "(II)Z"⟩
abbrev cX10_onFloor : ByteArray := prog_1_method_44_code
def yX10_onFloor : MethodName := ⟨RX10, "onFloor", "(II)Z"⟩
abbrev cX10_textOf : ByteArray := prog_1_method_45_code
def yX10_textOf : MethodName := ⟨RX10, "textOf", "(I)LDodgemDebate$Text;"⟩
abbrev cX10_settle : ByteArray := prog_1_method_46_code
def yX10_settle : MethodName := ⟨RX10, "settle", "()V"⟩
abbrev cX10_ayesAhead : ByteArray := prog_1_method_47_code
def yX10_ayesAhead : MethodName := ⟨RX10, "ayesAhead", "(I)I"⟩
abbrev cX10_standPart : ByteArray := prog_1_method_48_code
def yX10_standPart : MethodName := ⟨RX10, "standPart", "(II)I"⟩
abbrev cX10_turnPart : ByteArray := prog_1_method_49_code
def yX10_turnPart : MethodName := ⟨RX10, "turnPart", "(II)I"⟩
abbrev cX10_sparePart : ByteArray := prog_1_method_50_code
def yX10_sparePart : MethodName := ⟨RX10, "sparePart", "(II)I"⟩
abbrev cX10_fractionPart : ByteArray := prog_1_method_51_code
def yX10_fractionPart : MethodName := ⟨RX10, "fractionPart", "(JI)J"⟩
def RX11 : String := "DodgemDebateModel"
def TX11 : u_T := fun k => match k with
  | 0 => ("DodgemDebateModel", "typed", "[I", true)
  | 1 => ("DodgemDebateModel", "texts", "[I", true)
  | 2 => ("DodgemDebateModel", "cars", "I", false)
  | 3 => ("DodgemDebateModel", "sorts", "[I", true)
  | 4 => ("DodgemDebateModel", "xTold", "[I", true)
  | 5 => ("DodgemDebateModel", "yTold", "[I", true)
  | 6 => ("DodgemDebateModel", "wayTold", "[I", true)
  | 7 => ("DodgemDebateModel", "weights", "[I", true)
  | 8 => ("DodgemDebateModel", "steers", "I", false)
  | 9 => ("DodgemDebateModel", "steerAt", "[I", true)
  | 10 => ("DodgemDebateModel", "steerOf", "[I", true)
  | 11 => ("DodgemDebateModel", "steerBy", "[I", true)
  | 12 => ("DodgemDebateModel", "events", "I", false)
  | 13 => ("DodgemDebateModel", "eventKind", "[I", true)
  | 14 => ("DodgemDebateModel", "eventAt", "[I", true)
  | 15 => ("DodgemDebateModel", "eventOf", "[I", true)
  | 16 => ("DodgemDebateModel", "steersNow", "I", false)
  | 17 => ("DodgemDebateModel", "eventsNow", "I", false)
  | 18 => ("DodgemDebateModel", "kindNow", "[I", true)
  | 19 => ("DodgemDebateModel", "whenNow", "[I", true)
  | 20 => ("DodgemDebateModel", "ofNow", "[I", true)
  | 21 => ("DodgemDebateModel", "notEvents", "I", false)
  | 22 => ("DodgemDebateModel", "xs", "[I", true)
  | 23 => ("DodgemDebateModel", "ys", "[I", true)
  | 24 => ("DodgemDebateModel", "ways", "[I", true)
  | 25 => ("DodgemDebateModel", "points", "[I", true)
  | 26 => ("DodgemDebateModel", "struck", "[I", true)
  | 27 => ("DodgemDebateModel", "struckBy", "[I", true)
  | 28 => ("DodgemDebateModel", "cutBits", "I", false)
  | 29 => ("DodgemDebateModel", "strikesNow", "I", false)
  | 30 => ("DodgemDebateModel", "firstAt", "I", false)
  | 31 => ("DodgemDebateModel", "firstCar", "I", false)
  | 32 => ("DodgemDebateModel", "xAt", "[I", true)
  | 33 => ("DodgemDebateModel", "yAt", "[I", true)
  | 34 => ("DodgemDebateModel", "wayAt", "[I", true)
  | 35 => ("DodgemDebateModel", "pointAt", "[I", true)
  | 36 => ("DodgemDebateModel", "struckAt", "[I", true)
  | 37 => ("DodgemDebateModel", "cutAt", "[I", true)
  | 38 => ("DodgemDebateModel", "rungAt", "[I", true)
  | 39 => ("DodgemDebateModel", "jamAt", "[I", true)
  | 40 => ("DodgemDebateModel", "planRow", "[I", true)
  | 41 => ("DodgemDebateModel", "seens", "I", false)
  | 42 => ("DodgemDebateModel", "seenAt", "[I", true)
  | 43 => ("DodgemDebateModel", "seenWho", "[I", true)
  | 44 => ("DodgemDebateModel", "seenX", "[I", true)
  | 45 => ("DodgemDebateModel", "seenY", "[I", true)
  | 46 => ("DodgemDebateModel", "cellBy", "[I", true)
  | 47 => ("DodgemDebateModel", "isThere", "[Z", true)
  | 48 => ("DodgemDebateModel", "forms", "[I", true)
  | 49 => ("DodgemDebateModel", "sizes", "[I", true)
  | 50 => ("DodgemDebateModel", "items", "[I", true)
  | 51 => ("DodgemDebateModel", "moved", "[I", true)
  | _ => ("DodgemDebateModel", "finding", "I", false)
def tyX11 : Nat → FieldType := fun k => match k with
  | 0 => .array .int
  | 1 => .array .int
  | 2 => .int
  | 3 => .array .int
  | 4 => .array .int
  | 5 => .array .int
  | 6 => .array .int
  | 7 => .array .int
  | 8 => .int
  | 9 => .array .int
  | 10 => .array .int
  | 11 => .array .int
  | 12 => .int
  | 13 => .array .int
  | 14 => .array .int
  | 15 => .array .int
  | 16 => .int
  | 17 => .int
  | 18 => .array .int
  | 19 => .array .int
  | 20 => .array .int
  | 21 => .int
  | 22 => .array .int
  | 23 => .array .int
  | 24 => .array .int
  | 25 => .array .int
  | 26 => .array .int
  | 27 => .array .int
  | 28 => .int
  | 29 => .int
  | 30 => .int
  | 31 => .int
  | 32 => .array .int
  | 33 => .array .int
  | 34 => .array .int
  | 35 => .array .int
  | 36 => .array .int
  | 37 => .array .int
  | 38 => .array .int
  | 39 => .array .int
  | 40 => .array .int
  | 41 => .int
  | 42 => .array .int
  | 43 => .array .int
  | 44 => .array .int
  | 45 => .array .int
  | 46 => .array .int
  | 47 => .array .boolean
  | 48 => .array .int
  | 49 => .array .int
  | 50 => .array .int
  | 51 => .array .int
  | _ => .int
abbrev wsX110 : List Cond := u_ws RX11 TX11 53
theorem nmX11 : ∀ a, a < 53 → ∀ b, b < 53 → a ≠ b → (TX11 a).2.1 ≠ (TX11 b).2.1 := by decide +kernel
theorem tyX11_ok : ∀ k, k < 53 → parseFieldDescriptor (TX11 k).2.2.1 = some (tyX11 k) := by decide +kernel
abbrev cX11_init : ByteArray := prog_13_method_1_code
def yX11_init : MethodName := ⟨RX11, "<init>", "()V"⟩
abbrev cX11_in : ByteArray := prog_13_method_3_code
def yX11_in : MethodName := ⟨RX11, "in", "(III)Z"⟩
abbrev cX11_isIn : ByteArray := prog_13_method_4_code
def yX11_isIn : MethodName := ⟨RX11, "isIn", "(II)Z"⟩
abbrev cX11_no : ByteArray := prog_13_method_5_code
def yX11_no : MethodName := ⟨RX11, "no", "(I)J"⟩
abbrev cX11_lowest : ByteArray := prog_13_method_6_code
def yX11_lowest : MethodName := ⟨RX11, "lowest", "(JJI)J"⟩
abbrev cX11_isText : ByteArray := prog_13_method_7_code
def yX11_isText : MethodName := ⟨RX11, "isText", "(I)Z"⟩
abbrev cX11_isMoment : ByteArray := prog_13_method_8_code
def yX11_isMoment : MethodName := ⟨RX11, "isMoment", "(I)Z"⟩
abbrev cX11_isTwo : ByteArray := prog_13_method_9_code
def yX11_isTwo : MethodName := ⟨RX11, "isTwo", "(I)Z"⟩
abbrev cX11_isThree : ByteArray := prog_13_method_10_code
def yX11_isThree : MethodName := ⟨RX11, "isThree", "(I)Z"⟩
abbrev cX11_isEight : ByteArray := prog_13_method_11_code
def yX11_isEight : MethodName := ⟨RX11, "isEight", "(I)Z"⟩
abbrev cX11_isSix : ByteArray := prog_13_method_12_code
def yX11_isSix : MethodName := ⟨RX11, "isSix", "(I)Z"⟩
abbrev cX11_type : ByteArray := prog_13_method_13_code
def yX11_type : MethodName := ⟨RX11, "type", "(II)I"⟩
abbrev cX11_wipe : ByteArray := prog_13_method_14_code
def yX11_wipe : MethodName := ⟨RX11, "wipe", "(I)I"⟩
abbrev cX11_undo : ByteArray := prog_13_method_15_code
def yX11_undo : MethodName := ⟨RX11, "undo", "(I)I"⟩
abbrev cX11_byteAt : ByteArray := prog_13_method_16_code
def yX11_byteAt : MethodName := ⟨RX11, "byteAt", "(II)I"⟩
abbrev cX11_wayOf : ByteArray := prog_13_method_17_code
def yX11_wayOf : MethodName := ⟨RX11, "wayOf", "(I)I"⟩
abbrev cX11_sortOf : ByteArray := prog_13_method_18_code
def yX11_sortOf : MethodName := ⟨RX11, "sortOf", "(I)I"⟩
abbrev cX11_isTold : ByteArray := prog_13_method_19_code
def yX11_isTold : MethodName := ⟨RX11, "isTold", "(III)Z"⟩
abbrev cX11_readsCar : ByteArray := prog_13_method_20_code
def yX11_readsCar : MethodName := ⟨RX11, "readsCar", "(II)I"⟩
abbrev cX11_readsSteer : ByteArray := prog_13_method_21_code
def yX11_readsSteer : MethodName := ⟨RX11, "readsSteer", "(II)I"⟩
abbrev cX11_readsParts : ByteArray := prog_13_method_22_code
def yX11_readsParts : MethodName := ⟨RX11, "readsParts", "(I)I"⟩
abbrev cX11_faultOf : ByteArray := prog_13_method_23_code
def yX11_faultOf : MethodName := ⟨RX11, "faultOf", "(I)I"⟩
abbrev cX11_reads : ByteArray := prog_13_method_24_code
def yX11_reads : MethodName := ⟨RX11, "reads", "()V"⟩
abbrev cX11_fault : ByteArray := prog_13_method_25_code
def yX11_fault : MethodName := ⟨RX11, "fault", "(I)I"⟩
abbrev cX11_isCar : ByteArray := prog_13_method_26_code
def yX11_isCar : MethodName := ⟨RX11, "isCar", "(I)Z"⟩
abbrev cX11_carOf : ByteArray := prog_13_method_27_code
def yX11_carOf : MethodName := ⟨RX11, "carOf", "(II)I"⟩
abbrev cX11_car : ByteArray := prog_13_method_28_code
def yX11_car : MethodName := ⟨RX11, "car", "(II)I"⟩
abbrev cX11_steerTold : ByteArray := prog_13_method_29_code
def yX11_steerTold : MethodName := ⟨RX11, "steerTold", "(II)I"⟩
abbrev cX11_steer : ByteArray := prog_13_method_30_code
def yX11_steer : MethodName := ⟨RX11, "steer", "(II)I"⟩
abbrev cX11_event : ByteArray := prog_13_method_31_code
def yX11_event : MethodName := ⟨RX11, "event", "(III)I"⟩
abbrev cX11_back : ByteArray := prog_13_method_32_code
def yX11_back : MethodName := ⟨RX11, "back", "()I"⟩
abbrev cX11_read : ByteArray := prog_13_method_33_code
def yX11_read : MethodName := ⟨RX11, "read", "(I)I"⟩
abbrev cX11_asTold : ByteArray := prog_13_method_34_code
def yX11_asTold : MethodName := ⟨RX11, "asTold", "()V"⟩
abbrev cX11_whoIn : ByteArray := prog_13_method_35_code
def yX11_whoIn : MethodName := ⟨RX11, "whoIn", "(II)I"⟩
abbrev cX11_stepX : ByteArray := prog_13_method_36_code
def yX11_stepX : MethodName := ⟨RX11, "stepX", "(I)I"⟩
abbrev cX11_stepY : ByteArray := prog_13_method_37_code
def yX11_stepY : MethodName := ⟨RX11, "stepY", "(I)I"⟩
abbrev cX11_comes : ByteArray := prog_13_method_38_code
def yX11_comes : MethodName := ⟨RX11, "comes", "(III)V"⟩
abbrev cX11_runsInto : ByteArray := prog_13_method_39_code
def yX11_runsInto : MethodName := ⟨RX11, "runsInto", "(IIII)V"⟩
abbrev cX11_drives : ByteArray := prog_13_method_40_code
def yX11_drives : MethodName := ⟨RX11, "drives", "(II)V"⟩
abbrev cX11_steersAll : ByteArray := prog_13_method_41_code
def yX11_steersAll : MethodName := ⟨RX11, "steersAll", "(I)V"⟩
abbrev cX11_goesBy : ByteArray := prog_13_method_42_code
def yX11_goesBy : MethodName := ⟨RX11, "goesBy", "(I)V"⟩
abbrev cX11_runs : ByteArray := prog_13_method_43_code
def yX11_runs : MethodName := ⟨RX11, "runs", "()V"⟩
abbrev cX11_runsTold : ByteArray := prog_13_method_44_code
def yX11_runsTold : MethodName := ⟨RX11, "runsTold", "()V"⟩
abbrev cX11_atOf : ByteArray := prog_13_method_45_code
def yX11_atOf : MethodName := ⟨RX11, "atOf", "(III)I"⟩
abbrev cX11_at : ByteArray := prog_13_method_46_code
def yX11_at : MethodName := ⟨RX11, "at", "(III)I"⟩
abbrev cX11_whoOf : ByteArray := prog_13_method_47_code
def yX11_whoOf : MethodName := ⟨RX11, "whoOf", "(III)I"⟩
abbrev cX11_who : ByteArray := prog_13_method_48_code
def yX11_who : MethodName := ⟨RX11, "who", "(III)I"⟩
abbrev cX11_ayesAt : ByteArray := prog_13_method_49_code
def yX11_ayesAt : MethodName := ⟨RX11, "ayesAt", "(I)I"⟩
abbrev cX11_houseOf : ByteArray := prog_13_method_50_code
def yX11_houseOf : MethodName := ⟨RX11, "houseOf", "(II)I"⟩
abbrev cX11_house : ByteArray := prog_13_method_51_code
def yX11_house : MethodName := ⟨RX11, "house", "(II)I"⟩
abbrev cX11_strikesOf : ByteArray := prog_13_method_52_code
def yX11_strikesOf : MethodName := ⟨RX11, "strikesOf", "()I"⟩
abbrev cX11_strikes : ByteArray := prog_13_method_53_code
def yX11_strikes : MethodName := ⟨RX11, "strikes", "()I"⟩
abbrev cX11_firstOf : ByteArray := prog_13_method_54_code
def yX11_firstOf : MethodName := ⟨RX11, "firstOf", "(I)I"⟩
abbrev cX11_first : ByteArray := prog_13_method_55_code
def yX11_first : MethodName := ⟨RX11, "first", "(I)I"⟩
abbrev cX11_bestOf : ByteArray := prog_13_method_56_code
def yX11_bestOf : MethodName := ⟨RX11, "bestOf", "()I"⟩
abbrev cX11_best : ByteArray := prog_13_method_57_code
def yX11_best : MethodName := ⟨RX11, "best", "()I"⟩
abbrev cX11_meekNow : ByteArray := prog_13_method_58_code
def yX11_meekNow : MethodName := ⟨RX11, "meekNow", "()I"⟩
abbrev cX11_meekOf : ByteArray := prog_13_method_59_code
def yX11_meekOf : MethodName := ⟨RX11, "meekOf", "()I"⟩
abbrev cX11_meek : ByteArray := prog_13_method_60_code
def yX11_meek : MethodName := ⟨RX11, "meek", "()I"⟩
abbrev cX11_jamOf : ByteArray := prog_13_method_61_code
def yX11_jamOf : MethodName := ⟨RX11, "jamOf", "(I)I"⟩
abbrev cX11_jam : ByteArray := prog_13_method_62_code
def yX11_jam : MethodName := ⟨RX11, "jam", "(I)I"⟩
abbrev cX11_carriedOf : ByteArray := prog_13_method_63_code
def yX11_carriedOf : MethodName := ⟨RX11, "carriedOf", "()I"⟩
abbrev cX11_carried : ByteArray := prog_13_method_64_code
def yX11_carried : MethodName := ⟨RX11, "carried", "()I"⟩
abbrev cX11_isOther : ByteArray := prog_13_method_65_code
def yX11_isOther : MethodName := ⟨RX11, "isOther", "(III)Z"⟩
abbrev cX11_standOf : ByteArray := prog_13_method_66_code
def yX11_standOf : MethodName := ⟨RX11, "standOf", "(II)I"⟩
abbrev cX11_stand : ByteArray := prog_13_method_67_code
def yX11_stand : MethodName := ⟨RX11, "stand", "(II)I"⟩
abbrev cX11_betterOf : ByteArray := prog_13_method_68_code
def yX11_betterOf : MethodName := ⟨RX11, "betterOf", "(III)I"⟩
abbrev cX11_better : ByteArray := prog_13_method_69_code
def yX11_better : MethodName := ⟨RX11, "better", "(III)I"⟩
abbrev cX11_ringOf : ByteArray := prog_13_method_70_code
def yX11_ringOf : MethodName := ⟨RX11, "ringOf", "(I)I"⟩
abbrev cX11_ring : ByteArray := prog_13_method_71_code
def yX11_ring : MethodName := ⟨RX11, "ring", "(I)I"⟩
abbrev cX11_isSpared : ByteArray := prog_13_method_72_code
def yX11_isSpared : MethodName := ⟨RX11, "isSpared", "(I)Z"⟩
abbrev cX11_spareBy : ByteArray := prog_13_method_73_code
def yX11_spareBy : MethodName := ⟨RX11, "spareBy", "()I"⟩
abbrev cX11_ofRow : ByteArray := prog_13_method_74_code
def yX11_ofRow : MethodName := ⟨RX11, "ofRow", "(II)I"⟩
abbrev cX11_spare : ByteArray := prog_13_method_75_code
def yX11_spare : MethodName := ⟨RX11, "spare", "(I)I"⟩
abbrev cX11_seen : ByteArray := prog_13_method_76_code
def yX11_seen : MethodName := ⟨RX11, "seen", "(IIII)I"⟩
abbrev cX11_forget : ByteArray := prog_13_method_77_code
def yX11_forget : MethodName := ⟨RX11, "forget", "()I"⟩
abbrev cX11_isSeen : ByteArray := prog_13_method_78_code
def yX11_isSeen : MethodName := ⟨RX11, "isSeen", "()Z"⟩
abbrev cX11_neverNow : ByteArray := prog_13_method_79_code
def yX11_neverNow : MethodName := ⟨RX11, "neverNow", "()I"⟩
abbrev cX11_never : ByteArray := prog_13_method_80_code
def yX11_never : MethodName := ⟨RX11, "never", "()I"⟩
abbrev cX11_sortsBy : ByteArray := prog_13_method_81_code
def yX11_sortsBy : MethodName := ⟨RX11, "sortsBy", "(I)I"⟩
abbrev cX11_heavyBy : ByteArray := prog_13_method_82_code
def yX11_heavyBy : MethodName := ⟨RX11, "heavyBy", "(I)I"⟩
abbrev cX11_was : ByteArray := prog_13_method_83_code
def yX11_was : MethodName := ⟨RX11, "was", "(II)I"⟩
abbrev cX11_askOf : ByteArray := prog_13_method_84_code
def yX11_askOf : MethodName := ⟨RX11, "askOf", "(I)I"⟩
abbrev cX11_ask : ByteArray := prog_13_method_85_code
def yX11_ask : MethodName := ⟨RX11, "ask", "(I)I"⟩
abbrev cX11_chanceOf : ByteArray := prog_13_method_86_code
def yX11_chanceOf : MethodName := ⟨RX11, "chanceOf", "(III)J"⟩
abbrev cX11_chance : ByteArray := prog_13_method_87_code
def yX11_chance : MethodName := ⟨RX11, "chance", "(III)J"⟩
abbrev cX11_pointsAll : ByteArray := prog_13_method_88_code
def yX11_pointsAll : MethodName := ⟨RX11, "pointsAll", "()I"⟩
abbrev cX11_agesOf : ByteArray := prog_13_method_89_code
def yX11_agesOf : MethodName := ⟨RX11, "agesOf", "(III)I"⟩
abbrev cX11_ages : ByteArray := prog_13_method_90_code
def yX11_ages : MethodName := ⟨RX11, "ages", "(III)I"⟩
abbrev cX11_meets : ByteArray := prog_13_method_91_code
def yX11_meets : MethodName := ⟨RX11, "meets", "(I)I"⟩
abbrev cX11_isSheet : ByteArray := prog_13_method_92_code
def yX11_isSheet : MethodName := ⟨RX11, "isSheet", "(I)Z"⟩
abbrev cX11_sheet : ByteArray := prog_13_method_93_code
def yX11_sheet : MethodName := ⟨RX11, "sheet", "(III)I"⟩
abbrev cX11_lose : ByteArray := prog_13_method_94_code
def yX11_lose : MethodName := ⟨RX11, "lose", "(I)I"⟩
abbrev cX11_lacks : ByteArray := prog_13_method_95_code
def yX11_lacks : MethodName := ⟨RX11, "lacks", "(III)I"⟩
abbrev cX11_keep : ByteArray := prog_13_method_96_code
def yX11_keep : MethodName := ⟨RX11, "keep", "(III)V"⟩
abbrev cX11_put : ByteArray := prog_13_method_97_code
def yX11_put : MethodName := ⟨RX11, "put", "(IIII)I"⟩
abbrev cX11_get : ByteArray := prog_13_method_98_code
def yX11_get : MethodName := ⟨RX11, "get", "(III)I"⟩
abbrev cX11_copy : ByteArray := prog_13_method_99_code
def yX11_copy : MethodName := ⟨RX11, "copy", "(IIIII)I"⟩
abbrev cX11_write : ByteArray := prog_13_method_100_code
def yX11_write : MethodName := ⟨RX11, "write", "(II)I"⟩
abbrev cX11_sumOf : ByteArray := prog_13_method_101_code
def yX11_sumOf : MethodName := ⟨RX11, "sumOf", "(I)I"⟩
abbrev cX11_count : ByteArray := prog_13_method_102_code
def yX11_count : MethodName := ⟨RX11, "count", "(I)I"⟩
abbrev cX11_momentDigest : ByteArray := prog_13_method_103_code
def yX11_momentDigest : MethodName := ⟨RX11, "momentDigest", "(JII)J"⟩
abbrev cX11_carDigest : ByteArray := prog_13_method_104_code
def yX11_carDigest : MethodName := ⟨RX11, "carDigest", "(JI)J"⟩
abbrev cX11_digest : ByteArray := prog_13_method_105_code
def yX11_digest : MethodName := ⟨RX11, "digest", "()J"⟩
def RJ11 : String := "java/lang/Character"
def RJ6 : String := "java/lang/Integer"
abbrev cJ6_bitCount_0f7a4 : ByteArray := prog_15_method_49_code
def yJ6_bitCount_0f7a4 : MethodName := ⟨RJ6, "bitCount", "(I)I"⟩
def RJ9 : String := "java/lang/Math"
abbrev cJ9_max_7cf53 : ByteArray := prog_16_method_65_code
def yJ9_max_7cf53 : MethodName := ⟨RJ9, "max", "(II)I"⟩
abbrev cJ9_min_7cf53 : ByteArray := prog_16_method_69_code
def yJ9_min_7cf53 : MethodName := ⟨RJ9, "min", "(II)I"⟩
def RJ0 : String := "java/lang/String"
abbrev cJ0_length_8abf5 : ByteArray := prog_17_method_54_code
def yJ0_length_8abf5 : MethodName := ⟨RJ0, "length", "()I"⟩
abbrev cJ0_indexOf_0f7a4 : ByteArray := prog_17_method_79_code
def yJ0_indexOf_0f7a4 : MethodName := ⟨RJ0, "indexOf", "(I)I"⟩
abbrev cJ0_indexOf_7cf53 : ByteArray := prog_17_method_80_code
def yJ0_indexOf_7cf53 : MethodName := ⟨RJ0, "indexOf", "(II)I"⟩
abbrev cJ0_coder_7d493 : ByteArray := prog_17_method_152_code
def yJ0_coder_7d493 : MethodName := ⟨RJ0, "coder", "()B"⟩
abbrev cJ0_isLatin1_aae02 : ByteArray := prog_17_method_154_code
def yJ0_isLatin1_aae02 : MethodName := ⟨RJ0, "isLatin1", "()Z"⟩
abbrev cJ0_checkBoundsBeginEnd_23922 : ByteArray := prog_17_method_158_code
def yJ0_checkBoundsBeginEnd_23922 : MethodName := ⟨RJ0, "checkBoundsBeginEnd", "(III)V"⟩
def RJ1 : String := "java/lang/StringLatin1"
abbrev cJ1_canEncode_9a6ad : ByteArray := prog_18_method_4_code
def yJ1_canEncode_9a6ad : MethodName := ⟨RJ1, "canEncode", "(I)Z"⟩
abbrev cJ1_indexOf_4cfef : ByteArray := prog_18_method_22_code
def yJ1_indexOf_4cfef : MethodName := ⟨RJ1, "indexOf", "([BIII)I"⟩
abbrev cJ1_indexOfChar_4cfef : ByteArray := prog_18_method_23_code
def yJ1_indexOfChar_4cfef : MethodName := ⟨RJ1, "indexOfChar", "([BIII)I"⟩
def RJ2 : String := "java/lang/StringUTF16"
def RJ10 : String := "java/lang/System"
def RJ7 : String := "java/util/Arrays"
abbrev cJ7_fill_53178 : ByteArray := prog_21_method_103_code
def yJ7_fill_53178 : MethodName := ⟨RJ7, "fill", "([II)V"⟩
def RJ3 : String := "jdk/internal/util/Preconditions"
def RL : String := "DodgemDebateLaw"
abbrev cL_law : ByteArray := code
def yL_law : MethodName := ⟨RL, "law", "([I)Z"⟩
abbrev vwCl : List vw_C := [(RX0, TX0, 5), (RX1, TX1, 4), (RX2, TX2, 1), (RX3, TX3, 10), (RX4, TX4, 4), (RX5, TX5, 5), (RX6, TX6, 5), (RX7, TX7, 2), (RX9, TX9, 10), (RX10, TX10, 11), (RX11, TX11, 53)]
end
section
/-! ===== the small machine: what a frame of the system does, over a store of numbers ===== -/
def mshpL : List (Nat × Nat) := [(9, 11), (7, 2), (11, 47), (7, 2), (11, 47), (0, 5), (13, 8), (11, 5), (11, 5), (11, 5), (11, 5), (11, 5), (11, 5), (11, 5), (11, 5), (6, 5), (13, 13), (11, 3), (11, 3), (11, 3), (11, 3), (11, 3), (11, 3), (11, 3), (11, 3), (11, 3), (11, 3), (11, 3), (11, 3), (11, 3), (1, 4), (11, 8), (11, 8), (11, 8), (5, 5), (11, 8), (11, 8), (11, 8), (11, 8), (4, 4), (13, 4), (11, 60), (11, 60), (11, 60), (11, 60), (11, 4), (11, 4), (3, 10), (13, 6), (11, 8), (11, 8), (11, 8), (11, 8), (11, 8), (11, 8), (13, 6), (11, 192), (11, 192), (11, 192), (11, 192), (11, 192), (11, 192), (11, 36), (11, 24), (11, 24), (8, 10), (0, 5), (13, 8), (11, 5), (11, 5), (11, 5), (11, 5), (11, 5), (11, 5), (11, 5), (11, 5), (1, 4), (11, 8), (11, 8), (11, 8), (3, 10), (13, 6), (11, 8), (11, 8), (11, 8), (11, 8), (11, 8), (11, 8), (13, 6), (11, 192), (11, 192), (11, 192), (11, 192), (11, 192), (11, 192), (11, 36), (11, 24), (11, 24), (13, 10), (11, 24), (11, 24), (11, 24), (11, 24), (11, 24), (11, 24), (11, 24), (11, 24), (11, 24), (11, 24), (11, 256), (2, 1), (10, 53), (11, 2), (11, 94), (11, 9), (11, 9), (11, 9), (11, 9), (11, 9), (11, 13), (11, 13), (11, 13), (11, 9), (11, 9), (11, 9), (11, 9), (11, 9), (11, 9), (11, 8), (11, 8), (11, 8), (11, 8), (11, 8), (11, 8), (11, 192), (11, 192), (11, 192), (11, 192), (11, 192), (11, 24), (11, 24), (11, 24), (11, 2), (11, 8), (11, 8), (11, 8), (11, 8), (11, 240), (12, 4), (11, 4), (11, 4), (11, 240), (11, 60)]
/-- the shape of the cell x: (class, fields), (11, length) ints, (12, length) booleans, (13, length) rows of ints -/
def mshp (x : Nat) : Nat × Nat := mshpL.getD x (99, 0)
abbrev mNA : Nat := 153
def mkd (ci k : Nat) : Nat := match ci, k with
  | 0, 0 => 1
  | 1, 0 => 1
  | 1, 1 => 1
  | 1, 2 => 1
  | 3, 0 => 1
  | 3, 1 => 1
  | 3, 2 => 1
  | 3, 3 => 1
  | 3, 4 => 1
  | 4, 0 => 1
  | 4, 1 => 1
  | 4, 2 => 1
  | 5, 0 => 1
  | 5, 1 => 1
  | 5, 2 => 1
  | 5, 3 => 1
  | 6, 0 => 1
  | 7, 0 => 1
  | 8, 4 => 1
  | 8, 5 => 1
  | 8, 6 => 1
  | 8, 7 => 1
  | 8, 8 => 1
  | 9, 0 => 1
  | 9, 1 => 1
  | 9, 2 => 1
  | 9, 3 => 1
  | 9, 4 => 1
  | 9, 5 => 1
  | 9, 6 => 1
  | 9, 7 => 1
  | 9, 8 => 1
  | 9, 9 => 1
  | 10, 0 => 1
  | 10, 1 => 1
  | 10, 3 => 1
  | 10, 4 => 1
  | 10, 5 => 1
  | 10, 6 => 1
  | 10, 7 => 1
  | 10, 9 => 1
  | 10, 10 => 1
  | 10, 11 => 1
  | 10, 13 => 1
  | 10, 14 => 1
  | 10, 15 => 1
  | 10, 18 => 1
  | 10, 19 => 1
  | 10, 20 => 1
  | 10, 22 => 1
  | 10, 23 => 1
  | 10, 24 => 1
  | 10, 25 => 1
  | 10, 26 => 1
  | 10, 27 => 1
  | 10, 32 => 1
  | 10, 33 => 1
  | 10, 34 => 1
  | 10, 35 => 1
  | 10, 36 => 1
  | 10, 37 => 1
  | 10, 38 => 1
  | 10, 39 => 1
  | 10, 40 => 1
  | 10, 42 => 1
  | 10, 43 => 1
  | 10, 44 => 1
  | 10, 45 => 1
  | 10, 46 => 1
  | 10, 47 => 1
  | 10, 48 => 1
  | 10, 49 => 1
  | 10, 50 => 1
  | 10, 51 => 1
  | 8, 0 => 1
  | 8, 1 => 1
  | 8, 2 => 1
  | 8, 3 => 1
  | 2, 0 => 2
  | _, _ => 0
def moff (ci x k : Nat) : Nat := match ci, k with
  | 8, 0 => 5
  | 8, 1 => 15
  | 8, 2 => 30
  | 8, 3 => 34
  | 0, 0 => x + 1
  | 1, 0 => x + 1
  | 1, 1 => x + 2
  | 1, 2 => x + 3
  | 3, 0 => x + 1
  | 3, 1 => x + 8
  | 3, 2 => x + 15
  | 3, 3 => x + 16
  | 3, 4 => x + 17
  | 4, 0 => x + 1
  | 4, 1 => x + 6
  | 4, 2 => x + 7
  | 5, 0 => x + 1
  | 5, 1 => x + 2
  | 5, 2 => x + 3
  | 5, 3 => x + 4
  | 6, 0 => x + 1
  | 7, 0 => x + 1
  | 8, 4 => x + 1
  | 8, 5 => x + 11
  | 8, 6 => x + 15
  | 8, 7 => x + 33
  | 8, 8 => x + 44
  | 9, 0 => x + 1
  | 9, 1 => x + 3
  | 9, 2 => x + 5
  | 9, 3 => x + 15
  | 9, 4 => x + 30
  | 9, 5 => x + 34
  | 9, 6 => x + 39
  | 9, 7 => x + 47
  | 9, 8 => x + 65
  | 9, 9 => x + 110
  | 10, 0 => x + 1
  | 10, 1 => x + 2
  | 10, 3 => x + 3
  | 10, 4 => x + 4
  | 10, 5 => x + 5
  | 10, 6 => x + 6
  | 10, 7 => x + 7
  | 10, 9 => x + 8
  | 10, 10 => x + 9
  | 10, 11 => x + 10
  | 10, 13 => x + 11
  | 10, 14 => x + 12
  | 10, 15 => x + 13
  | 10, 18 => x + 14
  | 10, 19 => x + 15
  | 10, 20 => x + 16
  | 10, 22 => x + 17
  | 10, 23 => x + 18
  | 10, 24 => x + 19
  | 10, 25 => x + 20
  | 10, 26 => x + 21
  | 10, 27 => x + 22
  | 10, 32 => x + 23
  | 10, 33 => x + 24
  | 10, 34 => x + 25
  | 10, 35 => x + 26
  | 10, 36 => x + 27
  | 10, 37 => x + 28
  | 10, 38 => x + 29
  | 10, 39 => x + 30
  | 10, 40 => x + 31
  | 10, 42 => x + 32
  | 10, 43 => x + 33
  | 10, 44 => x + 34
  | 10, 45 => x + 35
  | 10, 46 => x + 36
  | 10, 47 => x + 37
  | 10, 48 => x + 38
  | 10, 49 => x + 39
  | 10, 50 => x + 40
  | 10, 51 => x + 41
  | _, _ => 0
abbrev mS : Type := (Nat → Nat → Int32) × Int64
/-- the names of things in the real heap: classes and slots, array classes, what may be written, addresses, the script -/
abbrev mG : Type := va_G × (Nat → ClassId) × (Nat → Prop) × (Nat → Nat) × Nat × (Nat → Int32)
abbrev mM : Type := MethodName × ByteArray × Nat × Option FieldType
def mv (G : mG) : Value → Value
  | .ref x => .ref (G.2.2.2.1 x)
  | v => v
theorem mv_cat {G : mG} {v : Value} {n : Nat} (h : v.category = n) : (mv G v).category = n := by cases v <;> exact h
theorem mv_cats {G : mG} (st : List Value) : ((st.map (mv G)).map fun v => v.category) = st.map fun v => v.category := by
  rw [List.map_map]
  exact List.map_congr_left (fun v _ => mv_cat rfl)
def mlv (G : mG) (q : Nat × Value) : Nat × Value := (q.1, mv G q.2)
theorem mlv_at {G : mG} {ls : List (Nat × Value)} {j i : Nat} {v : Value} (h : ls[j]? = some (i, v)) : (ls.map (mlv G))[j]? = some (i, mv G v) := by
  rw [List.getElem?_map, h]; rfl
def mst1 (i : Nat) (v : Value) (ls : List (Nat × Value)) : List (Nat × Value) := (i, v) :: ls.filter (fun q => !(q.1 == i) && !(q.1 + 1 == i && q.2.category == 2))
def mst2 (i : Nat) (v : Value) (ls : List (Nat × Value)) : List (Nat × Value) := (i, v) :: ls.filter (fun q => !(q.1 == i) && (!(q.1 == i + 1) && !(q.1 + 1 == i && q.2.category == 2)))
theorem mst1_map {G : mG} (i : Nat) (v : Value) (ls : List (Nat × Value)) : (i, mv G v) :: (ls.map (mlv G)).filter (fun q => !(q.1 == i) && !(q.1 + 1 == i && q.2.category == 2)) = (mst1 i v ls).map (mlv G) := by
  unfold mst1
  rw [List.map_cons, List.filter_map]
  refine congrArg _ (congrArg (List.map (mlv G)) (List.filter_congr fun q _ => ?_))
  show (!(q.1 == i) && !(q.1 + 1 == i && (mv G q.2).category == 2)) = _
  rw [mv_cat rfl]
theorem mst2_map {G : mG} (i : Nat) (v : Value) (ls : List (Nat × Value)) : (i, mv G v) :: (ls.map (mlv G)).filter (fun q => !(q.1 == i) && (!(q.1 == i + 1) && !(q.1 + 1 == i && q.2.category == 2))) = (mst2 i v ls).map (mlv G) := by
  unfold mst2
  rw [List.map_cons, List.filter_map]
  refine congrArg _ (congrArg (List.map (mlv G)) (List.filter_congr fun q _ => ?_))
  show (!(q.1 == i) && (!(q.1 == i + 1) && !(q.1 + 1 == i && (mv G q.2).category == 2))) = _
  rw [mv_cat rfl]
def mfv (G : mG) (σ : mS) (ci x k : Nat) : Value := match mkd ci k with
  | 0 => .int (σ.1 x k)
  | 1 => .ref (G.2.2.2.1 (moff ci x k))
  | _ => .long σ.2
/-- what the cell x holds -/
def mE (G : mG) (σ : mS) (x : Nat) : va_E := match (mshp x).1 with
  | 11 => .inl (G.2.1 0, (mshp x).2, .inl (σ.1 x))
  | 12 => .inl (G.2.1 2, (mshp x).2, .inl (σ.1 x))
  | 13 => .inl (G.2.1 1, (mshp x).2, .inr (.inr (.inr (.inr (fun j => some (G.2.2.2.1 (x + 1 + j)))))))
  | ci => .inr (ci, (List.range (mshp x).2).map (mfv G σ ci x))
def mws (G : mG) (σ : mS) : va_W := (List.range mNA).map (fun x => (G.2.2.2.1 x, mE G σ x))
theorem mws_at {G : mG} {σ : mS} {x : Nat} (h : x < mNA) : (mws G σ)[x]? = some (G.2.2.2.1 x, mE G σ x) := by
  unfold mws
  rw [List.getElem?_map, List.getElem?_range h]
  rfl
theorem mshp_lt {x t n : Nat} (h : mshp x = (t, n)) (ht : t ≠ 99) : x < mNA := by
  by_cases hx : x < mNA
  · exact hx
  · exfalso
    apply ht
    have h1 : mshp x = (99, 0) := by
      unfold mshp
      rw [List.getD_eq_getElem?_getD, List.getElem?_eq_none (by show mshpL.length ≤ x; exact Nat.le_of_not_lt hx)]
      rfl
    rw [h1] at h
    exact (congrArg Prod.fst h).symm
/-- the words that go from frame to frame -/
def mxtra : List Cond := [.selects "DodgemDebate$Cars" ⟨"DodgemDebate$Told", "takes", "(IIC)Z"⟩ ⟨"DodgemDebate$Told", "takes", "(IIC)Z"⟩, .selects "DodgemDebate$Steers" ⟨"DodgemDebate$Told", "takes", "(IIC)Z"⟩ ⟨"DodgemDebate$Told", "takes", "(IIC)Z"⟩]
def mtbl : List Cond := (mxtra ++ lw_tbl).filter goodWord
def mnest : List Cond := [.fieldLinkNest "DodgemDebate$Run" 93 "DodgemDebate" "STEP_X" "[I" "DodgemDebate", .fieldLinkNest "DodgemDebate$Run" 96 "DodgemDebate" "STEP_Y" "[I" "DodgemDebate", .methodLinkNest "DodgemDebate$Run" 99 ⟨"DodgemDebate", "onFloor", "(II)Z"⟩ "DodgemDebate", .methodLinkNest "DodgemDebate$Events" 21 ⟨"DodgemDebate", "within", "(II)Z"⟩ "DodgemDebate", .methodLinkNest "DodgemDebate$Sheets" 37 ⟨"DodgemDebate", "within", "(II)Z"⟩ "DodgemDebate", .declares ⟨"DodgemDebate$Told", "meaning", "(IIC)I"⟩, .declares ⟨"DodgemDebate$Told", "learn", "(LDodgemDebate$Text;)V"⟩]
def mstr : List (String × Nat × String × List Int32) := [("DodgemDebate$Cars", 13, "bmh", [98, 109, 104]), ("DodgemDebate$Cars", 21, "012345", [48, 49, 50, 51, 52, 53]), ("DodgemDebate$Cars", 27, "enws", [101, 110, 119, 115]), ("DodgemDebate$Cars", 29, "0123456789", [48, 49, 50, 51, 52, 53, 54, 55, 56, 57]), ("DodgemDebate$Steers", 13, "abcdefghijklmnopqrstuvwx", [97, 98, 99, 100, 101, 102, 103, 104, 105, 106, 107, 108, 109, 110, 111, 112, 113, 114, 115, 116, 117, 118, 119, 120]), ("DodgemDebate$Steers", 21, "01234567", [48, 49, 50, 51, 52, 53, 54, 55])]
def msta : List (String × List Int32) := [("STEP_X", [1, 0, -1, 0]), ("STEP_Y", [0, 1, 0, -1]), ("DIGEST_MOMENTS", [0, 7, 15, 23])]
/-- what lies outside: statics 1000 on, texts 1010 on, their bytes 1020 on, the script 1030 -/
def mExt (G : mG) (U : State) (H : Heap) : Prop :=
  (∀ w ∈ mnest, va_Nw w U) ∧
  (∀ (i : Nat) (q : String × List Int32), msta[i]? = some q → va_Z "DodgemDebate" q.1 "[I" (.ref (G.2.2.2.1 (1000 + i))) G.2.2.1 U H ∧ va_T .int (G.2.2.2.1 (1000 + i)) q.2.length (fun j => .int (q.2.getD j 0)) G.2.2.1 U H) ∧
  va_Z "java/lang/String" "COMPACT_STRINGS" "Z" (.int 1) G.2.2.1 U H ∧
  (∀ (i : Nat) (q : String × Nat × String × List Int32), mstr[i]? = some q → vk_R q.1 q.2.1 q.2.2.1 (G.2.2.2.1 (1010 + i)) U ∧ va_O "java/lang/String" (G.2.2.2.1 (1010 + i)) G.2.2.1 U H ∧ va_OF "java/lang/String" "coder" "B" (.int 0) (G.2.2.2.1 (1010 + i)) G.2.2.1 U H ∧ va_OF "java/lang/String" "value" "[B" (.ref (G.2.2.2.1 (1020 + i))) (G.2.2.2.1 (1010 + i)) G.2.2.1 U H ∧ va_T .byte (G.2.2.2.1 (1020 + i)) q.2.2.2.length (fun j => .int (q.2.2.2.getD j 0)) G.2.2.1 U H) ∧
  va_T .int (G.2.2.2.1 1030) G.2.2.2.2.1 (fun j => .int (G.2.2.2.2.2 j)) G.2.2.1 U H
def mtys (G : mG) : List (ClassId × FieldType) := [(G.2.1 0, .int), (G.2.1 1, .array .int), (G.2.1 2, .boolean)]
/-- what holds of the tables and of what lies outside, at a state -/
def mEnv (G : mG) (U : State) : Prop := va_K G.1 vwCl (mtys G) U ∧ mExt G U U.heap ∧ (∀ q, U.heap.size ≤ q → G.2.2.1 q) ∧ (∀ x y, x < mNA → y < mNA → G.2.2.2.1 x = G.2.2.2.1 y → x = y) ∧ ∀ x, x < mNA → G.2.2.1 (G.2.2.2.1 x)
def mFix (G : mG) (μ : mM) (p : Program) (s : State) (m : MethodId) (args : Array Value) (meth : Method) (c : Code) : Prop :=
  p.tables.exec = Jvm.exec ∧ c.code = μ.2.1 ∧ c.maxLocals = μ.2.2.1 ∧ meth.sig.returnType = μ.2.2.2 ∧ s.vm.findClass μ.1.cls = some m.cls ∧ (∀ w ∈ mtbl, w.before args s = true) ∧ meth.locks = false ∧ mEnv G s
def mRet (μ : mM) (pc : Nat) : Option Value → Prop
  | none => decode μ.2.1 pc = .ok (.return_, 1)
  | some (.int _) => decode μ.2.1 pc = .ok (.ireturn, 1)
  | some (.long _) => decode μ.2.1 pc = .ok (.lreturn, 1)
  | some (.ref _) => decode μ.2.1 pc = .ok (.areturn, 1)
  | _ => False
/-- the judgement: from the frame of method μ at pc with these locals, this stack, this store, it comes to a return that Q allows; d frames are left -/
def mW (G : mG) (l : Launch) (d : Nat) (μ : mM) (pc : Nat) (ls : List (Nat × Value)) (st : List Value) (σ : mS) (Q : Option Value → mS → Prop) : Prop :=
  ∀ (p : Program) (e : Env) (s : State) (m : MethodId) (args : Array Value) (below : List Frame) (meth : Method) (c : Code) (H : Heap) (locs : List Loc) (cells slots : Nat) (lsr : Array Slot) (Z : State → Prop) (R : Room),
    (d ≤ R.frames ∧ 39 * d ≤ R.locals ∧ cells ≤ R.cells ∧ slots ≤ R.slots) → mFix G μ p s m args meth c → va_P G.1 vwCl (mws G σ) H → va_S G.2.2.1 s.heap H locs → lv_has lsr μ.2.2.1 (ls.map (mlv G)) →
    (∀ (v : Option Value) (σ1 : mS) (H1 : Heap) (locs1 : List Loc) (lsr1 : Array Slot) (pc1 : Nat), Q v σ1 → va_P G.1 vwCl (mws G σ1) H1 → va_S G.2.2.1 s.heap H1 locs1 → mRet μ pc1 v → W p l e R s m args below meth c H1 locs1 cells slots Z (F0 m pc1 lsr1 ((v.map (mv G)).toList))) →
    W p l e R s m args below meth c H locs cells slots Z (F0 m pc lsr (st.map (mv G)))
section MM
variable {G : mG} {l : Launch} {d : Nat} {μ : mM} {pc : Nat} {ls : List (Nat × Value)} {st : List Value} {σ : mS} {Q : Option Value → mS → Prop}
theorem mW.post {Q1 : Option Value → mS → Prop} (h : mW G l d μ pc ls st σ Q1) (hq : ∀ v σ1, Q1 v σ1 → Q v σ1) : mW G l d μ pc ls st σ Q :=
  fun p e s m args below meth c H locs cells slots lsr Z R hR hF hP hS hl hQ => h p e s m args below meth c H locs cells slots lsr Z R hR hF hP hS hl (fun v σ1 H1 locs1 lsr1 pc1 h1 => hQ v σ1 H1 locs1 lsr1 pc1 (hq v σ1 h1))
theorem lv_pick_map (ls : List (Nat × Value)) : ∀ ks : List Nat, lv_pick (ls.map (mlv G)) ks = (lv_pick ls ks).map (mlv G)
  | [] => rfl
  | k :: ks => by
    have ih := lv_pick_map ls ks
    unfold lv_pick at ih ⊢
    rw [List.filterMap_cons, List.filterMap_cons, List.getElem?_map]
    cases ls[k]? with
    | none => exact ih
    | some q => exact congrArg (List.cons _) ih
/-- fewer locals, by their places -/
theorem mW.sub {ls1 : List (Nat × Value)} (ks : List Nat) (h1 : lv_pick ls ks = ls1) (h : mW G l d μ pc ls1 st σ Q) : mW G l d μ pc ls st σ Q := by
  subst h1
  intro p e s m args below meth c H locs cells slots lsr Z R hR hF hP hS hl hQ
  exact h p e s m args below meth c H locs cells slots lsr Z R hR hF hP hS (lv_sub hl ks (lv_pick_map ls ks)) hQ

theorem m_iadd {x y : Int32} (hd : decode μ.2.1 pc = .ok (.iadd, 1))  (k : mW G l d μ (pc + 1) ls (.int (x + y) :: st) σ Q) : mW G l d μ pc ls (.int y :: .int x :: st) σ Q :=
  fun p e s m args below meth c H locs cells slots lsr Z R hR hF hP hS hl hQ => lv_iadd hF.1 hF.2.1 hd  (k p e s m args below meth c H locs cells slots lsr Z R hR hF hP hS hl hQ)
theorem m_isub {x y : Int32} (hd : decode μ.2.1 pc = .ok (.isub, 1))  (k : mW G l d μ (pc + 1) ls (.int (x - y) :: st) σ Q) : mW G l d μ pc ls (.int y :: .int x :: st) σ Q :=
  fun p e s m args below meth c H locs cells slots lsr Z R hR hF hP hS hl hQ => lv_isub hF.1 hF.2.1 hd  (k p e s m args below meth c H locs cells slots lsr Z R hR hF hP hS hl hQ)
theorem m_imul {x y : Int32} (hd : decode μ.2.1 pc = .ok (.imul, 1))  (k : mW G l d μ (pc + 1) ls (.int (x * y) :: st) σ Q) : mW G l d μ pc ls (.int y :: .int x :: st) σ Q :=
  fun p e s m args below meth c H locs cells slots lsr Z R hR hF hP hS hl hQ => lv_imul hF.1 hF.2.1 hd  (k p e s m args below meth c H locs cells slots lsr Z R hR hF hP hS hl hQ)
theorem m_iand {x y : Int32} (hd : decode μ.2.1 pc = .ok (.iand, 1))  (k : mW G l d μ (pc + 1) ls (.int (x &&& y) :: st) σ Q) : mW G l d μ pc ls (.int y :: .int x :: st) σ Q :=
  fun p e s m args below meth c H locs cells slots lsr Z R hR hF hP hS hl hQ => lv_iand hF.1 hF.2.1 hd  (k p e s m args below meth c H locs cells slots lsr Z R hR hF hP hS hl hQ)
theorem m_ior {x y : Int32} (hd : decode μ.2.1 pc = .ok (.ior, 1))  (k : mW G l d μ (pc + 1) ls (.int (x ||| y) :: st) σ Q) : mW G l d μ pc ls (.int y :: .int x :: st) σ Q :=
  fun p e s m args below meth c H locs cells slots lsr Z R hR hF hP hS hl hQ => lv_ior hF.1 hF.2.1 hd  (k p e s m args below meth c H locs cells slots lsr Z R hR hF hP hS hl hQ)
theorem m_ixor {x y : Int32} (hd : decode μ.2.1 pc = .ok (.ixor, 1))  (k : mW G l d μ (pc + 1) ls (.int (x ^^^ y) :: st) σ Q) : mW G l d μ pc ls (.int y :: .int x :: st) σ Q :=
  fun p e s m args below meth c H locs cells slots lsr Z R hR hF hP hS hl hQ => lv_ixor hF.1 hF.2.1 hd  (k p e s m args below meth c H locs cells slots lsr Z R hR hF hP hS hl hQ)
theorem m_ishl {x y : Int32} (hd : decode μ.2.1 pc = .ok (.ishl, 1))  (k : mW G l d μ (pc + 1) ls (.int (x <<< (y &&& 31)) :: st) σ Q) : mW G l d μ pc ls (.int y :: .int x :: st) σ Q :=
  fun p e s m args below meth c H locs cells slots lsr Z R hR hF hP hS hl hQ => lv_ishl hF.1 hF.2.1 hd  (k p e s m args below meth c H locs cells slots lsr Z R hR hF hP hS hl hQ)
theorem m_ishr {x y : Int32} (hd : decode μ.2.1 pc = .ok (.ishr, 1))  (k : mW G l d μ (pc + 1) ls (.int (x >>> (y &&& 31)) :: st) σ Q) : mW G l d μ pc ls (.int y :: .int x :: st) σ Q :=
  fun p e s m args below meth c H locs cells slots lsr Z R hR hF hP hS hl hQ => lv_ishr hF.1 hF.2.1 hd  (k p e s m args below meth c H locs cells slots lsr Z R hR hF hP hS hl hQ)
theorem m_iushr {x y v : Int32} (hd : decode μ.2.1 pc = .ok (.iushr, 1)) (hv : (x.toUInt32 >>> (y.toUInt32 &&& Int32.toUInt32 31)).toInt32 = v) (k : mW G l d μ (pc + 1) ls (.int v :: st) σ Q) : mW G l d μ pc ls (.int y :: .int x :: st) σ Q :=
  fun p e s m args below meth c H locs cells slots lsr Z R hR hF hP hS hl hQ => lv_iushr hF.1 hF.2.1 hd hv (k p e s m args below meth c H locs cells slots lsr Z R hR hF hP hS hl hQ)
theorem m_idiv {x y : Int32} (hd : decode μ.2.1 pc = .ok (.idiv, 1)) (hne : ¬ y = 0) (k : mW G l d μ (pc + 1) ls (.int (x / y) :: st) σ Q) : mW G l d μ pc ls (.int y :: .int x :: st) σ Q :=
  fun p e s m args below meth c H locs cells slots lsr Z R hR hF hP hS hl hQ => lv_idiv hF.1 hF.2.1 hd hne (k p e s m args below meth c H locs cells slots lsr Z R hR hF hP hS hl hQ)
theorem m_irem {x y : Int32} (hd : decode μ.2.1 pc = .ok (.irem, 1)) (hne : ¬ y = 0) (k : mW G l d μ (pc + 1) ls (.int (x - x / y * y) :: st) σ Q) : mW G l d μ pc ls (.int y :: .int x :: st) σ Q :=
  fun p e s m args below meth c H locs cells slots lsr Z R hR hF hP hS hl hQ => lv_irem hF.1 hF.2.1 hd hne (k p e s m args below meth c H locs cells slots lsr Z R hR hF hP hS hl hQ)
theorem m_ineg {x : Int32} (hd : decode μ.2.1 pc = .ok (.ineg, 1))  (k : mW G l d μ (pc + 1) ls (.int (-x) :: st) σ Q) : mW G l d μ pc ls (.int x :: st) σ Q :=
  fun p e s m args below meth c H locs cells slots lsr Z R hR hF hP hS hl hQ => lv_ineg hF.1 hF.2.1 hd  (k p e s m args below meth c H locs cells slots lsr Z R hR hF hP hS hl hQ)
theorem m_ladd {x y : Int64} (hd : decode μ.2.1 pc = .ok (.ladd, 1))  (k : mW G l d μ (pc + 1) ls (.long (x + y) :: st) σ Q) : mW G l d μ pc ls (.long y :: .long x :: st) σ Q :=
  fun p e s m args below meth c H locs cells slots lsr Z R hR hF hP hS hl hQ => lv_ladd hF.1 hF.2.1 hd  (k p e s m args below meth c H locs cells slots lsr Z R hR hF hP hS hl hQ)
theorem m_lsub {x y : Int64} (hd : decode μ.2.1 pc = .ok (.lsub, 1))  (k : mW G l d μ (pc + 1) ls (.long (x - y) :: st) σ Q) : mW G l d μ pc ls (.long y :: .long x :: st) σ Q :=
  fun p e s m args below meth c H locs cells slots lsr Z R hR hF hP hS hl hQ => lv_lsub hF.1 hF.2.1 hd  (k p e s m args below meth c H locs cells slots lsr Z R hR hF hP hS hl hQ)
theorem m_lmul {x y : Int64} (hd : decode μ.2.1 pc = .ok (.lmul, 1))  (k : mW G l d μ (pc + 1) ls (.long (x * y) :: st) σ Q) : mW G l d μ pc ls (.long y :: .long x :: st) σ Q :=
  fun p e s m args below meth c H locs cells slots lsr Z R hR hF hP hS hl hQ => lv_lmul hF.1 hF.2.1 hd  (k p e s m args below meth c H locs cells slots lsr Z R hR hF hP hS hl hQ)
theorem m_land {x y : Int64} (hd : decode μ.2.1 pc = .ok (.land, 1))  (k : mW G l d μ (pc + 1) ls (.long (x &&& y) :: st) σ Q) : mW G l d μ pc ls (.long y :: .long x :: st) σ Q :=
  fun p e s m args below meth c H locs cells slots lsr Z R hR hF hP hS hl hQ => lv_land hF.1 hF.2.1 hd  (k p e s m args below meth c H locs cells slots lsr Z R hR hF hP hS hl hQ)
theorem m_ldiv {x y : Int64} (hd : decode μ.2.1 pc = .ok (.ldiv, 1)) (hne : ¬ y = 0) (k : mW G l d μ (pc + 1) ls (.long (x / y) :: st) σ Q) : mW G l d μ pc ls (.long y :: .long x :: st) σ Q :=
  fun p e s m args below meth c H locs cells slots lsr Z R hR hF hP hS hl hQ => lv_ldiv hF.1 hF.2.1 hd hne (k p e s m args below meth c H locs cells slots lsr Z R hR hF hP hS hl hQ)
theorem m_lrem {x y : Int64} (hd : decode μ.2.1 pc = .ok (.lrem, 1)) (hne : ¬ y = 0) (k : mW G l d μ (pc + 1) ls (.long (x - x / y * y) :: st) σ Q) : mW G l d μ pc ls (.long y :: .long x :: st) σ Q :=
  fun p e s m args below meth c H locs cells slots lsr Z R hR hF hP hS hl hQ => lv_lrem hF.1 hF.2.1 hd hne (k p e s m args below meth c H locs cells slots lsr Z R hR hF hP hS hl hQ)
theorem m_lshl {x : Int64} {y : Int32} (hd : decode μ.2.1 pc = .ok (.lshl, 1))  (k : mW G l d μ (pc + 1) ls (.long (x <<< (y.toInt64 &&& 63)) :: st) σ Q) : mW G l d μ pc ls (.int y :: .long x :: st) σ Q :=
  fun p e s m args below meth c H locs cells slots lsr Z R hR hF hP hS hl hQ => lv_lshl hF.1 hF.2.1 hd rfl (k p e s m args below meth c H locs cells slots lsr Z R hR hF hP hS hl hQ)
theorem m_lcmp {x y : Int64} (hd : decode μ.2.1 pc = .ok (.lcmp, 1))  (k : mW G l d μ (pc + 1) ls (.int (lg_cmp x y) :: st) σ Q) : mW G l d μ pc ls (.long y :: .long x :: st) σ Q :=
  fun p e s m args below meth c H locs cells slots lsr Z R hR hF hP hS hl hQ => W.lcmp hF.1 hF.2.1 hd  (k p e s m args below meth c H locs cells slots lsr Z R hR hF hP hS hl hQ)
theorem m_i2l {x : Int32} (hd : decode μ.2.1 pc = .ok (.i2l, 1))  (k : mW G l d μ (pc + 1) ls (.long x.toInt64 :: st) σ Q) : mW G l d μ pc ls (.int x :: st) σ Q :=
  fun p e s m args below meth c H locs cells slots lsr Z R hR hF hP hS hl hQ => lv_i2l hF.1 hF.2.1 hd rfl (k p e s m args below meth c H locs cells slots lsr Z R hR hF hP hS hl hQ)
theorem m_i2b {x : Int32} (hd : decode μ.2.1 pc = .ok (.i2b, 1))  (k : mW G l d μ (pc + 1) ls (.int x.toInt8.toInt32 :: st) σ Q) : mW G l d μ pc ls (.int x :: st) σ Q :=
  fun p e s m args below meth c H locs cells slots lsr Z R hR hF hP hS hl hQ => lv_i2b hF.1 hF.2.1 hd rfl (k p e s m args below meth c H locs cells slots lsr Z R hR hF hP hS hl hQ)
theorem m_i2s {x : Int32} (hd : decode μ.2.1 pc = .ok (.i2s, 1))  (k : mW G l d μ (pc + 1) ls (.int x.toInt16.toInt32 :: st) σ Q) : mW G l d μ pc ls (.int x :: st) σ Q :=
  fun p e s m args below meth c H locs cells slots lsr Z R hR hF hP hS hl hQ => lv_i2s hF.1 hF.2.1 hd rfl (k p e s m args below meth c H locs cells slots lsr Z R hR hF hP hS hl hQ)
theorem m_i2c {x : Int32} (hd : decode μ.2.1 pc = .ok (.i2c, 1))  (k : mW G l d μ (pc + 1) ls (.int (x.toUInt32 % 65536).toInt32 :: st) σ Q) : mW G l d μ pc ls (.int x :: st) σ Q :=
  fun p e s m args below meth c H locs cells slots lsr Z R hR hF hP hS hl hQ => lv_i2c hF.1 hF.2.1 hd rfl (k p e s m args below meth c H locs cells slots lsr Z R hR hF hP hS hl hQ)
theorem m_iconst {n : Int} {v : Int32} (hd : decode μ.2.1 pc = .ok (.iconst n, 1)) (hv : Int32.ofInt n = v) (k : mW G l d μ (pc + 1) ls (.int v :: st) σ Q) : mW G l d μ pc ls (st) σ Q :=
  fun p e s m args below meth c H locs cells slots lsr Z R hR hF hP hS hl hQ => lv_iconst hF.1 hF.2.1 hd hv (k p e s m args below meth c H locs cells slots lsr Z R hR hF hP hS hl hQ)
theorem m_bipush {n : Int} {v : Int32} (hd : decode μ.2.1 pc = .ok (.bipush n, 2)) (hv : (Int8.ofInt n).toInt32 = v) (k : mW G l d μ (pc + 2) ls (.int v :: st) σ Q) : mW G l d μ pc ls (st) σ Q :=
  fun p e s m args below meth c H locs cells slots lsr Z R hR hF hP hS hl hQ => lv_bipush hF.1 hF.2.1 hd hv (k p e s m args below meth c H locs cells slots lsr Z R hR hF hP hS hl hQ)
theorem m_sipush {n : Int} {v : Int32} (hd : decode μ.2.1 pc = .ok (.sipush n, 3)) (hv : (Int16.ofInt n).toInt32 = v) (k : mW G l d μ (pc + 3) ls (.int v :: st) σ Q) : mW G l d μ pc ls (st) σ Q :=
  fun p e s m args below meth c H locs cells slots lsr Z R hR hF hP hS hl hQ => lv_sipush hF.1 hF.2.1 hd hv (k p e s m args below meth c H locs cells slots lsr Z R hR hF hP hS hl hQ)
theorem m_lconst {n : Fin 2} {v : Int64} (hd : decode μ.2.1 pc = .ok (.lconst n, 1)) (hv : Int64.ofNat (n : Nat) = v) (k : mW G l d μ (pc + 1) ls (.long v :: st) σ Q) : mW G l d μ pc ls (st) σ Q :=
  fun p e s m args below meth c H locs cells slots lsr Z R hR hF hP hS hl hQ => lv_lconst hF.1 hF.2.1 hd hv (k p e s m args below meth c H locs cells slots lsr Z R hR hF hP hS hl hQ)
theorem m_dup {va : Value} (hd : decode μ.2.1 pc = .ok (.dup, 1)) (hc : va.category = 1) (k : mW G l d μ (pc + 1) ls (va :: va :: st) σ Q) : mW G l d μ pc ls (va :: st) σ Q :=
  fun p e s m args below meth c H locs cells slots lsr Z R hR hF hP hS hl hQ => lv_dup hF.1 hF.2.1 hd (mv_cat hc) (k p e s m args below meth c H locs cells slots lsr Z R hR hF hP hS hl hQ)
theorem m_pop {va : Value} (hd : decode μ.2.1 pc = .ok (.pop, 1)) (hc : va.category = 1) (k : mW G l d μ (pc + 1) ls (st) σ Q) : mW G l d μ pc ls (va :: st) σ Q :=
  fun p e s m args below meth c H locs cells slots lsr Z R hR hF hP hS hl hQ => lv_pop hF.1 hF.2.1 hd (mv_cat hc) (k p e s m args below meth c H locs cells slots lsr Z R hR hF hP hS hl hQ)
theorem m_dup2 {va vb : Value} (hd : decode μ.2.1 pc = .ok (.dup2, 1)) (hc : va.category = 1) (hb : vb.category = 1) (k : mW G l d μ (pc + 1) ls (va :: vb :: va :: vb :: st) σ Q) : mW G l d μ pc ls (va :: vb :: st) σ Q :=
  fun p e s m args below meth c H locs cells slots lsr Z R hR hF hP hS hl hQ => lv_dup2_11 hF.1 hF.2.1 hd (mv_cat hc) (mv_cat hb) (k p e s m args below meth c H locs cells slots lsr Z R hR hF hP hS hl hQ)
theorem m_iload {i : Nat} {x : Int32} (hd : decode μ.2.1 pc = .ok (.iload i, 2)) (j : Nat) (hj : ls[j]? = some (i, .int x)) (k : mW G l d μ (pc + 2) ls (.int x :: st) σ Q) : mW G l d μ pc ls st σ Q :=
  fun p e s m args below meth c H locs cells slots lsr Z R hR hF hP hS hl hQ => lv_iload hF.1 hF.2.1 hd (lv_at hl j (mlv_at hj)) (k p e s m args below meth c H locs cells slots lsr Z R hR hF hP hS hl hQ)
theorem m_iload_n {i : Fin 4} {x : Int32} (hd : decode μ.2.1 pc = .ok (.iload_n i, 1)) (j : Nat) (hj : ls[j]? = some ((i : Nat), .int x)) (k : mW G l d μ (pc + 1) ls (.int x :: st) σ Q) : mW G l d μ pc ls st σ Q :=
  fun p e s m args below meth c H locs cells slots lsr Z R hR hF hP hS hl hQ => lv_iload_n hF.1 hF.2.1 hd rfl (lv_at hl j (mlv_at hj)) (k p e s m args below meth c H locs cells slots lsr Z R hR hF hP hS hl hQ)
theorem m_lload {i : Nat} {x : Int64} (hd : decode μ.2.1 pc = .ok (.lload i, 2)) (j : Nat) (hj : ls[j]? = some (i, .long x)) (k : mW G l d μ (pc + 2) ls (.long x :: st) σ Q) : mW G l d μ pc ls st σ Q :=
  fun p e s m args below meth c H locs cells slots lsr Z R hR hF hP hS hl hQ => lv_lload hF.1 hF.2.1 hd (lv_at hl j (mlv_at hj)) (k p e s m args below meth c H locs cells slots lsr Z R hR hF hP hS hl hQ)
theorem m_lload_n {i : Fin 4} {x : Int64} (hd : decode μ.2.1 pc = .ok (.lload_n i, 1)) (j : Nat) (hj : ls[j]? = some ((i : Nat), .long x)) (k : mW G l d μ (pc + 1) ls (.long x :: st) σ Q) : mW G l d μ pc ls st σ Q :=
  fun p e s m args below meth c H locs cells slots lsr Z R hR hF hP hS hl hQ => lv_lload_n hF.1 hF.2.1 hd rfl (lv_at hl j (mlv_at hj)) (k p e s m args below meth c H locs cells slots lsr Z R hR hF hP hS hl hQ)
theorem m_aload {i : Nat} {x : Nat} (hd : decode μ.2.1 pc = .ok (.aload i, 2)) (j : Nat) (hj : ls[j]? = some (i, .ref x)) (k : mW G l d μ (pc + 2) ls (.ref x :: st) σ Q) : mW G l d μ pc ls st σ Q :=
  fun p e s m args below meth c H locs cells slots lsr Z R hR hF hP hS hl hQ => lv_aload hF.1 hF.2.1 hd (lv_at hl j (mlv_at hj)) (k p e s m args below meth c H locs cells slots lsr Z R hR hF hP hS hl hQ)
theorem m_aload_n {i : Fin 4} {x : Nat} (hd : decode μ.2.1 pc = .ok (.aload_n i, 1)) (j : Nat) (hj : ls[j]? = some ((i : Nat), .ref x)) (k : mW G l d μ (pc + 1) ls (.ref x :: st) σ Q) : mW G l d μ pc ls st σ Q :=
  fun p e s m args below meth c H locs cells slots lsr Z R hR hF hP hS hl hQ => lv_aload_n hF.1 hF.2.1 hd rfl (lv_at hl j (mlv_at hj)) (k p e s m args below meth c H locs cells slots lsr Z R hR hF hP hS hl hQ)
theorem m_istore {i : Nat} {x : Int32} {ls1 : List (Nat × Value)} (hd : decode μ.2.1 pc = .ok (.istore i, 2)) (hn : i < μ.2.2.1) (h1 : mst1 i (.int x) ls = ls1) (k : mW G l d μ (pc + 2) ls1 st σ Q) : mW G l d μ pc ls (.int x :: st) σ Q := by
  subst h1
  exact fun p e s m args below meth c H locs cells slots lsr Z R hR hF hP hS hl hQ => lv_istore hF.1 hF.2.1 hd  hl hn (mst1_map (G := G) i (.int x) ls) (fun ls2 hl2 => k p e s m args below meth c H locs cells slots ls2 Z R hR hF hP hS hl2 hQ)
theorem m_istore_n {i : Fin 4} {x : Int32} {ls1 : List (Nat × Value)} (hd : decode μ.2.1 pc = .ok (.istore_n i, 1)) (hn : (i : Nat) < μ.2.2.1) (h1 : mst1 (i : Nat) (.int x) ls = ls1) (k : mW G l d μ (pc + 1) ls1 st σ Q) : mW G l d μ pc ls (.int x :: st) σ Q := by
  subst h1
  exact fun p e s m args below meth c H locs cells slots lsr Z R hR hF hP hS hl hQ => lv_istore_n hF.1 hF.2.1 hd rfl hl hn (mst1_map (G := G) (i : Nat) (.int x) ls) (fun ls2 hl2 => k p e s m args below meth c H locs cells slots ls2 Z R hR hF hP hS hl2 hQ)
theorem m_lstore {i : Nat} {x : Int64} {ls1 : List (Nat × Value)} (hd : decode μ.2.1 pc = .ok (.lstore i, 2)) (hn : i + 1 < μ.2.2.1) (h1 : mst2 i (.long x) ls = ls1) (k : mW G l d μ (pc + 2) ls1 st σ Q) : mW G l d μ pc ls (.long x :: st) σ Q := by
  subst h1
  exact fun p e s m args below meth c H locs cells slots lsr Z R hR hF hP hS hl hQ => lv_lstore hF.1 hF.2.1 hd  hl hn (mst2_map (G := G) i (.long x) ls) (fun ls2 hl2 => k p e s m args below meth c H locs cells slots ls2 Z R hR hF hP hS hl2 hQ)
theorem m_lstore_n {i : Fin 4} {x : Int64} {ls1 : List (Nat × Value)} (hd : decode μ.2.1 pc = .ok (.lstore_n i, 1)) (hn : (i : Nat) + 1 < μ.2.2.1) (h1 : mst2 (i : Nat) (.long x) ls = ls1) (k : mW G l d μ (pc + 1) ls1 st σ Q) : mW G l d μ pc ls (.long x :: st) σ Q := by
  subst h1
  exact fun p e s m args below meth c H locs cells slots lsr Z R hR hF hP hS hl hQ => lv_lstore_n hF.1 hF.2.1 hd rfl hl hn (mst2_map (G := G) (i : Nat) (.long x) ls) (fun ls2 hl2 => k p e s m args below meth c H locs cells slots ls2 Z R hR hF hP hS hl2 hQ)
theorem m_astore {i : Nat} {x : Nat} {ls1 : List (Nat × Value)} (hd : decode μ.2.1 pc = .ok (.astore i, 2)) (hn : i < μ.2.2.1) (h1 : mst1 i (.ref x) ls = ls1) (k : mW G l d μ (pc + 2) ls1 st σ Q) : mW G l d μ pc ls (.ref x :: st) σ Q := by
  subst h1
  exact fun p e s m args below meth c H locs cells slots lsr Z R hR hF hP hS hl hQ => lv_astore hF.1 hF.2.1 hd  hl hn (mst1_map (G := G) i (.ref x) ls) (fun ls2 hl2 => k p e s m args below meth c H locs cells slots ls2 Z R hR hF hP hS hl2 hQ)
theorem m_astore_n {i : Fin 4} {x : Nat} {ls1 : List (Nat × Value)} (hd : decode μ.2.1 pc = .ok (.astore_n i, 1)) (hn : (i : Nat) < μ.2.2.1) (h1 : mst1 (i : Nat) (.ref x) ls = ls1) (k : mW G l d μ (pc + 1) ls1 st σ Q) : mW G l d μ pc ls (.ref x :: st) σ Q := by
  subst h1
  exact fun p e s m args below meth c H locs cells slots lsr Z R hR hF hP hS hl hQ => lv_astore_n hF.1 hF.2.1 hd rfl hl hn (mst1_map (G := G) (i : Nat) (.ref x) ls) (fun ls2 hl2 => k p e s m args below meth c H locs cells slots ls2 Z R hR hF hP hS hl2 hQ)
theorem m_iinc {i : Nat} {n : Int} {x v : Int32} {ls1 : List (Nat × Value)} (hd : decode μ.2.1 pc = .ok (.iinc i n, 3)) (j : Nat) (hj : ls[j]? = some (i, .int x)) (hv : x + Int32.ofInt n = v) (hn : i < μ.2.2.1) (h1 : mst1 i (.int v) ls = ls1) (k : mW G l d μ (pc + 3) ls1 st σ Q) : mW G l d μ pc ls st σ Q := by
  subst h1
  exact fun p e s m args below meth c H locs cells slots lsr Z R hR hF hP hS hl hQ => lv_iinc hF.1 hF.2.1 hd hl (mlv_at hj) hv hn (mst1_map (G := G) i (.int v) ls) (fun ls2 hl2 => k p e s m args below meth c H locs cells slots ls2 Z R hR hF hP hS hl2 hQ)
theorem m_icmp_eq {x y : Int32} {off : Int} (hd : decode μ.2.1 pc = .ok (.if_icmp .eq off, 3)) (tgt : Nat) (ht : (pc : Int) + off = (tgt : Int)) (kt : x = y → mW G l d μ tgt ls st σ Q) (kf : ¬ (x = y) → mW G l d μ (pc + 3) ls st σ Q) : mW G l d μ pc ls (.int y :: .int x :: st) σ Q :=
  fun p e s m args below meth c H locs cells slots lsr Z R hR hF hP hS hl hQ => lv_icmp_eq hF.1 hF.2.1 hd ht (fun h => kt h p e s m args below meth c H locs cells slots lsr Z R hR hF hP hS hl hQ) (fun h => kf h p e s m args below meth c H locs cells slots lsr Z R hR hF hP hS hl hQ)
theorem m_if_eq {x : Int32} {off : Int} (hd : decode μ.2.1 pc = .ok (.ifCond .eq off, 3)) (tgt : Nat) (ht : (pc : Int) + off = (tgt : Int)) (kt : x = 0 → mW G l d μ tgt ls st σ Q) (kf : ¬ (x = 0) → mW G l d μ (pc + 3) ls st σ Q) : mW G l d μ pc ls (.int x :: st) σ Q :=
  fun p e s m args below meth c H locs cells slots lsr Z R hR hF hP hS hl hQ => lv_if_eq hF.1 hF.2.1 hd ht (fun h => kt h p e s m args below meth c H locs cells slots lsr Z R hR hF hP hS hl hQ) (fun h => kf h p e s m args below meth c H locs cells slots lsr Z R hR hF hP hS hl hQ)
theorem m_icmp_ne {x y : Int32} {off : Int} (hd : decode μ.2.1 pc = .ok (.if_icmp .ne off, 3)) (tgt : Nat) (ht : (pc : Int) + off = (tgt : Int)) (kt : x ≠ y → mW G l d μ tgt ls st σ Q) (kf : x = y → mW G l d μ (pc + 3) ls st σ Q) : mW G l d μ pc ls (.int y :: .int x :: st) σ Q :=
  fun p e s m args below meth c H locs cells slots lsr Z R hR hF hP hS hl hQ => lv_icmp_ne hF.1 hF.2.1 hd ht (fun h => kt h p e s m args below meth c H locs cells slots lsr Z R hR hF hP hS hl hQ) (fun h => kf h p e s m args below meth c H locs cells slots lsr Z R hR hF hP hS hl hQ)
theorem m_if_ne {x : Int32} {off : Int} (hd : decode μ.2.1 pc = .ok (.ifCond .ne off, 3)) (tgt : Nat) (ht : (pc : Int) + off = (tgt : Int)) (kt : x ≠ 0 → mW G l d μ tgt ls st σ Q) (kf : x = 0 → mW G l d μ (pc + 3) ls st σ Q) : mW G l d μ pc ls (.int x :: st) σ Q :=
  fun p e s m args below meth c H locs cells slots lsr Z R hR hF hP hS hl hQ => lv_if_ne hF.1 hF.2.1 hd ht (fun h => kt h p e s m args below meth c H locs cells slots lsr Z R hR hF hP hS hl hQ) (fun h => kf h p e s m args below meth c H locs cells slots lsr Z R hR hF hP hS hl hQ)
theorem m_icmp_lt {x y : Int32} {off : Int} (hd : decode μ.2.1 pc = .ok (.if_icmp .lt off, 3)) (tgt : Nat) (ht : (pc : Int) + off = (tgt : Int)) (kt : x < y → mW G l d μ tgt ls st σ Q) (kf : ¬ (x < y) → mW G l d μ (pc + 3) ls st σ Q) : mW G l d μ pc ls (.int y :: .int x :: st) σ Q :=
  fun p e s m args below meth c H locs cells slots lsr Z R hR hF hP hS hl hQ => lv_icmp_lt hF.1 hF.2.1 hd ht (fun h => kt h p e s m args below meth c H locs cells slots lsr Z R hR hF hP hS hl hQ) (fun h => kf h p e s m args below meth c H locs cells slots lsr Z R hR hF hP hS hl hQ)
theorem m_if_lt {x : Int32} {off : Int} (hd : decode μ.2.1 pc = .ok (.ifCond .lt off, 3)) (tgt : Nat) (ht : (pc : Int) + off = (tgt : Int)) (kt : x < 0 → mW G l d μ tgt ls st σ Q) (kf : ¬ (x < 0) → mW G l d μ (pc + 3) ls st σ Q) : mW G l d μ pc ls (.int x :: st) σ Q :=
  fun p e s m args below meth c H locs cells slots lsr Z R hR hF hP hS hl hQ => lv_if_lt hF.1 hF.2.1 hd ht (fun h => kt h p e s m args below meth c H locs cells slots lsr Z R hR hF hP hS hl hQ) (fun h => kf h p e s m args below meth c H locs cells slots lsr Z R hR hF hP hS hl hQ)
theorem m_icmp_ge {x y : Int32} {off : Int} (hd : decode μ.2.1 pc = .ok (.if_icmp .ge off, 3)) (tgt : Nat) (ht : (pc : Int) + off = (tgt : Int)) (kt : y ≤ x → mW G l d μ tgt ls st σ Q) (kf : ¬ (y ≤ x) → mW G l d μ (pc + 3) ls st σ Q) : mW G l d μ pc ls (.int y :: .int x :: st) σ Q :=
  fun p e s m args below meth c H locs cells slots lsr Z R hR hF hP hS hl hQ => lv_icmp_ge hF.1 hF.2.1 hd ht (fun h => kt h p e s m args below meth c H locs cells slots lsr Z R hR hF hP hS hl hQ) (fun h => kf h p e s m args below meth c H locs cells slots lsr Z R hR hF hP hS hl hQ)
theorem m_if_ge {x : Int32} {off : Int} (hd : decode μ.2.1 pc = .ok (.ifCond .ge off, 3)) (tgt : Nat) (ht : (pc : Int) + off = (tgt : Int)) (kt : 0 ≤ x → mW G l d μ tgt ls st σ Q) (kf : ¬ (0 ≤ x) → mW G l d μ (pc + 3) ls st σ Q) : mW G l d μ pc ls (.int x :: st) σ Q :=
  fun p e s m args below meth c H locs cells slots lsr Z R hR hF hP hS hl hQ => lv_if_ge hF.1 hF.2.1 hd ht (fun h => kt h p e s m args below meth c H locs cells slots lsr Z R hR hF hP hS hl hQ) (fun h => kf h p e s m args below meth c H locs cells slots lsr Z R hR hF hP hS hl hQ)
theorem m_icmp_gt {x y : Int32} {off : Int} (hd : decode μ.2.1 pc = .ok (.if_icmp .gt off, 3)) (tgt : Nat) (ht : (pc : Int) + off = (tgt : Int)) (kt : y < x → mW G l d μ tgt ls st σ Q) (kf : ¬ (y < x) → mW G l d μ (pc + 3) ls st σ Q) : mW G l d μ pc ls (.int y :: .int x :: st) σ Q :=
  fun p e s m args below meth c H locs cells slots lsr Z R hR hF hP hS hl hQ => lv_icmp_gt hF.1 hF.2.1 hd ht (fun h => kt h p e s m args below meth c H locs cells slots lsr Z R hR hF hP hS hl hQ) (fun h => kf h p e s m args below meth c H locs cells slots lsr Z R hR hF hP hS hl hQ)
theorem m_if_gt {x : Int32} {off : Int} (hd : decode μ.2.1 pc = .ok (.ifCond .gt off, 3)) (tgt : Nat) (ht : (pc : Int) + off = (tgt : Int)) (kt : 0 < x → mW G l d μ tgt ls st σ Q) (kf : ¬ (0 < x) → mW G l d μ (pc + 3) ls st σ Q) : mW G l d μ pc ls (.int x :: st) σ Q :=
  fun p e s m args below meth c H locs cells slots lsr Z R hR hF hP hS hl hQ => lv_if_gt hF.1 hF.2.1 hd ht (fun h => kt h p e s m args below meth c H locs cells slots lsr Z R hR hF hP hS hl hQ) (fun h => kf h p e s m args below meth c H locs cells slots lsr Z R hR hF hP hS hl hQ)
theorem m_icmp_le {x y : Int32} {off : Int} (hd : decode μ.2.1 pc = .ok (.if_icmp .le off, 3)) (tgt : Nat) (ht : (pc : Int) + off = (tgt : Int)) (kt : x ≤ y → mW G l d μ tgt ls st σ Q) (kf : ¬ (x ≤ y) → mW G l d μ (pc + 3) ls st σ Q) : mW G l d μ pc ls (.int y :: .int x :: st) σ Q :=
  fun p e s m args below meth c H locs cells slots lsr Z R hR hF hP hS hl hQ => lv_icmp_le hF.1 hF.2.1 hd ht (fun h => kt h p e s m args below meth c H locs cells slots lsr Z R hR hF hP hS hl hQ) (fun h => kf h p e s m args below meth c H locs cells slots lsr Z R hR hF hP hS hl hQ)
theorem m_if_le {x : Int32} {off : Int} (hd : decode μ.2.1 pc = .ok (.ifCond .le off, 3)) (tgt : Nat) (ht : (pc : Int) + off = (tgt : Int)) (kt : x ≤ 0 → mW G l d μ tgt ls st σ Q) (kf : ¬ (x ≤ 0) → mW G l d μ (pc + 3) ls st σ Q) : mW G l d μ pc ls (.int x :: st) σ Q :=
  fun p e s m args below meth c H locs cells slots lsr Z R hR hF hP hS hl hQ => lv_if_le hF.1 hF.2.1 hd ht (fun h => kt h p e s m args below meth c H locs cells slots lsr Z R hR hF hP hS hl hQ) (fun h => kf h p e s m args below meth c H locs cells slots lsr Z R hR hF hP hS hl hQ)
theorem m_goto {off : Int} (hd : decode μ.2.1 pc = .ok (.goto off, 3)) (tgt : Nat) (ht : (pc : Int) + off = (tgt : Int)) (k : mW G l d μ tgt ls st σ Q) : mW G l d μ pc ls st σ Q :=
  fun p e s m args below meth c H locs cells slots lsr Z R hR hF hP hS hl hQ => lv_goto hF.1 hF.2.1 hd ht (k p e s m args below meth c H locs cells slots lsr Z R hR hF hP hS hl hQ)
-- ===== the heap =====
theorem mshp_small : ∀ q ∈ mshpL, q.2 ≤ 256 := by decide +kernel
theorem mshp_len {x t n : Nat} (h : mshp x = (t, n)) : n ≤ 256 := by
  have h1 : (mshpL.getD x (99, 0)).2 = n := congrArg Prod.snd h
  rw [← h1, List.getD_eq_getElem?_getD]
  cases hq : mshpL[x]? with
  | none => exact Nat.zero_le _
  | some q => exact mshp_small q (List.mem_of_getElem? hq)
theorem mshp_tag : ∀ q ∈ mshpL, q.1 ≤ 13 := by decide +kernel
theorem mE_i {x n : Nat} (h : mshp x = (11, n)) : mE G σ x = .inl (G.2.1 0, n, .inl (σ.1 x)) := by unfold mE; rw [h]; rfl
theorem mE_z {x n : Nat} (h : mshp x = (12, n)) : mE G σ x = .inl (G.2.1 2, n, .inl (σ.1 x)) := by unfold mE; rw [h]; rfl
theorem mE_g {x n : Nat} (h : mshp x = (13, n)) : mE G σ x = .inl (G.2.1 1, n, .inr (.inr (.inr (.inr (fun j => some (G.2.2.2.1 (x + 1 + j))))))) := by unfold mE; rw [h]; rfl
theorem mE_o {x ci n : Nat} (h : mshp x = (ci, n)) (hc : ci ≤ 10) : mE G σ x = .inr (ci, (List.range n).map (mfv G σ ci x)) := by
  unfold mE
  rw [h]
  rcases (show ci = 0 ∨ ci = 1 ∨ ci = 2 ∨ ci = 3 ∨ ci = 4 ∨ ci = 5 ∨ ci = 6 ∨ ci = 7 ∨ ci = 8 ∨ ci = 9 ∨ ci = 10 by omega) with rfl | rfl | rfl | rfl | rfl | rfl | rfl | rfl | rfl | rfl | rfl <;> rfl
/-- the store with one number changed -/
def us (σ : mS) (x j : Nat) (v : Int32) : mS := (fun y => if y = x then upd (σ.1 x) j v else σ.1 y, σ.2)
theorem us_ne {x y j : Nat} {v : Int32} (h : y ≠ x) : (us σ x j v).1 y = σ.1 y := if_neg h
theorem us_eq {x j : Nat} {v : Int32} : (us σ x j v).1 x = upd (σ.1 x) j v := if_pos rfl
theorem mE_ne {σ1 : mS} {y : Nat} (h : σ1.1 y = σ.1 y) (h2 : σ1.2 = σ.2) : mE G σ1 y = mE G σ y := by
  have e : mfv G σ1 (mshp y).1 y = mfv G σ (mshp y).1 y := by
    funext k
    unfold mfv
    rw [h, h2]
  unfold mE
  rw [h]
  split <;> first | rfl | (rw [e])
theorem mws_set {σ1 : mS} {x : Nat} {ee : va_E} (hx : x < mNA) (h1 : mE G σ1 x = ee) (h2 : ∀ y, y ≠ x → mE G σ1 y = mE G σ y) : (mws G σ).set x (G.2.2.2.1 x, ee) = mws G σ1 := by
  apply List.ext_getElem?
  intro y
  by_cases hy : y = x
  · subst hy
    rw [List.getElem?_set_self (by unfold mws; rw [List.length_map, List.length_range]; exact hx), mws_at hx, h1]
  · rw [List.getElem?_set_ne (fun h => hy h.symm)]
    by_cases hl : y < mNA
    · rw [mws_at hl, mws_at hl, h2 y hy]
    · rw [List.getElem?_eq_none (by unfold mws; rw [List.length_map, List.length_range]; omega), List.getElem?_eq_none (by unfold mws; rw [List.length_map, List.length_range]; omega)]
theorem mws_D {s : State} (h : mEnv G s) : va_D G.2.2.1 (mws G σ) := by
  have hlen : (mws G σ).length = mNA := by unfold mws; rw [List.length_map, List.length_range]
  refine ⟨fun i j p q hi hj e => ?_, fun k q hk => ?_⟩
  · have li : i < mNA := by rw [← hlen]; exact (List.getElem?_eq_some_iff.mp hi).1
    have lj : j < mNA := by rw [← hlen]; exact (List.getElem?_eq_some_iff.mp hj).1
    rw [mws_at li] at hi
    rw [mws_at lj] at hj
    cases hi; cases hj
    exact h.2.2.2.1 i j li lj e
  · have lk : k < mNA := by rw [← hlen]; exact (List.getElem?_eq_some_iff.mp hk).1
    rw [mws_at lk] at hk
    cases hk
    exact h.2.2.2.2 k lk
theorem m_env {p : Program} {s : State} {m : MethodId} {args : Array Value} {meth : Method} {c : Code} (hF : mFix G μ p s m args meth c) : mEnv G s := hF.2.2.2.2.2.2.2
theorem m_ix {j n : Nat} (hj : j < n) (hn : n ≤ 256) : vp_in (nI j) n ∧ (nI j).toNatClampNeg = j := ⟨vp_in_nI hj (Nat.lt_of_le_of_lt hn (by decide)), nI_clamp (Nat.lt_of_lt_of_le hj (Nat.le_trans hn (by decide)))⟩
theorem m_iald {x n : Nat} {i : Int32} (hd : decode μ.2.1 pc = .ok (.iaload, 1)) (hx : mshp x = (11, n)) (j : Nat) (hi : i = nI j) (hj : j < n) (k : mW G l d μ (pc + 1) ls (.int (σ.1 x j) :: st) σ Q) : mW G l d μ pc ls (.int i :: .ref x :: st) σ Q := by
  subst hi
  intro p e s m args below meth c H locs cells slots lsr Z R hR hF hP hS hl hQ
  obtain ⟨h1, h2⟩ := m_ix hj (mshp_len hx)
  refine va_iald hF.1 hF.2.1 (m_env hF).1 hP x 0 (f := σ.1 x) (n := n) (cA := G.2.1 0) (by rw [mws_at (mshp_lt hx (by decide)), mE_i hx]) rfl h1 hd ?_
  rw [h2]
  exact k p e s m args below meth c H locs cells slots lsr Z R hR hF hP hS hl hQ
theorem m_iast {x n : Nat} {i v : Int32} (hd : decode μ.2.1 pc = .ok (.iastore, 1)) (hx : mshp x = (11, n)) (j : Nat) (hi : i = nI j) (hj : j < n) (k : mW G l d μ (pc + 1) ls st (us σ x j v) Q) : mW G l d μ pc ls (.int v :: .int i :: .ref x :: st) σ Q := by
  subst hi
  intro p e s m args below meth c H locs cells slots lsr Z R hR hF hP hS hl hQ
  obtain ⟨h1, h2⟩ := m_ix hj (mshp_len hx)
  refine va_iast hF.1 hF.2.1 (m_env hF).1 hP (mws_D (m_env hF)) hS x 0 (f := σ.1 x) (n := n) (cA := G.2.1 0) (by rw [mws_at (mshp_lt hx (by decide)), mE_i hx]) rfl h1 hd (fun H1 locs1 hP1 _ hS1 => ?_)
  rw [h2, mws_set (σ1 := us σ x j v) (mshp_lt hx (by decide)) (by rw [mE_i hx, us_eq]) (fun y hy => mE_ne (us_ne hy) rfl)] at hP1
  exact k p e s m args below meth c H1 locs1 cells slots lsr Z R hR hF hP1 hS1 hl hQ
theorem m_zald {x n : Nat} {i : Int32} (hd : decode μ.2.1 pc = .ok (.baload, 1)) (hx : mshp x = (12, n)) (j : Nat) (hi : i = nI j) (hj : j < n) (k : mW G l d μ (pc + 1) ls (.int (σ.1 x j) :: st) σ Q) : mW G l d μ pc ls (.int i :: .ref x :: st) σ Q := by
  subst hi
  intro p e s m args below meth c H locs cells slots lsr Z R hR hF hP hS hl hQ
  obtain ⟨h1, h2⟩ := m_ix hj (mshp_len hx)
  refine va_zald hF.1 hF.2.1 (m_env hF).1 hP x 2 (f := σ.1 x) (n := n) (cA := G.2.1 2) (by rw [mws_at (mshp_lt hx (by decide)), mE_z hx]) rfl h1 hd ?_
  rw [h2]
  exact k p e s m args below meth c H locs cells slots lsr Z R hR hF hP hS hl hQ
theorem m_zast {x n : Nat} {i v : Int32} (hd : decode μ.2.1 pc = .ok (.bastore, 1)) (hx : mshp x = (12, n)) (j : Nat) (hi : i = nI j) (hj : j < n) (hv : vp_nar .boolean v = v) (k : mW G l d μ (pc + 1) ls st (us σ x j v) Q) : mW G l d μ pc ls (.int v :: .int i :: .ref x :: st) σ Q := by
  subst hi
  intro p e s m args below meth c H locs cells slots lsr Z R hR hF hP hS hl hQ
  obtain ⟨h1, h2⟩ := m_ix hj (mshp_len hx)
  refine va_zast hF.1 hF.2.1 (m_env hF).1 hP (mws_D (m_env hF)) hS x 2 (f := σ.1 x) (n := n) (cA := G.2.1 2) (by rw [mws_at (mshp_lt hx (by decide)), mE_z hx]) rfl h1 hd (fun H1 locs1 hP1 _ hS1 => ?_)
  rw [h2, hv, mws_set (σ1 := us σ x j v) (mshp_lt hx (by decide)) (by rw [mE_z hx, us_eq]) (fun y hy => mE_ne (us_ne hy) rfl)] at hP1
  exact k p e s m args below meth c H1 locs1 cells slots lsr Z R hR hF hP1 hS1 hl hQ
theorem m_aald {x n : Nat} {i : Int32} (hd : decode μ.2.1 pc = .ok (.aaload, 1)) (hx : mshp x = (13, n)) (j : Nat) (hi : i = nI j) (hj : j < n) (k : mW G l d μ (pc + 1) ls (.ref (x + 1 + j) :: st) σ Q) : mW G l d μ pc ls (.int i :: .ref x :: st) σ Q := by
  subst hi
  intro p e s m args below meth c H locs cells slots lsr Z R hR hF hP hS hl hQ
  obtain ⟨h1, h2⟩ := m_ix hj (mshp_len hx)
  have hlt : (nI j).toNatClampNeg < n := by rw [h2]; exact hj
  have ha : (mws G σ)[x]? = some (G.2.2.2.1 x, .inl (G.2.1 1, n, .inr (.inr (.inr (.inr (fun j => some (G.2.2.2.1 (x + 1 + j)))))))) := by rw [mws_at (mshp_lt hx (by decide)), mE_g hx]
  refine W.aald (v := va_rf ((fun j => some (G.2.2.2.1 (x + 1 + j))) (nI j).toNatClampNeg)) (ty := .array .int) hF.1 hF.2.1 (hP x _ ha) (((m_env hF).1.2 1 _ rfl).1 n (fun i => va_rf ((fun j => some (G.2.2.2.1 (x + 1 + j))) i))) rfl (fun q => by cases q) (by show ¬ (nI j < 0 ∨ (arrV _ _ _).slots.size ≤ _); rw [arrV_size]; exact h1) (by show (arrV _ _ _).slots[_]? = _; rw [arrV_read _ _ hlt]) rfl rfl hd ?_
  rw [h2]
  exact k p e s m args below meth c H locs cells slots lsr Z R hR hF hP hS hl hQ
theorem m_alen {x n : Nat} (hd : decode μ.2.1 pc = .ok (.arraylength, 1)) (hx : mshp x = (11, n)) (k : mW G l d μ (pc + 1) ls (.int (nI n) :: st) σ Q) : mW G l d μ pc ls (.ref x :: st) σ Q := by
  intro p e s m args below meth c H locs cells slots lsr Z R hR hF hP hS hl hQ
  refine va_alen hF.1 hF.2.1 (m_env hF).1 hP x 0 (cA := G.2.1 0) (x := (n, .inl (σ.1 x))) (by rw [mws_at (mshp_lt hx (by decide)), mE_i hx]) (ty := .int) rfl (v := nI n) rfl hd ?_
  exact k p e s m args below meth c H locs cells slots lsr Z R hR hF hP hS hl hQ
-- ===== fields =====
def mFT (ci : Nat) : Nat → FieldType := match ci with
  | 0 => tyX0
  | 1 => tyX1
  | 2 => tyX2
  | 3 => tyX3
  | 4 => tyX4
  | 5 => tyX5
  | 6 => tyX6
  | 7 => tyX7
  | 8 => tyX9
  | 9 => tyX10
  | _ => tyX11
/-- entry index of class own's pool is field k of class ci -/
def mFL (own : String) (index ci k : Nat) : Prop := ∃ (q : vw_C) (ref : String), vwCl[ci]? = some q ∧ k < q.2.2 ∧ (∀ w ∈ u_ws q.1 q.2.1 q.2.2, w ∈ mtbl) ∧ Cond.fieldLink own index ref (q.2.1 k).2.1 (q.2.1 k).2.2.1 ∈ mtbl ∧ (ref = (q.2.1 k).1 ∨ Cond.sameField ref (q.2.1 k).1 (q.2.1 k).2.1 (q.2.1 k).2.2.1 ∈ mtbl)
def mFW (own : String) (index ci k : Nat) : Prop := mFL own index ci k ∧ ∃ q : vw_C, vwCl[ci]? = some q ∧ (q.2.1 k).2.2.2 = false ∧ (∀ k, k < q.2.2 → parseFieldDescriptor (q.2.1 k).2.2.1 = some (mFT ci k)) ∧ ∀ a, a < q.2.2 → ∀ b, b < q.2.2 → a ≠ b → (q.2.1 a).2.1 ≠ (q.2.1 b).2.1
theorem m_same {args : Array Value} {s : State} {ref C n dd : String} (hts : ∀ w ∈ mtbl, w.before args s = true) (h : ref = C ∨ Cond.sameField ref C n dd ∈ mtbl) : ∀ x, s.fieldFound? C n dd = some x → s.fieldFound? ref n dd = some x := by
  rcases h with rfl | h
  · exact fun _ h => h
  · exact fun x hx => u_same (hts _ h) x hx
theorem mshp_N {x ci N : Nat} {q : vw_C} (hx : mshp x = (ci, N)) (hc : vwCl[ci]? = some q) : N = q.2.2 := by
  have h1 : ∀ r ∈ mshpL, ∀ q : vw_C, vwCl[r.1]? = some q → r.2 = q.2.2 := by
    intro r hr q hq
    have h2 : mshpL.all (fun r => decide ((vwCl[r.1]?).map (fun q : vw_C => q.2.2) = none ∨ (vwCl[r.1]?).map (fun q : vw_C => q.2.2) = some r.2)) = true := by decide +kernel
    have h3 := List.all_eq_true.mp h2 r hr
    rw [hq] at h3
    simp at h3
    exact h3.symm
  have hlt : x < mshpL.length := by
    by_cases h : x < mshpL.length
    · exact h
    · exfalso
      have e : mshp x = (99, 0) := by
        unfold mshp
        rw [List.getD_eq_getElem?_getD, List.getElem?_eq_none (Nat.le_of_not_lt h)]; rfl
      rw [e] at hx
      have e2 : (99 : Nat) = ci := congrArg Prod.fst hx
      rw [← e2] at hc
      have e3 : (vwCl[99]? : Option vw_C) = none := rfl
      rw [e3] at hc
      cases hc
  have hm : mshp x ∈ mshpL := by
    unfold mshp
    rw [List.getD_eq_getElem?_getD, List.getElem?_eq_getElem hlt]
    exact List.getElem_mem hlt
  have := h1 _ hm q (by rw [hx]; exact hc)
  rw [hx] at this
  exact this
theorem m_getF {x ci N k index : Nat} {v : Value} (hd : decode μ.2.1 pc = .ok (.getfield index, 3)) (hL : mFL μ.1.cls index ci k) (hx : mshp x = (ci, N)) (hc : ci ≤ 10) (hv : mfv G σ ci x k = mv G v) (kk : mW G l d μ (pc + 3) ls (v :: st) σ Q) : mW G l d μ pc ls (.ref x :: st) σ Q := by
  intro p e s m args below meth c H locs cells slots lsr Z R hR hF hP hS hl hQ
  obtain ⟨q, ref, h1, h2, h3, h4, h5⟩ := hL
  have hN := mshp_N hx h1
  have hts := hF.2.2.2.2.2.1
  refine va_get (ci := ci) (v := mv G v) (C := q.1) (T := q.2.1) (N := q.2.2) hF.1 hF.2.1 hts h3 hF.2.2.2.2.1 (m_env hF).1 hP x (fs := (List.range N).map (mfv G σ ci x)) (by rw [mws_at (mshp_lt hx (by omega)), mE_o hx hc]) h1 k h2 (hts _ h4) (m_same hts h5) ?_ hd ?_
  · rw [List.getElem?_map, List.getElem?_range (by rw [hN]; exact h2), ← hv]; rfl
  · exact kk p e s m args below meth c H locs cells slots lsr Z R hR hF hP hS hl hQ
theorem m_getI {x ci N index : Nat} (k : Nat) (hd : decode μ.2.1 pc = .ok (.getfield index, 3)) (hL : mFL μ.1.cls index ci k) (hk : mkd ci k = 0) (hc : ci ≤ 10) (hx : mshp x = (ci, N)) (kk : mW G l d μ (pc + 3) ls (.int (σ.1 x k) :: st) σ Q) : mW G l d μ pc ls (.ref x :: st) σ Q :=
  m_getF hd hL hx hc (by unfold mfv; rw [hk]; rfl) kk
theorem m_getR {x ci N index : Nat} (k r : Nat) (hd : decode μ.2.1 pc = .ok (.getfield index, 3)) (hL : mFL μ.1.cls index ci k) (hk : mkd ci k = 1) (hc : ci ≤ 10) (hr : moff ci x k = r) (hx : mshp x = (ci, N)) (kk : mW G l d μ (pc + 3) ls (.ref r :: st) σ Q) : mW G l d μ pc ls (.ref x :: st) σ Q :=
  m_getF hd hL hx hc (by unfold mfv; rw [hk, hr]; rfl) kk
theorem m_getL {x ci N index : Nat} (k : Nat) (hd : decode μ.2.1 pc = .ok (.getfield index, 3)) (hL : mFL μ.1.cls index ci k) (hk : mkd ci k = 2) (hc : ci ≤ 10) (hx : mshp x = (ci, N)) (kk : mW G l d μ (pc + 3) ls (.long σ.2 :: st) σ Q) : mW G l d μ pc ls (.ref x :: st) σ Q :=
  m_getF hd hL hx hc (by unfold mfv; rw [hk]; rfl) kk
theorem mfv_us {x ci N k : Nat} {v : Int32} (hk : mkd ci k = 0) (hkN : k < N) : ((List.range N).map (mfv G σ ci x)).set k (.int v) = (List.range N).map (mfv G (us σ x k v) ci x) := by
  apply List.ext_getElem?
  intro i
  by_cases hi : i = k
  · subst hi
    rw [List.getElem?_set_self (by rw [List.length_map, List.length_range]; exact hkN), List.getElem?_map, List.getElem?_range hkN]
    show some (Value.int v) = some (mfv G (us σ x i v) ci x i)
    unfold mfv
    rw [hk, us_eq]
    show some (Value.int v) = some (Value.int (upd (σ.1 x) i v i))
    rw [pk_us]
  · rw [List.getElem?_set_ne (fun h => hi h.symm), List.getElem?_map, List.getElem?_map]
    by_cases hiN : i < N
    · rw [List.getElem?_range hiN]
      show some (mfv G σ ci x i) = some (mfv G (us σ x k v) ci x i)
      unfold mfv
      rw [us_eq, pk_un hi]
      rfl
    · rw [List.getElem?_eq_none (by rw [List.length_range]; omega)]
      rfl
theorem mhash_only : ∀ y, y < mNA → (mshp y).1 = 2 → y = 110 := by decide +kernel
theorem mE_hash {y : Nat} {v : Int64} (hy : y ≠ 110) : mE G (σ.1, v) y = mE G σ y := by
  by_cases h2 : (mshp y).1 = 2
  · by_cases hl : y < mNA
    · exact absurd (mhash_only y hl h2) hy
    · exfalso
      have e : mshp y = (99, 0) := by
        unfold mshp
        rw [List.getD_eq_getElem?_getD, List.getElem?_eq_none (by show mshpL.length ≤ y; exact Nat.le_of_not_lt hl)]
        rfl
      rw [e] at h2
      exact absurd h2 (by decide)
  · have e : mfv G (σ.1, v) (mshp y).1 y = mfv G σ (mshp y).1 y := by
      funext k
      unfold mfv
      have h3 : mkd (mshp y).1 k = 0 ∨ mkd (mshp y).1 k = 1 := by
        unfold mkd
        split <;> first | exact Or.inr rfl | exact Or.inl rfl | (exfalso; exact h2 (by assumption))
      rcases h3 with h3 | h3 <;> (rw [h3]; rfl)
    unfold mE
    split <;> first | rfl | (rw [e])
theorem m_putI {x ci N index : Nat} {v : Int32} (k : Nat) (hd : decode μ.2.1 pc = .ok (.putfield index, 3)) (hL : mFW μ.1.cls index ci k) (hk : mkd ci k = 0) (hc : ci ≤ 10) (hn : narrow (mFT ci k) (.int v) = .int v) (hfit : fits (mFT ci k) (.int v) = true) (hx : mshp x = (ci, N)) (kk : mW G l d μ (pc + 3) ls st (us σ x k v) Q) : mW G l d μ pc ls (.int v :: .ref x :: st) σ Q := by
  intro p e s m args below meth c H locs cells slots lsr Z R hR hF hP hS hl hQ
  obtain ⟨⟨q, ref, h1, h2, h3, h4, h5⟩, q', h1', h6, h7, h8⟩ := hL
  cases h1.symm.trans h1'
  have hN := mshp_N hx h1
  have hts := hF.2.2.2.2.2.1
  refine va_put (ci := ci) (v := .int v) (ty := mFT ci k) (C := q.1) (T := q.2.1) (N := q.2.2) hF.1 hF.2.1 hts h3 (mFT ci) h7 h8 hF.2.2.2.2.1 (m_env hF).1 hP (mws_D (m_env hF)) hS x (fs := (List.range N).map (mfv G σ ci x)) (by rw [mws_at (mshp_lt hx (by omega)), mE_o hx hc]) h1 k h2 (hts _ h4) (m_same hts h5) h6 (h7 k h2) hn hfit (by rw [List.length_map, List.length_range, hN]; exact h2) hd (fun H1 locs1 hP1 _ hS1 => ?_)
  rw [mfv_us hk (by rw [hN]; exact h2), mws_set (σ1 := us σ x k v) (mshp_lt hx (by omega)) (mE_o hx hc) (fun y hy => mE_ne (us_ne hy) rfl)] at hP1
  exact kk p e s m args below meth c H1 locs1 cells slots lsr Z R hR hF hP1 hS1 hl hQ
/-- Hash.value: the one long of the store -/
theorem m_putL {index : Nat} {v : Int64} (hd : decode μ.2.1 pc = .ok (.putfield index, 3)) (hL : mFW μ.1.cls index 2 0) (kk : mW G l d μ (pc + 3) ls st (σ.1, v) Q) : mW G l d μ pc ls (.long v :: .ref 110 :: st) σ Q := by
  intro p e s m args below meth c H locs cells slots lsr Z R hR hF hP hS hl hQ
  obtain ⟨⟨q, ref, h1, h2, h3, h4, h5⟩, q', h1', h6, h7, h8⟩ := hL
  cases h1.symm.trans h1'
  have hx : mshp 110 = (2, 1) := rfl
  have hN := mshp_N hx h1
  have hts := hF.2.2.2.2.2.1
  refine va_put (ci := 2) (v := .long v) (ty := mFT 2 0) (C := q.1) (T := q.2.1) (N := q.2.2) hF.1 hF.2.1 hts h3 (mFT 2) h7 h8 hF.2.2.2.2.1 (m_env hF).1 hP (mws_D (m_env hF)) hS 110 (fs := (List.range 1).map (mfv G σ 2 110)) (by rw [mws_at (mshp_lt hx (by decide)), mE_o hx (by decide)]) h1 0 h2 (hts _ h4) (m_same hts h5) h6 (h7 0 h2) rfl rfl (by rw [List.length_map, List.length_range]; decide) hd (fun H1 locs1 hP1 _ hS1 => ?_)
  have hP2 : va_P G.1 vwCl (mws G (σ.1, v)) H1 := by
    rw [← mws_set (G := G) (σ := σ) (σ1 := (σ.1, v)) (x := 110) (ee := .inr (2, [Value.long v])) (mshp_lt hx (by decide)) (mE_o hx (by decide)) (fun y hy => mE_hash hy)]
    exact hP1
  exact kk p e s m args below meth c H1 locs1 cells slots lsr Z R hR hF hP2 hS1 hl hQ
-- ===== what lies outside =====
theorem m_xald {i : Nat} {j : Nat} {ii : Int32} (hd : decode μ.2.1 pc = .ok (.iaload, 1)) (q : String × List Int32) (hq : msta[i]? = some q) (hi : ii = nI j) (hj : j < q.2.length) (hl4 : q.2.length ≤ 256) (k : mW G l d μ (pc + 1) ls (.int (q.2.getD j 0) :: st) σ Q) : mW G l d μ pc ls (.int ii :: .ref (1000 + i) :: st) σ Q := by
  subst hi
  intro p e s m args below meth c H locs cells slots lsr Z R hR hF hP hS hl hQ
  obtain ⟨h1, h2⟩ := m_ix hj hl4
  refine va_ti hF.1 hF.2.1 ((m_env hF).2.1.2.1 i q hq).2 hS h1 (v := .int (q.2.getD j 0)) (by rw [h2]) hd ?_
  exact k p e s m args below meth c H locs cells slots lsr Z R hR hF hP hS hl hQ
/-- the script -/
theorem m_sald {j : Nat} {ii : Int32} (hd : decode μ.2.1 pc = .ok (.iaload, 1)) (hi : ii = nI j) (hj : j < G.2.2.2.2.1) (hl4 : G.2.2.2.2.1 ≤ 384) (k : mW G l d μ (pc + 1) ls (.int (G.2.2.2.2.2 j) :: st) σ Q) : mW G l d μ pc ls (.int ii :: .ref 1030 :: st) σ Q := by
  subst hi
  intro p e s m args below meth c H locs cells slots lsr Z R hR hF hP hS hl hQ
  refine va_ti hF.1 hF.2.1 ((m_env hF).2.1.2.2.2.2) hS (vp_in_nI hj (Nat.lt_of_le_of_lt hl4 (by decide))) (v := .int (G.2.2.2.2.2 j)) (by rw [nI_clamp (Nat.lt_of_lt_of_le hj (Nat.le_trans hl4 (by decide)))]) hd ?_
  exact k p e s m args below meth c H locs cells slots lsr Z R hR hF hP hS hl hQ
theorem m_slen (hd : decode μ.2.1 pc = .ok (.arraylength, 1)) (k : mW G l d μ (pc + 1) ls (.int (nI G.2.2.2.2.1) :: st) σ Q) : mW G l d μ pc ls (.ref 1030 :: st) σ Q := by
  intro p e s m args below meth c H locs cells slots lsr Z R hR hF hP hS hl hQ
  refine va_tlen hF.1 hF.2.1 ((m_env hF).2.1.2.2.2.2) hS (v := nI G.2.2.2.2.1) rfl hd ?_
  exact k p e s m args below meth c H locs cells slots lsr Z R hR hF hP hS hl hQ
/-- the digest's moments are read with their length too -/
theorem m_xlen {i : Nat} (hd : decode μ.2.1 pc = .ok (.arraylength, 1)) (q : String × List Int32) (hq : msta[i]? = some q) (k : mW G l d μ (pc + 1) ls (.int (nI q.2.length) :: st) σ Q) : mW G l d μ pc ls (.ref (1000 + i) :: st) σ Q := by
  intro p e s m args below meth c H locs cells slots lsr Z R hR hF hP hS hl hQ
  refine va_tlen hF.1 hF.2.1 ((m_env hF).2.1.2.1 i q hq).2 hS (v := nI q.2.length) rfl hd ?_
  exact k p e s m args below meth c H locs cells slots lsr Z R hR hF hP hS hl hQ
/-- the bytes of a constant text -/
theorem m_bald {i : Nat} {j : Nat} {ii : Int32} (hd : decode μ.2.1 pc = .ok (.baload, 1)) (q : String × Nat × String × List Int32) (hq : mstr[i]? = some q) (hi : ii = nI j) (hj : j < q.2.2.2.length) (hl4 : q.2.2.2.length ≤ 256) (k : mW G l d μ (pc + 1) ls (.int (q.2.2.2.getD j 0) :: st) σ Q) : mW G l d μ pc ls (.int ii :: .ref (1020 + i) :: st) σ Q := by
  subst hi
  intro p e s m args below meth c H locs cells slots lsr Z R hR hF hP hS hl hQ
  obtain ⟨h1, h2⟩ := m_ix hj hl4
  refine va_tb hF.1 hF.2.1 ((m_env hF).2.1.2.2.2.1 i q hq).2.2.2.2 hS h1 (v := .int (q.2.2.2.getD j 0)) (by rw [h2]) hd ?_
  exact k p e s m args below meth c H locs cells slots lsr Z R hR hF hP hS hl hQ
theorem m_blen {i : Nat} (hd : decode μ.2.1 pc = .ok (.arraylength, 1)) (q : String × Nat × String × List Int32) (hq : mstr[i]? = some q) (k : mW G l d μ (pc + 1) ls (.int (nI q.2.2.2.length) :: st) σ Q) : mW G l d μ pc ls (.ref (1020 + i) :: st) σ Q := by
  intro p e s m args below meth c H locs cells slots lsr Z R hR hF hP hS hl hQ
  refine va_tlen hF.1 hF.2.1 ((m_env hF).2.1.2.2.2.1 i q hq).2.2.2.2 hS (v := nI q.2.2.2.length) rfl hd ?_
  exact k p e s m args below meth c H locs cells slots lsr Z R hR hF hP hS hl hQ
theorem m_ldcS {i index : Nat} (hd : decode μ.2.1 pc = .ok (.ldc index, 2)) (q : String × Nat × String × List Int32) (hq : mstr[i]? = some q) (h1 : q.1 = μ.1.cls) (h2 : q.2.1 = index) (k : mW G l d μ (pc + 2) ls (.ref (1010 + i) :: st) σ Q) : mW G l d μ pc ls st σ Q := by
  subst h2
  intro p e s m args below meth c H locs cells slots lsr Z R hR hF hP hS hl hQ
  refine va_ldcS (own := q.1) hF.1 hF.2.1 (by rw [h1]; exact hF.2.2.2.2.1) ((m_env hF).2.1.2.2.2.1 i q hq).1 hd ?_
  exact k p e s m args below meth c H locs cells slots lsr Z R hR hF hP hS hl hQ
theorem m_coder {i index : Nat} (hd : decode μ.2.1 pc = .ok (.getfield index, 3)) (q : String × Nat × String × List Int32) (hq : mstr[i]? = some q) (hL : Cond.fieldLink μ.1.cls index "java/lang/String" "coder" "B" ∈ mtbl) (k : mW G l d μ (pc + 3) ls (.int 0 :: st) σ Q) : mW G l d μ pc ls (.ref (1010 + i) :: st) σ Q := by
  intro p e s m args below meth c H locs cells slots lsr Z R hR hF hP hS hl hQ
  refine vk_getf hF.1 hF.2.1 ((m_env hF).2.1.2.2.2.1 i q hq).2.2.1 hS hF.2.2.2.2.1 (hF.2.2.2.2.2.1 _ hL) (fun _ h => h) hd ?_
  exact k p e s m args below meth c H locs cells slots lsr Z R hR hF hP hS hl hQ
theorem m_value {i index : Nat} (hd : decode μ.2.1 pc = .ok (.getfield index, 3)) (q : String × Nat × String × List Int32) (hq : mstr[i]? = some q) (hL : Cond.fieldLink μ.1.cls index "java/lang/String" "value" "[B" ∈ mtbl) (k : mW G l d μ (pc + 3) ls (.ref (1020 + i) :: st) σ Q) : mW G l d μ pc ls (.ref (1010 + i) :: st) σ Q := by
  intro p e s m args below meth c H locs cells slots lsr Z R hR hF hP hS hl hQ
  refine vk_getf hF.1 hF.2.1 ((m_env hF).2.1.2.2.2.1 i q hq).2.2.2.1 hS hF.2.2.2.2.1 (hF.2.2.2.2.2.1 _ hL) (fun _ h => h) hd ?_
  exact k p e s m args below meth c H locs cells slots lsr Z R hR hF hP hS hl hQ
theorem m_compact {index : Nat} (hd : decode μ.2.1 pc = .ok (.getstatic index, 3)) (hL : Cond.fieldLink μ.1.cls index "java/lang/String" "COMPACT_STRINGS" "Z" ∈ mtbl) (k : mW G l d μ (pc + 3) ls (.int 1 :: st) σ Q) : mW G l d μ pc ls st σ Q := by
  intro p e s m args below meth c H locs cells slots lsr Z R hR hF hP hS hl hQ
  refine va_gets hF.1 hF.2.1 (m_env hF).2.1.2.2.1 hS hF.2.2.2.2.1 (hF.2.2.2.2.2.1 _ hL) (fun _ h => h) hd ?_
  exact k p e s m args below meth c H locs cells slots lsr Z R hR hF hP hS hl hQ
theorem m_gets {i index : Nat} (hd : decode μ.2.1 pc = .ok (.getstatic index, 3)) (q : String × List Int32) (hq : msta[i]? = some q) (hL : Cond.fieldLink μ.1.cls index "DodgemDebate" q.1 "[I" ∈ mtbl ∨ Cond.fieldLinkNest μ.1.cls index "DodgemDebate" q.1 "[I" "DodgemDebate" ∈ mnest) (k : mW G l d μ (pc + 3) ls (.ref (1000 + i) :: st) σ Q) : mW G l d μ pc ls st σ Q := by
  intro p e s m args below meth c H locs cells slots lsr Z R hR hF hP hS hl hQ
  have hk := k p e s m args below meth c H locs cells slots lsr Z R hR hF hP hS hl hQ
  rcases hL with hL | hL
  · exact va_gets hF.1 hF.2.1 ((m_env hF).2.1.2.1 i q hq).1 hS hF.2.2.2.2.1 (hF.2.2.2.2.2.1 _ hL) (fun _ h => h) hd hk
  · exact va_getsN hF.1 hF.2.1 ((m_env hF).2.1.2.1 i q hq).1 hS hF.2.2.2.2.1 (va_Nw.use rfl ((m_env hF).2.1.1 _ hL)) (fun _ h => h) hd hk
theorem m_ldc {index : Nat} {v : Int32} (hd : decode μ.2.1 pc = .ok (.ldc index, 2)) (hL : Cond.constant μ.1.cls index v ∈ mtbl) (k : mW G l d μ (pc + 2) ls (.int v :: st) σ Q) : mW G l d μ pc ls st σ Q :=
  fun p e s m args below meth c H locs cells slots lsr Z R hR hF hP hS hl hQ => lv_ldc hF.1 hF.2.1 hF.2.2.2.2.1 (hF.2.2.2.2.2.1 _ hL) hd (k p e s m args below meth c H locs cells slots lsr Z R hR hF hP hS hl hQ)
theorem m_ldc_w {index : Nat} {v : Int32} (hd : decode μ.2.1 pc = .ok (.ldc_w index, 3)) (hL : Cond.constant μ.1.cls index v ∈ mtbl) (k : mW G l d μ (pc + 3) ls (.int v :: st) σ Q) : mW G l d μ pc ls st σ Q :=
  fun p e s m args below meth c H locs cells slots lsr Z R hR hF hP hS hl hQ => lv_ldcw hF.1 hF.2.1 hF.2.2.2.2.1 (hF.2.2.2.2.2.1 _ hL) hd (k p e s m args below meth c H locs cells slots lsr Z R hR hF hP hS hl hQ)
theorem m_ldc2_w {index : Nat} {v : Int64} (hd : decode μ.2.1 pc = .ok (.ldc2_w index, 3)) (hL : Cond.constantLong μ.1.cls index v ∈ mtbl) (k : mW G l d μ (pc + 3) ls (.long v :: st) σ Q) : mW G l d μ pc ls st σ Q :=
  fun p e s m args below meth c H locs cells slots lsr Z R hR hF hP hS hl hQ => lv_ldc2 hF.1 hF.2.1 hF.2.2.2.2.1 (hF.2.2.2.2.2.1 _ hL) hd (k p e s m args below meth c H locs cells slots lsr Z R hR hF hP hS hl hQ)
theorem m_tableIn {dflt lo hi : Int} {offs : Array Int} {len : Nat} {x : Int32} {off : Int} (hd : decode μ.2.1 pc = .ok (.tableswitch dflt lo hi offs, len)) (h1 : ¬ x.toInt < lo) (h2 : ¬ hi < x.toInt) (ho : offs[(x.toInt - lo).toNat]? = some off) (tgt : Nat) (ht : (pc : Int) + off = (tgt : Int)) (k : mW G l d μ tgt ls st σ Q) : mW G l d μ pc ls (.int x :: st) σ Q :=
  fun p e s m args below meth c H locs cells slots lsr Z R hR hF hP hS hl hQ => lv_tableIn hF.1 hF.2.1 hd h1 h2 ho ht (k p e s m args below meth c H locs cells slots lsr Z R hR hF hP hS hl hQ)
theorem m_tableOut {dflt lo hi : Int} {offs : Array Int} {len : Nat} {x : Int32} (hd : decode μ.2.1 pc = .ok (.tableswitch dflt lo hi offs, len)) (h : x.toInt < lo ∨ hi < x.toInt) (tgt : Nat) (ht : (pc : Int) + dflt = (tgt : Int)) (k : mW G l d μ tgt ls st σ Q) : mW G l d μ pc ls (.int x :: st) σ Q :=
  fun p e s m args below meth c H locs cells slots lsr Z R hR hF hP hS hl hQ => lv_tableOut hF.1 hF.2.1 hd h ht (k p e s m args below meth c H locs cells slots lsr Z R hR hF hP hS hl hQ)
end MM
end
section
/-! ===== contracts and calls of the small machine ===== -/
theorem mtb {w : Cond} (i : Nat) (h : tables_1[i]? = some w) (hg : goodWord w = true) : w ∈ mtbl := List.mem_filter.mpr ⟨List.mem_append_right _ (List.mem_append_right _ (List.mem_of_getElem? h)), hg⟩
theorem mtbs {w : Cond} (h : w ∈ k2_sels lw_privs) (hg : goodWord w = true) : w ∈ mtbl := List.mem_filter.mpr ⟨List.mem_append_right _ (List.mem_append_left _ h), hg⟩
theorem mtbx {w : Cond} (h : w ∈ mxtra) (hg : goodWord w = true) : w ∈ mtbl := List.mem_filter.mpr ⟨List.mem_append_left _ h, hg⟩
theorem mtbl_good {w : Cond} (h : w ∈ mtbl) : goodWord w = true := (List.mem_filter.mp h).2
theorem mtbl_in {ws : List Cond} (h : ∀ w ∈ ws, w ∈ mtbl) : GoodIn mtbl ws := fun w hw => ⟨h w hw, good_of_word (mtbl_good (h w hw))⟩
/-- the words of a method's contract -/
def mwd (μ : mM) : List Cond := .code μ.1 μ.2.1 μ.2.2.1 μ.2.2.2 :: mtbl
theorem mwd_in {μ : mM} (h : Cond.code μ.1 μ.2.1 μ.2.2.1 μ.2.2.2 ∈ mtbl) : GoodIn mtbl (mwd μ) := mtbl_in (fun w hw => by
  rcases List.mem_cons.mp hw with rfl | h1
  · exact h
  · exact h1)
abbrev mrm (d : Nat) : Room := { frames := d, cells := 0, slots := 0, locals := 39 * d }
/-- a method's end: an answer and a store that Q allows -/
def mQc (G : mG) (Q : Option Value → mS → Prop) : Array Value → State → Outcome → State → Prop := fun _ st o t => (∃ (v : Option Value) (σ1 : mS), Q v σ1 ∧ o = .returned (v.map (mv G)) ∧ va_P G.1 vwCl (mws G σ1) t.heap) ∧ va_F G.2.2.1 st t
/-- the contract of method μ from these arguments and this store, with d frames -/
def mMet (G : mG) (l : Launch) (d : Nat) (μ : mM) (As : List Value) (σ : mS) (Q : Option Value → mS → Prop) : Prop :=
  Met l μ.1 (mwd μ) (mrm d) (va_Pc (As.map (mv G)) (fun U => va_P G.1 vwCl (mws G σ) U.heap ∧ mEnv G U)) (mQc G Q) 0 0 G.2.2.1
theorem mExt.warm {G : mG} {s U : State} {H : Heap} {locs : List Loc} (hW : s.WarmedH U.vm) (hS : va_S G.2.2.1 s.heap H locs) (hU : U.heap = H) (h : mExt G s s.heap) : mExt G U U.heap := by
  subst hU
  have hvm := hW.alike
  obtain ⟨h1, h2, h3, h4, h5⟩ := h
  refine ⟨fun w hw => ?_, fun i q hq => ⟨((h2 i q hq).1.kept hS.2.1).moved hvm, ((h2 i q hq).2.kept hS.2.1).moved hvm⟩, (h3.kept hS.2.1).moved hvm, fun i q hq => ⟨(h4 i q hq).1.warm hW, ((h4 i q hq).2.1.kept hS.2.1).moved hvm, ((h4 i q hq).2.2.1.kept hS.2.1).moved hvm, ((h4 i q hq).2.2.2.1.kept hS.2.1).moved hvm, ((h4 i q hq).2.2.2.2.kept hS.2.1).moved hvm⟩, (h5.kept hS.2.1).moved hvm⟩
  have h9 := h1 w hw
  simp only [mnest, List.mem_cons, List.not_mem_nil, or_false] at hw
  rcases hw with rfl | rfl | rfl | rfl | rfl | rfl | rfl <;> first | exact va_Nw.warmF hW h9 | exact va_Nw.warmM hW h9 | exact va_Nw.warmD hW h9
theorem mEnv.warm {G : mG} {s U : State} {H : Heap} {locs : List Loc} (hW : s.WarmedH U.vm) (hS : va_S G.2.2.1 s.heap H locs) (hU : U.heap = H) (h : mEnv G s) : mEnv G U :=
  ⟨va_K.moved hW.alike h.1, h.2.1.warm hW hS hU, fun q hq => h.2.2.1 q (Nat.le_trans hS.1 (by rw [← hU]; exact hq)), h.2.2.2⟩
theorem mEnv.calling {G : mG} {U : State} (g : JFrame) (mk : MethodId) (a : Array Value) (h : mEnv G U) : mEnv G (U.calling g mk a) := by
  have e1 : (U.calling g mk a).vm = U.vm := rfl
  have e2 : (U.calling g mk a).heap = U.heap := rfl
  obtain ⟨h1, ⟨i1, i2, i3, i4, i5⟩, h3, h4⟩ := h
  have hvm : U.vm.Alike (U.calling g mk a).vm := Vm.Alike.refl U.vm
  refine ⟨va_K.moved hvm h1, ⟨fun w hw => ?_, fun i q hq => ⟨(i2 i q hq).1.moved hvm, (i2 i q hq).2.moved hvm⟩, i3.moved hvm, fun i q hq => ⟨(i4 i q hq).1.same e1, (i4 i q hq).2.1.moved hvm, (i4 i q hq).2.2.1.moved hvm, (i4 i q hq).2.2.2.1.moved hvm, (i4 i q hq).2.2.2.2.moved hvm⟩, i5.moved hvm⟩, h3, h4⟩
  have h9 := i1 w hw
  have hg : w.onTables = true := by
    simp only [mnest, List.mem_cons, List.not_mem_nil, or_false] at hw
    rcases hw with rfl | rfl | rfl | rfl | rfl | rfl | rfl <;> rfl
  exact va_Nw.same hg e1.symm h9
section MC
variable {G : mG} {l : Launch} {d : Nat} {μ : mM} {pc : Nat} {ls : List (Nat × Value)} {st : List Value} {σ : mS} {Q : Option Value → mS → Prop}
/-- an answer fits the method's type -/
def mFit : Option FieldType → Option Value → Prop
  | none, none => True
  | some ty, some (.int r) => narrow ty (.int r) = .int r
  | some .long, some (.long _) => True
  | some (.object _), some (.ref _) => True
  | _, _ => False
theorem lv_args_map : ∀ (i : Nat) (As : List Value), lv_args i (As.map (mv G)) = (lv_args i As).map (mlv G)
  | _, [] => rfl
  | i, v :: vs => by
    show (i, mv G v) :: lv_args (if (mv G v).category = 2 then i + 2 else i + 1) (vs.map (mv G)) = mlv G (i, v) :: (lv_args (if v.category = 2 then i + 2 else i + 1) vs).map (mlv G)
    rw [mv_cat rfl, lv_args_map]
    rfl
theorem lg_sl_map : ∀ As : List Value, (lg_sl (As.map (mv G))).length = (lg_sl As).length
  | [] => rfl
  | v :: vs => by
    have ih := lg_sl_map vs
    unfold lg_sl at ih ⊢
    rw [List.map_cons, List.flatMap_cons, List.flatMap_cons, List.length_append, List.length_append, ih, mv_cat (G := G) (v := v) rfl]
    by_cases h : v.category = 2
    · rw [if_pos h, if_pos h]; rfl
    · rw [if_neg h, if_neg h]; rfl
/-- a contract out of the walk of its body -/
theorem mMet.of {As : List Value} {ls0 : List (Nat × Value)} (hcode : Cond.code μ.1 μ.2.1 μ.2.2.1 μ.2.2.2 ∈ mtbl) (hpl : plainName μ.1.cls = true) (hlen : (lg_sl As).length ≤ μ.2.2.1) (hls : lv_args 0 As = ls0) (hfit : ∀ v σ1, Q v σ1 → mFit μ.2.2.2 v) (h : mW G l d μ 0 ls0 [] σ Q) : mMet G l d μ As σ Q := by
  subst hls
  refine Met.ofW (cc := μ.2.1) (maxL := μ.2.2.1) (ret := μ.2.2.2) hpl rfl ?_
  intro p e s m args below meth c s₁ B hml hv
  obtain ⟨rfl, hP, hE⟩ := hv
  have hts := atoms_spec (ws := mwd μ) B.pre
  have hF : mFix G μ p s m (As.map (mv G)).toArray meth c := ⟨B.exec, B.bytes, hml, B.returns, findClass_of_methodNamed B.named, fun w hw => hts w (List.mem_cons_of_mem _ hw), B.notSynchronized, hE⟩
  have hl := lv_entry (As.map (mv G)) (n := μ.2.2.1) (by rw [lg_sl_map]; exact hlen)
  rw [lg_entry_eq]
  rw [lv_args_map] at hl
  refine h p e s m _ below meth c s.heap [] 0 0 _ _ (mrm d) ⟨Nat.le_refl _, Nat.le_refl _, Nat.zero_le _, Nat.zero_le _⟩ hF hP va_S.rf hl ?_
  intro v σ1 H1 locs1 lsr1 pc1 hq hP1 hS1 hret
  have hfv := hfit v σ1 hq
  have hend : ∀ t : State, t.heap = H1 → s.WarmedH t.vm → mQc G Q (As.map (mv G)).toArray s (.returned (v.map (mv G))) t := fun t ht _ => ⟨⟨v, σ1, hq, rfl, by rw [ht]; exact hP1⟩, hS1.F ht⟩
  have hr := hF.2.2.2.1
  have hlk := hF.2.2.2.2.2.2.1
  match v, hret, hfv with
  | none, hret, hfv =>
    have e : μ.2.2.2 = none := by
      cases h9 : μ.2.2.2 with
      | none => rfl
      | some ty => rw [h9] at hfv; cases ty <;> exact hfv.elim
    exact W.vret hF.1 hF.2.1 (hr.trans e) hend hS1.2.2 hret
  | some (.int r), hret, hfv =>
    cases h9 : μ.2.2.2 with
    | none => rw [h9] at hfv; exact hfv.elim
    | some ty =>
      rw [h9] at hfv
      exact W.zret hF.1 hF.2.1 (hr.trans h9) (by cases ty <;> exact hfv) hend hS1.2.2 hret
  | some (.long r), hret, hfv =>
    cases h9 : μ.2.2.2 with
    | none => rw [h9] at hfv; exact hfv.elim
    | some ty =>
      rw [h9] at hfv
      cases ty with
      | long => exact W.lret hF.1 hF.2.1 (hr.trans h9) hend hS1.2.2 hret
      | _ => exact hfv.elim
  | some (.ref r), hret, hfv =>
    cases h9 : μ.2.2.2 with
    | none => rw [h9] at hfv; exact hfv.elim
    | some ty =>
      rw [h9] at hfv
      cases ty with
      | object nm => exact W.aret hF.1 hF.2.1 (hr.trans h9) (Or.inl ⟨_, rfl⟩) (Or.inr ⟨_, rfl⟩) hend hS1.2.2 hret
      | _ => exact hfv.elim
/-- returns -/
theorem m_ret (v : Option Value) (hs : v.toList = st) (hr : mRet μ pc v) (hq : Q v σ) : mW G l d μ pc ls st σ Q := by
  subst hs
  intro p e s m args below meth c H locs cells slots lsr Z R hR hF hP hS hl hQ
  have := hQ v σ H locs lsr pc hq hP hS hr
  cases v <;> exact this
theorem m_ireturn {r : Int32} (hd : decode μ.2.1 pc = .ok (.ireturn, 1)) (hq : Q (some (.int r)) σ) : mW G l d μ pc ls [.int r] σ Q := m_ret (some (.int r)) rfl hd hq
theorem m_lreturn {r : Int64} (hd : decode μ.2.1 pc = .ok (.lreturn, 1)) (hq : Q (some (.long r)) σ) : mW G l d μ pc ls [.long r] σ Q := m_ret (some (.long r)) rfl hd hq
theorem m_areturn {r : Nat} (hd : decode μ.2.1 pc = .ok (.areturn, 1)) (hq : Q (some (.ref r)) σ) : mW G l d μ pc ls [.ref r] σ Q := m_ret (some (.ref r)) rfl hd hq
theorem m_return (hd : decode μ.2.1 pc = .ok (.return_, 1)) (hq : Q none σ) : mW G l d μ pc ls [] σ Q := m_ret none rfl hd hq
/-- what a run of a callee gives its caller -/
theorem m_goes {As rest : List Value} {Q1 : Option Value → mS → Prop} {p : Program} {e : Env} {s : State} {m : MethodId} {args : Array Value} {below : List Frame} {meth : Method} {c : Code} {H : Heap} {locs : List Loc} {cells slots : Nat} {lsr : Array Slot} {Z : State → Prop} {R : Room} {stk : List Value} {a : Array Value}
    (hr : va_Run p l e R s m args below meth c H locs cells slots 0 0 (F0 m pc lsr stk) (rest.map (mv G)) (mQc G Q1 a) G.2.2.1) (hS : va_S G.2.2.1 s.heap H locs)
    (kk : ∀ (v : Option Value) (σ1 : mS) (H1 : Heap) (locs1 : List Loc), Q1 v σ1 → va_P G.1 vwCl (mws G σ1) H1 → va_S G.2.2.1 s.heap H1 locs1 → W p l e R s m args below meth c H1 locs1 cells slots Z (F0 m (pc + 3) lsr ((v.toList ++ rest).map (mv G)))) : W p l e R s m args below meth c H locs cells slots Z (F0 m pc lsr stk) := by
  intro T hT X
  obtain ⟨v, st₀, t, T', L, h0, X', hL, e1, e2, ⟨⟨v1, σ1, hq, hv, hP1⟩, hz, hk⟩, stp⟩ := hr T hT X
  cases hv
  rw [h0] at hz hk
  obtain ⟨t2, a1, b1⟩ := kk v1 σ1 T'.heap (locs ++ L) hq (by rw [e1]; exact hP1)
    ⟨Nat.le_trans hS.1 (by rw [e1]; exact hz), fun q h1 h2 => by rw [e1, hk q (Nat.lt_of_lt_of_le h1 hS.1) h2]; exact hS.2.1 q h1 h2, fun q hq => by
      rcases List.mem_append.mp hq with h | h
      · exact hS.2.2 q h
      · exact hL q h⟩ T' rfl X'
  refine ⟨t2, stp t2 ?_, b1⟩
  rw [List.map_append] at a1
  cases v1 <;> exact a1
def mArity (y : MethodName) (n : Nat) : Prop := y.cls ≠ "java/lang/invoke/MethodHandle" ∧ y.cls ≠ "java/lang/invoke/VarHandle" ∧ (parseMethodDescriptor y.desc).map (fun dd => dd.parameters.length) = some n
/-- how class own's entry index calls μ1 on an object of class ci -/
def mCV (own : String) (index ci n : Nat) (μ1 : mM) : Prop := (∃ q : vw_C, vwCl[ci]? = some q ∧ μ1.1.cls = q.1) ∧ Cond.code μ1.1 μ1.2.1 μ1.2.2.1 μ1.2.2.2 ∈ mtbl ∧ Cond.methodLink own index μ1.1 ∈ mtbl ∧ Cond.instanceMethod μ1.1 ∈ mtbl ∧ Cond.selects μ1.1.cls μ1.1 μ1.1 ∈ mtbl ∧ Cond.initialized μ1.1.cls ∈ mtbl ∧ mArity μ1.1 n ∧ μ1.2.2.1 ≤ 20
def mCS (own : String) (index n : Nat) (μ1 : mM) : Prop := Cond.code μ1.1 μ1.2.1 μ1.2.2.1 μ1.2.2.2 ∈ mtbl ∧ (Cond.methodLink own index μ1.1 ∈ mtbl ∨ Cond.methodLinkNest own index μ1.1 "DodgemDebate" ∈ mnest) ∧ Cond.static μ1.1 ∈ mtbl ∧ Cond.initialized μ1.1.cls ∈ mtbl ∧ mArity μ1.1 n ∧ μ1.2.2.1 ≤ 20
theorem m_blind {As : List Value} : FrameBlind (va_Pc (As.map (mv G)) (fun U => va_P G.1 vwCl (mws G σ) U.heap ∧ mEnv G U)) := fun a U g mk q => ⟨q.1, q.2.1, q.2.2.calling g mk a⟩
theorem m_roomy {d d1 n : Nat} {R : Room} (h : d ≤ R.frames ∧ 39 * d ≤ R.locals) (h1 : d1 < d) (hn : n ≤ 20) : (mrm d1).frames + 1 ≤ R.frames ∧ 8 + (n + 11) + (mrm d1).locals ≤ R.locals := by
  show d1 + 1 ≤ R.frames ∧ 8 + (n + 11) + 39 * d1 ≤ R.locals
  omega
theorem m_callV {μ1 : mM} {ci N x index n d1 : Nat} {As stk : List Value} {Q1 : Option Value → mS → Prop} (hd : decode μ.2.1 pc = .ok (.invokevirtual index, 3)) (hC : mCV μ.1.cls index ci n μ1) (hx : mshp x = (ci, N)) (hc : ci ≤ 10) (hd1 : d1 < d) (hn : As.length = n) (hst : stk = As.reverse ++ .ref x :: st) (hw : (st.map fun v => v.category).sum ≤ 8)
    (hM : mMet G l d1 μ1 (.ref x :: As) σ Q1) (k : ∀ (v : Option Value) (σ1 : mS), Q1 v σ1 → mW G l d μ (pc + 3) ls (v.toList ++ st) σ1 Q) : mW G l d μ pc ls stk σ Q := by
  subst hst
  intro p e s m args below meth c H locs cells slots lsr Z R hR hF hP hS hl hQ
  obtain ⟨⟨q, hq, hcl⟩, c1, c2, c3, c4, c5, c6, c7⟩ := hC
  have hts := hF.2.2.2.2.2.1
  have hrun : va_Run p l e R s m args below meth c H locs cells slots 0 0 (F0 m pc lsr ((As.reverse ++ .ref x :: st).map (mv G))) (st.map (mv G)) (mQc G Q1 (Value.ref (G.2.2.2.1 x) :: As.map (mv G)).toArray) G.2.2.1 := by
    refine va_runV (C := μ1.1.cls) (b := G.2.2.2.1 x) (As := As.map (mv G)) (bytes := μ1.2.1) (maxL := μ1.2.2.1) (ret := μ1.2.2.2) (n := n) (own := μ.1.cls) (Ts := mtbl) (index := index) (rm := mrm d1) (ws := mwd μ1) ⟨hF.1, hF.2.1, hF.2.2.1, hF.2.2.2.2.1, hts⟩ hM ⟨callB_of n hts (mwd_in c1) rfl rfl rfl (hts _ c5) (hts _ c2) c6 (m_roomy ⟨hR.1, hR.2.1⟩ hd1 c7), hts _ c3, hts _ c4⟩ ⟨m_blind, ?_, fun U hU hW => ⟨rfl, by rw [hU]; exact hP, (m_env hF).warm hW hS hU⟩⟩ rfl (by rw [List.length_map]; exact hn) hl.1 (by rw [List.map_append, List.map_reverse]; rfl) (lv_room (by rw [mv_cats]; exact hw)) hd ⟨hR.2.2.1, hR.2.2.2⟩
    rw [hcl]
    exact va_recv (m_env hF).1 hP hq (q0 := x) (fs := (List.range N).map (mfv G σ ci x)) (by rw [mws_at (mshp_lt hx (by omega)), mE_o hx hc])
  exact m_goes (As := As) hrun hS (fun v σ1 H1 locs1 hq1 hP1 hS1 => k v σ1 hq1 p e s m args below meth c H1 locs1 cells slots lsr Z R hR hF hP1 hS1 hl hQ)
theorem m_callS {μ1 : mM} {index n d1 : Nat} {As stk : List Value} {Q1 : Option Value → mS → Prop} (hd : decode μ.2.1 pc = .ok (.invokestatic index, 3)) (hC : mCS μ.1.cls index n μ1) (hd1 : d1 < d) (hn : As.length = n) (hst : stk = As.reverse ++ st) (hw : (st.map fun v => v.category).sum ≤ 8)
    (hM : mMet G l d1 μ1 As σ Q1) (k : ∀ (v : Option Value) (σ1 : mS), Q1 v σ1 → mW G l d μ (pc + 3) ls (v.toList ++ st) σ1 Q) : mW G l d μ pc ls stk σ Q := by
  subst hst
  intro p e s m args below meth c H locs cells slots lsr Z R hR hF hP hS hl hQ
  obtain ⟨c1, c2, c3, c5, c6, c7⟩ := hC
  have hts := hF.2.2.2.2.2.1
  have hrun : va_Run p l e R s m args below meth c H locs cells slots 0 0 (F0 m pc lsr ((As.reverse ++ st).map (mv G))) (st.map (mv G)) (mQc G Q1 (As.map (mv G)).toArray) G.2.2.1 := by
    rcases c2 with c2 | c2
    · exact va_runS (As := As.map (mv G)) (bytes := μ1.2.1) (maxL := μ1.2.2.1) (ret := μ1.2.2.2) (n := n) (own := μ.1.cls) (Ts := mtbl) (index := index) (rm := mrm d1) (ws := mwd μ1) ⟨hF.1, hF.2.1, hF.2.2.1, hF.2.2.2.2.1, hts⟩ hM ⟨callB_of n hts (mwd_in c1) rfl rfl rfl (hts _ c5) (hts _ c2) c6 (m_roomy ⟨hR.1, hR.2.1⟩ hd1 c7), hts _ c3⟩ ⟨m_blind, fun U hU hW => ⟨rfl, by rw [hU]; exact hP, (m_env hF).warm hW hS hU⟩⟩ rfl (by rw [List.length_map]; exact hn) hl.1 (by rw [List.map_append, List.map_reverse]) (lv_room (by rw [mv_cats]; exact hw)) hd ⟨hR.2.2.1, hR.2.2.2⟩
    · exact va_runSN (As := As.map (mv G)) (bytes := μ1.2.1) (maxL := μ1.2.2.1) (ret := μ1.2.2.2) (n := n) (own := μ.1.cls) (Ts := mtbl) (index := index) (rm := mrm d1) (ws := mwd μ1) (host := "DodgemDebate") ⟨hF.1, hF.2.1, hF.2.2.1, hF.2.2.2.2.1, hts⟩ hM ⟨va_cnB n hts (mwd_in c1) rfl rfl rfl ((m_env hF).2.1.1 _ c2) (hts _ c5) c6 (m_roomy ⟨hR.1, hR.2.1⟩ hd1 c7), hts _ c3, trivial⟩ ⟨m_blind, fun U hU hW => ⟨rfl, by rw [hU]; exact hP, (m_env hF).warm hW hS hU⟩⟩ rfl (by rw [List.length_map]; exact hn) hl.1 (by rw [List.map_append, List.map_reverse]) (lv_room (by rw [mv_cats]; exact hw)) hd ⟨hR.2.2.1, hR.2.2.2⟩
  exact m_goes (As := As) hrun hS (fun v σ1 H1 locs1 hq1 hP1 hS1 => k v σ1 hq1 p e s m args below meth c H1 locs1 cells slots lsr Z R hR hF hP1 hS1 hl hQ)
/-- a method of a constant text -/
def mCX (own : String) (index n : Nat) (μ1 : mM) : Prop := μ1.1.cls = "java/lang/String" ∧ Cond.code μ1.1 μ1.2.1 μ1.2.2.1 μ1.2.2.2 ∈ mtbl ∧ Cond.methodLink own index μ1.1 ∈ mtbl ∧ Cond.instanceMethod μ1.1 ∈ mtbl ∧ Cond.selects μ1.1.cls μ1.1 μ1.1 ∈ mtbl ∧ Cond.initialized μ1.1.cls ∈ mtbl ∧ mArity μ1.1 n ∧ μ1.2.2.1 ≤ 20
theorem m_callX {μ1 : mM} {i index n d1 : Nat} {As stk : List Value} {Q1 : Option Value → mS → Prop} (hd : decode μ.2.1 pc = .ok (.invokevirtual index, 3)) (hC : mCX μ.1.cls index n μ1) (q : String × Nat × String × List Int32) (hq : mstr[i]? = some q) (hd1 : d1 < d) (hn : As.length = n) (hst : stk = As.reverse ++ .ref (1010 + i) :: st) (hw : (st.map fun v => v.category).sum ≤ 8)
    (hM : mMet G l d1 μ1 (.ref (1010 + i) :: As) σ Q1) (k : ∀ (v : Option Value) (σ1 : mS), Q1 v σ1 → mW G l d μ (pc + 3) ls (v.toList ++ st) σ1 Q) : mW G l d μ pc ls stk σ Q := by
  subst hst
  intro p e s m args below meth c H locs cells slots lsr Z R hR hF hP hS hl hQ
  obtain ⟨hcl, c1, c2, c3, c4, c5, c6, c7⟩ := hC
  have hts := hF.2.2.2.2.2.1
  have hrun : va_Run p l e R s m args below meth c H locs cells slots 0 0 (F0 m pc lsr ((As.reverse ++ .ref (1010 + i) :: st).map (mv G))) (st.map (mv G)) (mQc G Q1 (Value.ref (G.2.2.2.1 (1010 + i)) :: As.map (mv G)).toArray) G.2.2.1 := by
    refine va_runV (C := μ1.1.cls) (b := G.2.2.2.1 (1010 + i)) (As := As.map (mv G)) (bytes := μ1.2.1) (maxL := μ1.2.2.1) (ret := μ1.2.2.2) (n := n) (own := μ.1.cls) (Ts := mtbl) (index := index) (rm := mrm d1) (ws := mwd μ1) ⟨hF.1, hF.2.1, hF.2.2.1, hF.2.2.2.2.1, hts⟩ hM ⟨callB_of n hts (mwd_in c1) rfl rfl rfl (hts _ c5) (hts _ c2) c6 (m_roomy ⟨hR.1, hR.2.1⟩ hd1 c7), hts _ c3, hts _ c4⟩ ⟨m_blind, ?_, fun U hU hW => ⟨rfl, by rw [hU]; exact hP, (m_env hF).warm hW hS hU⟩⟩ rfl (by rw [List.length_map]; exact hn) hl.1 (by rw [List.map_append, List.map_reverse]; rfl) (lv_room (by rw [mv_cats]; exact hw)) hd ⟨hR.2.2.1, hR.2.2.2⟩
    rw [hcl]
    obtain ⟨cell, g1, g2, g3, -⟩ := ((m_env hF).2.1.2.2.2.1 i q hq).2.1.kept hS.2.1
    exact ⟨cell, g1, g2, g3⟩
  exact m_goes (As := As) hrun hS (fun v σ1 H1 locs1 hq1 hP1 hS1 => k v σ1 hq1 p e s m args below meth c H1 locs1 cells slots lsr Z R hR hF hP1 hS1 hl hQ)
/-- an inherited method, or one that overrides what the reference names -/
def mCU (own C owner : String) (index n : Nat) (x : MethodName) (μ1 : mM) : Prop := Cond.code μ1.1 μ1.2.1 μ1.2.2.1 μ1.2.2.2 ∈ mtbl ∧ Cond.methodLink own index x ∈ mtbl ∧ Cond.sameMethod x.cls owner x.name x.desc ∈ mtbl ∧ Cond.selects C x μ1.1 ∈ mtbl ∧ Cond.instanceMethod μ1.1 ∈ mtbl ∧ Cond.initialized μ1.1.cls ∈ mtbl ∧ (owner ≠ "java/lang/invoke/MethodHandle" ∧ owner ≠ "java/lang/invoke/VarHandle" ∧ (parseMethodDescriptor x.desc).map (fun dd => dd.parameters.length) = some n) ∧ (Cond.declares ⟨owner, x.name, x.desc⟩ ∈ mnest ∨ μ1.1 = ⟨owner, x.name, x.desc⟩) ∧ μ1.2.2.1 ≤ 20
theorem m_callU {μ1 : mM} {ci N x index n d1 : Nat} {C owner : String} {xn : MethodName} {As stk : List Value} {Q1 : Option Value → mS → Prop} {qc : vw_C} (hd : decode μ.2.1 pc = .ok (.invokevirtual index, 3)) (hC : mCU μ.1.cls C owner index n xn μ1) (hqc : vwCl[ci]? = some qc) (hcl : C = qc.1) (hx : mshp x = (ci, N)) (hc : ci ≤ 10) (hd1 : d1 < d) (hn : As.length = n) (hst : stk = As.reverse ++ .ref x :: st) (hw : (st.map fun v => v.category).sum ≤ 8)
    (hM : mMet G l d1 μ1 (.ref x :: As) σ Q1) (k : ∀ (v : Option Value) (σ1 : mS), Q1 v σ1 → mW G l d μ (pc + 3) ls (v.toList ++ st) σ1 Q) : mW G l d μ pc ls stk σ Q := by
  subst hst
  intro p e s m args below meth c H locs cells slots lsr Z R hR hF hP hS hl hQ
  obtain ⟨c1, c2, c3, c4, c5, c6, c7, c8, c9⟩ := hC
  have hts := hF.2.2.2.2.2.1
  have hG := mwd_in c1
  have hr9 := m_roomy ⟨hR.1, hR.2.1⟩ hd1 c9
  have hcu : va_CU R s args μ.1.cls C owner index xn μ1.1 μ1.2.1 μ1.2.2.1 μ1.2.2.2 (mwd μ1) (mrm d1) 0 0 n := by
    refine ⟨⟨rfl, rfl, hr9.1, hr9.2, pay_in hts hG, List.mem_cons_self⟩, hts _ c1, hts _ c6, ⟨c7.1, c7.2.1⟩, fun sig h => ?_, hts _ c2, hts _ c3, ?_, hts _ c4, hts _ c5⟩
    · have h2 := c7.2.2
      rw [h] at h2
      exact (Option.some.inj h2).symm
    · rcases c8 with c8 | c8
      · exact va_Decl.abs ((m_env hF).2.1.1 _ c8)
      · rw [← c8]
        exact va_Decl.of (hts _ c5) (hts _ c1)
  have hrun : va_Run p l e R s m args below meth c H locs cells slots 0 0 (F0 m pc lsr ((As.reverse ++ .ref x :: st).map (mv G))) (st.map (mv G)) (mQc G Q1 (Value.ref (G.2.2.2.1 x) :: As.map (mv G)).toArray) G.2.2.1 := by
    refine va_runU (C := C) (owner := owner) (x := xn) (b := G.2.2.2.1 x) (As := As.map (mv G)) (bytes := μ1.2.1) (maxL := μ1.2.2.1) (ret := μ1.2.2.2) (n := n) (own := μ.1.cls) (Ts := mtbl) (index := index) (rm := mrm d1) (ws := mwd μ1) ⟨hF.1, hF.2.1, hF.2.2.1, hF.2.2.2.2.1, hts⟩ hM hcu ⟨m_blind, ?_, fun U hU hW => ⟨rfl, by rw [hU]; exact hP, (m_env hF).warm hW hS hU⟩⟩ rfl (by rw [List.length_map]; exact hn) hl.1 (by rw [List.map_append, List.map_reverse]; rfl) (lv_room (by rw [mv_cats]; exact hw)) hd ⟨hR.2.2.1, hR.2.2.2⟩
    rw [hcl]
    exact va_recv (m_env hF).1 hP hqc (q0 := x) (fs := (List.range N).map (mfv G σ ci x)) (by rw [mws_at (mshp_lt hx (by omega)), mE_o hx hc])
  exact m_goes (As := As) hrun hS (fun v σ1 H1 locs1 hq1 hP1 hS1 => k v σ1 hq1 p e s m args below meth c H1 locs1 cells slots lsr Z R hR hF hP1 hS1 hl hQ)
/-- the store with one row changed -/
def ur (σ : mS) (y : Nat) (f : Nat → Int32) : mS := (fun z => if z = y then f else σ.1 z, σ.2)
theorem ur_ne {y z : Nat} {f : Nat → Int32} (h : z ≠ y) : (ur σ y f).1 z = σ.1 z := if_neg h
theorem ur_eq {y : Nat} {f : Nat → Int32} : (ur σ y f).1 y = f := if_pos rfl
theorem nfw : nativeFrameWords "java/lang/System" "arraycopy" 5 + 11 ≤ 31 := by decide
theorem m_copy {x y nx ny index sp dp n : Nat} {isp idp inn : Int32} (hd : decode μ.2.1 pc = .ok (.invokestatic index, 3)) (hL : Cond.methodLink μ.1.cls index arraycopyName ∈ mtbl) (hnat : Cond.native arraycopyName ∈ mtbl) (hsta : Cond.static arraycopyName ∈ mtbl) (hini : Cond.initialized "java/lang/System" ∈ mtbl) (hx : mshp x = (11, nx)) (hy : mshp y = (11, ny)) (e1 : isp = nI sp) (e2 : idp = nI dp) (e3 : inn = nI n) (h1 : sp + n ≤ nx) (h2 : dp + n ≤ ny) (hd0 : 0 < d) (hw : (st.map fun v => v.category).sum ≤ 8)
    (k : mW G l d μ (pc + 3) ls st (ur σ y (va_cpy (σ.1 x) (σ.1 y) sp dp n)) Q) : mW G l d μ pc ls (.int inn :: .int idp :: .ref y :: .int isp :: .ref x :: st) σ Q := by
  subst e1 e2 e3
  intro p e s m args below meth c H locs cells slots lsr Z R hR hF hP hS hl hQ
  have hts := hF.2.2.2.2.2.1
  have lx := mshp_len hx
  have ly := mshp_len hy
  have b : ∀ q, q ≤ 256 → q < 2 ^ 31 := fun q hq => Nat.lt_of_le_of_lt hq (by decide)
  refine va_copyi hF.1 hF.2.1 (hF.2.2.1.trans hl.1.symm) hF.2.2.2.2.1 (hts _ hL) (hts _ hnat) (hts _ hsta) (hts _ hini) (m_env hF).1 hP (mws_D (m_env hF)) hS x y 0 0 (a0 := G.2.2.2.1 x) (c0 := G.2.1 0) (c1 := G.2.1 0) (n0 := nx) (n1 := ny) (f := σ.1 x) (g := σ.1 y) (ty := .int) (by rw [mws_at (mshp_lt hx (by decide)), mE_i hx]) (by rw [mws_at (mshp_lt hy (by decide)), mE_i hy]) rfl rfl rfl (nI_pos (b _ (by omega))) (nI_pos (b _ (by omega))) (nI_pos (b _ (by omega))) (by rw [nI_clamp (b _ (by omega)), nI_clamp (b _ (by omega))]; exact h1) (by rw [nI_clamp (b _ (by omega)), nI_clamp (b _ (by omega))]; exact h2) (fun _ _ => rfl) (by omega) (by rw [mv_cats]; have := nfw; omega) hd (fun H1 locs1 hP1 _ hS1 => ?_)
  rw [nI_clamp (b sp (by omega)), nI_clamp (b dp (by omega)), nI_clamp (b n (by omega)), mws_set (σ1 := ur σ y (va_cpy (σ.1 x) (σ.1 y) sp dp n)) (mshp_lt hy (by decide)) (by rw [mE_i hy, ur_eq]) (fun z hz => mE_ne (ur_ne hz) rfl)] at hP1
  exact k p e s m args below meth c H1 locs1 cells slots lsr Z R hR hF hP1 hS1 hl hQ
end MC
end
section
abbrev kX10_init : mM := (yX10_init, cX10_init, 1, none)
abbrev kX7_init : mM := (yX7_init, cX7_init, 1, none)
abbrev kX0_init : mM := (yX0_init, cX0_init, 1, none)
abbrev kX8_init : mM := (yX8_init, cX8_init, 4, none)
abbrev kX6_init : mM := (yX6_init, cX6_init, 1, none)
abbrev kX1_init : mM := (yX1_init, cX1_init, 1, none)
abbrev kX5_init : mM := (yX5_init, cX5_init, 1, none)
abbrev kX4_init : mM := (yX4_init, cX4_init, 1, none)
abbrev kX3_init : mM := (yX3_init, cX3_init, 1, none)
abbrev kX9_init : mM := (yX9_init, cX9_init, 5, none)
abbrev kX2_init : mM := (yX2_init, cX2_init, 1, none)
abbrev kX10_type : mM := (yX10_type, cX10_type, 4, (some FieldType.int))
abbrev kX10_within : mM := (yX10_within, cX10_within, 2, (some FieldType.boolean))
abbrev kX10_textOf : mM := (yX10_textOf, cX10_textOf, 2, (some (FieldType.object "DodgemDebate$Text")))
abbrev kX7_append : mM := (yX7_append, cX7_append, 2, none)
abbrev kX10_wipe : mM := (yX10_wipe, cX10_wipe, 4, (some FieldType.int))
abbrev kX10_undo : mM := (yX10_undo, cX10_undo, 3, (some FieldType.int))
abbrev kX10_fault : mM := (yX10_fault, cX10_fault, 2, (some FieldType.int))
abbrev kX10_settle : mM := (yX10_settle, cX10_settle, 1, none)
abbrev kX8_learn : mM := (yX8_learn, cX8_learn, 6, none)
abbrev kX8_takes : mM := (yX8_takes, cX8_takes, 4, (some FieldType.boolean))
abbrev kX0_meaning : mM := (yX0_meaning, cX0_meaning, 4, (some FieldType.int))
abbrev kJ0_indexOf_0f7a4 : mM := (yJ0_indexOf_0f7a4, cJ0_indexOf_0f7a4, 2, (some FieldType.int))
abbrev kJ0_indexOf_7cf53 : mM := (yJ0_indexOf_7cf53, cJ0_indexOf_7cf53, 3, (some FieldType.int))
abbrev kJ0_isLatin1_aae02 : mM := (yJ0_isLatin1_aae02, cJ0_isLatin1_aae02, 1, (some FieldType.boolean))
abbrev kJ0_length_8abf5 : mM := (yJ0_length_8abf5, cJ0_length_8abf5, 1, (some FieldType.int))
abbrev kJ0_coder_7d493 : mM := (yJ0_coder_7d493, cJ0_coder_7d493, 1, (some FieldType.byte))
abbrev kJ1_indexOf_4cfef : mM := (yJ1_indexOf_4cfef, cJ1_indexOf_4cfef, 4, (some FieldType.int))
abbrev kJ1_canEncode_9a6ad : mM := (yJ1_canEncode_9a6ad, cJ1_canEncode_9a6ad, 1, (some FieldType.boolean))
abbrev kJ9_max_7cf53 : mM := (yJ9_max_7cf53, cJ9_max_7cf53, 2, (some FieldType.int))
abbrev kJ9_min_7cf53 : mM := (yJ9_min_7cf53, cJ9_min_7cf53, 2, (some FieldType.int))
abbrev kJ1_indexOfChar_4cfef : mM := (yJ1_indexOfChar_4cfef, cJ1_indexOfChar_4cfef, 6, (some FieldType.int))
abbrev kJ0_checkBoundsBeginEnd_23922 : mM := (yJ0_checkBoundsBeginEnd_23922, cJ0_checkBoundsBeginEnd_23922, 3, none)
abbrev kX0_freeY : mM := (yX0_freeY, cX0_freeY, 3, (some FieldType.int))
abbrev kX0_isTaken : mM := (yX0_isTaken, cX0_isTaken, 6, (some FieldType.boolean))
abbrev kX6_meaning : mM := (yX6_meaning, cX6_meaning, 4, (some FieldType.int))
abbrev kX3_play : mM := (yX3_play, cX3_play, 7, none)
abbrev kX3_begin : mM := (yX3_begin, cX3_begin, 4, none)
abbrev kJ7_fill_53178 : mM := (yJ7_fill_53178, cJ7_fill_53178, 4, none)
abbrev kX3_doEvents : mM := (yX3_doEvents, cX3_doEvents, 5, none)
abbrev kX3_doSteers : mM := (yX3_doSteers, cX3_doSteers, 8, none)
abbrev kX3_go : mM := (yX3_go, cX3_go, 12, none)
abbrev kX10_onFloor : mM := (yX10_onFloor, cX10_onFloor, 2, (some FieldType.boolean))
abbrev kX3_countStrike : mM := (yX3_countStrike, cX3_countStrike, 6, none)
abbrev kX3_shift : mM := (yX3_shift, cX3_shift, 4, none)
abbrev kX3_keep : mM := (yX3_keep, cX3_keep, 3, none)
abbrev kX10_car : mM := (yX10_car, cX10_car, 3, (some FieldType.int))
abbrev kX10_steer : mM := (yX10_steer, cX10_steer, 3, (some FieldType.int))
abbrev kX10_event : mM := (yX10_event, cX10_event, 4, (some FieldType.int))
abbrev kX1_fits : mM := (yX1_fits, cX1_fits, 3, (some FieldType.boolean))
abbrev kX1_append : mM := (yX1_append, cX1_append, 4, none)
abbrev kX10_back : mM := (yX10_back, cX10_back, 1, (some FieldType.int))
abbrev kX10_read : mM := (yX10_read, cX10_read, 5, (some FieldType.int))
abbrev kX4_isLost : mM := (yX4_isLost, cX4_isLost, 2, (some FieldType.boolean))
abbrev kX4_found : mM := (yX4_found, cX4_found, 2, (some FieldType.int))
abbrev kX10_at : mM := (yX10_at, cX10_at, 4, (some FieldType.int))
abbrev kX3_behind : mM := (yX3_behind, cX3_behind, 4, (some FieldType.int))
abbrev kX10_who : mM := (yX10_who, cX10_who, 4, (some FieldType.int))
abbrev kX3_inCell : mM := (yX3_inCell, cX3_inCell, 5, (some FieldType.int))
abbrev kX10_house : mM := (yX10_house, cX10_house, 4, (some FieldType.int))
abbrev kX3_ayes : mM := (yX3_ayes, cX3_ayes, 4, (some FieldType.int))
abbrev kX10_strikes : mM := (yX10_strikes, cX10_strikes, 1, (some FieldType.int))
abbrev kX10_first : mM := (yX10_first, cX10_first, 2, (some FieldType.int))
abbrev kX10_best : mM := (yX10_best, cX10_best, 1, (some FieldType.int))
abbrev kX3_leader : mM := (yX3_leader, cX3_leader, 3, (some FieldType.int))
abbrev kX10_meek : mM := (yX10_meek, cX10_meek, 1, (some FieldType.int))
abbrev kX3_untouched : mM := (yX3_untouched, cX3_untouched, 1, (some FieldType.int))
abbrev kX10_jam : mM := (yX10_jam, cX10_jam, 3, (some FieldType.int))
abbrev kX3_worstJam : mM := (yX3_worstJam, cX3_worstJam, 3, (some FieldType.int))
abbrev kX10_carried : mM := (yX10_carried, cX10_carried, 3, (some FieldType.int))
abbrev kX10_stand : mM := (yX10_stand, cX10_stand, 3, (some FieldType.int))
abbrev kX9_bestStand : mM := (yX9_bestStand, cX9_bestStand, 5, (some FieldType.int))
abbrev kX0_becomeLike : mM := (yX0_becomeLike, cX0_becomeLike, 3, none)
abbrev kX10_standPart : mM := (yX10_standPart, cX10_standPart, 3, (some FieldType.int))
abbrev kX10_better : mM := (yX10_better, cX10_better, 4, (some FieldType.int))
abbrev kX9_bestTurn : mM := (yX9_bestTurn, cX9_bestTurn, 6, (some FieldType.int))
abbrev kX6_lend : mM := (yX6_lend, cX6_lend, 4, none)
abbrev kX6_giveBack : mM := (yX6_giveBack, cX6_giveBack, 1, none)
abbrev kX10_turnPart : mM := (yX10_turnPart, cX10_turnPart, 2, (some FieldType.int))
abbrev kX10_ring : mM := (yX10_ring, cX10_ring, 4, (some FieldType.int))
abbrev kX10_ayesAhead : mM := (yX10_ayesAhead, cX10_ayesAhead, 2, (some FieldType.int))
abbrev kX0_ayesAsTold : mM := (yX0_ayesAsTold, cX0_ayesAsTold, 3, (some FieldType.int))
abbrev kX10_spare : mM := (yX10_spare, cX10_spare, 2, (some FieldType.int))
abbrev kX9_fewestSpared : mM := (yX9_fewestSpared, cX9_fewestSpared, 3, (some FieldType.int))
abbrev kX9_touchesAll : mM := (yX9_touchesAll, cX9_touchesAll, 2, (some FieldType.boolean))
abbrev kX10_sparePart : mM := (yX10_sparePart, cX10_sparePart, 3, (some FieldType.int))
abbrev kJ6_bitCount_0f7a4 : mM := (yJ6_bitCount_0f7a4, cJ6_bitCount_0f7a4, 1, (some FieldType.int))
abbrev kX10_seen : mM := (yX10_seen, cX10_seen, 5, (some FieldType.int))
abbrev kX5_append : mM := (yX5_append, cX5_append, 5, none)
abbrev kX10_forget : mM := (yX10_forget, cX10_forget, 2, (some FieldType.int))
abbrev kX10_never : mM := (yX10_never, cX10_never, 1, (some FieldType.int))
abbrev kX9_eventsThatNeverWere : mM := (yX9_eventsThatNeverWere, cX9_eventsThatNeverWere, 3, (some FieldType.int))
abbrev kX5_comeOutIn : mM := (yX5_comeOutIn, cX5_comeOutIn, 3, (some FieldType.boolean))
abbrev kX10_was : mM := (yX10_was, cX10_was, 3, (some FieldType.int))
abbrev kX9_sortsOf : mM := (yX9_sortsOf, cX9_sortsOf, 4, (some FieldType.int))
abbrev kX9_agrees : mM := (yX9_agrees, cX9_agrees, 4, (some FieldType.boolean))
abbrev kX9_weightsOf : mM := (yX9_weightsOf, cX9_weightsOf, 4, (some FieldType.int))
abbrev kX10_ask : mM := (yX10_ask, cX10_ask, 2, (some FieldType.int))
abbrev kX9_momentToLook : mM := (yX9_momentToLook, cX9_momentToLook, 6, (some FieldType.int))
abbrev kX9_cellOf : mM := (yX9_cellOf, cX9_cellOf, 3, (some FieldType.int))
abbrev kX9_mostAlike : mM := (yX9_mostAlike, cX9_mostAlike, 6, (some FieldType.int))
abbrev kX10_chance : mM := (yX10_chance, cX10_chance, 4, (some FieldType.long))
abbrev kX9_weighStruck : mM := (yX9_weighStruck, cX9_weighStruck, 6, (some FieldType.long))
abbrev kX9_findStruck : mM := (yX9_findStruck, cX9_findStruck, 4, none)
abbrev kX3_wasStruck : mM := (yX3_wasStruck, cX3_wasStruck, 2, (some FieldType.boolean))
abbrev kX9_weightOf : mM := (yX9_weightOf, cX9_weightOf, 6, (some FieldType.long))
abbrev kX10_fractionPart : mM := (yX10_fractionPart, cX10_fractionPart, 9, (some FieldType.long))
abbrev kX10_ages : mM := (yX10_ages, cX10_ages, 4, (some FieldType.int))
abbrev kX9_playAges : mM := (yX9_playAges, cX9_playAges, 7, none)
abbrev kX9_nextSeed : mM := (yX9_nextSeed, cX9_nextSeed, 1, (some FieldType.int))
abbrev kX9_lot : mM := (yX9_lot, cX9_lot, 2, (some FieldType.int))
abbrev kX3_allPoints : mM := (yX3_allPoints, cX3_allPoints, 3, (some FieldType.int))
abbrev kX10_sheet : mM := (yX10_sheet, cX10_sheet, 4, (some FieldType.int))
abbrev kX4_begin : mM := (yX4_begin, cX4_begin, 4, none)
abbrev kX10_lose : mM := (yX10_lose, cX10_lose, 3, (some FieldType.int))
abbrev kX10_put : mM := (yX10_put, cX10_put, 6, (some FieldType.int))
abbrev kX4_barTo : mM := (yX4_barTo, cX4_barTo, 4, (some FieldType.int))
abbrev kX4_lowestBits : mM := (yX4_lowestBits, cX4_lowestBits, 2, (some FieldType.int))
abbrev kX10_get : mM := (yX10_get, cX10_get, 5, (some FieldType.int))
abbrev kX10_copy : mM := (yX10_copy, cX10_copy, 6, (some FieldType.int))
abbrev kX4_hasSpan : mM := (yX4_hasSpan, cX4_hasSpan, 4, (some FieldType.boolean))
abbrev kX10_write : mM := (yX10_write, cX10_write, 5, (some FieldType.int))
abbrev kX10_count : mM := (yX10_count, cX10_count, 2, (some FieldType.int))
abbrev kX10_digest : mM := (yX10_digest, cX10_digest, 2, (some FieldType.long))
abbrev kX10_addTold : mM := (yX10_addTold, cX10_addTold, 3, none)
abbrev kX2_add : mM := (yX2_add, cX2_add, 3, none)
abbrev kX10_addCar : mM := (yX10_addCar, cX10_addCar, 7, none)
abbrev kX10_addHouse : mM := (yX10_addHouse, cX10_addHouse, 3, none)
abbrev kX10_addWhole : mM := (yX10_addWhole, cX10_addWhole, 2, none)
abbrev kX11_init : mM := (yX11_init, cX11_init, 1, none)
abbrev kX11_type : mM := (yX11_type, cX11_type, 3, (some FieldType.int))
abbrev kX11_isText : mM := (yX11_isText, cX11_isText, 1, (some FieldType.boolean))
abbrev kX11_in : mM := (yX11_in, cX11_in, 3, (some FieldType.boolean))
abbrev kX11_wipe : mM := (yX11_wipe, cX11_wipe, 3, (some FieldType.int))
abbrev kX11_undo : mM := (yX11_undo, cX11_undo, 2, (some FieldType.int))
abbrev kX11_fault : mM := (yX11_fault, cX11_fault, 2, (some FieldType.int))
abbrev kX11_faultOf : mM := (yX11_faultOf, cX11_faultOf, 4, (some FieldType.int))
abbrev kX11_readsParts : mM := (yX11_readsParts, cX11_readsParts, 6, (some FieldType.int))
abbrev kX11_readsCar : mM := (yX11_readsCar, cX11_readsCar, 8, (some FieldType.int))
abbrev kX11_byteAt : mM := (yX11_byteAt, cX11_byteAt, 3, (some FieldType.int))
abbrev kX11_sortOf : mM := (yX11_sortOf, cX11_sortOf, 1, (some FieldType.int))
abbrev kX11_wayOf : mM := (yX11_wayOf, cX11_wayOf, 1, (some FieldType.int))
abbrev kX11_isSix : mM := (yX11_isSix, cX11_isSix, 1, (some FieldType.boolean))
abbrev kX11_isTold : mM := (yX11_isTold, cX11_isTold, 6, (some FieldType.boolean))
abbrev kX11_readsSteer : mM := (yX11_readsSteer, cX11_readsSteer, 6, (some FieldType.int))
abbrev kX11_car : mM := (yX11_car, cX11_car, 3, (some FieldType.int))
abbrev kX11_isCar : mM := (yX11_isCar, cX11_isCar, 2, (some FieldType.boolean))
abbrev kX11_reads : mM := (yX11_reads, cX11_reads, 2, none)
abbrev kX11_carOf : mM := (yX11_carOf, cX11_carOf, 3, (some FieldType.int))
abbrev kX11_steer : mM := (yX11_steer, cX11_steer, 3, (some FieldType.int))
abbrev kX11_isThree : mM := (yX11_isThree, cX11_isThree, 1, (some FieldType.boolean))
abbrev kX11_steerTold : mM := (yX11_steerTold, cX11_steerTold, 3, (some FieldType.int))
abbrev kX11_event : mM := (yX11_event, cX11_event, 4, (some FieldType.int))
abbrev kX11_isTwo : mM := (yX11_isTwo, cX11_isTwo, 1, (some FieldType.boolean))
abbrev kX11_isMoment : mM := (yX11_isMoment, cX11_isMoment, 1, (some FieldType.boolean))
abbrev kX11_isEight : mM := (yX11_isEight, cX11_isEight, 1, (some FieldType.boolean))
abbrev kX11_back : mM := (yX11_back, cX11_back, 1, (some FieldType.int))
abbrev kX11_read : mM := (yX11_read, cX11_read, 4, (some FieldType.int))
abbrev kX11_isSheet : mM := (yX11_isSheet, cX11_isSheet, 1, (some FieldType.boolean))
abbrev kX11_meets : mM := (yX11_meets, cX11_meets, 2, (some FieldType.int))
abbrev kX11_at : mM := (yX11_at, cX11_at, 4, (some FieldType.int))
abbrev kX11_atOf : mM := (yX11_atOf, cX11_atOf, 5, (some FieldType.int))
abbrev kX11_runsTold : mM := (yX11_runsTold, cX11_runsTold, 1, none)
abbrev kX11_asTold : mM := (yX11_asTold, cX11_asTold, 2, none)
abbrev kX11_runs : mM := (yX11_runs, cX11_runs, 2, none)
abbrev kX11_goesBy : mM := (yX11_goesBy, cX11_goesBy, 4, none)
abbrev kX11_isIn : mM := (yX11_isIn, cX11_isIn, 2, (some FieldType.boolean))
abbrev kX11_steersAll : mM := (yX11_steersAll, cX11_steersAll, 4, none)
abbrev kX11_drives : mM := (yX11_drives, cX11_drives, 7, none)
abbrev kX11_stepX : mM := (yX11_stepX, cX11_stepX, 1, (some FieldType.int))
abbrev kX11_stepY : mM := (yX11_stepY, cX11_stepY, 1, (some FieldType.int))
abbrev kX11_whoIn : mM := (yX11_whoIn, cX11_whoIn, 5, (some FieldType.int))
abbrev kX11_comes : mM := (yX11_comes, cX11_comes, 4, none)
abbrev kX11_runsInto : mM := (yX11_runsInto, cX11_runsInto, 10, none)
abbrev kX11_who : mM := (yX11_who, cX11_who, 4, (some FieldType.int))
abbrev kX11_whoOf : mM := (yX11_whoOf, cX11_whoOf, 6, (some FieldType.int))
abbrev kX11_house : mM := (yX11_house, cX11_house, 3, (some FieldType.int))
abbrev kX11_houseOf : mM := (yX11_houseOf, cX11_houseOf, 4, (some FieldType.int))
abbrev kX11_ayesAt : mM := (yX11_ayesAt, cX11_ayesAt, 4, (some FieldType.int))
abbrev kX11_strikes : mM := (yX11_strikes, cX11_strikes, 1, (some FieldType.int))
abbrev kX11_strikesOf : mM := (yX11_strikesOf, cX11_strikesOf, 1, (some FieldType.int))
abbrev kX11_first : mM := (yX11_first, cX11_first, 2, (some FieldType.int))
abbrev kX11_firstOf : mM := (yX11_firstOf, cX11_firstOf, 2, (some FieldType.int))
abbrev kX11_best : mM := (yX11_best, cX11_best, 1, (some FieldType.int))
abbrev kX11_bestOf : mM := (yX11_bestOf, cX11_bestOf, 3, (some FieldType.int))
abbrev kX11_meek : mM := (yX11_meek, cX11_meek, 1, (some FieldType.int))
abbrev kX11_meekOf : mM := (yX11_meekOf, cX11_meekOf, 1, (some FieldType.int))
abbrev kX11_meekNow : mM := (yX11_meekNow, cX11_meekNow, 3, (some FieldType.int))
abbrev kX11_jam : mM := (yX11_jam, cX11_jam, 2, (some FieldType.int))
abbrev kX11_jamOf : mM := (yX11_jamOf, cX11_jamOf, 4, (some FieldType.int))
abbrev kX11_carried : mM := (yX11_carried, cX11_carried, 1, (some FieldType.int))
abbrev kX11_carriedOf : mM := (yX11_carriedOf, cX11_carriedOf, 3, (some FieldType.int))
abbrev kX11_stand : mM := (yX11_stand, cX11_stand, 3, (some FieldType.int))
abbrev kX11_standOf : mM := (yX11_standOf, cX11_standOf, 8, (some FieldType.int))
abbrev kX11_isOther : mM := (yX11_isOther, cX11_isOther, 6, (some FieldType.boolean))
abbrev kX11_better : mM := (yX11_better, cX11_better, 4, (some FieldType.int))
abbrev kX11_betterOf : mM := (yX11_betterOf, cX11_betterOf, 7, (some FieldType.int))
abbrev kX11_ring : mM := (yX11_ring, cX11_ring, 2, (some FieldType.int))
abbrev kX11_ringOf : mM := (yX11_ringOf, cX11_ringOf, 6, (some FieldType.int))
abbrev kX11_spare : mM := (yX11_spare, cX11_spare, 2, (some FieldType.int))
abbrev kX11_spareBy : mM := (yX11_spareBy, cX11_spareBy, 3, (some FieldType.int))
abbrev kX11_isSpared : mM := (yX11_isSpared, cX11_isSpared, 2, (some FieldType.boolean))
abbrev kX11_ofRow : mM := (yX11_ofRow, cX11_ofRow, 3, (some FieldType.int))
abbrev kX11_seen : mM := (yX11_seen, cX11_seen, 5, (some FieldType.int))
abbrev kX11_forget : mM := (yX11_forget, cX11_forget, 2, (some FieldType.int))
abbrev kX11_never : mM := (yX11_never, cX11_never, 1, (some FieldType.int))
abbrev kX11_neverNow : mM := (yX11_neverNow, cX11_neverNow, 3, (some FieldType.int))
abbrev kX11_isSeen : mM := (yX11_isSeen, cX11_isSeen, 4, (some FieldType.boolean))
abbrev kX11_was : mM := (yX11_was, cX11_was, 3, (some FieldType.int))
abbrev kX11_sortsBy : mM := (yX11_sortsBy, cX11_sortsBy, 5, (some FieldType.int))
abbrev kX11_heavyBy : mM := (yX11_heavyBy, cX11_heavyBy, 6, (some FieldType.int))
abbrev kX11_ask : mM := (yX11_ask, cX11_ask, 2, (some FieldType.int))
abbrev kX11_askOf : mM := (yX11_askOf, cX11_askOf, 10, (some FieldType.int))
abbrev kX11_chance : mM := (yX11_chance, cX11_chance, 4, (some FieldType.long))
abbrev kX11_chanceOf : mM := (yX11_chanceOf, cX11_chanceOf, 10, (some FieldType.long))
abbrev kX11_lowest : mM := (yX11_lowest, cX11_lowest, 11, (some FieldType.long))
abbrev kX11_no : mM := (yX11_no, cX11_no, 1, (some FieldType.long))
abbrev kX11_ages : mM := (yX11_ages, cX11_ages, 4, (some FieldType.int))
abbrev kX11_agesOf : mM := (yX11_agesOf, cX11_agesOf, 6, (some FieldType.int))
abbrev kX11_pointsAll : mM := (yX11_pointsAll, cX11_pointsAll, 3, (some FieldType.int))
abbrev kX11_sheet : mM := (yX11_sheet, cX11_sheet, 5, (some FieldType.int))
abbrev kX11_lose : mM := (yX11_lose, cX11_lose, 2, (some FieldType.int))
abbrev kX11_put : mM := (yX11_put, cX11_put, 6, (some FieldType.int))
abbrev kX11_lacks : mM := (yX11_lacks, cX11_lacks, 4, (some FieldType.int))
abbrev kX11_keep : mM := (yX11_keep, cX11_keep, 4, none)
abbrev kX11_get : mM := (yX11_get, cX11_get, 5, (some FieldType.int))
abbrev kX11_copy : mM := (yX11_copy, cX11_copy, 7, (some FieldType.int))
abbrev kX11_write : mM := (yX11_write, cX11_write, 4, (some FieldType.int))
abbrev kX11_count : mM := (yX11_count, cX11_count, 2, (some FieldType.int))
abbrev kX11_sumOf : mM := (yX11_sumOf, cX11_sumOf, 2, (some FieldType.int))
abbrev kX11_digest : mM := (yX11_digest, cX11_digest, 5, (some FieldType.long))
abbrev kX11_carDigest : mM := (yX11_carDigest, cX11_carDigest, 7, (some FieldType.long))
abbrev kX11_momentDigest : mM := (yX11_momentDigest, cX11_momentDigest, 8, (some FieldType.long))
set_option maxRecDepth 20000 in
theorem iw_0 : ∀ w ∈ u_ws RX0 TX0 5, w ∈ mtbl := by decide +kernel
set_option maxRecDepth 20000 in
theorem iw_1 : ∀ w ∈ u_ws RX1 TX1 4, w ∈ mtbl := by decide +kernel
set_option maxRecDepth 20000 in
theorem iw_2 : ∀ w ∈ u_ws RX2 TX2 1, w ∈ mtbl := by decide +kernel
set_option maxRecDepth 20000 in
theorem iw_3 : ∀ w ∈ u_ws RX3 TX3 10, w ∈ mtbl := by decide +kernel
set_option maxRecDepth 20000 in
theorem iw_4 : ∀ w ∈ u_ws RX4 TX4 4, w ∈ mtbl := by decide +kernel
set_option maxRecDepth 20000 in
theorem iw_5 : ∀ w ∈ u_ws RX5 TX5 5, w ∈ mtbl := by decide +kernel
set_option maxRecDepth 20000 in
theorem iw_6 : ∀ w ∈ u_ws RX6 TX6 5, w ∈ mtbl := by decide +kernel
set_option maxRecDepth 20000 in
theorem iw_7 : ∀ w ∈ u_ws RX7 TX7 2, w ∈ mtbl := by decide +kernel
set_option maxRecDepth 20000 in
theorem iw_8 : ∀ w ∈ u_ws RX9 TX9 10, w ∈ mtbl := by decide +kernel
set_option maxRecDepth 20000 in
theorem iw_9 : ∀ w ∈ u_ws RX10 TX10 11, w ∈ mtbl := by decide +kernel
set_option maxRecDepth 20000 in
theorem iw_10 : ∀ w ∈ u_ws RX11 TX11 53, w ∈ mtbl := by decide +kernel
set_option maxRecDepth 20000 in
theorem fl_X7_9_7 : mFL "DodgemDebate$Text" 9 7 0 := ⟨(RX7, TX7, 2), "DodgemDebate$Text", rfl, by decide, iw_7, (mtb 36 (by decide +kernel) rfl), Or.inl rfl⟩
set_option maxRecDepth 20000 in
theorem fl_X8_30_7 : mFL "DodgemDebate$Told" 30 7 0 := ⟨(RX7, TX7, 2), "DodgemDebate$Text", rfl, by decide, iw_7, (mtb 37 (by decide +kernel) rfl), Or.inl rfl⟩
set_option maxRecDepth 20000 in
theorem fl_X7_15_7 : mFL "DodgemDebate$Text" 15 7 1 := ⟨(RX7, TX7, 2), "DodgemDebate$Text", rfl, by decide, iw_7, (mtb 38 (by decide +kernel) rfl), Or.inl rfl⟩
theorem fw_X7_15_7 : mFW "DodgemDebate$Text" 15 7 1 := ⟨fl_X7_15_7, (RX7, TX7, 2), rfl, rfl, tyX7_ok, nmX7⟩
set_option maxRecDepth 20000 in
theorem fl_X10_89_7 : mFL "DodgemDebate" 89 7 1 := ⟨(RX7, TX7, 2), "DodgemDebate$Text", rfl, by decide, iw_7, (mtb 39 (by decide +kernel) rfl), Or.inl rfl⟩
theorem fw_X10_89_7 : mFW "DodgemDebate" 89 7 1 := ⟨fl_X10_89_7, (RX7, TX7, 2), rfl, rfl, tyX7_ok, nmX7⟩
set_option maxRecDepth 20000 in
theorem fl_X8_25_7 : mFL "DodgemDebate$Told" 25 7 1 := ⟨(RX7, TX7, 2), "DodgemDebate$Text", rfl, by decide, iw_7, (mtb 40 (by decide +kernel) rfl), Or.inl rfl⟩
theorem fw_X8_25_7 : mFW "DodgemDebate$Told" 25 7 1 := ⟨fl_X8_25_7, (RX7, TX7, 2), rfl, rfl, tyX7_ok, nmX7⟩
set_option maxRecDepth 20000 in
theorem fl_X8_15_0 : mFL "DodgemDebate$Told" 15 0 0 := ⟨(RX0, TX0, 5), "DodgemDebate$Told", rfl, by decide, iw_0, (mtb 58 (by decide +kernel) rfl), Or.inl rfl⟩
set_option maxRecDepth 20000 in
theorem fl_X8_15_6 : mFL "DodgemDebate$Told" 15 6 0 := ⟨(RX6, TX6, 5), "DodgemDebate$Told", rfl, by decide, iw_6, (mtb 58 (by decide +kernel) rfl), Or.inl rfl⟩
set_option maxRecDepth 20000 in
theorem fl_X9_67_0 : mFL "DodgemDebate$Trials" 67 0 0 := ⟨(RX0, TX0, 5), "DodgemDebate$Cars", rfl, by decide, iw_0, (mtb 59 (by decide +kernel) rfl), Or.inr (mtb 60 (by decide +kernel) rfl)⟩
set_option maxRecDepth 20000 in
theorem fl_X0_31_0 : mFL "DodgemDebate$Cars" 31 0 0 := ⟨(RX0, TX0, 5), "DodgemDebate$Cars", rfl, by decide, iw_0, (mtb 61 (by decide +kernel) rfl), Or.inr (mtb 60 (by decide +kernel) rfl)⟩
set_option maxRecDepth 20000 in
theorem fl_X6_27_6 : mFL "DodgemDebate$Steers" 27 6 0 := ⟨(RX6, TX6, 5), "DodgemDebate$Steers", rfl, by decide, iw_6, (mtb 62 (by decide +kernel) rfl), Or.inr (mtb 63 (by decide +kernel) rfl)⟩
set_option maxRecDepth 20000 in
theorem fl_X3_74_0 : mFL "DodgemDebate$Run" 74 0 0 := ⟨(RX0, TX0, 5), "DodgemDebate$Cars", rfl, by decide, iw_0, (mtb 64 (by decide +kernel) rfl), Or.inr (mtb 60 (by decide +kernel) rfl)⟩
set_option maxRecDepth 20000 in
theorem fl_X3_92_6 : mFL "DodgemDebate$Run" 92 6 0 := ⟨(RX6, TX6, 5), "DodgemDebate$Steers", rfl, by decide, iw_6, (mtb 65 (by decide +kernel) rfl), Or.inr (mtb 63 (by decide +kernel) rfl)⟩
set_option maxRecDepth 20000 in
theorem fl_X10_107_0 : mFL "DodgemDebate" 107 0 0 := ⟨(RX0, TX0, 5), "DodgemDebate$Cars", rfl, by decide, iw_0, (mtb 66 (by decide +kernel) rfl), Or.inr (mtb 60 (by decide +kernel) rfl)⟩
set_option maxRecDepth 20000 in
theorem fl_X10_112_6 : mFL "DodgemDebate" 112 6 0 := ⟨(RX6, TX6, 5), "DodgemDebate$Steers", rfl, by decide, iw_6, (mtb 67 (by decide +kernel) rfl), Or.inr (mtb 63 (by decide +kernel) rfl)⟩
set_option maxRecDepth 20000 in
theorem fl_X8_19_0 : mFL "DodgemDebate$Told" 19 0 1 := ⟨(RX0, TX0, 5), "DodgemDebate$Told", rfl, by decide, iw_0, (mtb 68 (by decide +kernel) rfl), Or.inl rfl⟩
set_option maxRecDepth 20000 in
theorem fl_X8_19_6 : mFL "DodgemDebate$Told" 19 6 1 := ⟨(RX6, TX6, 5), "DodgemDebate$Told", rfl, by decide, iw_6, (mtb 68 (by decide +kernel) rfl), Or.inl rfl⟩
set_option maxRecDepth 20000 in
theorem fl_X8_22_0 : mFL "DodgemDebate$Told" 22 0 2 := ⟨(RX0, TX0, 5), "DodgemDebate$Told", rfl, by decide, iw_0, (mtb 69 (by decide +kernel) rfl), Or.inl rfl⟩
set_option maxRecDepth 20000 in
theorem fl_X8_22_6 : mFL "DodgemDebate$Told" 22 6 2 := ⟨(RX6, TX6, 5), "DodgemDebate$Told", rfl, by decide, iw_6, (mtb 69 (by decide +kernel) rfl), Or.inl rfl⟩
set_option maxRecDepth 20000 in
theorem fl_X9_59_0 : mFL "DodgemDebate$Trials" 59 0 3 := ⟨(RX0, TX0, 5), "DodgemDebate$Cars", rfl, by decide, iw_0, (mtb 70 (by decide +kernel) rfl), Or.inr (mtb 71 (by decide +kernel) rfl)⟩
theorem fw_X9_59_0 : mFW "DodgemDebate$Trials" 59 0 3 := ⟨fl_X9_59_0, (RX0, TX0, 5), rfl, rfl, tyX0_ok, nmX0⟩
set_option maxRecDepth 20000 in
theorem fl_X6_23_6 : mFL "DodgemDebate$Steers" 23 6 3 := ⟨(RX6, TX6, 5), "DodgemDebate$Steers", rfl, by decide, iw_6, (mtb 72 (by decide +kernel) rfl), Or.inr (mtb 73 (by decide +kernel) rfl)⟩
theorem fw_X6_23_6 : mFW "DodgemDebate$Steers" 23 6 3 := ⟨fl_X6_23_6, (RX6, TX6, 5), rfl, rfl, tyX6_ok, nmX6⟩
set_option maxRecDepth 20000 in
theorem fl_X3_59_0 : mFL "DodgemDebate$Run" 59 0 3 := ⟨(RX0, TX0, 5), "DodgemDebate$Cars", rfl, by decide, iw_0, (mtb 74 (by decide +kernel) rfl), Or.inr (mtb 71 (by decide +kernel) rfl)⟩
theorem fw_X3_59_0 : mFW "DodgemDebate$Run" 59 0 3 := ⟨fl_X3_59_0, (RX0, TX0, 5), rfl, rfl, tyX0_ok, nmX0⟩
set_option maxRecDepth 20000 in
theorem fl_X8_38_0 : mFL "DodgemDebate$Told" 38 0 3 := ⟨(RX0, TX0, 5), "DodgemDebate$Told", rfl, by decide, iw_0, (mtb 75 (by decide +kernel) rfl), Or.inl rfl⟩
theorem fw_X8_38_0 : mFW "DodgemDebate$Told" 38 0 3 := ⟨fl_X8_38_0, (RX0, TX0, 5), rfl, rfl, tyX0_ok, nmX0⟩
set_option maxRecDepth 20000 in
theorem fl_X8_38_6 : mFL "DodgemDebate$Told" 38 6 3 := ⟨(RX6, TX6, 5), "DodgemDebate$Told", rfl, by decide, iw_6, (mtb 75 (by decide +kernel) rfl), Or.inl rfl⟩
theorem fw_X8_38_6 : mFW "DodgemDebate$Told" 38 6 3 := ⟨fl_X8_38_6, (RX6, TX6, 5), rfl, rfl, tyX6_ok, nmX6⟩
set_option maxRecDepth 20000 in
theorem fl_X3_89_6 : mFL "DodgemDebate$Run" 89 6 3 := ⟨(RX6, TX6, 5), "DodgemDebate$Steers", rfl, by decide, iw_6, (mtb 76 (by decide +kernel) rfl), Or.inr (mtb 73 (by decide +kernel) rfl)⟩
theorem fw_X3_89_6 : mFW "DodgemDebate$Run" 89 6 3 := ⟨fl_X3_89_6, (RX6, TX6, 5), rfl, rfl, tyX6_ok, nmX6⟩
set_option maxRecDepth 20000 in
theorem fl_X0_38_0 : mFL "DodgemDebate$Cars" 38 0 3 := ⟨(RX0, TX0, 5), "DodgemDebate$Cars", rfl, by decide, iw_0, (mtb 77 (by decide +kernel) rfl), Or.inr (mtb 71 (by decide +kernel) rfl)⟩
theorem fw_X0_38_0 : mFW "DodgemDebate$Cars" 38 0 3 := ⟨fl_X0_38_0, (RX0, TX0, 5), rfl, rfl, tyX0_ok, nmX0⟩
set_option maxRecDepth 20000 in
theorem fl_X10_104_0 : mFL "DodgemDebate" 104 0 3 := ⟨(RX0, TX0, 5), "DodgemDebate$Cars", rfl, by decide, iw_0, (mtb 78 (by decide +kernel) rfl), Or.inr (mtb 71 (by decide +kernel) rfl)⟩
theorem fw_X10_104_0 : mFW "DodgemDebate" 104 0 3 := ⟨fl_X10_104_0, (RX0, TX0, 5), rfl, rfl, tyX0_ok, nmX0⟩
set_option maxRecDepth 20000 in
theorem fl_X10_111_6 : mFL "DodgemDebate" 111 6 3 := ⟨(RX6, TX6, 5), "DodgemDebate$Steers", rfl, by decide, iw_6, (mtb 79 (by decide +kernel) rfl), Or.inr (mtb 73 (by decide +kernel) rfl)⟩
theorem fw_X10_111_6 : mFW "DodgemDebate" 111 6 3 := ⟨fl_X10_111_6, (RX6, TX6, 5), rfl, rfl, tyX6_ok, nmX6⟩
set_option maxRecDepth 20000 in
theorem fl_X8_9_0 : mFL "DodgemDebate$Told" 9 0 4 := ⟨(RX0, TX0, 5), "DodgemDebate$Told", rfl, by decide, iw_0, (mtb 80 (by decide +kernel) rfl), Or.inl rfl⟩
theorem fw_X8_9_0 : mFW "DodgemDebate$Told" 9 0 4 := ⟨fl_X8_9_0, (RX0, TX0, 5), rfl, rfl, tyX0_ok, nmX0⟩
set_option maxRecDepth 20000 in
theorem fl_X8_9_6 : mFL "DodgemDebate$Told" 9 6 4 := ⟨(RX6, TX6, 5), "DodgemDebate$Told", rfl, by decide, iw_6, (mtb 80 (by decide +kernel) rfl), Or.inl rfl⟩
theorem fw_X8_9_6 : mFW "DodgemDebate$Told" 9 6 4 := ⟨fl_X8_9_6, (RX6, TX6, 5), rfl, rfl, tyX6_ok, nmX6⟩
set_option maxRecDepth 20000 in
theorem fl_X10_100_0 : mFL "DodgemDebate" 100 0 4 := ⟨(RX0, TX0, 5), "DodgemDebate$Cars", rfl, by decide, iw_0, (mtb 81 (by decide +kernel) rfl), Or.inr (mtb 82 (by decide +kernel) rfl)⟩
theorem fw_X10_100_0 : mFW "DodgemDebate" 100 0 4 := ⟨fl_X10_100_0, (RX0, TX0, 5), rfl, rfl, tyX0_ok, nmX0⟩
set_option maxRecDepth 20000 in
theorem fl_X10_103_6 : mFL "DodgemDebate" 103 6 4 := ⟨(RX6, TX6, 5), "DodgemDebate$Steers", rfl, by decide, iw_6, (mtb 83 (by decide +kernel) rfl), Or.inr (mtb 84 (by decide +kernel) rfl)⟩
theorem fw_X10_103_6 : mFW "DodgemDebate" 103 6 4 := ⟨fl_X10_103_6, (RX6, TX6, 5), rfl, rfl, tyX6_ok, nmX6⟩
set_option maxRecDepth 20000 in
theorem fl_X1_9_1 : mFL "DodgemDebate$Events" 9 1 0 := ⟨(RX1, TX1, 4), "DodgemDebate$Events", rfl, by decide, iw_1, (mtb 115 (by decide +kernel) rfl), Or.inl rfl⟩
set_option maxRecDepth 20000 in
theorem fl_X3_83_1 : mFL "DodgemDebate$Run" 83 1 0 := ⟨(RX1, TX1, 4), "DodgemDebate$Events", rfl, by decide, iw_1, (mtb 116 (by decide +kernel) rfl), Or.inl rfl⟩
set_option maxRecDepth 20000 in
theorem fl_X1_15_1 : mFL "DodgemDebate$Events" 15 1 1 := ⟨(RX1, TX1, 4), "DodgemDebate$Events", rfl, by decide, iw_1, (mtb 117 (by decide +kernel) rfl), Or.inl rfl⟩
set_option maxRecDepth 20000 in
theorem fl_X3_80_1 : mFL "DodgemDebate$Run" 80 1 1 := ⟨(RX1, TX1, 4), "DodgemDebate$Events", rfl, by decide, iw_1, (mtb 118 (by decide +kernel) rfl), Or.inl rfl⟩
set_option maxRecDepth 20000 in
theorem fl_X1_18_1 : mFL "DodgemDebate$Events" 18 1 2 := ⟨(RX1, TX1, 4), "DodgemDebate$Events", rfl, by decide, iw_1, (mtb 119 (by decide +kernel) rfl), Or.inl rfl⟩
set_option maxRecDepth 20000 in
theorem fl_X3_86_1 : mFL "DodgemDebate$Run" 86 1 2 := ⟨(RX1, TX1, 4), "DodgemDebate$Events", rfl, by decide, iw_1, (mtb 120 (by decide +kernel) rfl), Or.inl rfl⟩
set_option maxRecDepth 20000 in
theorem fl_X1_25_1 : mFL "DodgemDebate$Events" 25 1 3 := ⟨(RX1, TX1, 4), "DodgemDebate$Events", rfl, by decide, iw_1, (mtb 121 (by decide +kernel) rfl), Or.inl rfl⟩
theorem fw_X1_25_1 : mFW "DodgemDebate$Events" 25 1 3 := ⟨fl_X1_25_1, (RX1, TX1, 4), rfl, rfl, tyX1_ok, nmX1⟩
set_option maxRecDepth 20000 in
theorem fl_X3_77_1 : mFL "DodgemDebate$Run" 77 1 3 := ⟨(RX1, TX1, 4), "DodgemDebate$Events", rfl, by decide, iw_1, (mtb 122 (by decide +kernel) rfl), Or.inl rfl⟩
theorem fw_X3_77_1 : mFW "DodgemDebate$Run" 77 1 3 := ⟨fl_X3_77_1, (RX1, TX1, 4), rfl, rfl, tyX1_ok, nmX1⟩
set_option maxRecDepth 20000 in
theorem fl_X9_90_1 : mFL "DodgemDebate$Trials" 90 1 3 := ⟨(RX1, TX1, 4), "DodgemDebate$Events", rfl, by decide, iw_1, (mtb 123 (by decide +kernel) rfl), Or.inl rfl⟩
theorem fw_X9_90_1 : mFW "DodgemDebate$Trials" 90 1 3 := ⟨fl_X9_90_1, (RX1, TX1, 4), rfl, rfl, tyX1_ok, nmX1⟩
set_option maxRecDepth 20000 in
theorem fl_X10_117_1 : mFL "DodgemDebate" 117 1 3 := ⟨(RX1, TX1, 4), "DodgemDebate$Events", rfl, by decide, iw_1, (mtb 124 (by decide +kernel) rfl), Or.inl rfl⟩
theorem fw_X10_117_1 : mFW "DodgemDebate" 117 1 3 := ⟨fl_X10_117_1, (RX1, TX1, 4), rfl, rfl, tyX1_ok, nmX1⟩
set_option maxRecDepth 20000 in
theorem fl_X5_9_5 : mFL "DodgemDebate$Sightings" 9 5 0 := ⟨(RX5, TX5, 5), "DodgemDebate$Sightings", rfl, by decide, iw_5, (mtb 140 (by decide +kernel) rfl), Or.inl rfl⟩
set_option maxRecDepth 20000 in
theorem fl_X5_15_5 : mFL "DodgemDebate$Sightings" 15 5 1 := ⟨(RX5, TX5, 5), "DodgemDebate$Sightings", rfl, by decide, iw_5, (mtb 141 (by decide +kernel) rfl), Or.inl rfl⟩
set_option maxRecDepth 20000 in
theorem fl_X5_18_5 : mFL "DodgemDebate$Sightings" 18 5 2 := ⟨(RX5, TX5, 5), "DodgemDebate$Sightings", rfl, by decide, iw_5, (mtb 142 (by decide +kernel) rfl), Or.inl rfl⟩
set_option maxRecDepth 20000 in
theorem fl_X5_21_5 : mFL "DodgemDebate$Sightings" 21 5 3 := ⟨(RX5, TX5, 5), "DodgemDebate$Sightings", rfl, by decide, iw_5, (mtb 143 (by decide +kernel) rfl), Or.inl rfl⟩
set_option maxRecDepth 20000 in
theorem fl_X5_24_5 : mFL "DodgemDebate$Sightings" 24 5 4 := ⟨(RX5, TX5, 5), "DodgemDebate$Sightings", rfl, by decide, iw_5, (mtb 144 (by decide +kernel) rfl), Or.inl rfl⟩
theorem fw_X5_24_5 : mFW "DodgemDebate$Sightings" 24 5 4 := ⟨fl_X5_24_5, (RX5, TX5, 5), rfl, rfl, tyX5_ok, nmX5⟩
set_option maxRecDepth 20000 in
theorem fl_X10_195_5 : mFL "DodgemDebate" 195 5 4 := ⟨(RX5, TX5, 5), "DodgemDebate$Sightings", rfl, by decide, iw_5, (mtb 145 (by decide +kernel) rfl), Or.inl rfl⟩
theorem fw_X10_195_5 : mFW "DodgemDebate" 195 5 4 := ⟨fl_X10_195_5, (RX5, TX5, 5), rfl, rfl, tyX5_ok, nmX5⟩
set_option maxRecDepth 20000 in
theorem fl_X4_13_4 : mFL "DodgemDebate$Sheets" 13 4 0 := ⟨(RX4, TX4, 4), "DodgemDebate$Sheets", rfl, by decide, iw_4, (mtb 164 (by decide +kernel) rfl), Or.inl rfl⟩
set_option maxRecDepth 20000 in
theorem fl_X10_129_4 : mFL "DodgemDebate" 129 4 0 := ⟨(RX4, TX4, 4), "DodgemDebate$Sheets", rfl, by decide, iw_4, (mtb 165 (by decide +kernel) rfl), Or.inl rfl⟩
set_option maxRecDepth 20000 in
theorem fl_X4_16_4 : mFL "DodgemDebate$Sheets" 16 4 1 := ⟨(RX4, TX4, 4), "DodgemDebate$Sheets", rfl, by decide, iw_4, (mtb 166 (by decide +kernel) rfl), Or.inl rfl⟩
set_option maxRecDepth 20000 in
theorem fl_X10_239_4 : mFL "DodgemDebate" 239 4 1 := ⟨(RX4, TX4, 4), "DodgemDebate$Sheets", rfl, by decide, iw_4, (mtb 167 (by decide +kernel) rfl), Or.inl rfl⟩
set_option maxRecDepth 20000 in
theorem fl_X4_20_4 : mFL "DodgemDebate$Sheets" 20 4 2 := ⟨(RX4, TX4, 4), "DodgemDebate$Sheets", rfl, by decide, iw_4, (mtb 168 (by decide +kernel) rfl), Or.inl rfl⟩
set_option maxRecDepth 20000 in
theorem fl_X10_132_4 : mFL "DodgemDebate" 132 4 2 := ⟨(RX4, TX4, 4), "DodgemDebate$Sheets", rfl, by decide, iw_4, (mtb 169 (by decide +kernel) rfl), Or.inl rfl⟩
set_option maxRecDepth 20000 in
theorem fl_X4_23_4 : mFL "DodgemDebate$Sheets" 23 4 3 := ⟨(RX4, TX4, 4), "DodgemDebate$Sheets", rfl, by decide, iw_4, (mtb 170 (by decide +kernel) rfl), Or.inl rfl⟩
theorem fw_X4_23_4 : mFW "DodgemDebate$Sheets" 23 4 3 := ⟨fl_X4_23_4, (RX4, TX4, 4), rfl, rfl, tyX4_ok, nmX4⟩
set_option maxRecDepth 20000 in
theorem fl_X10_256_4 : mFL "DodgemDebate" 256 4 3 := ⟨(RX4, TX4, 4), "DodgemDebate$Sheets", rfl, by decide, iw_4, (mtb 171 (by decide +kernel) rfl), Or.inl rfl⟩
theorem fw_X10_256_4 : mFW "DodgemDebate" 256 4 3 := ⟨fl_X10_256_4, (RX4, TX4, 4), rfl, rfl, tyX4_ok, nmX4⟩
set_option maxRecDepth 20000 in
theorem fl_X3_13_3 : mFL "DodgemDebate$Run" 13 3 0 := ⟨(RX3, TX3, 10), "DodgemDebate$Run", rfl, by decide, iw_3, (mtb 188 (by decide +kernel) rfl), Or.inl rfl⟩
set_option maxRecDepth 20000 in
theorem fl_X9_74_3 : mFL "DodgemDebate$Trials" 74 3 0 := ⟨(RX3, TX3, 10), "DodgemDebate$Run", rfl, by decide, iw_3, (mtb 189 (by decide +kernel) rfl), Or.inl rfl⟩
set_option maxRecDepth 20000 in
theorem fl_X3_16_3 : mFL "DodgemDebate$Run" 16 3 1 := ⟨(RX3, TX3, 10), "DodgemDebate$Run", rfl, by decide, iw_3, (mtb 190 (by decide +kernel) rfl), Or.inl rfl⟩
set_option maxRecDepth 20000 in
theorem fl_X3_19_3 : mFL "DodgemDebate$Run" 19 3 2 := ⟨(RX3, TX3, 10), "DodgemDebate$Run", rfl, by decide, iw_3, (mtb 191 (by decide +kernel) rfl), Or.inl rfl⟩
set_option maxRecDepth 20000 in
theorem fl_X3_23_3 : mFL "DodgemDebate$Run" 23 3 3 := ⟨(RX3, TX3, 10), "DodgemDebate$Run", rfl, by decide, iw_3, (mtb 192 (by decide +kernel) rfl), Or.inl rfl⟩
set_option maxRecDepth 20000 in
theorem fl_X10_145_3 : mFL "DodgemDebate" 145 3 3 := ⟨(RX3, TX3, 10), "DodgemDebate$Run", rfl, by decide, iw_3, (mtb 193 (by decide +kernel) rfl), Or.inl rfl⟩
set_option maxRecDepth 20000 in
theorem fl_X3_26_3 : mFL "DodgemDebate$Run" 26 3 4 := ⟨(RX3, TX3, 10), "DodgemDebate$Run", rfl, by decide, iw_3, (mtb 194 (by decide +kernel) rfl), Or.inl rfl⟩
set_option maxRecDepth 20000 in
theorem fl_X10_170_3 : mFL "DodgemDebate" 170 3 4 := ⟨(RX3, TX3, 10), "DodgemDebate$Run", rfl, by decide, iw_3, (mtb 195 (by decide +kernel) rfl), Or.inl rfl⟩
set_option maxRecDepth 20000 in
theorem fl_X3_48_3 : mFL "DodgemDebate$Run" 48 3 5 := ⟨(RX3, TX3, 10), "DodgemDebate$Run", rfl, by decide, iw_3, (mtb 196 (by decide +kernel) rfl), Or.inl rfl⟩
theorem fw_X3_48_3 : mFW "DodgemDebate$Run" 48 3 5 := ⟨fl_X3_48_3, (RX3, TX3, 10), rfl, rfl, tyX3_ok, nmX3⟩
set_option maxRecDepth 20000 in
theorem fl_X5_28_3 : mFL "DodgemDebate$Sightings" 28 3 5 := ⟨(RX3, TX3, 10), "DodgemDebate$Run", rfl, by decide, iw_3, (mtb 197 (by decide +kernel) rfl), Or.inl rfl⟩
theorem fw_X5_28_3 : mFW "DodgemDebate$Sightings" 28 3 5 := ⟨fl_X5_28_3, (RX3, TX3, 10), rfl, rfl, tyX3_ok, nmX3⟩
set_option maxRecDepth 20000 in
theorem fl_X9_133_3 : mFL "DodgemDebate$Trials" 133 3 5 := ⟨(RX3, TX3, 10), "DodgemDebate$Run", rfl, by decide, iw_3, (mtb 198 (by decide +kernel) rfl), Or.inl rfl⟩
theorem fw_X9_133_3 : mFW "DodgemDebate$Trials" 133 3 5 := ⟨fl_X9_133_3, (RX3, TX3, 10), rfl, rfl, tyX3_ok, nmX3⟩
set_option maxRecDepth 20000 in
theorem fl_X3_62_3 : mFL "DodgemDebate$Run" 62 3 6 := ⟨(RX3, TX3, 10), "DodgemDebate$Run", rfl, by decide, iw_3, (mtb 199 (by decide +kernel) rfl), Or.inl rfl⟩
theorem fw_X3_62_3 : mFW "DodgemDebate$Run" 62 3 6 := ⟨fl_X3_62_3, (RX3, TX3, 10), rfl, rfl, tyX3_ok, nmX3⟩
set_option maxRecDepth 20000 in
theorem fl_X10_151_3 : mFL "DodgemDebate" 151 3 6 := ⟨(RX3, TX3, 10), "DodgemDebate$Run", rfl, by decide, iw_3, (mtb 200 (by decide +kernel) rfl), Or.inl rfl⟩
theorem fw_X10_151_3 : mFW "DodgemDebate" 151 3 6 := ⟨fl_X10_151_3, (RX3, TX3, 10), rfl, rfl, tyX3_ok, nmX3⟩
set_option maxRecDepth 20000 in
theorem fl_X3_29_3 : mFL "DodgemDebate$Run" 29 3 7 := ⟨(RX3, TX3, 10), "DodgemDebate$Run", rfl, by decide, iw_3, (mtb 201 (by decide +kernel) rfl), Or.inl rfl⟩
theorem fw_X3_29_3 : mFW "DodgemDebate$Run" 29 3 7 := ⟨fl_X3_29_3, (RX3, TX3, 10), rfl, rfl, tyX3_ok, nmX3⟩
set_option maxRecDepth 20000 in
theorem fl_X10_154_3 : mFL "DodgemDebate" 154 3 7 := ⟨(RX3, TX3, 10), "DodgemDebate$Run", rfl, by decide, iw_3, (mtb 202 (by decide +kernel) rfl), Or.inl rfl⟩
theorem fw_X10_154_3 : mFW "DodgemDebate" 154 3 7 := ⟨fl_X10_154_3, (RX3, TX3, 10), rfl, rfl, tyX3_ok, nmX3⟩
set_option maxRecDepth 20000 in
theorem fl_X3_33_3 : mFL "DodgemDebate$Run" 33 3 8 := ⟨(RX3, TX3, 10), "DodgemDebate$Run", rfl, by decide, iw_3, (mtb 203 (by decide +kernel) rfl), Or.inl rfl⟩
theorem fw_X3_33_3 : mFW "DodgemDebate$Run" 33 3 8 := ⟨fl_X3_33_3, (RX3, TX3, 10), rfl, rfl, tyX3_ok, nmX3⟩
set_option maxRecDepth 20000 in
theorem fl_X10_157_3 : mFL "DodgemDebate" 157 3 8 := ⟨(RX3, TX3, 10), "DodgemDebate$Run", rfl, by decide, iw_3, (mtb 204 (by decide +kernel) rfl), Or.inl rfl⟩
theorem fw_X10_157_3 : mFW "DodgemDebate" 157 3 8 := ⟨fl_X10_157_3, (RX3, TX3, 10), rfl, rfl, tyX3_ok, nmX3⟩
set_option maxRecDepth 20000 in
theorem fl_X3_65_3 : mFL "DodgemDebate$Run" 65 3 9 := ⟨(RX3, TX3, 10), "DodgemDebate$Run", rfl, by decide, iw_3, (mtb 205 (by decide +kernel) rfl), Or.inl rfl⟩
theorem fw_X3_65_3 : mFW "DodgemDebate$Run" 65 3 9 := ⟨fl_X3_65_3, (RX3, TX3, 10), rfl, rfl, tyX3_ok, nmX3⟩
set_option maxRecDepth 20000 in
theorem fl_X9_41_8 : mFL "DodgemDebate$Trials" 41 8 0 := ⟨(RX9, TX9, 10), "DodgemDebate$Trials", rfl, by decide, iw_8, (mtb 240 (by decide +kernel) rfl), Or.inl rfl⟩
set_option maxRecDepth 20000 in
theorem fl_X9_44_8 : mFL "DodgemDebate$Trials" 44 8 1 := ⟨(RX9, TX9, 10), "DodgemDebate$Trials", rfl, by decide, iw_8, (mtb 241 (by decide +kernel) rfl), Or.inl rfl⟩
set_option maxRecDepth 20000 in
theorem fl_X9_48_8 : mFL "DodgemDebate$Trials" 48 8 2 := ⟨(RX9, TX9, 10), "DodgemDebate$Trials", rfl, by decide, iw_8, (mtb 242 (by decide +kernel) rfl), Or.inl rfl⟩
set_option maxRecDepth 20000 in
theorem fl_X9_51_8 : mFL "DodgemDebate$Trials" 51 8 3 := ⟨(RX9, TX9, 10), "DodgemDebate$Trials", rfl, by decide, iw_8, (mtb 243 (by decide +kernel) rfl), Or.inl rfl⟩
set_option maxRecDepth 20000 in
theorem fl_X9_12_8 : mFL "DodgemDebate$Trials" 12 8 4 := ⟨(RX9, TX9, 10), "DodgemDebate$Trials", rfl, by decide, iw_8, (mtb 244 (by decide +kernel) rfl), Or.inl rfl⟩
set_option maxRecDepth 20000 in
theorem fl_X9_21_8 : mFL "DodgemDebate$Trials" 21 8 5 := ⟨(RX9, TX9, 10), "DodgemDebate$Trials", rfl, by decide, iw_8, (mtb 245 (by decide +kernel) rfl), Or.inl rfl⟩
set_option maxRecDepth 20000 in
theorem fl_X9_28_8 : mFL "DodgemDebate$Trials" 28 8 6 := ⟨(RX9, TX9, 10), "DodgemDebate$Trials", rfl, by decide, iw_8, (mtb 246 (by decide +kernel) rfl), Or.inl rfl⟩
set_option maxRecDepth 20000 in
theorem fl_X10_225_8 : mFL "DodgemDebate" 225 8 6 := ⟨(RX9, TX9, 10), "DodgemDebate$Trials", rfl, by decide, iw_8, (mtb 247 (by decide +kernel) rfl), Or.inl rfl⟩
set_option maxRecDepth 20000 in
theorem fl_X9_34_8 : mFL "DodgemDebate$Trials" 34 8 7 := ⟨(RX9, TX9, 10), "DodgemDebate$Trials", rfl, by decide, iw_8, (mtb 248 (by decide +kernel) rfl), Or.inl rfl⟩
set_option maxRecDepth 20000 in
theorem fl_X9_37_8 : mFL "DodgemDebate$Trials" 37 8 8 := ⟨(RX9, TX9, 10), "DodgemDebate$Trials", rfl, by decide, iw_8, (mtb 249 (by decide +kernel) rfl), Or.inl rfl⟩
set_option maxRecDepth 20000 in
theorem fl_X9_129_8 : mFL "DodgemDebate$Trials" 129 8 9 := ⟨(RX9, TX9, 10), "DodgemDebate$Trials", rfl, by decide, iw_8, (mtb 250 (by decide +kernel) rfl), Or.inl rfl⟩
theorem fw_X9_129_8 : mFW "DodgemDebate$Trials" 129 8 9 := ⟨fl_X9_129_8, (RX9, TX9, 10), rfl, rfl, tyX9_ok, nmX9⟩
set_option maxRecDepth 20000 in
theorem fl_X10_311_8 : mFL "DodgemDebate" 311 8 9 := ⟨(RX9, TX9, 10), "DodgemDebate$Trials", rfl, by decide, iw_8, (mtb 251 (by decide +kernel) rfl), Or.inl rfl⟩
theorem fw_X10_311_8 : mFW "DodgemDebate" 311 8 9 := ⟨fl_X10_311_8, (RX9, TX9, 10), rfl, rfl, tyX9_ok, nmX9⟩
set_option maxRecDepth 20000 in
theorem fl_X2_9_2 : mFL "DodgemDebate$Hash" 9 2 0 := ⟨(RX2, TX2, 1), "DodgemDebate$Hash", rfl, by decide, iw_2, (mtb 279 (by decide +kernel) rfl), Or.inl rfl⟩
theorem fw_X2_9_2 : mFW "DodgemDebate$Hash" 9 2 0 := ⟨fl_X2_9_2, (RX2, TX2, 1), rfl, rfl, tyX2_ok, nmX2⟩
set_option maxRecDepth 20000 in
theorem fl_X10_261_2 : mFL "DodgemDebate" 261 2 0 := ⟨(RX2, TX2, 1), "DodgemDebate$Hash", rfl, by decide, iw_2, (mtb 280 (by decide +kernel) rfl), Or.inl rfl⟩
theorem fw_X10_261_2 : mFW "DodgemDebate" 261 2 0 := ⟨fl_X10_261_2, (RX2, TX2, 1), rfl, rfl, tyX2_ok, nmX2⟩
set_option maxRecDepth 20000 in
theorem fl_X10_12_9 : mFL "DodgemDebate" 12 9 0 := ⟨(RX10, TX10, 11), "DodgemDebate", rfl, by decide, iw_9, (mtb 284 (by decide +kernel) rfl), Or.inl rfl⟩
set_option maxRecDepth 20000 in
theorem fl_X10_16_9 : mFL "DodgemDebate" 16 9 1 := ⟨(RX10, TX10, 11), "DodgemDebate", rfl, by decide, iw_9, (mtb 285 (by decide +kernel) rfl), Or.inl rfl⟩
set_option maxRecDepth 20000 in
theorem fl_X10_22_9 : mFL "DodgemDebate" 22 9 2 := ⟨(RX10, TX10, 11), "DodgemDebate", rfl, by decide, iw_9, (mtb 286 (by decide +kernel) rfl), Or.inl rfl⟩
set_option maxRecDepth 20000 in
theorem fl_X10_29_9 : mFL "DodgemDebate" 29 9 3 := ⟨(RX10, TX10, 11), "DodgemDebate", rfl, by decide, iw_9, (mtb 287 (by decide +kernel) rfl), Or.inl rfl⟩
set_option maxRecDepth 20000 in
theorem fl_X10_36_9 : mFL "DodgemDebate" 36 9 4 := ⟨(RX10, TX10, 11), "DodgemDebate", rfl, by decide, iw_9, (mtb 288 (by decide +kernel) rfl), Or.inl rfl⟩
set_option maxRecDepth 20000 in
theorem fl_X10_43_9 : mFL "DodgemDebate" 43 9 5 := ⟨(RX10, TX10, 11), "DodgemDebate", rfl, by decide, iw_9, (mtb 289 (by decide +kernel) rfl), Or.inl rfl⟩
set_option maxRecDepth 20000 in
theorem fl_X10_50_9 : mFL "DodgemDebate" 50 9 6 := ⟨(RX10, TX10, 11), "DodgemDebate", rfl, by decide, iw_9, (mtb 290 (by decide +kernel) rfl), Or.inl rfl⟩
set_option maxRecDepth 20000 in
theorem fl_X10_57_9 : mFL "DodgemDebate" 57 9 7 := ⟨(RX10, TX10, 11), "DodgemDebate", rfl, by decide, iw_9, (mtb 291 (by decide +kernel) rfl), Or.inl rfl⟩
set_option maxRecDepth 20000 in
theorem fl_X10_66_9 : mFL "DodgemDebate" 66 9 8 := ⟨(RX10, TX10, 11), "DodgemDebate", rfl, by decide, iw_9, (mtb 292 (by decide +kernel) rfl), Or.inl rfl⟩
set_option maxRecDepth 20000 in
theorem fl_X10_73_9 : mFL "DodgemDebate" 73 9 9 := ⟨(RX10, TX10, 11), "DodgemDebate", rfl, by decide, iw_9, (mtb 293 (by decide +kernel) rfl), Or.inl rfl⟩
set_option maxRecDepth 20000 in
theorem fl_X10_77_9 : mFL "DodgemDebate" 77 9 10 := ⟨(RX10, TX10, 11), "DodgemDebate", rfl, by decide, iw_9, (mtb 294 (by decide +kernel) rfl), Or.inl rfl⟩
theorem fw_X10_77_9 : mFW "DodgemDebate" 77 9 10 := ⟨fl_X10_77_9, (RX10, TX10, 11), rfl, rfl, tyX10_ok, nmX10⟩
set_option maxRecDepth 20000 in
theorem fl_X11_7_10 : mFL "DodgemDebateModel" 7 10 0 := ⟨(RX11, TX11, 53), "DodgemDebateModel", rfl, by decide, iw_10, (mtb 881 (by decide +kernel) rfl), Or.inl rfl⟩
set_option maxRecDepth 20000 in
theorem fl_X11_13_10 : mFL "DodgemDebateModel" 13 10 1 := ⟨(RX11, TX11, 53), "DodgemDebateModel", rfl, by decide, iw_10, (mtb 882 (by decide +kernel) rfl), Or.inl rfl⟩
set_option maxRecDepth 20000 in
theorem fl_X11_161_10 : mFL "DodgemDebateModel" 161 10 2 := ⟨(RX11, TX11, 53), "DodgemDebateModel", rfl, by decide, iw_10, (mtb 883 (by decide +kernel) rfl), Or.inl rfl⟩
theorem fw_X11_161_10 : mFW "DodgemDebateModel" 161 10 2 := ⟨fl_X11_161_10, (RX11, TX11, 53), rfl, rfl, tyX11_ok, nmX11⟩
set_option maxRecDepth 20000 in
theorem fl_X11_16_10 : mFL "DodgemDebateModel" 16 10 3 := ⟨(RX11, TX11, 53), "DodgemDebateModel", rfl, by decide, iw_10, (mtb 884 (by decide +kernel) rfl), Or.inl rfl⟩
set_option maxRecDepth 20000 in
theorem fl_X11_19_10 : mFL "DodgemDebateModel" 19 10 4 := ⟨(RX11, TX11, 53), "DodgemDebateModel", rfl, by decide, iw_10, (mtb 885 (by decide +kernel) rfl), Or.inl rfl⟩
set_option maxRecDepth 20000 in
theorem fl_X11_22_10 : mFL "DodgemDebateModel" 22 10 5 := ⟨(RX11, TX11, 53), "DodgemDebateModel", rfl, by decide, iw_10, (mtb 886 (by decide +kernel) rfl), Or.inl rfl⟩
set_option maxRecDepth 20000 in
theorem fl_X11_25_10 : mFL "DodgemDebateModel" 25 10 6 := ⟨(RX11, TX11, 53), "DodgemDebateModel", rfl, by decide, iw_10, (mtb 887 (by decide +kernel) rfl), Or.inl rfl⟩
set_option maxRecDepth 20000 in
theorem fl_X11_28_10 : mFL "DodgemDebateModel" 28 10 7 := ⟨(RX11, TX11, 53), "DodgemDebateModel", rfl, by decide, iw_10, (mtb 888 (by decide +kernel) rfl), Or.inl rfl⟩
set_option maxRecDepth 20000 in
theorem fl_X11_165_10 : mFL "DodgemDebateModel" 165 10 8 := ⟨(RX11, TX11, 53), "DodgemDebateModel", rfl, by decide, iw_10, (mtb 889 (by decide +kernel) rfl), Or.inl rfl⟩
theorem fw_X11_165_10 : mFW "DodgemDebateModel" 165 10 8 := ⟨fl_X11_165_10, (RX11, TX11, 53), rfl, rfl, tyX11_ok, nmX11⟩
set_option maxRecDepth 20000 in
theorem fl_X11_31_10 : mFL "DodgemDebateModel" 31 10 9 := ⟨(RX11, TX11, 53), "DodgemDebateModel", rfl, by decide, iw_10, (mtb 890 (by decide +kernel) rfl), Or.inl rfl⟩
set_option maxRecDepth 20000 in
theorem fl_X11_34_10 : mFL "DodgemDebateModel" 34 10 10 := ⟨(RX11, TX11, 53), "DodgemDebateModel", rfl, by decide, iw_10, (mtb 891 (by decide +kernel) rfl), Or.inl rfl⟩
set_option maxRecDepth 20000 in
theorem fl_X11_37_10 : mFL "DodgemDebateModel" 37 10 11 := ⟨(RX11, TX11, 53), "DodgemDebateModel", rfl, by decide, iw_10, (mtb 892 (by decide +kernel) rfl), Or.inl rfl⟩
set_option maxRecDepth 20000 in
theorem fl_X11_204_10 : mFL "DodgemDebateModel" 204 10 12 := ⟨(RX11, TX11, 53), "DodgemDebateModel", rfl, by decide, iw_10, (mtb 893 (by decide +kernel) rfl), Or.inl rfl⟩
theorem fw_X11_204_10 : mFW "DodgemDebateModel" 204 10 12 := ⟨fl_X11_204_10, (RX11, TX11, 53), rfl, rfl, tyX11_ok, nmX11⟩
set_option maxRecDepth 20000 in
theorem fl_X11_40_10 : mFL "DodgemDebateModel" 40 10 13 := ⟨(RX11, TX11, 53), "DodgemDebateModel", rfl, by decide, iw_10, (mtb 894 (by decide +kernel) rfl), Or.inl rfl⟩
set_option maxRecDepth 20000 in
theorem fl_X11_43_10 : mFL "DodgemDebateModel" 43 10 14 := ⟨(RX11, TX11, 53), "DodgemDebateModel", rfl, by decide, iw_10, (mtb 895 (by decide +kernel) rfl), Or.inl rfl⟩
set_option maxRecDepth 20000 in
theorem fl_X11_46_10 : mFL "DodgemDebateModel" 46 10 15 := ⟨(RX11, TX11, 53), "DodgemDebateModel", rfl, by decide, iw_10, (mtb 896 (by decide +kernel) rfl), Or.inl rfl⟩
set_option maxRecDepth 20000 in
theorem fl_X11_217_10 : mFL "DodgemDebateModel" 217 10 16 := ⟨(RX11, TX11, 53), "DodgemDebateModel", rfl, by decide, iw_10, (mtb 897 (by decide +kernel) rfl), Or.inl rfl⟩
theorem fw_X11_217_10 : mFW "DodgemDebateModel" 217 10 16 := ⟨fl_X11_217_10, (RX11, TX11, 53), rfl, rfl, tyX11_ok, nmX11⟩
set_option maxRecDepth 20000 in
theorem fl_X11_220_10 : mFL "DodgemDebateModel" 220 10 17 := ⟨(RX11, TX11, 53), "DodgemDebateModel", rfl, by decide, iw_10, (mtb 898 (by decide +kernel) rfl), Or.inl rfl⟩
theorem fw_X11_220_10 : mFW "DodgemDebateModel" 220 10 17 := ⟨fl_X11_220_10, (RX11, TX11, 53), rfl, rfl, tyX11_ok, nmX11⟩
set_option maxRecDepth 20000 in
theorem fl_X11_49_10 : mFL "DodgemDebateModel" 49 10 18 := ⟨(RX11, TX11, 53), "DodgemDebateModel", rfl, by decide, iw_10, (mtb 899 (by decide +kernel) rfl), Or.inl rfl⟩
set_option maxRecDepth 20000 in
theorem fl_X11_52_10 : mFL "DodgemDebateModel" 52 10 19 := ⟨(RX11, TX11, 53), "DodgemDebateModel", rfl, by decide, iw_10, (mtb 900 (by decide +kernel) rfl), Or.inl rfl⟩
set_option maxRecDepth 20000 in
theorem fl_X11_55_10 : mFL "DodgemDebateModel" 55 10 20 := ⟨(RX11, TX11, 53), "DodgemDebateModel", rfl, by decide, iw_10, (mtb 901 (by decide +kernel) rfl), Or.inl rfl⟩
set_option maxRecDepth 20000 in
theorem fl_X11_223_10 : mFL "DodgemDebateModel" 223 10 21 := ⟨(RX11, TX11, 53), "DodgemDebateModel", rfl, by decide, iw_10, (mtb 902 (by decide +kernel) rfl), Or.inl rfl⟩
theorem fw_X11_223_10 : mFW "DodgemDebateModel" 223 10 21 := ⟨fl_X11_223_10, (RX11, TX11, 53), rfl, rfl, tyX11_ok, nmX11⟩
set_option maxRecDepth 20000 in
theorem fl_X11_58_10 : mFL "DodgemDebateModel" 58 10 22 := ⟨(RX11, TX11, 53), "DodgemDebateModel", rfl, by decide, iw_10, (mtb 903 (by decide +kernel) rfl), Or.inl rfl⟩
set_option maxRecDepth 20000 in
theorem fl_X11_61_10 : mFL "DodgemDebateModel" 61 10 23 := ⟨(RX11, TX11, 53), "DodgemDebateModel", rfl, by decide, iw_10, (mtb 904 (by decide +kernel) rfl), Or.inl rfl⟩
set_option maxRecDepth 20000 in
theorem fl_X11_64_10 : mFL "DodgemDebateModel" 64 10 24 := ⟨(RX11, TX11, 53), "DodgemDebateModel", rfl, by decide, iw_10, (mtb 905 (by decide +kernel) rfl), Or.inl rfl⟩
set_option maxRecDepth 20000 in
theorem fl_X11_67_10 : mFL "DodgemDebateModel" 67 10 25 := ⟨(RX11, TX11, 53), "DodgemDebateModel", rfl, by decide, iw_10, (mtb 906 (by decide +kernel) rfl), Or.inl rfl⟩
set_option maxRecDepth 20000 in
theorem fl_X11_70_10 : mFL "DodgemDebateModel" 70 10 26 := ⟨(RX11, TX11, 53), "DodgemDebateModel", rfl, by decide, iw_10, (mtb 907 (by decide +kernel) rfl), Or.inl rfl⟩
set_option maxRecDepth 20000 in
theorem fl_X11_73_10 : mFL "DodgemDebateModel" 73 10 27 := ⟨(RX11, TX11, 53), "DodgemDebateModel", rfl, by decide, iw_10, (mtb 908 (by decide +kernel) rfl), Or.inl rfl⟩
set_option maxRecDepth 20000 in
theorem fl_X11_256_10 : mFL "DodgemDebateModel" 256 10 28 := ⟨(RX11, TX11, 53), "DodgemDebateModel", rfl, by decide, iw_10, (mtb 909 (by decide +kernel) rfl), Or.inl rfl⟩
theorem fw_X11_256_10 : mFW "DodgemDebateModel" 256 10 28 := ⟨fl_X11_256_10, (RX11, TX11, 53), rfl, rfl, tyX11_ok, nmX11⟩
set_option maxRecDepth 20000 in
theorem fl_X11_226_10 : mFL "DodgemDebateModel" 226 10 29 := ⟨(RX11, TX11, 53), "DodgemDebateModel", rfl, by decide, iw_10, (mtb 910 (by decide +kernel) rfl), Or.inl rfl⟩
theorem fw_X11_226_10 : mFW "DodgemDebateModel" 226 10 29 := ⟨fl_X11_226_10, (RX11, TX11, 53), rfl, rfl, tyX11_ok, nmX11⟩
set_option maxRecDepth 20000 in
theorem fl_X11_229_10 : mFL "DodgemDebateModel" 229 10 30 := ⟨(RX11, TX11, 53), "DodgemDebateModel", rfl, by decide, iw_10, (mtb 911 (by decide +kernel) rfl), Or.inl rfl⟩
theorem fw_X11_229_10 : mFW "DodgemDebateModel" 229 10 30 := ⟨fl_X11_229_10, (RX11, TX11, 53), rfl, rfl, tyX11_ok, nmX11⟩
set_option maxRecDepth 20000 in
theorem fl_X11_232_10 : mFL "DodgemDebateModel" 232 10 31 := ⟨(RX11, TX11, 53), "DodgemDebateModel", rfl, by decide, iw_10, (mtb 912 (by decide +kernel) rfl), Or.inl rfl⟩
theorem fw_X11_232_10 : mFW "DodgemDebateModel" 232 10 31 := ⟨fl_X11_232_10, (RX11, TX11, 53), rfl, rfl, tyX11_ok, nmX11⟩
set_option maxRecDepth 20000 in
theorem fl_X11_76_10 : mFL "DodgemDebateModel" 76 10 32 := ⟨(RX11, TX11, 53), "DodgemDebateModel", rfl, by decide, iw_10, (mtb 913 (by decide +kernel) rfl), Or.inl rfl⟩
set_option maxRecDepth 20000 in
theorem fl_X11_79_10 : mFL "DodgemDebateModel" 79 10 33 := ⟨(RX11, TX11, 53), "DodgemDebateModel", rfl, by decide, iw_10, (mtb 914 (by decide +kernel) rfl), Or.inl rfl⟩
set_option maxRecDepth 20000 in
theorem fl_X11_82_10 : mFL "DodgemDebateModel" 82 10 34 := ⟨(RX11, TX11, 53), "DodgemDebateModel", rfl, by decide, iw_10, (mtb 915 (by decide +kernel) rfl), Or.inl rfl⟩
set_option maxRecDepth 20000 in
theorem fl_X11_85_10 : mFL "DodgemDebateModel" 85 10 35 := ⟨(RX11, TX11, 53), "DodgemDebateModel", rfl, by decide, iw_10, (mtb 916 (by decide +kernel) rfl), Or.inl rfl⟩
set_option maxRecDepth 20000 in
theorem fl_X11_88_10 : mFL "DodgemDebateModel" 88 10 36 := ⟨(RX11, TX11, 53), "DodgemDebateModel", rfl, by decide, iw_10, (mtb 917 (by decide +kernel) rfl), Or.inl rfl⟩
set_option maxRecDepth 20000 in
theorem fl_X11_91_10 : mFL "DodgemDebateModel" 91 10 37 := ⟨(RX11, TX11, 53), "DodgemDebateModel", rfl, by decide, iw_10, (mtb 918 (by decide +kernel) rfl), Or.inl rfl⟩
set_option maxRecDepth 20000 in
theorem fl_X11_94_10 : mFL "DodgemDebateModel" 94 10 38 := ⟨(RX11, TX11, 53), "DodgemDebateModel", rfl, by decide, iw_10, (mtb 919 (by decide +kernel) rfl), Or.inl rfl⟩
set_option maxRecDepth 20000 in
theorem fl_X11_97_10 : mFL "DodgemDebateModel" 97 10 39 := ⟨(RX11, TX11, 53), "DodgemDebateModel", rfl, by decide, iw_10, (mtb 920 (by decide +kernel) rfl), Or.inl rfl⟩
set_option maxRecDepth 20000 in
theorem fl_X11_100_10 : mFL "DodgemDebateModel" 100 10 40 := ⟨(RX11, TX11, 53), "DodgemDebateModel", rfl, by decide, iw_10, (mtb 921 (by decide +kernel) rfl), Or.inl rfl⟩
set_option maxRecDepth 20000 in
theorem fl_X11_334_10 : mFL "DodgemDebateModel" 334 10 41 := ⟨(RX11, TX11, 53), "DodgemDebateModel", rfl, by decide, iw_10, (mtb 922 (by decide +kernel) rfl), Or.inl rfl⟩
theorem fw_X11_334_10 : mFW "DodgemDebateModel" 334 10 41 := ⟨fl_X11_334_10, (RX11, TX11, 53), rfl, rfl, tyX11_ok, nmX11⟩
set_option maxRecDepth 20000 in
theorem fl_X11_103_10 : mFL "DodgemDebateModel" 103 10 42 := ⟨(RX11, TX11, 53), "DodgemDebateModel", rfl, by decide, iw_10, (mtb 923 (by decide +kernel) rfl), Or.inl rfl⟩
set_option maxRecDepth 20000 in
theorem fl_X11_106_10 : mFL "DodgemDebateModel" 106 10 43 := ⟨(RX11, TX11, 53), "DodgemDebateModel", rfl, by decide, iw_10, (mtb 924 (by decide +kernel) rfl), Or.inl rfl⟩
set_option maxRecDepth 20000 in
theorem fl_X11_109_10 : mFL "DodgemDebateModel" 109 10 44 := ⟨(RX11, TX11, 53), "DodgemDebateModel", rfl, by decide, iw_10, (mtb 925 (by decide +kernel) rfl), Or.inl rfl⟩
set_option maxRecDepth 20000 in
theorem fl_X11_112_10 : mFL "DodgemDebateModel" 112 10 45 := ⟨(RX11, TX11, 53), "DodgemDebateModel", rfl, by decide, iw_10, (mtb 926 (by decide +kernel) rfl), Or.inl rfl⟩
set_option maxRecDepth 20000 in
theorem fl_X11_115_10 : mFL "DodgemDebateModel" 115 10 46 := ⟨(RX11, TX11, 53), "DodgemDebateModel", rfl, by decide, iw_10, (mtb 927 (by decide +kernel) rfl), Or.inl rfl⟩
set_option maxRecDepth 20000 in
theorem fl_X11_118_10 : mFL "DodgemDebateModel" 118 10 47 := ⟨(RX11, TX11, 53), "DodgemDebateModel", rfl, by decide, iw_10, (mtb 928 (by decide +kernel) rfl), Or.inl rfl⟩
set_option maxRecDepth 20000 in
theorem fl_X11_122_10 : mFL "DodgemDebateModel" 122 10 48 := ⟨(RX11, TX11, 53), "DodgemDebateModel", rfl, by decide, iw_10, (mtb 929 (by decide +kernel) rfl), Or.inl rfl⟩
set_option maxRecDepth 20000 in
theorem fl_X11_125_10 : mFL "DodgemDebateModel" 125 10 49 := ⟨(RX11, TX11, 53), "DodgemDebateModel", rfl, by decide, iw_10, (mtb 930 (by decide +kernel) rfl), Or.inl rfl⟩
set_option maxRecDepth 20000 in
theorem fl_X11_128_10 : mFL "DodgemDebateModel" 128 10 50 := ⟨(RX11, TX11, 53), "DodgemDebateModel", rfl, by decide, iw_10, (mtb 931 (by decide +kernel) rfl), Or.inl rfl⟩
set_option maxRecDepth 20000 in
theorem fl_X11_131_10 : mFL "DodgemDebateModel" 131 10 51 := ⟨(RX11, TX11, 53), "DodgemDebateModel", rfl, by decide, iw_10, (mtb 932 (by decide +kernel) rfl), Or.inl rfl⟩
set_option maxRecDepth 20000 in
theorem fl_X11_372_10 : mFL "DodgemDebateModel" 372 10 52 := ⟨(RX11, TX11, 53), "DodgemDebateModel", rfl, by decide, iw_10, (mtb 933 (by decide +kernel) rfl), Or.inl rfl⟩
theorem fw_X11_372_10 : mFW "DodgemDebateModel" 372 10 52 := ⟨fl_X11_372_10, (RX11, TX11, 53), rfl, rfl, tyX11_ok, nmX11⟩
set_option maxRecDepth 20000 in
theorem cm_X10_init : Cond.code kX10_init.1 kX10_init.2.1 kX10_init.2.2.1 kX10_init.2.2.2 ∈ mtbl := mtb 26 (by rfl) rfl
set_option maxRecDepth 20000 in
theorem cm_X7_init : Cond.code kX7_init.1 kX7_init.2.1 kX7_init.2.2.1 kX7_init.2.2.2 ∈ mtbl := mtb 34 (by rfl) rfl
set_option maxRecDepth 20000 in
theorem cm_X0_init : Cond.code kX0_init.1 kX0_init.2.1 kX0_init.2.2.1 kX0_init.2.2.2 ∈ mtbl := mtb 51 (by rfl) rfl
set_option maxRecDepth 20000 in
theorem cm_X8_init : Cond.code kX8_init.1 kX8_init.2.1 kX8_init.2.2.1 kX8_init.2.2.2 ∈ mtbl := mtb 56 (by rfl) rfl
set_option maxRecDepth 20000 in
theorem cm_X6_init : Cond.code kX6_init.1 kX6_init.2.1 kX6_init.2.2.1 kX6_init.2.2.2 ∈ mtbl := mtb 100 (by rfl) rfl
set_option maxRecDepth 20000 in
theorem cm_X1_init : Cond.code kX1_init.1 kX1_init.2.1 kX1_init.2.2.1 kX1_init.2.2.2 ∈ mtbl := mtb 113 (by rfl) rfl
set_option maxRecDepth 20000 in
theorem cm_X5_init : Cond.code kX5_init.1 kX5_init.2.1 kX5_init.2.2.1 kX5_init.2.2.2 ∈ mtbl := mtb 138 (by rfl) rfl
set_option maxRecDepth 20000 in
theorem cm_X4_init : Cond.code kX4_init.1 kX4_init.2.1 kX4_init.2.2.1 kX4_init.2.2.2 ∈ mtbl := mtb 161 (by rfl) rfl
set_option maxRecDepth 20000 in
theorem cm_X3_init : Cond.code kX3_init.1 kX3_init.2.1 kX3_init.2.2.1 kX3_init.2.2.2 ∈ mtbl := mtb 185 (by rfl) rfl
set_option maxRecDepth 20000 in
theorem cm_X9_init : Cond.code kX9_init.1 kX9_init.2.1 kX9_init.2.2.1 kX9_init.2.2.2 ∈ mtbl := mtb 231 (by rfl) rfl
set_option maxRecDepth 20000 in
theorem cm_X2_init : Cond.code kX2_init.1 kX2_init.2.1 kX2_init.2.2.1 kX2_init.2.2.2 ∈ mtbl := mtb 277 (by rfl) rfl
set_option maxRecDepth 20000 in
theorem cm_X10_type : Cond.code kX10_type.1 kX10_type.2.1 kX10_type.2.2.1 kX10_type.2.2.2 ∈ mtbl := mtb 321 (by rfl) rfl
set_option maxRecDepth 20000 in
theorem cm_X10_within : Cond.code kX10_within.1 kX10_within.2.1 kX10_within.2.2.1 kX10_within.2.2.2 ∈ mtbl := mtb 324 (by rfl) rfl
set_option maxRecDepth 20000 in
theorem cm_X10_textOf : Cond.code kX10_textOf.1 kX10_textOf.2.1 kX10_textOf.2.2.1 kX10_textOf.2.2.2 ∈ mtbl := mtb 328 (by rfl) rfl
set_option maxRecDepth 20000 in
theorem cm_X7_append : Cond.code kX7_append.1 kX7_append.2.1 kX7_append.2.2.1 kX7_append.2.2.2 ∈ mtbl := mtb 332 (by rfl) rfl
set_option maxRecDepth 20000 in
theorem cm_X10_wipe : Cond.code kX10_wipe.1 kX10_wipe.2.1 kX10_wipe.2.2.1 kX10_wipe.2.2.2 ∈ mtbl := mtb 336 (by rfl) rfl
set_option maxRecDepth 20000 in
theorem cm_X10_undo : Cond.code kX10_undo.1 kX10_undo.2.1 kX10_undo.2.2.1 kX10_undo.2.2.2 ∈ mtbl := mtb 340 (by rfl) rfl
set_option maxRecDepth 20000 in
theorem cm_X10_fault : Cond.code kX10_fault.1 kX10_fault.2.1 kX10_fault.2.2.1 kX10_fault.2.2.2 ∈ mtbl := mtb 344 (by rfl) rfl
set_option maxRecDepth 20000 in
theorem cm_X10_settle : Cond.code kX10_settle.1 kX10_settle.2.1 kX10_settle.2.2.1 kX10_settle.2.2.2 ∈ mtbl := mtb 348 (by rfl) rfl
set_option maxRecDepth 20000 in
theorem cm_X8_learn : Cond.code kX8_learn.1 kX8_learn.2.1 kX8_learn.2.2.1 kX8_learn.2.2.2 ∈ mtbl := mtb 354 (by rfl) rfl
set_option maxRecDepth 20000 in
theorem cm_X8_takes : Cond.code kX8_takes.1 kX8_takes.2.1 kX8_takes.2.2.1 kX8_takes.2.2.2 ∈ mtbl := mtb 358 (by rfl) rfl
set_option maxRecDepth 20000 in
theorem cm_X0_meaning : Cond.code kX0_meaning.1 kX0_meaning.2.1 kX0_meaning.2.2.1 kX0_meaning.2.2.2 ∈ mtbl := mtb 364 (by rfl) rfl
set_option maxRecDepth 20000 in
theorem cm_J0_indexOf_0f7a4 : Cond.code kJ0_indexOf_0f7a4.1 kJ0_indexOf_0f7a4.2.1 kJ0_indexOf_0f7a4.2.2.1 kJ0_indexOf_0f7a4.2.2.2 ∈ mtbl := mtb 369 (by rfl) rfl
set_option maxRecDepth 20000 in
theorem cm_J0_indexOf_7cf53 : Cond.code kJ0_indexOf_7cf53.1 kJ0_indexOf_7cf53.2.1 kJ0_indexOf_7cf53.2.2.1 kJ0_indexOf_7cf53.2.2.2 ∈ mtbl := mtb 373 (by rfl) rfl
set_option maxRecDepth 20000 in
theorem cm_J0_isLatin1_aae02 : Cond.code kJ0_isLatin1_aae02.1 kJ0_isLatin1_aae02.2.1 kJ0_isLatin1_aae02.2.2.1 kJ0_isLatin1_aae02.2.2.2 ∈ mtbl := mtb 377 (by rfl) rfl
set_option maxRecDepth 20000 in
theorem cm_J0_length_8abf5 : Cond.code kJ0_length_8abf5.1 kJ0_length_8abf5.2.1 kJ0_length_8abf5.2.2.1 kJ0_length_8abf5.2.2.2 ∈ mtbl := mtb 383 (by rfl) rfl
set_option maxRecDepth 20000 in
theorem cm_J0_coder_7d493 : Cond.code kJ0_coder_7d493.1 kJ0_coder_7d493.2.1 kJ0_coder_7d493.2.2.1 kJ0_coder_7d493.2.2.2 ∈ mtbl := mtb 387 (by rfl) rfl
set_option maxRecDepth 20000 in
theorem cm_J1_indexOf_4cfef : Cond.code kJ1_indexOf_4cfef.1 kJ1_indexOf_4cfef.2.1 kJ1_indexOf_4cfef.2.2.1 kJ1_indexOf_4cfef.2.2.2 ∈ mtbl := mtb 390 (by rfl) rfl
set_option maxRecDepth 20000 in
theorem cm_J1_canEncode_9a6ad : Cond.code kJ1_canEncode_9a6ad.1 kJ1_canEncode_9a6ad.2.1 kJ1_canEncode_9a6ad.2.2.1 kJ1_canEncode_9a6ad.2.2.2 ∈ mtbl := mtb 393 (by rfl) rfl
set_option maxRecDepth 20000 in
theorem cm_J9_max_7cf53 : Cond.code kJ9_max_7cf53.1 kJ9_max_7cf53.2.1 kJ9_max_7cf53.2.2.1 kJ9_max_7cf53.2.2.2 ∈ mtbl := mtb 396 (by rfl) rfl
set_option maxRecDepth 20000 in
theorem cm_J9_min_7cf53 : Cond.code kJ9_min_7cf53.1 kJ9_min_7cf53.2.1 kJ9_min_7cf53.2.2.1 kJ9_min_7cf53.2.2.2 ∈ mtbl := mtb 399 (by rfl) rfl
set_option maxRecDepth 20000 in
theorem cm_J1_indexOfChar_4cfef : Cond.code kJ1_indexOfChar_4cfef.1 kJ1_indexOfChar_4cfef.2.1 kJ1_indexOfChar_4cfef.2.2.1 kJ1_indexOfChar_4cfef.2.2.2 ∈ mtbl := mtb 402 (by rfl) rfl
set_option maxRecDepth 20000 in
theorem cm_J0_checkBoundsBeginEnd_23922 : Cond.code kJ0_checkBoundsBeginEnd_23922.1 kJ0_checkBoundsBeginEnd_23922.2.1 kJ0_checkBoundsBeginEnd_23922.2.2.1 kJ0_checkBoundsBeginEnd_23922.2.2.2 ∈ mtbl := mtb 420 (by rfl) rfl
set_option maxRecDepth 20000 in
theorem cm_X0_freeY : Cond.code kX0_freeY.1 kX0_freeY.2.1 kX0_freeY.2.2.1 kX0_freeY.2.2.2 ∈ mtbl := mtb 456 (by rfl) rfl
set_option maxRecDepth 20000 in
theorem cm_X0_isTaken : Cond.code kX0_isTaken.1 kX0_isTaken.2.1 kX0_isTaken.2.2.1 kX0_isTaken.2.2.2 ∈ mtbl := mtb 460 (by rfl) rfl
set_option maxRecDepth 20000 in
theorem cm_X6_meaning : Cond.code kX6_meaning.1 kX6_meaning.2.1 kX6_meaning.2.2.1 kX6_meaning.2.2.2 ∈ mtbl := mtb 465 (by rfl) rfl
set_option maxRecDepth 20000 in
theorem cm_X3_play : Cond.code kX3_play.1 kX3_play.2.1 kX3_play.2.2.1 kX3_play.2.2.2 ∈ mtbl := mtb 475 (by rfl) rfl
set_option maxRecDepth 20000 in
theorem cm_X3_begin : Cond.code kX3_begin.1 kX3_begin.2.1 kX3_begin.2.2.1 kX3_begin.2.2.2 ∈ mtbl := mtb 479 (by rfl) rfl
set_option maxRecDepth 20000 in
theorem cm_J7_fill_53178 : Cond.code kJ7_fill_53178.1 kJ7_fill_53178.2.1 kJ7_fill_53178.2.2.1 kJ7_fill_53178.2.2.2 ∈ mtbl := mtb 482 (by rfl) rfl
set_option maxRecDepth 20000 in
theorem cm_X3_doEvents : Cond.code kX3_doEvents.1 kX3_doEvents.2.1 kX3_doEvents.2.2.1 kX3_doEvents.2.2.2 ∈ mtbl := mtb 486 (by rfl) rfl
set_option maxRecDepth 20000 in
theorem cm_X3_doSteers : Cond.code kX3_doSteers.1 kX3_doSteers.2.1 kX3_doSteers.2.2.1 kX3_doSteers.2.2.2 ∈ mtbl := mtb 490 (by rfl) rfl
set_option maxRecDepth 20000 in
theorem cm_X3_go : Cond.code kX3_go.1 kX3_go.2.1 kX3_go.2.2.1 kX3_go.2.2.2 ∈ mtbl := mtb 494 (by rfl) rfl
set_option maxRecDepth 20000 in
theorem cm_X10_onFloor : Cond.code kX10_onFloor.1 kX10_onFloor.2.1 kX10_onFloor.2.2.1 kX10_onFloor.2.2.2 ∈ mtbl := mtb 501 (by rfl) rfl
set_option maxRecDepth 20000 in
theorem cm_X3_countStrike : Cond.code kX3_countStrike.1 kX3_countStrike.2.1 kX3_countStrike.2.2.1 kX3_countStrike.2.2.2 ∈ mtbl := mtb 505 (by rfl) rfl
set_option maxRecDepth 20000 in
theorem cm_X3_shift : Cond.code kX3_shift.1 kX3_shift.2.1 kX3_shift.2.2.1 kX3_shift.2.2.2 ∈ mtbl := mtb 509 (by rfl) rfl
set_option maxRecDepth 20000 in
theorem cm_X3_keep : Cond.code kX3_keep.1 kX3_keep.2.1 kX3_keep.2.2.1 kX3_keep.2.2.2 ∈ mtbl := mtb 513 (by rfl) rfl
set_option maxRecDepth 20000 in
theorem cm_X10_car : Cond.code kX10_car.1 kX10_car.2.1 kX10_car.2.2.1 kX10_car.2.2.2 ∈ mtbl := mtb 521 (by rfl) rfl
set_option maxRecDepth 20000 in
theorem cm_X10_steer : Cond.code kX10_steer.1 kX10_steer.2.1 kX10_steer.2.2.1 kX10_steer.2.2.2 ∈ mtbl := mtb 525 (by rfl) rfl
set_option maxRecDepth 20000 in
theorem cm_X10_event : Cond.code kX10_event.1 kX10_event.2.1 kX10_event.2.2.1 kX10_event.2.2.2 ∈ mtbl := mtb 529 (by rfl) rfl
set_option maxRecDepth 20000 in
theorem cm_X1_fits : Cond.code kX1_fits.1 kX1_fits.2.1 kX1_fits.2.2.1 kX1_fits.2.2.2 ∈ mtbl := mtb 532 (by rfl) rfl
set_option maxRecDepth 20000 in
theorem cm_X1_append : Cond.code kX1_append.1 kX1_append.2.1 kX1_append.2.2.1 kX1_append.2.2.2 ∈ mtbl := mtb 537 (by rfl) rfl
set_option maxRecDepth 20000 in
theorem cm_X10_back : Cond.code kX10_back.1 kX10_back.2.1 kX10_back.2.2.1 kX10_back.2.2.2 ∈ mtbl := mtb 541 (by rfl) rfl
set_option maxRecDepth 20000 in
theorem cm_X10_read : Cond.code kX10_read.1 kX10_read.2.1 kX10_read.2.2.1 kX10_read.2.2.2 ∈ mtbl := mtb 545 (by rfl) rfl
set_option maxRecDepth 20000 in
theorem cm_X4_isLost : Cond.code kX4_isLost.1 kX4_isLost.2.1 kX4_isLost.2.2.1 kX4_isLost.2.2.2 ∈ mtbl := mtb 549 (by rfl) rfl
set_option maxRecDepth 20000 in
theorem cm_X4_found : Cond.code kX4_found.1 kX4_found.2.1 kX4_found.2.2.1 kX4_found.2.2.2 ∈ mtbl := mtb 553 (by rfl) rfl
set_option maxRecDepth 20000 in
theorem cm_X10_at : Cond.code kX10_at.1 kX10_at.2.1 kX10_at.2.2.1 kX10_at.2.2.2 ∈ mtbl := mtb 557 (by rfl) rfl
set_option maxRecDepth 20000 in
theorem cm_X3_behind : Cond.code kX3_behind.1 kX3_behind.2.1 kX3_behind.2.2.1 kX3_behind.2.2.2 ∈ mtbl := mtb 561 (by rfl) rfl
set_option maxRecDepth 20000 in
theorem cm_X10_who : Cond.code kX10_who.1 kX10_who.2.1 kX10_who.2.2.1 kX10_who.2.2.2 ∈ mtbl := mtb 565 (by rfl) rfl
set_option maxRecDepth 20000 in
theorem cm_X3_inCell : Cond.code kX3_inCell.1 kX3_inCell.2.1 kX3_inCell.2.2.1 kX3_inCell.2.2.2 ∈ mtbl := mtb 570 (by rfl) rfl
set_option maxRecDepth 20000 in
theorem cm_X10_house : Cond.code kX10_house.1 kX10_house.2.1 kX10_house.2.2.1 kX10_house.2.2.2 ∈ mtbl := mtb 575 (by rfl) rfl
set_option maxRecDepth 20000 in
theorem cm_X3_ayes : Cond.code kX3_ayes.1 kX3_ayes.2.1 kX3_ayes.2.2.1 kX3_ayes.2.2.2 ∈ mtbl := mtb 579 (by rfl) rfl
set_option maxRecDepth 20000 in
theorem cm_X10_strikes : Cond.code kX10_strikes.1 kX10_strikes.2.1 kX10_strikes.2.2.1 kX10_strikes.2.2.2 ∈ mtbl := mtb 583 (by rfl) rfl
set_option maxRecDepth 20000 in
theorem cm_X10_first : Cond.code kX10_first.1 kX10_first.2.1 kX10_first.2.2.1 kX10_first.2.2.2 ∈ mtbl := mtb 587 (by rfl) rfl
set_option maxRecDepth 20000 in
theorem cm_X10_best : Cond.code kX10_best.1 kX10_best.2.1 kX10_best.2.2.1 kX10_best.2.2.2 ∈ mtbl := mtb 591 (by rfl) rfl
set_option maxRecDepth 20000 in
theorem cm_X3_leader : Cond.code kX3_leader.1 kX3_leader.2.1 kX3_leader.2.2.1 kX3_leader.2.2.2 ∈ mtbl := mtb 595 (by rfl) rfl
set_option maxRecDepth 20000 in
theorem cm_X10_meek : Cond.code kX10_meek.1 kX10_meek.2.1 kX10_meek.2.2.1 kX10_meek.2.2.2 ∈ mtbl := mtb 599 (by rfl) rfl
set_option maxRecDepth 20000 in
theorem cm_X3_untouched : Cond.code kX3_untouched.1 kX3_untouched.2.1 kX3_untouched.2.2.1 kX3_untouched.2.2.2 ∈ mtbl := mtb 603 (by rfl) rfl
set_option maxRecDepth 20000 in
theorem cm_X10_jam : Cond.code kX10_jam.1 kX10_jam.2.1 kX10_jam.2.2.1 kX10_jam.2.2.2 ∈ mtbl := mtb 607 (by rfl) rfl
set_option maxRecDepth 20000 in
theorem cm_X3_worstJam : Cond.code kX3_worstJam.1 kX3_worstJam.2.1 kX3_worstJam.2.2.1 kX3_worstJam.2.2.2 ∈ mtbl := mtb 611 (by rfl) rfl
set_option maxRecDepth 20000 in
theorem cm_X10_carried : Cond.code kX10_carried.1 kX10_carried.2.1 kX10_carried.2.2.1 kX10_carried.2.2.2 ∈ mtbl := mtb 615 (by rfl) rfl
set_option maxRecDepth 20000 in
theorem cm_X10_stand : Cond.code kX10_stand.1 kX10_stand.2.1 kX10_stand.2.2.1 kX10_stand.2.2.2 ∈ mtbl := mtb 619 (by rfl) rfl
set_option maxRecDepth 20000 in
theorem cm_X9_bestStand : Cond.code kX9_bestStand.1 kX9_bestStand.2.1 kX9_bestStand.2.2.1 kX9_bestStand.2.2.2 ∈ mtbl := mtb 623 (by rfl) rfl
set_option maxRecDepth 20000 in
theorem cm_X0_becomeLike : Cond.code kX0_becomeLike.1 kX0_becomeLike.2.1 kX0_becomeLike.2.2.1 kX0_becomeLike.2.2.2 ∈ mtbl := mtb 627 (by rfl) rfl
set_option maxRecDepth 20000 in
theorem cm_X10_standPart : Cond.code kX10_standPart.1 kX10_standPart.2.1 kX10_standPart.2.2.1 kX10_standPart.2.2.2 ∈ mtbl := mtb 633 (by rfl) rfl
set_option maxRecDepth 20000 in
theorem cm_X10_better : Cond.code kX10_better.1 kX10_better.2.1 kX10_better.2.2.1 kX10_better.2.2.2 ∈ mtbl := mtb 637 (by rfl) rfl
set_option maxRecDepth 20000 in
theorem cm_X9_bestTurn : Cond.code kX9_bestTurn.1 kX9_bestTurn.2.1 kX9_bestTurn.2.2.1 kX9_bestTurn.2.2.2 ∈ mtbl := mtb 641 (by rfl) rfl
set_option maxRecDepth 20000 in
theorem cm_X6_lend : Cond.code kX6_lend.1 kX6_lend.2.1 kX6_lend.2.2.1 kX6_lend.2.2.2 ∈ mtbl := mtb 645 (by rfl) rfl
set_option maxRecDepth 20000 in
theorem cm_X6_giveBack : Cond.code kX6_giveBack.1 kX6_giveBack.2.1 kX6_giveBack.2.2.1 kX6_giveBack.2.2.2 ∈ mtbl := mtb 649 (by rfl) rfl
set_option maxRecDepth 20000 in
theorem cm_X10_turnPart : Cond.code kX10_turnPart.1 kX10_turnPart.2.1 kX10_turnPart.2.2.1 kX10_turnPart.2.2.2 ∈ mtbl := mtb 652 (by rfl) rfl
set_option maxRecDepth 20000 in
theorem cm_X10_ring : Cond.code kX10_ring.1 kX10_ring.2.1 kX10_ring.2.2.1 kX10_ring.2.2.2 ∈ mtbl := mtb 656 (by rfl) rfl
set_option maxRecDepth 20000 in
theorem cm_X10_ayesAhead : Cond.code kX10_ayesAhead.1 kX10_ayesAhead.2.1 kX10_ayesAhead.2.2.1 kX10_ayesAhead.2.2.2 ∈ mtbl := mtb 660 (by rfl) rfl
set_option maxRecDepth 20000 in
theorem cm_X0_ayesAsTold : Cond.code kX0_ayesAsTold.1 kX0_ayesAsTold.2.1 kX0_ayesAsTold.2.2.1 kX0_ayesAsTold.2.2.2 ∈ mtbl := mtb 664 (by rfl) rfl
set_option maxRecDepth 20000 in
theorem cm_X10_spare : Cond.code kX10_spare.1 kX10_spare.2.1 kX10_spare.2.2.1 kX10_spare.2.2.2 ∈ mtbl := mtb 668 (by rfl) rfl
set_option maxRecDepth 20000 in
theorem cm_X9_fewestSpared : Cond.code kX9_fewestSpared.1 kX9_fewestSpared.2.1 kX9_fewestSpared.2.2.1 kX9_fewestSpared.2.2.2 ∈ mtbl := mtb 672 (by rfl) rfl
set_option maxRecDepth 20000 in
theorem cm_X9_touchesAll : Cond.code kX9_touchesAll.1 kX9_touchesAll.2.1 kX9_touchesAll.2.2.1 kX9_touchesAll.2.2.2 ∈ mtbl := mtb 676 (by rfl) rfl
set_option maxRecDepth 20000 in
theorem cm_X10_sparePart : Cond.code kX10_sparePart.1 kX10_sparePart.2.1 kX10_sparePart.2.2.1 kX10_sparePart.2.2.2 ∈ mtbl := mtb 680 (by rfl) rfl
set_option maxRecDepth 20000 in
theorem cm_J6_bitCount_0f7a4 : Cond.code kJ6_bitCount_0f7a4.1 kJ6_bitCount_0f7a4.2.1 kJ6_bitCount_0f7a4.2.2.1 kJ6_bitCount_0f7a4.2.2.2 ∈ mtbl := mtb 683 (by rfl) rfl
set_option maxRecDepth 20000 in
theorem cm_X10_seen : Cond.code kX10_seen.1 kX10_seen.2.1 kX10_seen.2.2.1 kX10_seen.2.2.2 ∈ mtbl := mtb 690 (by rfl) rfl
set_option maxRecDepth 20000 in
theorem cm_X5_append : Cond.code kX5_append.1 kX5_append.2.1 kX5_append.2.2.1 kX5_append.2.2.2 ∈ mtbl := mtb 694 (by rfl) rfl
set_option maxRecDepth 20000 in
theorem cm_X10_forget : Cond.code kX10_forget.1 kX10_forget.2.1 kX10_forget.2.2.1 kX10_forget.2.2.2 ∈ mtbl := mtb 698 (by rfl) rfl
set_option maxRecDepth 20000 in
theorem cm_X10_never : Cond.code kX10_never.1 kX10_never.2.1 kX10_never.2.2.1 kX10_never.2.2.2 ∈ mtbl := mtb 702 (by rfl) rfl
set_option maxRecDepth 20000 in
theorem cm_X9_eventsThatNeverWere : Cond.code kX9_eventsThatNeverWere.1 kX9_eventsThatNeverWere.2.1 kX9_eventsThatNeverWere.2.2.1 kX9_eventsThatNeverWere.2.2.2 ∈ mtbl := mtb 706 (by rfl) rfl
set_option maxRecDepth 20000 in
theorem cm_X5_comeOutIn : Cond.code kX5_comeOutIn.1 kX5_comeOutIn.2.1 kX5_comeOutIn.2.2.1 kX5_comeOutIn.2.2.2 ∈ mtbl := mtb 710 (by rfl) rfl
set_option maxRecDepth 20000 in
theorem cm_X10_was : Cond.code kX10_was.1 kX10_was.2.1 kX10_was.2.2.1 kX10_was.2.2.2 ∈ mtbl := mtb 715 (by rfl) rfl
set_option maxRecDepth 20000 in
theorem cm_X9_sortsOf : Cond.code kX9_sortsOf.1 kX9_sortsOf.2.1 kX9_sortsOf.2.2.1 kX9_sortsOf.2.2.2 ∈ mtbl := mtb 719 (by rfl) rfl
set_option maxRecDepth 20000 in
theorem cm_X9_agrees : Cond.code kX9_agrees.1 kX9_agrees.2.1 kX9_agrees.2.2.1 kX9_agrees.2.2.2 ∈ mtbl := mtb 723 (by rfl) rfl
set_option maxRecDepth 20000 in
theorem cm_X9_weightsOf : Cond.code kX9_weightsOf.1 kX9_weightsOf.2.1 kX9_weightsOf.2.2.1 kX9_weightsOf.2.2.2 ∈ mtbl := mtb 727 (by rfl) rfl
set_option maxRecDepth 20000 in
theorem cm_X10_ask : Cond.code kX10_ask.1 kX10_ask.2.1 kX10_ask.2.2.1 kX10_ask.2.2.2 ∈ mtbl := mtb 731 (by rfl) rfl
set_option maxRecDepth 20000 in
theorem cm_X9_momentToLook : Cond.code kX9_momentToLook.1 kX9_momentToLook.2.1 kX9_momentToLook.2.2.1 kX9_momentToLook.2.2.2 ∈ mtbl := mtb 735 (by rfl) rfl
set_option maxRecDepth 20000 in
theorem cm_X9_cellOf : Cond.code kX9_cellOf.1 kX9_cellOf.2.1 kX9_cellOf.2.2.1 kX9_cellOf.2.2.2 ∈ mtbl := mtb 739 (by rfl) rfl
set_option maxRecDepth 20000 in
theorem cm_X9_mostAlike : Cond.code kX9_mostAlike.1 kX9_mostAlike.2.1 kX9_mostAlike.2.2.1 kX9_mostAlike.2.2.2 ∈ mtbl := mtb 744 (by rfl) rfl
set_option maxRecDepth 20000 in
theorem cm_X10_chance : Cond.code kX10_chance.1 kX10_chance.2.1 kX10_chance.2.2.1 kX10_chance.2.2.2 ∈ mtbl := mtb 749 (by rfl) rfl
set_option maxRecDepth 20000 in
theorem cm_X9_weighStruck : Cond.code kX9_weighStruck.1 kX9_weighStruck.2.1 kX9_weighStruck.2.2.1 kX9_weighStruck.2.2.2 ∈ mtbl := mtb 754 (by rfl) rfl
set_option maxRecDepth 20000 in
theorem cm_X9_findStruck : Cond.code kX9_findStruck.1 kX9_findStruck.2.1 kX9_findStruck.2.2.1 kX9_findStruck.2.2.2 ∈ mtbl := mtb 758 (by rfl) rfl
set_option maxRecDepth 20000 in
theorem cm_X3_wasStruck : Cond.code kX3_wasStruck.1 kX3_wasStruck.2.1 kX3_wasStruck.2.2.1 kX3_wasStruck.2.2.2 ∈ mtbl := mtb 762 (by rfl) rfl
set_option maxRecDepth 20000 in
theorem cm_X9_weightOf : Cond.code kX9_weightOf.1 kX9_weightOf.2.1 kX9_weightOf.2.2.1 kX9_weightOf.2.2.2 ∈ mtbl := mtb 766 (by rfl) rfl
set_option maxRecDepth 20000 in
theorem cm_X10_fractionPart : Cond.code kX10_fractionPart.1 kX10_fractionPart.2.1 kX10_fractionPart.2.2.1 kX10_fractionPart.2.2.2 ∈ mtbl := mtb 770 (by rfl) rfl
set_option maxRecDepth 20000 in
theorem cm_X10_ages : Cond.code kX10_ages.1 kX10_ages.2.1 kX10_ages.2.2.1 kX10_ages.2.2.2 ∈ mtbl := mtb 775 (by rfl) rfl
set_option maxRecDepth 20000 in
theorem cm_X9_playAges : Cond.code kX9_playAges.1 kX9_playAges.2.1 kX9_playAges.2.2.1 kX9_playAges.2.2.2 ∈ mtbl := mtb 779 (by rfl) rfl
set_option maxRecDepth 20000 in
theorem cm_X9_nextSeed : Cond.code kX9_nextSeed.1 kX9_nextSeed.2.1 kX9_nextSeed.2.2.1 kX9_nextSeed.2.2.2 ∈ mtbl := mtb 782 (by rfl) rfl
set_option maxRecDepth 20000 in
theorem cm_X9_lot : Cond.code kX9_lot.1 kX9_lot.2.1 kX9_lot.2.2.1 kX9_lot.2.2.2 ∈ mtbl := mtb 786 (by rfl) rfl
set_option maxRecDepth 20000 in
theorem cm_X3_allPoints : Cond.code kX3_allPoints.1 kX3_allPoints.2.1 kX3_allPoints.2.2.1 kX3_allPoints.2.2.2 ∈ mtbl := mtb 791 (by rfl) rfl
set_option maxRecDepth 20000 in
theorem cm_X10_sheet : Cond.code kX10_sheet.1 kX10_sheet.2.1 kX10_sheet.2.2.1 kX10_sheet.2.2.2 ∈ mtbl := mtb 795 (by rfl) rfl
set_option maxRecDepth 20000 in
theorem cm_X4_begin : Cond.code kX4_begin.1 kX4_begin.2.1 kX4_begin.2.2.1 kX4_begin.2.2.2 ∈ mtbl := mtb 799 (by rfl) rfl
set_option maxRecDepth 20000 in
theorem cm_X10_lose : Cond.code kX10_lose.1 kX10_lose.2.1 kX10_lose.2.2.1 kX10_lose.2.2.2 ∈ mtbl := mtb 804 (by rfl) rfl
set_option maxRecDepth 20000 in
theorem cm_X10_put : Cond.code kX10_put.1 kX10_put.2.1 kX10_put.2.2.1 kX10_put.2.2.2 ∈ mtbl := mtb 808 (by rfl) rfl
set_option maxRecDepth 20000 in
theorem cm_X4_barTo : Cond.code kX4_barTo.1 kX4_barTo.2.1 kX4_barTo.2.2.1 kX4_barTo.2.2.2 ∈ mtbl := mtb 812 (by rfl) rfl
set_option maxRecDepth 20000 in
theorem cm_X4_lowestBits : Cond.code kX4_lowestBits.1 kX4_lowestBits.2.1 kX4_lowestBits.2.2.1 kX4_lowestBits.2.2.2 ∈ mtbl := mtb 817 (by rfl) rfl
set_option maxRecDepth 20000 in
theorem cm_X10_get : Cond.code kX10_get.1 kX10_get.2.1 kX10_get.2.2.1 kX10_get.2.2.2 ∈ mtbl := mtb 821 (by rfl) rfl
set_option maxRecDepth 20000 in
theorem cm_X10_copy : Cond.code kX10_copy.1 kX10_copy.2.1 kX10_copy.2.2.1 kX10_copy.2.2.2 ∈ mtbl := mtb 826 (by rfl) rfl
set_option maxRecDepth 20000 in
theorem cm_X4_hasSpan : Cond.code kX4_hasSpan.1 kX4_hasSpan.2.1 kX4_hasSpan.2.2.1 kX4_hasSpan.2.2.2 ∈ mtbl := mtb 830 (by rfl) rfl
set_option maxRecDepth 20000 in
theorem cm_X10_write : Cond.code kX10_write.1 kX10_write.2.1 kX10_write.2.2.1 kX10_write.2.2.2 ∈ mtbl := mtb 835 (by rfl) rfl
set_option maxRecDepth 20000 in
theorem cm_X10_count : Cond.code kX10_count.1 kX10_count.2.1 kX10_count.2.2.1 kX10_count.2.2.2 ∈ mtbl := mtb 840 (by rfl) rfl
set_option maxRecDepth 20000 in
theorem cm_X10_digest : Cond.code kX10_digest.1 kX10_digest.2.1 kX10_digest.2.2.1 kX10_digest.2.2.2 ∈ mtbl := mtb 844 (by rfl) rfl
set_option maxRecDepth 20000 in
theorem cm_X10_addTold : Cond.code kX10_addTold.1 kX10_addTold.2.1 kX10_addTold.2.2.1 kX10_addTold.2.2.2 ∈ mtbl := mtb 849 (by rfl) rfl
set_option maxRecDepth 20000 in
theorem cm_X2_add : Cond.code kX2_add.1 kX2_add.2.1 kX2_add.2.2.1 kX2_add.2.2.2 ∈ mtbl := mtb 854 (by rfl) rfl
set_option maxRecDepth 20000 in
theorem cm_X10_addCar : Cond.code kX10_addCar.1 kX10_addCar.2.1 kX10_addCar.2.2.1 kX10_addCar.2.2.2 ∈ mtbl := mtb 860 (by rfl) rfl
set_option maxRecDepth 20000 in
theorem cm_X10_addHouse : Cond.code kX10_addHouse.1 kX10_addHouse.2.1 kX10_addHouse.2.2.1 kX10_addHouse.2.2.2 ∈ mtbl := mtb 866 (by rfl) rfl
set_option maxRecDepth 20000 in
theorem cm_X10_addWhole : Cond.code kX10_addWhole.1 kX10_addWhole.2.1 kX10_addWhole.2.2.1 kX10_addWhole.2.2.2 ∈ mtbl := mtb 871 (by rfl) rfl
set_option maxRecDepth 20000 in
theorem cm_X11_init : Cond.code kX11_init.1 kX11_init.2.1 kX11_init.2.2.1 kX11_init.2.2.2 ∈ mtbl := mtb 879 (by rfl) rfl
set_option maxRecDepth 20000 in
theorem cm_X11_type : Cond.code kX11_type.1 kX11_type.2.1 kX11_type.2.2.1 kX11_type.2.2.2 ∈ mtbl := mtb 1045 (by rfl) rfl
set_option maxRecDepth 20000 in
theorem cm_X11_isText : Cond.code kX11_isText.1 kX11_isText.2.1 kX11_isText.2.2.1 kX11_isText.2.2.2 ∈ mtbl := mtb 1048 (by rfl) rfl
set_option maxRecDepth 20000 in
theorem cm_X11_in : Cond.code kX11_in.1 kX11_in.2.1 kX11_in.2.2.1 kX11_in.2.2.2 ∈ mtbl := mtb 1051 (by rfl) rfl
set_option maxRecDepth 20000 in
theorem cm_X11_wipe : Cond.code kX11_wipe.1 kX11_wipe.2.1 kX11_wipe.2.2.1 kX11_wipe.2.2.2 ∈ mtbl := mtb 1055 (by rfl) rfl
set_option maxRecDepth 20000 in
theorem cm_X11_undo : Cond.code kX11_undo.1 kX11_undo.2.1 kX11_undo.2.2.1 kX11_undo.2.2.2 ∈ mtbl := mtb 1059 (by rfl) rfl
set_option maxRecDepth 20000 in
theorem cm_X11_fault : Cond.code kX11_fault.1 kX11_fault.2.1 kX11_fault.2.2.1 kX11_fault.2.2.2 ∈ mtbl := mtb 1063 (by rfl) rfl
set_option maxRecDepth 20000 in
theorem cm_X11_faultOf : Cond.code kX11_faultOf.1 kX11_faultOf.2.1 kX11_faultOf.2.2.1 kX11_faultOf.2.2.2 ∈ mtbl := mtb 1067 (by rfl) rfl
set_option maxRecDepth 20000 in
theorem cm_X11_readsParts : Cond.code kX11_readsParts.1 kX11_readsParts.2.1 kX11_readsParts.2.2.1 kX11_readsParts.2.2.2 ∈ mtbl := mtb 1071 (by rfl) rfl
set_option maxRecDepth 20000 in
theorem cm_X11_readsCar : Cond.code kX11_readsCar.1 kX11_readsCar.2.1 kX11_readsCar.2.2.1 kX11_readsCar.2.2.2 ∈ mtbl := mtb 1075 (by rfl) rfl
set_option maxRecDepth 20000 in
theorem cm_X11_byteAt : Cond.code kX11_byteAt.1 kX11_byteAt.2.1 kX11_byteAt.2.2.1 kX11_byteAt.2.2.2 ∈ mtbl := mtb 1079 (by rfl) rfl
set_option maxRecDepth 20000 in
theorem cm_X11_sortOf : Cond.code kX11_sortOf.1 kX11_sortOf.2.1 kX11_sortOf.2.2.1 kX11_sortOf.2.2.2 ∈ mtbl := mtb 1082 (by rfl) rfl
set_option maxRecDepth 20000 in
theorem cm_X11_wayOf : Cond.code kX11_wayOf.1 kX11_wayOf.2.1 kX11_wayOf.2.2.1 kX11_wayOf.2.2.2 ∈ mtbl := mtb 1085 (by rfl) rfl
set_option maxRecDepth 20000 in
theorem cm_X11_isSix : Cond.code kX11_isSix.1 kX11_isSix.2.1 kX11_isSix.2.2.1 kX11_isSix.2.2.2 ∈ mtbl := mtb 1088 (by rfl) rfl
set_option maxRecDepth 20000 in
theorem cm_X11_isTold : Cond.code kX11_isTold.1 kX11_isTold.2.1 kX11_isTold.2.2.1 kX11_isTold.2.2.2 ∈ mtbl := mtb 1092 (by rfl) rfl
set_option maxRecDepth 20000 in
theorem cm_X11_readsSteer : Cond.code kX11_readsSteer.1 kX11_readsSteer.2.1 kX11_readsSteer.2.2.1 kX11_readsSteer.2.2.2 ∈ mtbl := mtb 1096 (by rfl) rfl
set_option maxRecDepth 20000 in
theorem cm_X11_car : Cond.code kX11_car.1 kX11_car.2.1 kX11_car.2.2.1 kX11_car.2.2.2 ∈ mtbl := mtb 1100 (by rfl) rfl
set_option maxRecDepth 20000 in
theorem cm_X11_isCar : Cond.code kX11_isCar.1 kX11_isCar.2.1 kX11_isCar.2.2.1 kX11_isCar.2.2.2 ∈ mtbl := mtb 1104 (by rfl) rfl
set_option maxRecDepth 20000 in
theorem cm_X11_reads : Cond.code kX11_reads.1 kX11_reads.2.1 kX11_reads.2.2.1 kX11_reads.2.2.2 ∈ mtbl := mtb 1108 (by rfl) rfl
set_option maxRecDepth 20000 in
theorem cm_X11_carOf : Cond.code kX11_carOf.1 kX11_carOf.2.1 kX11_carOf.2.2.1 kX11_carOf.2.2.2 ∈ mtbl := mtb 1112 (by rfl) rfl
set_option maxRecDepth 20000 in
theorem cm_X11_steer : Cond.code kX11_steer.1 kX11_steer.2.1 kX11_steer.2.2.1 kX11_steer.2.2.2 ∈ mtbl := mtb 1116 (by rfl) rfl
set_option maxRecDepth 20000 in
theorem cm_X11_isThree : Cond.code kX11_isThree.1 kX11_isThree.2.1 kX11_isThree.2.2.1 kX11_isThree.2.2.2 ∈ mtbl := mtb 1119 (by rfl) rfl
set_option maxRecDepth 20000 in
theorem cm_X11_steerTold : Cond.code kX11_steerTold.1 kX11_steerTold.2.1 kX11_steerTold.2.2.1 kX11_steerTold.2.2.2 ∈ mtbl := mtb 1123 (by rfl) rfl
set_option maxRecDepth 20000 in
theorem cm_X11_event : Cond.code kX11_event.1 kX11_event.2.1 kX11_event.2.2.1 kX11_event.2.2.2 ∈ mtbl := mtb 1127 (by rfl) rfl
set_option maxRecDepth 20000 in
theorem cm_X11_isTwo : Cond.code kX11_isTwo.1 kX11_isTwo.2.1 kX11_isTwo.2.2.1 kX11_isTwo.2.2.2 ∈ mtbl := mtb 1130 (by rfl) rfl
set_option maxRecDepth 20000 in
theorem cm_X11_isMoment : Cond.code kX11_isMoment.1 kX11_isMoment.2.1 kX11_isMoment.2.2.1 kX11_isMoment.2.2.2 ∈ mtbl := mtb 1133 (by rfl) rfl
set_option maxRecDepth 20000 in
theorem cm_X11_isEight : Cond.code kX11_isEight.1 kX11_isEight.2.1 kX11_isEight.2.2.1 kX11_isEight.2.2.2 ∈ mtbl := mtb 1136 (by rfl) rfl
set_option maxRecDepth 20000 in
theorem cm_X11_back : Cond.code kX11_back.1 kX11_back.2.1 kX11_back.2.2.1 kX11_back.2.2.2 ∈ mtbl := mtb 1140 (by rfl) rfl
set_option maxRecDepth 20000 in
theorem cm_X11_read : Cond.code kX11_read.1 kX11_read.2.1 kX11_read.2.2.1 kX11_read.2.2.2 ∈ mtbl := mtb 1144 (by rfl) rfl
set_option maxRecDepth 20000 in
theorem cm_X11_isSheet : Cond.code kX11_isSheet.1 kX11_isSheet.2.1 kX11_isSheet.2.2.1 kX11_isSheet.2.2.2 ∈ mtbl := mtb 1147 (by rfl) rfl
set_option maxRecDepth 20000 in
theorem cm_X11_meets : Cond.code kX11_meets.1 kX11_meets.2.1 kX11_meets.2.2.1 kX11_meets.2.2.2 ∈ mtbl := mtb 1151 (by rfl) rfl
set_option maxRecDepth 20000 in
theorem cm_X11_at : Cond.code kX11_at.1 kX11_at.2.1 kX11_at.2.2.1 kX11_at.2.2.2 ∈ mtbl := mtb 1156 (by rfl) rfl
set_option maxRecDepth 20000 in
theorem cm_X11_atOf : Cond.code kX11_atOf.1 kX11_atOf.2.1 kX11_atOf.2.2.1 kX11_atOf.2.2.2 ∈ mtbl := mtb 1160 (by rfl) rfl
set_option maxRecDepth 20000 in
theorem cm_X11_runsTold : Cond.code kX11_runsTold.1 kX11_runsTold.2.1 kX11_runsTold.2.2.1 kX11_runsTold.2.2.2 ∈ mtbl := mtb 1164 (by rfl) rfl
set_option maxRecDepth 20000 in
theorem cm_X11_asTold : Cond.code kX11_asTold.1 kX11_asTold.2.1 kX11_asTold.2.2.1 kX11_asTold.2.2.2 ∈ mtbl := mtb 1168 (by rfl) rfl
set_option maxRecDepth 20000 in
theorem cm_X11_runs : Cond.code kX11_runs.1 kX11_runs.2.1 kX11_runs.2.2.1 kX11_runs.2.2.2 ∈ mtbl := mtb 1172 (by rfl) rfl
set_option maxRecDepth 20000 in
theorem cm_X11_goesBy : Cond.code kX11_goesBy.1 kX11_goesBy.2.1 kX11_goesBy.2.2.1 kX11_goesBy.2.2.2 ∈ mtbl := mtb 1176 (by rfl) rfl
set_option maxRecDepth 20000 in
theorem cm_X11_isIn : Cond.code kX11_isIn.1 kX11_isIn.2.1 kX11_isIn.2.2.1 kX11_isIn.2.2.2 ∈ mtbl := mtb 1179 (by rfl) rfl
set_option maxRecDepth 20000 in
theorem cm_X11_steersAll : Cond.code kX11_steersAll.1 kX11_steersAll.2.1 kX11_steersAll.2.2.1 kX11_steersAll.2.2.2 ∈ mtbl := mtb 1183 (by rfl) rfl
set_option maxRecDepth 20000 in
theorem cm_X11_drives : Cond.code kX11_drives.1 kX11_drives.2.1 kX11_drives.2.2.1 kX11_drives.2.2.2 ∈ mtbl := mtb 1187 (by rfl) rfl
set_option maxRecDepth 20000 in
theorem cm_X11_stepX : Cond.code kX11_stepX.1 kX11_stepX.2.1 kX11_stepX.2.2.1 kX11_stepX.2.2.2 ∈ mtbl := mtb 1190 (by rfl) rfl
set_option maxRecDepth 20000 in
theorem cm_X11_stepY : Cond.code kX11_stepY.1 kX11_stepY.2.1 kX11_stepY.2.2.1 kX11_stepY.2.2.2 ∈ mtbl := mtb 1193 (by rfl) rfl
set_option maxRecDepth 20000 in
theorem cm_X11_whoIn : Cond.code kX11_whoIn.1 kX11_whoIn.2.1 kX11_whoIn.2.2.1 kX11_whoIn.2.2.2 ∈ mtbl := mtb 1197 (by rfl) rfl
set_option maxRecDepth 20000 in
theorem cm_X11_comes : Cond.code kX11_comes.1 kX11_comes.2.1 kX11_comes.2.2.1 kX11_comes.2.2.2 ∈ mtbl := mtb 1201 (by rfl) rfl
set_option maxRecDepth 20000 in
theorem cm_X11_runsInto : Cond.code kX11_runsInto.1 kX11_runsInto.2.1 kX11_runsInto.2.2.1 kX11_runsInto.2.2.2 ∈ mtbl := mtb 1205 (by rfl) rfl
set_option maxRecDepth 20000 in
theorem cm_X11_who : Cond.code kX11_who.1 kX11_who.2.1 kX11_who.2.2.1 kX11_who.2.2.2 ∈ mtbl := mtb 1209 (by rfl) rfl
set_option maxRecDepth 20000 in
theorem cm_X11_whoOf : Cond.code kX11_whoOf.1 kX11_whoOf.2.1 kX11_whoOf.2.2.1 kX11_whoOf.2.2.2 ∈ mtbl := mtb 1213 (by rfl) rfl
set_option maxRecDepth 20000 in
theorem cm_X11_house : Cond.code kX11_house.1 kX11_house.2.1 kX11_house.2.2.1 kX11_house.2.2.2 ∈ mtbl := mtb 1217 (by rfl) rfl
set_option maxRecDepth 20000 in
theorem cm_X11_houseOf : Cond.code kX11_houseOf.1 kX11_houseOf.2.1 kX11_houseOf.2.2.1 kX11_houseOf.2.2.2 ∈ mtbl := mtb 1221 (by rfl) rfl
set_option maxRecDepth 20000 in
theorem cm_X11_ayesAt : Cond.code kX11_ayesAt.1 kX11_ayesAt.2.1 kX11_ayesAt.2.2.1 kX11_ayesAt.2.2.2 ∈ mtbl := mtb 1225 (by rfl) rfl
set_option maxRecDepth 20000 in
theorem cm_X11_strikes : Cond.code kX11_strikes.1 kX11_strikes.2.1 kX11_strikes.2.2.1 kX11_strikes.2.2.2 ∈ mtbl := mtb 1229 (by rfl) rfl
set_option maxRecDepth 20000 in
theorem cm_X11_strikesOf : Cond.code kX11_strikesOf.1 kX11_strikesOf.2.1 kX11_strikesOf.2.2.1 kX11_strikesOf.2.2.2 ∈ mtbl := mtb 1233 (by rfl) rfl
set_option maxRecDepth 20000 in
theorem cm_X11_first : Cond.code kX11_first.1 kX11_first.2.1 kX11_first.2.2.1 kX11_first.2.2.2 ∈ mtbl := mtb 1237 (by rfl) rfl
set_option maxRecDepth 20000 in
theorem cm_X11_firstOf : Cond.code kX11_firstOf.1 kX11_firstOf.2.1 kX11_firstOf.2.2.1 kX11_firstOf.2.2.2 ∈ mtbl := mtb 1241 (by rfl) rfl
set_option maxRecDepth 20000 in
theorem cm_X11_best : Cond.code kX11_best.1 kX11_best.2.1 kX11_best.2.2.1 kX11_best.2.2.2 ∈ mtbl := mtb 1245 (by rfl) rfl
set_option maxRecDepth 20000 in
theorem cm_X11_bestOf : Cond.code kX11_bestOf.1 kX11_bestOf.2.1 kX11_bestOf.2.2.1 kX11_bestOf.2.2.2 ∈ mtbl := mtb 1249 (by rfl) rfl
set_option maxRecDepth 20000 in
theorem cm_X11_meek : Cond.code kX11_meek.1 kX11_meek.2.1 kX11_meek.2.2.1 kX11_meek.2.2.2 ∈ mtbl := mtb 1253 (by rfl) rfl
set_option maxRecDepth 20000 in
theorem cm_X11_meekOf : Cond.code kX11_meekOf.1 kX11_meekOf.2.1 kX11_meekOf.2.2.1 kX11_meekOf.2.2.2 ∈ mtbl := mtb 1257 (by rfl) rfl
set_option maxRecDepth 20000 in
theorem cm_X11_meekNow : Cond.code kX11_meekNow.1 kX11_meekNow.2.1 kX11_meekNow.2.2.1 kX11_meekNow.2.2.2 ∈ mtbl := mtb 1261 (by rfl) rfl
set_option maxRecDepth 20000 in
theorem cm_X11_jam : Cond.code kX11_jam.1 kX11_jam.2.1 kX11_jam.2.2.1 kX11_jam.2.2.2 ∈ mtbl := mtb 1265 (by rfl) rfl
set_option maxRecDepth 20000 in
theorem cm_X11_jamOf : Cond.code kX11_jamOf.1 kX11_jamOf.2.1 kX11_jamOf.2.2.1 kX11_jamOf.2.2.2 ∈ mtbl := mtb 1269 (by rfl) rfl
set_option maxRecDepth 20000 in
theorem cm_X11_carried : Cond.code kX11_carried.1 kX11_carried.2.1 kX11_carried.2.2.1 kX11_carried.2.2.2 ∈ mtbl := mtb 1273 (by rfl) rfl
set_option maxRecDepth 20000 in
theorem cm_X11_carriedOf : Cond.code kX11_carriedOf.1 kX11_carriedOf.2.1 kX11_carriedOf.2.2.1 kX11_carriedOf.2.2.2 ∈ mtbl := mtb 1277 (by rfl) rfl
set_option maxRecDepth 20000 in
theorem cm_X11_stand : Cond.code kX11_stand.1 kX11_stand.2.1 kX11_stand.2.2.1 kX11_stand.2.2.2 ∈ mtbl := mtb 1281 (by rfl) rfl
set_option maxRecDepth 20000 in
theorem cm_X11_standOf : Cond.code kX11_standOf.1 kX11_standOf.2.1 kX11_standOf.2.2.1 kX11_standOf.2.2.2 ∈ mtbl := mtb 1285 (by rfl) rfl
set_option maxRecDepth 20000 in
theorem cm_X11_isOther : Cond.code kX11_isOther.1 kX11_isOther.2.1 kX11_isOther.2.2.1 kX11_isOther.2.2.2 ∈ mtbl := mtb 1289 (by rfl) rfl
set_option maxRecDepth 20000 in
theorem cm_X11_better : Cond.code kX11_better.1 kX11_better.2.1 kX11_better.2.2.1 kX11_better.2.2.2 ∈ mtbl := mtb 1293 (by rfl) rfl
set_option maxRecDepth 20000 in
theorem cm_X11_betterOf : Cond.code kX11_betterOf.1 kX11_betterOf.2.1 kX11_betterOf.2.2.1 kX11_betterOf.2.2.2 ∈ mtbl := mtb 1297 (by rfl) rfl
set_option maxRecDepth 20000 in
theorem cm_X11_ring : Cond.code kX11_ring.1 kX11_ring.2.1 kX11_ring.2.2.1 kX11_ring.2.2.2 ∈ mtbl := mtb 1301 (by rfl) rfl
set_option maxRecDepth 20000 in
theorem cm_X11_ringOf : Cond.code kX11_ringOf.1 kX11_ringOf.2.1 kX11_ringOf.2.2.1 kX11_ringOf.2.2.2 ∈ mtbl := mtb 1305 (by rfl) rfl
set_option maxRecDepth 20000 in
theorem cm_X11_spare : Cond.code kX11_spare.1 kX11_spare.2.1 kX11_spare.2.2.1 kX11_spare.2.2.2 ∈ mtbl := mtb 1309 (by rfl) rfl
set_option maxRecDepth 20000 in
theorem cm_X11_spareBy : Cond.code kX11_spareBy.1 kX11_spareBy.2.1 kX11_spareBy.2.2.1 kX11_spareBy.2.2.2 ∈ mtbl := mtb 1313 (by rfl) rfl
set_option maxRecDepth 20000 in
theorem cm_X11_isSpared : Cond.code kX11_isSpared.1 kX11_isSpared.2.1 kX11_isSpared.2.2.1 kX11_isSpared.2.2.2 ∈ mtbl := mtb 1317 (by rfl) rfl
set_option maxRecDepth 20000 in
theorem cm_X11_ofRow : Cond.code kX11_ofRow.1 kX11_ofRow.2.1 kX11_ofRow.2.2.1 kX11_ofRow.2.2.2 ∈ mtbl := mtb 1321 (by rfl) rfl
set_option maxRecDepth 20000 in
theorem cm_X11_seen : Cond.code kX11_seen.1 kX11_seen.2.1 kX11_seen.2.2.1 kX11_seen.2.2.2 ∈ mtbl := mtb 1325 (by rfl) rfl
set_option maxRecDepth 20000 in
theorem cm_X11_forget : Cond.code kX11_forget.1 kX11_forget.2.1 kX11_forget.2.2.1 kX11_forget.2.2.2 ∈ mtbl := mtb 1329 (by rfl) rfl
set_option maxRecDepth 20000 in
theorem cm_X11_never : Cond.code kX11_never.1 kX11_never.2.1 kX11_never.2.2.1 kX11_never.2.2.2 ∈ mtbl := mtb 1333 (by rfl) rfl
set_option maxRecDepth 20000 in
theorem cm_X11_neverNow : Cond.code kX11_neverNow.1 kX11_neverNow.2.1 kX11_neverNow.2.2.1 kX11_neverNow.2.2.2 ∈ mtbl := mtb 1337 (by rfl) rfl
set_option maxRecDepth 20000 in
theorem cm_X11_isSeen : Cond.code kX11_isSeen.1 kX11_isSeen.2.1 kX11_isSeen.2.2.1 kX11_isSeen.2.2.2 ∈ mtbl := mtb 1341 (by rfl) rfl
set_option maxRecDepth 20000 in
theorem cm_X11_was : Cond.code kX11_was.1 kX11_was.2.1 kX11_was.2.2.1 kX11_was.2.2.2 ∈ mtbl := mtb 1345 (by rfl) rfl
set_option maxRecDepth 20000 in
theorem cm_X11_sortsBy : Cond.code kX11_sortsBy.1 kX11_sortsBy.2.1 kX11_sortsBy.2.2.1 kX11_sortsBy.2.2.2 ∈ mtbl := mtb 1349 (by rfl) rfl
set_option maxRecDepth 20000 in
theorem cm_X11_heavyBy : Cond.code kX11_heavyBy.1 kX11_heavyBy.2.1 kX11_heavyBy.2.2.1 kX11_heavyBy.2.2.2 ∈ mtbl := mtb 1353 (by rfl) rfl
set_option maxRecDepth 20000 in
theorem cm_X11_ask : Cond.code kX11_ask.1 kX11_ask.2.1 kX11_ask.2.2.1 kX11_ask.2.2.2 ∈ mtbl := mtb 1357 (by rfl) rfl
set_option maxRecDepth 20000 in
theorem cm_X11_askOf : Cond.code kX11_askOf.1 kX11_askOf.2.1 kX11_askOf.2.2.1 kX11_askOf.2.2.2 ∈ mtbl := mtb 1361 (by rfl) rfl
set_option maxRecDepth 20000 in
theorem cm_X11_chance : Cond.code kX11_chance.1 kX11_chance.2.1 kX11_chance.2.2.1 kX11_chance.2.2.2 ∈ mtbl := mtb 1365 (by rfl) rfl
set_option maxRecDepth 20000 in
theorem cm_X11_chanceOf : Cond.code kX11_chanceOf.1 kX11_chanceOf.2.1 kX11_chanceOf.2.2.1 kX11_chanceOf.2.2.2 ∈ mtbl := mtb 1369 (by rfl) rfl
set_option maxRecDepth 20000 in
theorem cm_X11_lowest : Cond.code kX11_lowest.1 kX11_lowest.2.1 kX11_lowest.2.2.1 kX11_lowest.2.2.2 ∈ mtbl := mtb 1372 (by rfl) rfl
set_option maxRecDepth 20000 in
theorem cm_X11_no : Cond.code kX11_no.1 kX11_no.2.1 kX11_no.2.2.1 kX11_no.2.2.2 ∈ mtbl := mtb 1375 (by rfl) rfl
set_option maxRecDepth 20000 in
theorem cm_X11_ages : Cond.code kX11_ages.1 kX11_ages.2.1 kX11_ages.2.2.1 kX11_ages.2.2.2 ∈ mtbl := mtb 1380 (by rfl) rfl
set_option maxRecDepth 20000 in
theorem cm_X11_agesOf : Cond.code kX11_agesOf.1 kX11_agesOf.2.1 kX11_agesOf.2.2.1 kX11_agesOf.2.2.2 ∈ mtbl := mtb 1384 (by rfl) rfl
set_option maxRecDepth 20000 in
theorem cm_X11_pointsAll : Cond.code kX11_pointsAll.1 kX11_pointsAll.2.1 kX11_pointsAll.2.2.1 kX11_pointsAll.2.2.2 ∈ mtbl := mtb 1389 (by rfl) rfl
set_option maxRecDepth 20000 in
theorem cm_X11_sheet : Cond.code kX11_sheet.1 kX11_sheet.2.1 kX11_sheet.2.2.1 kX11_sheet.2.2.2 ∈ mtbl := mtb 1393 (by rfl) rfl
set_option maxRecDepth 20000 in
theorem cm_X11_lose : Cond.code kX11_lose.1 kX11_lose.2.1 kX11_lose.2.2.1 kX11_lose.2.2.2 ∈ mtbl := mtb 1397 (by rfl) rfl
set_option maxRecDepth 20000 in
theorem cm_X11_put : Cond.code kX11_put.1 kX11_put.2.1 kX11_put.2.2.1 kX11_put.2.2.2 ∈ mtbl := mtb 1401 (by rfl) rfl
set_option maxRecDepth 20000 in
theorem cm_X11_lacks : Cond.code kX11_lacks.1 kX11_lacks.2.1 kX11_lacks.2.2.1 kX11_lacks.2.2.2 ∈ mtbl := mtb 1405 (by rfl) rfl
set_option maxRecDepth 20000 in
theorem cm_X11_keep : Cond.code kX11_keep.1 kX11_keep.2.1 kX11_keep.2.2.1 kX11_keep.2.2.2 ∈ mtbl := mtb 1409 (by rfl) rfl
set_option maxRecDepth 20000 in
theorem cm_X11_get : Cond.code kX11_get.1 kX11_get.2.1 kX11_get.2.2.1 kX11_get.2.2.2 ∈ mtbl := mtb 1413 (by rfl) rfl
set_option maxRecDepth 20000 in
theorem cm_X11_copy : Cond.code kX11_copy.1 kX11_copy.2.1 kX11_copy.2.2.1 kX11_copy.2.2.2 ∈ mtbl := mtb 1418 (by rfl) rfl
set_option maxRecDepth 20000 in
theorem cm_X11_write : Cond.code kX11_write.1 kX11_write.2.1 kX11_write.2.2.1 kX11_write.2.2.2 ∈ mtbl := mtb 1422 (by rfl) rfl
set_option maxRecDepth 20000 in
theorem cm_X11_count : Cond.code kX11_count.1 kX11_count.2.1 kX11_count.2.2.1 kX11_count.2.2.2 ∈ mtbl := mtb 1426 (by rfl) rfl
set_option maxRecDepth 20000 in
theorem cm_X11_sumOf : Cond.code kX11_sumOf.1 kX11_sumOf.2.1 kX11_sumOf.2.2.1 kX11_sumOf.2.2.2 ∈ mtbl := mtb 1430 (by rfl) rfl
set_option maxRecDepth 20000 in
theorem cm_X11_digest : Cond.code kX11_digest.1 kX11_digest.2.1 kX11_digest.2.2.1 kX11_digest.2.2.2 ∈ mtbl := mtb 1434 (by rfl) rfl
set_option maxRecDepth 20000 in
theorem cm_X11_carDigest : Cond.code kX11_carDigest.1 kX11_carDigest.2.1 kX11_carDigest.2.2.1 kX11_carDigest.2.2.2 ∈ mtbl := mtb 1441 (by rfl) rfl
set_option maxRecDepth 20000 in
theorem cm_X11_momentDigest : Cond.code kX11_momentDigest.1 kX11_momentDigest.2.1 kX11_momentDigest.2.2.1 kX11_momentDigest.2.2.2 ∈ mtbl := mtb 1445 (by rfl) rfl
set_option maxRecDepth 20000 in
theorem sm_X10_type : Cond.selects yX10_type.cls yX10_type yX10_type ∈ mtbl := mtb 320 (by decide +kernel) rfl
set_option maxRecDepth 20000 in
theorem cv_L_13 : mCV "DodgemDebateLaw" 13 9 2 kX10_type := ⟨⟨(RX10, TX10, 11), rfl, rfl⟩, cm_X10_type, (mtb 318 (by decide +kernel) rfl), (mtb 319 (by decide +kernel) rfl), sm_X10_type, (mtb 1 (by decide +kernel) rfl), ⟨by decide +kernel, by decide +kernel, by decide +kernel⟩, by decide⟩
set_option maxRecDepth 20000 in
theorem cs_X10_81 : mCS "DodgemDebate" 81 2 kX10_within := ⟨cm_X10_within, Or.inl (mtb 322 (by decide +kernel) rfl), (mtb 323 (by decide +kernel) rfl), (mtb 1 (by decide +kernel) rfl), ⟨by decide +kernel, by decide +kernel, by decide +kernel⟩, by decide⟩
set_option maxRecDepth 20000 in
theorem sm_X10_textOf : Cond.selects yX10_textOf.cls yX10_textOf yX10_textOf ∈ mtbl := mtbs (List.mem_of_getElem? (i := 0) (by decide +kernel)) rfl
set_option maxRecDepth 20000 in
theorem cv_X10_85 : mCV "DodgemDebate" 85 9 1 kX10_textOf := ⟨⟨(RX10, TX10, 11), rfl, rfl⟩, cm_X10_textOf, (mtb 325 (by decide +kernel) rfl), (mtb 327 (by decide +kernel) rfl), sm_X10_textOf, (mtb 1 (by decide +kernel) rfl), ⟨by decide +kernel, by decide +kernel, by decide +kernel⟩, by decide⟩
set_option maxRecDepth 20000 in
theorem sm_X7_append : Cond.selects yX7_append.cls yX7_append yX7_append ∈ mtbl := mtb 331 (by decide +kernel) rfl
set_option maxRecDepth 20000 in
theorem cv_X10_93 : mCV "DodgemDebate" 93 7 1 kX7_append := ⟨⟨(RX7, TX7, 2), rfl, rfl⟩, cm_X7_append, (mtb 329 (by decide +kernel) rfl), (mtb 330 (by decide +kernel) rfl), sm_X7_append, (mtb 2 (by decide +kernel) rfl), ⟨by decide +kernel, by decide +kernel, by decide +kernel⟩, by decide⟩
set_option maxRecDepth 20000 in
theorem sm_X10_wipe : Cond.selects yX10_wipe.cls yX10_wipe yX10_wipe ∈ mtbl := mtb 335 (by decide +kernel) rfl
set_option maxRecDepth 20000 in
theorem cv_L_18 : mCV "DodgemDebateLaw" 18 9 1 kX10_wipe := ⟨⟨(RX10, TX10, 11), rfl, rfl⟩, cm_X10_wipe, (mtb 333 (by decide +kernel) rfl), (mtb 334 (by decide +kernel) rfl), sm_X10_wipe, (mtb 1 (by decide +kernel) rfl), ⟨by decide +kernel, by decide +kernel, by decide +kernel⟩, by decide⟩
set_option maxRecDepth 20000 in
theorem sm_X10_undo : Cond.selects yX10_undo.cls yX10_undo yX10_undo ∈ mtbl := mtb 339 (by decide +kernel) rfl
set_option maxRecDepth 20000 in
theorem cv_L_23 : mCV "DodgemDebateLaw" 23 9 1 kX10_undo := ⟨⟨(RX10, TX10, 11), rfl, rfl⟩, cm_X10_undo, (mtb 337 (by decide +kernel) rfl), (mtb 338 (by decide +kernel) rfl), sm_X10_undo, (mtb 1 (by decide +kernel) rfl), ⟨by decide +kernel, by decide +kernel, by decide +kernel⟩, by decide⟩
set_option maxRecDepth 20000 in
theorem sm_X10_fault : Cond.selects yX10_fault.cls yX10_fault yX10_fault ∈ mtbl := mtb 343 (by decide +kernel) rfl
set_option maxRecDepth 20000 in
theorem cv_L_27 : mCV "DodgemDebateLaw" 27 9 1 kX10_fault := ⟨⟨(RX10, TX10, 11), rfl, rfl⟩, cm_X10_fault, (mtb 341 (by decide +kernel) rfl), (mtb 342 (by decide +kernel) rfl), sm_X10_fault, (mtb 1 (by decide +kernel) rfl), ⟨by decide +kernel, by decide +kernel, by decide +kernel⟩, by decide⟩
set_option maxRecDepth 20000 in
theorem sm_X10_settle : Cond.selects yX10_settle.cls yX10_settle yX10_settle ∈ mtbl := mtbs (List.mem_of_getElem? (i := 1) (by decide +kernel)) rfl
set_option maxRecDepth 20000 in
theorem cv_X10_97 : mCV "DodgemDebate" 97 9 0 kX10_settle := ⟨⟨(RX10, TX10, 11), rfl, rfl⟩, cm_X10_settle, (mtb 345 (by decide +kernel) rfl), (mtb 347 (by decide +kernel) rfl), sm_X10_settle, (mtb 1 (by decide +kernel) rfl), ⟨by decide +kernel, by decide +kernel, by decide +kernel⟩, by decide⟩
set_option maxRecDepth 20000 in
theorem sm_J0_indexOf_0f7a4 : Cond.selects yJ0_indexOf_0f7a4.cls yJ0_indexOf_0f7a4 yJ0_indexOf_0f7a4 ∈ mtbl := mtb 368 (by decide +kernel) rfl
set_option maxRecDepth 20000 in
theorem cx_X0_15 : mCX "DodgemDebate$Cars" 15 1 kJ0_indexOf_0f7a4 := ⟨rfl, cm_J0_indexOf_0f7a4, (mtb 366 (by decide +kernel) rfl), (mtb 367 (by decide +kernel) rfl), sm_J0_indexOf_0f7a4, (mtb 13 (by decide +kernel) rfl), ⟨by decide +kernel, by decide +kernel, by decide +kernel⟩, by decide⟩
set_option maxRecDepth 20000 in
theorem sm_J0_indexOf_7cf53 : Cond.selects yJ0_indexOf_7cf53.cls yJ0_indexOf_7cf53 yJ0_indexOf_7cf53 ∈ mtbl := mtb 372 (by decide +kernel) rfl
set_option maxRecDepth 20000 in
theorem cx_J0_633 : mCX "java/lang/String" 633 2 kJ0_indexOf_7cf53 := ⟨rfl, cm_J0_indexOf_7cf53, (mtb 370 (by decide +kernel) rfl), (mtb 371 (by decide +kernel) rfl), sm_J0_indexOf_7cf53, (mtb 13 (by decide +kernel) rfl), ⟨by decide +kernel, by decide +kernel, by decide +kernel⟩, by decide⟩
set_option maxRecDepth 20000 in
theorem sm_J0_isLatin1_aae02 : Cond.selects yJ0_isLatin1_aae02.cls yJ0_isLatin1_aae02 yJ0_isLatin1_aae02 ∈ mtbl := mtb 376 (by decide +kernel) rfl
set_option maxRecDepth 20000 in
theorem cx_J0_492 : mCX "java/lang/String" 492 0 kJ0_isLatin1_aae02 := ⟨rfl, cm_J0_isLatin1_aae02, (mtb 374 (by decide +kernel) rfl), (mtb 375 (by decide +kernel) rfl), sm_J0_isLatin1_aae02, (mtb 13 (by decide +kernel) rfl), ⟨by decide +kernel, by decide +kernel, by decide +kernel⟩, by decide⟩
set_option maxRecDepth 20000 in
theorem sm_J0_length_8abf5 : Cond.selects yJ0_length_8abf5.cls yJ0_length_8abf5 yJ0_length_8abf5 ∈ mtbl := mtb 382 (by decide +kernel) rfl
set_option maxRecDepth 20000 in
theorem cx_J0_505 : mCX "java/lang/String" 505 0 kJ0_length_8abf5 := ⟨rfl, cm_J0_length_8abf5, (mtb 380 (by decide +kernel) rfl), (mtb 381 (by decide +kernel) rfl), sm_J0_length_8abf5, (mtb 13 (by decide +kernel) rfl), ⟨by decide +kernel, by decide +kernel, by decide +kernel⟩, by decide⟩
set_option maxRecDepth 20000 in
theorem sm_J0_coder_7d493 : Cond.selects yJ0_coder_7d493.cls yJ0_coder_7d493 yJ0_coder_7d493 ∈ mtbl := mtb 386 (by decide +kernel) rfl
set_option maxRecDepth 20000 in
theorem cx_J0_335 : mCX "java/lang/String" 335 0 kJ0_coder_7d493 := ⟨rfl, cm_J0_coder_7d493, (mtb 384 (by decide +kernel) rfl), (mtb 385 (by decide +kernel) rfl), sm_J0_coder_7d493, (mtb 13 (by decide +kernel) rfl), ⟨by decide +kernel, by decide +kernel, by decide +kernel⟩, by decide⟩
set_option maxRecDepth 20000 in
theorem cs_J0_637 : mCS "java/lang/String" 637 4 kJ1_indexOf_4cfef := ⟨cm_J1_indexOf_4cfef, Or.inl (mtb 388 (by decide +kernel) rfl), (mtb 389 (by decide +kernel) rfl), (mtb 14 (by decide +kernel) rfl), ⟨by decide +kernel, by decide +kernel, by decide +kernel⟩, by decide⟩
set_option maxRecDepth 20000 in
theorem cs_J1_88 : mCS "java/lang/StringLatin1" 88 1 kJ1_canEncode_9a6ad := ⟨cm_J1_canEncode_9a6ad, Or.inl (mtb 391 (by decide +kernel) rfl), (mtb 392 (by decide +kernel) rfl), (mtb 14 (by decide +kernel) rfl), ⟨by decide +kernel, by decide +kernel, by decide +kernel⟩, by decide⟩
set_option maxRecDepth 20000 in
theorem cs_J1_92 : mCS "java/lang/StringLatin1" 92 2 kJ9_max_7cf53 := ⟨cm_J9_max_7cf53, Or.inl (mtb 394 (by decide +kernel) rfl), (mtb 395 (by decide +kernel) rfl), (mtb 15 (by decide +kernel) rfl), ⟨by decide +kernel, by decide +kernel, by decide +kernel⟩, by decide⟩
set_option maxRecDepth 20000 in
theorem cs_J1_38 : mCS "java/lang/StringLatin1" 38 2 kJ9_min_7cf53 := ⟨cm_J9_min_7cf53, Or.inl (mtb 397 (by decide +kernel) rfl), (mtb 398 (by decide +kernel) rfl), (mtb 15 (by decide +kernel) rfl), ⟨by decide +kernel, by decide +kernel, by decide +kernel⟩, by decide⟩
set_option maxRecDepth 20000 in
theorem cs_J1_95 : mCS "java/lang/StringLatin1" 95 4 kJ1_indexOfChar_4cfef := ⟨cm_J1_indexOfChar_4cfef, Or.inl (mtb 400 (by decide +kernel) rfl), (mtb 401 (by decide +kernel) rfl), (mtb 14 (by decide +kernel) rfl), ⟨by decide +kernel, by decide +kernel, by decide +kernel⟩, by decide⟩
set_option maxRecDepth 20000 in
theorem cs_J2_224 : mCS "java/lang/StringUTF16" 224 2 kJ9_max_7cf53 := ⟨cm_J9_max_7cf53, Or.inl (mtb 406 (by decide +kernel) rfl), (mtb 395 (by decide +kernel) rfl), (mtb 15 (by decide +kernel) rfl), ⟨by decide +kernel, by decide +kernel, by decide +kernel⟩, by decide⟩
set_option maxRecDepth 20000 in
theorem cs_J2_183 : mCS "java/lang/StringUTF16" 183 2 kJ9_min_7cf53 := ⟨cm_J9_min_7cf53, Or.inl (mtb 407 (by decide +kernel) rfl), (mtb 398 (by decide +kernel) rfl), (mtb 15 (by decide +kernel) rfl), ⟨by decide +kernel, by decide +kernel, by decide +kernel⟩, by decide⟩
set_option maxRecDepth 20000 in
theorem cs_J2_241 : mCS "java/lang/StringUTF16" 241 3 kJ0_checkBoundsBeginEnd_23922 := ⟨cm_J0_checkBoundsBeginEnd_23922, Or.inl (mtb 418 (by decide +kernel) rfl), (mtb 419 (by decide +kernel) rfl), (mtb 13 (by decide +kernel) rfl), ⟨by decide +kernel, by decide +kernel, by decide +kernel⟩, by decide⟩
set_option maxRecDepth 20000 in
theorem sm_X0_freeY : Cond.selects yX0_freeY.cls yX0_freeY yX0_freeY ∈ mtbl := mtbs (List.mem_of_getElem? (i := 2) (by decide +kernel)) rfl
set_option maxRecDepth 20000 in
theorem cv_X0_23 : mCV "DodgemDebate$Cars" 23 0 2 kX0_freeY := ⟨⟨(RX0, TX0, 5), rfl, rfl⟩, cm_X0_freeY, (mtb 453 (by decide +kernel) rfl), (mtb 455 (by decide +kernel) rfl), sm_X0_freeY, (mtb 4 (by decide +kernel) rfl), ⟨by decide +kernel, by decide +kernel, by decide +kernel⟩, by decide⟩
set_option maxRecDepth 20000 in
theorem sm_X0_isTaken : Cond.selects yX0_isTaken.cls yX0_isTaken yX0_isTaken ∈ mtbl := mtb 459 (by decide +kernel) rfl
set_option maxRecDepth 20000 in
theorem cv_X0_34 : mCV "DodgemDebate$Cars" 34 0 4 kX0_isTaken := ⟨⟨(RX0, TX0, 5), rfl, rfl⟩, cm_X0_isTaken, (mtb 457 (by decide +kernel) rfl), (mtb 458 (by decide +kernel) rfl), sm_X0_isTaken, (mtb 4 (by decide +kernel) rfl), ⟨by decide +kernel, by decide +kernel, by decide +kernel⟩, by decide⟩
set_option maxRecDepth 20000 in
theorem cx_X6_15 : mCX "DodgemDebate$Steers" 15 1 kJ0_indexOf_0f7a4 := ⟨rfl, cm_J0_indexOf_0f7a4, (mtb 467 (by decide +kernel) rfl), (mtb 367 (by decide +kernel) rfl), sm_J0_indexOf_0f7a4, (mtb 13 (by decide +kernel) rfl), ⟨by decide +kernel, by decide +kernel, by decide +kernel⟩, by decide⟩
set_option maxRecDepth 20000 in
theorem sm_X3_play : Cond.selects yX3_play.cls yX3_play yX3_play ∈ mtbl := mtb 474 (by decide +kernel) rfl
set_option maxRecDepth 20000 in
theorem cv_X10_307 : mCV "DodgemDebate" 307 3 4 kX3_play := ⟨⟨(RX3, TX3, 10), rfl, rfl⟩, cm_X3_play, (mtb 472 (by decide +kernel) rfl), (mtb 473 (by decide +kernel) rfl), sm_X3_play, (mtb 9 (by decide +kernel) rfl), ⟨by decide +kernel, by decide +kernel, by decide +kernel⟩, by decide⟩
set_option maxRecDepth 20000 in
theorem sm_X3_begin : Cond.selects yX3_begin.cls yX3_begin yX3_begin ∈ mtbl := mtbs (List.mem_of_getElem? (i := 3) (by decide +kernel)) rfl
set_option maxRecDepth 20000 in
theorem cv_X3_36 : mCV "DodgemDebate$Run" 36 3 1 kX3_begin := ⟨⟨(RX3, TX3, 10), rfl, rfl⟩, cm_X3_begin, (mtb 476 (by decide +kernel) rfl), (mtb 478 (by decide +kernel) rfl), sm_X3_begin, (mtb 9 (by decide +kernel) rfl), ⟨by decide +kernel, by decide +kernel, by decide +kernel⟩, by decide⟩
set_option maxRecDepth 20000 in
theorem cs_X3_68 : mCS "DodgemDebate$Run" 68 2 kJ7_fill_53178 := ⟨cm_J7_fill_53178, Or.inl (mtb 480 (by decide +kernel) rfl), (mtb 481 (by decide +kernel) rfl), (mtb 19 (by decide +kernel) rfl), ⟨by decide +kernel, by decide +kernel, by decide +kernel⟩, by decide⟩
set_option maxRecDepth 20000 in
theorem sm_X3_doEvents : Cond.selects yX3_doEvents.cls yX3_doEvents yX3_doEvents ∈ mtbl := mtbs (List.mem_of_getElem? (i := 4) (by decide +kernel)) rfl
set_option maxRecDepth 20000 in
theorem cv_X3_40 : mCV "DodgemDebate$Run" 40 3 3 kX3_doEvents := ⟨⟨(RX3, TX3, 10), rfl, rfl⟩, cm_X3_doEvents, (mtb 483 (by decide +kernel) rfl), (mtb 485 (by decide +kernel) rfl), sm_X3_doEvents, (mtb 9 (by decide +kernel) rfl), ⟨by decide +kernel, by decide +kernel, by decide +kernel⟩, by decide⟩
set_option maxRecDepth 20000 in
theorem sm_X3_doSteers : Cond.selects yX3_doSteers.cls yX3_doSteers yX3_doSteers ∈ mtbl := mtbs (List.mem_of_getElem? (i := 5) (by decide +kernel)) rfl
set_option maxRecDepth 20000 in
theorem cv_X3_44 : mCV "DodgemDebate$Run" 44 3 3 kX3_doSteers := ⟨⟨(RX3, TX3, 10), rfl, rfl⟩, cm_X3_doSteers, (mtb 487 (by decide +kernel) rfl), (mtb 489 (by decide +kernel) rfl), sm_X3_doSteers, (mtb 9 (by decide +kernel) rfl), ⟨by decide +kernel, by decide +kernel, by decide +kernel⟩, by decide⟩
set_option maxRecDepth 20000 in
theorem sm_X3_go : Cond.selects yX3_go.cls yX3_go yX3_go ∈ mtbl := mtbs (List.mem_of_getElem? (i := 6) (by decide +kernel)) rfl
set_option maxRecDepth 20000 in
theorem cv_X3_51 : mCV "DodgemDebate$Run" 51 3 3 kX3_go := ⟨⟨(RX3, TX3, 10), rfl, rfl⟩, cm_X3_go, (mtb 491 (by decide +kernel) rfl), (mtb 493 (by decide +kernel) rfl), sm_X3_go, (mtb 9 (by decide +kernel) rfl), ⟨by decide +kernel, by decide +kernel, by decide +kernel⟩, by decide⟩
set_option maxRecDepth 20000 in
theorem sm_X3_countStrike : Cond.selects yX3_countStrike.cls yX3_countStrike yX3_countStrike ∈ mtbl := mtbs (List.mem_of_getElem? (i := 7) (by decide +kernel)) rfl
set_option maxRecDepth 20000 in
theorem cv_X3_103 : mCV "DodgemDebate$Run" 103 3 4 kX3_countStrike := ⟨⟨(RX3, TX3, 10), rfl, rfl⟩, cm_X3_countStrike, (mtb 502 (by decide +kernel) rfl), (mtb 504 (by decide +kernel) rfl), sm_X3_countStrike, (mtb 9 (by decide +kernel) rfl), ⟨by decide +kernel, by decide +kernel, by decide +kernel⟩, by decide⟩
set_option maxRecDepth 20000 in
theorem sm_X3_shift : Cond.selects yX3_shift.cls yX3_shift yX3_shift ∈ mtbl := mtbs (List.mem_of_getElem? (i := 8) (by decide +kernel)) rfl
set_option maxRecDepth 20000 in
theorem cv_X3_107 : mCV "DodgemDebate$Run" 107 3 3 kX3_shift := ⟨⟨(RX3, TX3, 10), rfl, rfl⟩, cm_X3_shift, (mtb 506 (by decide +kernel) rfl), (mtb 508 (by decide +kernel) rfl), sm_X3_shift, (mtb 9 (by decide +kernel) rfl), ⟨by decide +kernel, by decide +kernel, by decide +kernel⟩, by decide⟩
set_option maxRecDepth 20000 in
theorem sm_X3_keep : Cond.selects yX3_keep.cls yX3_keep yX3_keep ∈ mtbl := mtbs (List.mem_of_getElem? (i := 9) (by decide +kernel)) rfl
set_option maxRecDepth 20000 in
theorem cv_X3_55 : mCV "DodgemDebate$Run" 55 3 1 kX3_keep := ⟨⟨(RX3, TX3, 10), rfl, rfl⟩, cm_X3_keep, (mtb 510 (by decide +kernel) rfl), (mtb 512 (by decide +kernel) rfl), sm_X3_keep, (mtb 9 (by decide +kernel) rfl), ⟨by decide +kernel, by decide +kernel, by decide +kernel⟩, by decide⟩
set_option maxRecDepth 20000 in
theorem sm_X10_car : Cond.selects yX10_car.cls yX10_car yX10_car ∈ mtbl := mtb 520 (by decide +kernel) rfl
set_option maxRecDepth 20000 in
theorem cv_L_31 : mCV "DodgemDebateLaw" 31 9 2 kX10_car := ⟨⟨(RX10, TX10, 11), rfl, rfl⟩, cm_X10_car, (mtb 518 (by decide +kernel) rfl), (mtb 519 (by decide +kernel) rfl), sm_X10_car, (mtb 1 (by decide +kernel) rfl), ⟨by decide +kernel, by decide +kernel, by decide +kernel⟩, by decide⟩
set_option maxRecDepth 20000 in
theorem sm_X10_steer : Cond.selects yX10_steer.cls yX10_steer yX10_steer ∈ mtbl := mtb 524 (by decide +kernel) rfl
set_option maxRecDepth 20000 in
theorem cv_L_35 : mCV "DodgemDebateLaw" 35 9 2 kX10_steer := ⟨⟨(RX10, TX10, 11), rfl, rfl⟩, cm_X10_steer, (mtb 522 (by decide +kernel) rfl), (mtb 523 (by decide +kernel) rfl), sm_X10_steer, (mtb 1 (by decide +kernel) rfl), ⟨by decide +kernel, by decide +kernel, by decide +kernel⟩, by decide⟩
set_option maxRecDepth 20000 in
theorem sm_X10_event : Cond.selects yX10_event.cls yX10_event yX10_event ∈ mtbl := mtb 528 (by decide +kernel) rfl
set_option maxRecDepth 20000 in
theorem cv_L_39 : mCV "DodgemDebateLaw" 39 9 3 kX10_event := ⟨⟨(RX10, TX10, 11), rfl, rfl⟩, cm_X10_event, (mtb 526 (by decide +kernel) rfl), (mtb 527 (by decide +kernel) rfl), sm_X10_event, (mtb 1 (by decide +kernel) rfl), ⟨by decide +kernel, by decide +kernel, by decide +kernel⟩, by decide⟩
set_option maxRecDepth 20000 in
theorem cs_X10_113 : mCS "DodgemDebate" 113 3 kX1_fits := ⟨cm_X1_fits, Or.inl (mtb 530 (by decide +kernel) rfl), (mtb 531 (by decide +kernel) rfl), (mtb 6 (by decide +kernel) rfl), ⟨by decide +kernel, by decide +kernel, by decide +kernel⟩, by decide⟩
set_option maxRecDepth 20000 in
theorem sm_X1_append : Cond.selects yX1_append.cls yX1_append yX1_append ∈ mtbl := mtb 536 (by decide +kernel) rfl
set_option maxRecDepth 20000 in
theorem cv_X10_118 : mCV "DodgemDebate" 118 1 3 kX1_append := ⟨⟨(RX1, TX1, 4), rfl, rfl⟩, cm_X1_append, (mtb 534 (by decide +kernel) rfl), (mtb 535 (by decide +kernel) rfl), sm_X1_append, (mtb 6 (by decide +kernel) rfl), ⟨by decide +kernel, by decide +kernel, by decide +kernel⟩, by decide⟩
set_option maxRecDepth 20000 in
theorem sm_X10_back : Cond.selects yX10_back.cls yX10_back yX10_back ∈ mtbl := mtb 540 (by decide +kernel) rfl
set_option maxRecDepth 20000 in
theorem cv_L_44 : mCV "DodgemDebateLaw" 44 9 0 kX10_back := ⟨⟨(RX10, TX10, 11), rfl, rfl⟩, cm_X10_back, (mtb 538 (by decide +kernel) rfl), (mtb 539 (by decide +kernel) rfl), sm_X10_back, (mtb 1 (by decide +kernel) rfl), ⟨by decide +kernel, by decide +kernel, by decide +kernel⟩, by decide⟩
set_option maxRecDepth 20000 in
theorem sm_X10_read : Cond.selects yX10_read.cls yX10_read yX10_read ∈ mtbl := mtb 544 (by decide +kernel) rfl
set_option maxRecDepth 20000 in
theorem cv_L_49 : mCV "DodgemDebateLaw" 49 9 1 kX10_read := ⟨⟨(RX10, TX10, 11), rfl, rfl⟩, cm_X10_read, (mtb 542 (by decide +kernel) rfl), (mtb 543 (by decide +kernel) rfl), sm_X10_read, (mtb 1 (by decide +kernel) rfl), ⟨by decide +kernel, by decide +kernel, by decide +kernel⟩, by decide⟩
set_option maxRecDepth 20000 in
theorem sm_X4_isLost : Cond.selects yX4_isLost.cls yX4_isLost yX4_isLost ∈ mtbl := mtb 548 (by decide +kernel) rfl
set_option maxRecDepth 20000 in
theorem cv_X10_121 : mCV "DodgemDebate" 121 4 1 kX4_isLost := ⟨⟨(RX4, TX4, 4), rfl, rfl⟩, cm_X4_isLost, (mtb 546 (by decide +kernel) rfl), (mtb 547 (by decide +kernel) rfl), sm_X4_isLost, (mtb 8 (by decide +kernel) rfl), ⟨by decide +kernel, by decide +kernel, by decide +kernel⟩, by decide⟩
set_option maxRecDepth 20000 in
theorem sm_X4_found : Cond.selects yX4_found.cls yX4_found yX4_found ∈ mtbl := mtb 552 (by decide +kernel) rfl
set_option maxRecDepth 20000 in
theorem cv_X10_125 : mCV "DodgemDebate" 125 4 1 kX4_found := ⟨⟨(RX4, TX4, 4), rfl, rfl⟩, cm_X4_found, (mtb 550 (by decide +kernel) rfl), (mtb 551 (by decide +kernel) rfl), sm_X4_found, (mtb 8 (by decide +kernel) rfl), ⟨by decide +kernel, by decide +kernel, by decide +kernel⟩, by decide⟩
set_option maxRecDepth 20000 in
theorem sm_X10_at : Cond.selects yX10_at.cls yX10_at yX10_at ∈ mtbl := mtb 556 (by decide +kernel) rfl
set_option maxRecDepth 20000 in
theorem cv_L_53 : mCV "DodgemDebateLaw" 53 9 3 kX10_at := ⟨⟨(RX10, TX10, 11), rfl, rfl⟩, cm_X10_at, (mtb 554 (by decide +kernel) rfl), (mtb 555 (by decide +kernel) rfl), sm_X10_at, (mtb 1 (by decide +kernel) rfl), ⟨by decide +kernel, by decide +kernel, by decide +kernel⟩, by decide⟩
set_option maxRecDepth 20000 in
theorem sm_X3_behind : Cond.selects yX3_behind.cls yX3_behind yX3_behind ∈ mtbl := mtb 560 (by decide +kernel) rfl
set_option maxRecDepth 20000 in
theorem cv_X10_135 : mCV "DodgemDebate" 135 3 3 kX3_behind := ⟨⟨(RX3, TX3, 10), rfl, rfl⟩, cm_X3_behind, (mtb 558 (by decide +kernel) rfl), (mtb 559 (by decide +kernel) rfl), sm_X3_behind, (mtb 9 (by decide +kernel) rfl), ⟨by decide +kernel, by decide +kernel, by decide +kernel⟩, by decide⟩
set_option maxRecDepth 20000 in
theorem sm_X10_who : Cond.selects yX10_who.cls yX10_who yX10_who ∈ mtbl := mtb 564 (by decide +kernel) rfl
set_option maxRecDepth 20000 in
theorem cv_L_57 : mCV "DodgemDebateLaw" 57 9 3 kX10_who := ⟨⟨(RX10, TX10, 11), rfl, rfl⟩, cm_X10_who, (mtb 562 (by decide +kernel) rfl), (mtb 563 (by decide +kernel) rfl), sm_X10_who, (mtb 1 (by decide +kernel) rfl), ⟨by decide +kernel, by decide +kernel, by decide +kernel⟩, by decide⟩
set_option maxRecDepth 20000 in
theorem cs_X10_139 : mCS "DodgemDebate" 139 2 kX10_onFloor := ⟨cm_X10_onFloor, Or.inl (mtb 566 (by decide +kernel) rfl), (mtb 500 (by decide +kernel) rfl), (mtb 1 (by decide +kernel) rfl), ⟨by decide +kernel, by decide +kernel, by decide +kernel⟩, by decide⟩
set_option maxRecDepth 20000 in
theorem sm_X3_inCell : Cond.selects yX3_inCell.cls yX3_inCell yX3_inCell ∈ mtbl := mtb 569 (by decide +kernel) rfl
set_option maxRecDepth 20000 in
theorem cv_X10_142 : mCV "DodgemDebate" 142 3 3 kX3_inCell := ⟨⟨(RX3, TX3, 10), rfl, rfl⟩, cm_X3_inCell, (mtb 567 (by decide +kernel) rfl), (mtb 568 (by decide +kernel) rfl), sm_X3_inCell, (mtb 9 (by decide +kernel) rfl), ⟨by decide +kernel, by decide +kernel, by decide +kernel⟩, by decide⟩
set_option maxRecDepth 20000 in
theorem cv_X3_117 : mCV "DodgemDebate$Run" 117 3 3 kX3_behind := ⟨⟨(RX3, TX3, 10), rfl, rfl⟩, cm_X3_behind, (mtb 571 (by decide +kernel) rfl), (mtb 559 (by decide +kernel) rfl), sm_X3_behind, (mtb 9 (by decide +kernel) rfl), ⟨by decide +kernel, by decide +kernel, by decide +kernel⟩, by decide⟩
set_option maxRecDepth 20000 in
theorem sm_X10_house : Cond.selects yX10_house.cls yX10_house yX10_house ∈ mtbl := mtb 574 (by decide +kernel) rfl
set_option maxRecDepth 20000 in
theorem cv_L_61 : mCV "DodgemDebateLaw" 61 9 2 kX10_house := ⟨⟨(RX10, TX10, 11), rfl, rfl⟩, cm_X10_house, (mtb 572 (by decide +kernel) rfl), (mtb 573 (by decide +kernel) rfl), sm_X10_house, (mtb 1 (by decide +kernel) rfl), ⟨by decide +kernel, by decide +kernel, by decide +kernel⟩, by decide⟩
set_option maxRecDepth 20000 in
theorem sm_X3_ayes : Cond.selects yX3_ayes.cls yX3_ayes yX3_ayes ∈ mtbl := mtb 578 (by decide +kernel) rfl
set_option maxRecDepth 20000 in
theorem cv_X10_148 : mCV "DodgemDebate" 148 3 1 kX3_ayes := ⟨⟨(RX3, TX3, 10), rfl, rfl⟩, cm_X3_ayes, (mtb 576 (by decide +kernel) rfl), (mtb 577 (by decide +kernel) rfl), sm_X3_ayes, (mtb 9 (by decide +kernel) rfl), ⟨by decide +kernel, by decide +kernel, by decide +kernel⟩, by decide⟩
set_option maxRecDepth 20000 in
theorem sm_X10_strikes : Cond.selects yX10_strikes.cls yX10_strikes yX10_strikes ∈ mtbl := mtb 582 (by decide +kernel) rfl
set_option maxRecDepth 20000 in
theorem cv_L_65 : mCV "DodgemDebateLaw" 65 9 0 kX10_strikes := ⟨⟨(RX10, TX10, 11), rfl, rfl⟩, cm_X10_strikes, (mtb 580 (by decide +kernel) rfl), (mtb 581 (by decide +kernel) rfl), sm_X10_strikes, (mtb 1 (by decide +kernel) rfl), ⟨by decide +kernel, by decide +kernel, by decide +kernel⟩, by decide⟩
set_option maxRecDepth 20000 in
theorem sm_X10_first : Cond.selects yX10_first.cls yX10_first yX10_first ∈ mtbl := mtb 586 (by decide +kernel) rfl
set_option maxRecDepth 20000 in
theorem cv_L_69 : mCV "DodgemDebateLaw" 69 9 1 kX10_first := ⟨⟨(RX10, TX10, 11), rfl, rfl⟩, cm_X10_first, (mtb 584 (by decide +kernel) rfl), (mtb 585 (by decide +kernel) rfl), sm_X10_first, (mtb 1 (by decide +kernel) rfl), ⟨by decide +kernel, by decide +kernel, by decide +kernel⟩, by decide⟩
set_option maxRecDepth 20000 in
theorem sm_X10_best : Cond.selects yX10_best.cls yX10_best yX10_best ∈ mtbl := mtb 590 (by decide +kernel) rfl
set_option maxRecDepth 20000 in
theorem cv_L_73 : mCV "DodgemDebateLaw" 73 9 0 kX10_best := ⟨⟨(RX10, TX10, 11), rfl, rfl⟩, cm_X10_best, (mtb 588 (by decide +kernel) rfl), (mtb 589 (by decide +kernel) rfl), sm_X10_best, (mtb 1 (by decide +kernel) rfl), ⟨by decide +kernel, by decide +kernel, by decide +kernel⟩, by decide⟩
set_option maxRecDepth 20000 in
theorem sm_X3_leader : Cond.selects yX3_leader.cls yX3_leader yX3_leader ∈ mtbl := mtb 594 (by decide +kernel) rfl
set_option maxRecDepth 20000 in
theorem cv_X10_160 : mCV "DodgemDebate" 160 3 0 kX3_leader := ⟨⟨(RX3, TX3, 10), rfl, rfl⟩, cm_X3_leader, (mtb 592 (by decide +kernel) rfl), (mtb 593 (by decide +kernel) rfl), sm_X3_leader, (mtb 9 (by decide +kernel) rfl), ⟨by decide +kernel, by decide +kernel, by decide +kernel⟩, by decide⟩
set_option maxRecDepth 20000 in
theorem sm_X10_meek : Cond.selects yX10_meek.cls yX10_meek yX10_meek ∈ mtbl := mtb 598 (by decide +kernel) rfl
set_option maxRecDepth 20000 in
theorem cv_L_77 : mCV "DodgemDebateLaw" 77 9 0 kX10_meek := ⟨⟨(RX10, TX10, 11), rfl, rfl⟩, cm_X10_meek, (mtb 596 (by decide +kernel) rfl), (mtb 597 (by decide +kernel) rfl), sm_X10_meek, (mtb 1 (by decide +kernel) rfl), ⟨by decide +kernel, by decide +kernel, by decide +kernel⟩, by decide⟩
set_option maxRecDepth 20000 in
theorem sm_X3_untouched : Cond.selects yX3_untouched.cls yX3_untouched yX3_untouched ∈ mtbl := mtb 602 (by decide +kernel) rfl
set_option maxRecDepth 20000 in
theorem cv_X10_164 : mCV "DodgemDebate" 164 3 0 kX3_untouched := ⟨⟨(RX3, TX3, 10), rfl, rfl⟩, cm_X3_untouched, (mtb 600 (by decide +kernel) rfl), (mtb 601 (by decide +kernel) rfl), sm_X3_untouched, (mtb 9 (by decide +kernel) rfl), ⟨by decide +kernel, by decide +kernel, by decide +kernel⟩, by decide⟩
set_option maxRecDepth 20000 in
theorem sm_X10_jam : Cond.selects yX10_jam.cls yX10_jam yX10_jam ∈ mtbl := mtb 606 (by decide +kernel) rfl
set_option maxRecDepth 20000 in
theorem cv_L_81 : mCV "DodgemDebateLaw" 81 9 1 kX10_jam := ⟨⟨(RX10, TX10, 11), rfl, rfl⟩, cm_X10_jam, (mtb 604 (by decide +kernel) rfl), (mtb 605 (by decide +kernel) rfl), sm_X10_jam, (mtb 1 (by decide +kernel) rfl), ⟨by decide +kernel, by decide +kernel, by decide +kernel⟩, by decide⟩
set_option maxRecDepth 20000 in
theorem sm_X3_worstJam : Cond.selects yX3_worstJam.cls yX3_worstJam yX3_worstJam ∈ mtbl := mtb 610 (by decide +kernel) rfl
set_option maxRecDepth 20000 in
theorem cv_X10_167 : mCV "DodgemDebate" 167 3 0 kX3_worstJam := ⟨⟨(RX3, TX3, 10), rfl, rfl⟩, cm_X3_worstJam, (mtb 608 (by decide +kernel) rfl), (mtb 609 (by decide +kernel) rfl), sm_X3_worstJam, (mtb 9 (by decide +kernel) rfl), ⟨by decide +kernel, by decide +kernel, by decide +kernel⟩, by decide⟩
set_option maxRecDepth 20000 in
theorem sm_X10_carried : Cond.selects yX10_carried.cls yX10_carried yX10_carried ∈ mtbl := mtb 614 (by decide +kernel) rfl
set_option maxRecDepth 20000 in
theorem cv_L_85 : mCV "DodgemDebateLaw" 85 9 0 kX10_carried := ⟨⟨(RX10, TX10, 11), rfl, rfl⟩, cm_X10_carried, (mtb 612 (by decide +kernel) rfl), (mtb 613 (by decide +kernel) rfl), sm_X10_carried, (mtb 1 (by decide +kernel) rfl), ⟨by decide +kernel, by decide +kernel, by decide +kernel⟩, by decide⟩
set_option maxRecDepth 20000 in
theorem sm_X10_stand : Cond.selects yX10_stand.cls yX10_stand yX10_stand ∈ mtbl := mtb 618 (by decide +kernel) rfl
set_option maxRecDepth 20000 in
theorem cv_L_89 : mCV "DodgemDebateLaw" 89 9 2 kX10_stand := ⟨⟨(RX10, TX10, 11), rfl, rfl⟩, cm_X10_stand, (mtb 616 (by decide +kernel) rfl), (mtb 617 (by decide +kernel) rfl), sm_X10_stand, (mtb 1 (by decide +kernel) rfl), ⟨by decide +kernel, by decide +kernel, by decide +kernel⟩, by decide⟩
set_option maxRecDepth 20000 in
theorem sm_X9_bestStand : Cond.selects yX9_bestStand.cls yX9_bestStand yX9_bestStand ∈ mtbl := mtb 622 (by decide +kernel) rfl
set_option maxRecDepth 20000 in
theorem cv_X10_173 : mCV "DodgemDebate" 173 8 1 kX9_bestStand := ⟨⟨(RX9, TX9, 10), rfl, rfl⟩, cm_X9_bestStand, (mtb 620 (by decide +kernel) rfl), (mtb 621 (by decide +kernel) rfl), sm_X9_bestStand, (mtb 10 (by decide +kernel) rfl), ⟨by decide +kernel, by decide +kernel, by decide +kernel⟩, by decide⟩
set_option maxRecDepth 20000 in
theorem sm_X0_becomeLike : Cond.selects yX0_becomeLike.cls yX0_becomeLike yX0_becomeLike ∈ mtbl := mtb 626 (by decide +kernel) rfl
set_option maxRecDepth 20000 in
theorem cv_X9_55 : mCV "DodgemDebate$Trials" 55 0 1 kX0_becomeLike := ⟨⟨(RX0, TX0, 5), rfl, rfl⟩, cm_X0_becomeLike, (mtb 624 (by decide +kernel) rfl), (mtb 625 (by decide +kernel) rfl), sm_X0_becomeLike, (mtb 4 (by decide +kernel) rfl), ⟨by decide +kernel, by decide +kernel, by decide +kernel⟩, by decide⟩
set_option maxRecDepth 20000 in
theorem cv_X9_63 : mCV "DodgemDebate$Trials" 63 0 4 kX0_isTaken := ⟨⟨(RX0, TX0, 5), rfl, rfl⟩, cm_X0_isTaken, (mtb 629 (by decide +kernel) rfl), (mtb 458 (by decide +kernel) rfl), sm_X0_isTaken, (mtb 4 (by decide +kernel) rfl), ⟨by decide +kernel, by decide +kernel, by decide +kernel⟩, by decide⟩
set_option maxRecDepth 20000 in
theorem cv_X9_70 : mCV "DodgemDebate$Trials" 70 3 4 kX3_play := ⟨⟨(RX3, TX3, 10), rfl, rfl⟩, cm_X3_play, (mtb 630 (by decide +kernel) rfl), (mtb 473 (by decide +kernel) rfl), sm_X3_play, (mtb 9 (by decide +kernel) rfl), ⟨by decide +kernel, by decide +kernel, by decide +kernel⟩, by decide⟩
set_option maxRecDepth 20000 in
theorem cs_X10_176 : mCS "DodgemDebate" 176 2 kX10_standPart := ⟨cm_X10_standPart, Or.inl (mtb 631 (by decide +kernel) rfl), (mtb 632 (by decide +kernel) rfl), (mtb 1 (by decide +kernel) rfl), ⟨by decide +kernel, by decide +kernel, by decide +kernel⟩, by decide⟩
set_option maxRecDepth 20000 in
theorem sm_X10_better : Cond.selects yX10_better.cls yX10_better yX10_better ∈ mtbl := mtb 636 (by decide +kernel) rfl
set_option maxRecDepth 20000 in
theorem cv_L_93 : mCV "DodgemDebateLaw" 93 9 3 kX10_better := ⟨⟨(RX10, TX10, 11), rfl, rfl⟩, cm_X10_better, (mtb 634 (by decide +kernel) rfl), (mtb 635 (by decide +kernel) rfl), sm_X10_better, (mtb 1 (by decide +kernel) rfl), ⟨by decide +kernel, by decide +kernel, by decide +kernel⟩, by decide⟩
set_option maxRecDepth 20000 in
theorem sm_X9_bestTurn : Cond.selects yX9_bestTurn.cls yX9_bestTurn yX9_bestTurn ∈ mtbl := mtb 640 (by decide +kernel) rfl
set_option maxRecDepth 20000 in
theorem cv_X10_180 : mCV "DodgemDebate" 180 8 2 kX9_bestTurn := ⟨⟨(RX9, TX9, 10), rfl, rfl⟩, cm_X9_bestTurn, (mtb 638 (by decide +kernel) rfl), (mtb 639 (by decide +kernel) rfl), sm_X9_bestTurn, (mtb 10 (by decide +kernel) rfl), ⟨by decide +kernel, by decide +kernel, by decide +kernel⟩, by decide⟩
set_option maxRecDepth 20000 in
theorem sm_X6_lend : Cond.selects yX6_lend.cls yX6_lend yX6_lend ∈ mtbl := mtb 644 (by decide +kernel) rfl
set_option maxRecDepth 20000 in
theorem cv_X9_77 : mCV "DodgemDebate$Trials" 77 6 3 kX6_lend := ⟨⟨(RX6, TX6, 5), rfl, rfl⟩, cm_X6_lend, (mtb 642 (by decide +kernel) rfl), (mtb 643 (by decide +kernel) rfl), sm_X6_lend, (mtb 5 (by decide +kernel) rfl), ⟨by decide +kernel, by decide +kernel, by decide +kernel⟩, by decide⟩
set_option maxRecDepth 20000 in
theorem sm_X6_giveBack : Cond.selects yX6_giveBack.cls yX6_giveBack yX6_giveBack ∈ mtbl := mtb 648 (by decide +kernel) rfl
set_option maxRecDepth 20000 in
theorem cv_X9_83 : mCV "DodgemDebate$Trials" 83 6 0 kX6_giveBack := ⟨⟨(RX6, TX6, 5), rfl, rfl⟩, cm_X6_giveBack, (mtb 646 (by decide +kernel) rfl), (mtb 647 (by decide +kernel) rfl), sm_X6_giveBack, (mtb 5 (by decide +kernel) rfl), ⟨by decide +kernel, by decide +kernel, by decide +kernel⟩, by decide⟩
set_option maxRecDepth 20000 in
theorem cs_X10_183 : mCS "DodgemDebate" 183 2 kX10_turnPart := ⟨cm_X10_turnPart, Or.inl (mtb 650 (by decide +kernel) rfl), (mtb 651 (by decide +kernel) rfl), (mtb 1 (by decide +kernel) rfl), ⟨by decide +kernel, by decide +kernel, by decide +kernel⟩, by decide⟩
set_option maxRecDepth 20000 in
theorem sm_X10_ring : Cond.selects yX10_ring.cls yX10_ring yX10_ring ∈ mtbl := mtb 655 (by decide +kernel) rfl
set_option maxRecDepth 20000 in
theorem cv_L_97 : mCV "DodgemDebateLaw" 97 9 1 kX10_ring := ⟨⟨(RX10, TX10, 11), rfl, rfl⟩, cm_X10_ring, (mtb 653 (by decide +kernel) rfl), (mtb 654 (by decide +kernel) rfl), sm_X10_ring, (mtb 1 (by decide +kernel) rfl), ⟨by decide +kernel, by decide +kernel, by decide +kernel⟩, by decide⟩
set_option maxRecDepth 20000 in
theorem sm_X10_ayesAhead : Cond.selects yX10_ayesAhead.cls yX10_ayesAhead yX10_ayesAhead ∈ mtbl := mtbs (List.mem_of_getElem? (i := 10) (by decide +kernel)) rfl
set_option maxRecDepth 20000 in
theorem cv_X10_186 : mCV "DodgemDebate" 186 9 1 kX10_ayesAhead := ⟨⟨(RX10, TX10, 11), rfl, rfl⟩, cm_X10_ayesAhead, (mtb 657 (by decide +kernel) rfl), (mtb 659 (by decide +kernel) rfl), sm_X10_ayesAhead, (mtb 1 (by decide +kernel) rfl), ⟨by decide +kernel, by decide +kernel, by decide +kernel⟩, by decide⟩
set_option maxRecDepth 20000 in
theorem sm_X0_ayesAsTold : Cond.selects yX0_ayesAsTold.cls yX0_ayesAsTold yX0_ayesAsTold ∈ mtbl := mtb 663 (by decide +kernel) rfl
set_option maxRecDepth 20000 in
theorem cv_X10_314 : mCV "DodgemDebate" 314 0 0 kX0_ayesAsTold := ⟨⟨(RX0, TX0, 5), rfl, rfl⟩, cm_X0_ayesAsTold, (mtb 661 (by decide +kernel) rfl), (mtb 662 (by decide +kernel) rfl), sm_X0_ayesAsTold, (mtb 4 (by decide +kernel) rfl), ⟨by decide +kernel, by decide +kernel, by decide +kernel⟩, by decide⟩
set_option maxRecDepth 20000 in
theorem sm_X10_spare : Cond.selects yX10_spare.cls yX10_spare yX10_spare ∈ mtbl := mtb 667 (by decide +kernel) rfl
set_option maxRecDepth 20000 in
theorem cv_L_101 : mCV "DodgemDebateLaw" 101 9 1 kX10_spare := ⟨⟨(RX10, TX10, 11), rfl, rfl⟩, cm_X10_spare, (mtb 665 (by decide +kernel) rfl), (mtb 666 (by decide +kernel) rfl), sm_X10_spare, (mtb 1 (by decide +kernel) rfl), ⟨by decide +kernel, by decide +kernel, by decide +kernel⟩, by decide⟩
set_option maxRecDepth 20000 in
theorem sm_X9_fewestSpared : Cond.selects yX9_fewestSpared.cls yX9_fewestSpared yX9_fewestSpared ∈ mtbl := mtb 671 (by decide +kernel) rfl
set_option maxRecDepth 20000 in
theorem cv_X10_189 : mCV "DodgemDebate" 189 8 0 kX9_fewestSpared := ⟨⟨(RX9, TX9, 10), rfl, rfl⟩, cm_X9_fewestSpared, (mtb 669 (by decide +kernel) rfl), (mtb 670 (by decide +kernel) rfl), sm_X9_fewestSpared, (mtb 10 (by decide +kernel) rfl), ⟨by decide +kernel, by decide +kernel, by decide +kernel⟩, by decide⟩
set_option maxRecDepth 20000 in
theorem sm_X9_touchesAll : Cond.selects yX9_touchesAll.cls yX9_touchesAll yX9_touchesAll ∈ mtbl := mtbs (List.mem_of_getElem? (i := 11) (by decide +kernel)) rfl
set_option maxRecDepth 20000 in
theorem cv_X9_86 : mCV "DodgemDebate$Trials" 86 8 1 kX9_touchesAll := ⟨⟨(RX9, TX9, 10), rfl, rfl⟩, cm_X9_touchesAll, (mtb 673 (by decide +kernel) rfl), (mtb 675 (by decide +kernel) rfl), sm_X9_touchesAll, (mtb 10 (by decide +kernel) rfl), ⟨by decide +kernel, by decide +kernel, by decide +kernel⟩, by decide⟩
set_option maxRecDepth 20000 in
theorem cv_X9_91 : mCV "DodgemDebate$Trials" 91 3 0 kX3_untouched := ⟨⟨(RX3, TX3, 10), rfl, rfl⟩, cm_X3_untouched, (mtb 677 (by decide +kernel) rfl), (mtb 601 (by decide +kernel) rfl), sm_X3_untouched, (mtb 9 (by decide +kernel) rfl), ⟨by decide +kernel, by decide +kernel, by decide +kernel⟩, by decide⟩
set_option maxRecDepth 20000 in
theorem cs_X10_192 : mCS "DodgemDebate" 192 2 kX10_sparePart := ⟨cm_X10_sparePart, Or.inl (mtb 678 (by decide +kernel) rfl), (mtb 679 (by decide +kernel) rfl), (mtb 1 (by decide +kernel) rfl), ⟨by decide +kernel, by decide +kernel, by decide +kernel⟩, by decide⟩
set_option maxRecDepth 20000 in
theorem cs_X10_317 : mCS "DodgemDebate" 317 1 kJ6_bitCount_0f7a4 := ⟨cm_J6_bitCount_0f7a4, Or.inl (mtb 681 (by decide +kernel) rfl), (mtb 682 (by decide +kernel) rfl), (mtb 21 (by decide +kernel) rfl), ⟨by decide +kernel, by decide +kernel, by decide +kernel⟩, by decide⟩
set_option maxRecDepth 20000 in
theorem sm_X10_seen : Cond.selects yX10_seen.cls yX10_seen yX10_seen ∈ mtbl := mtb 689 (by decide +kernel) rfl
set_option maxRecDepth 20000 in
theorem cv_L_105 : mCV "DodgemDebateLaw" 105 9 4 kX10_seen := ⟨⟨(RX10, TX10, 11), rfl, rfl⟩, cm_X10_seen, (mtb 687 (by decide +kernel) rfl), (mtb 688 (by decide +kernel) rfl), sm_X10_seen, (mtb 1 (by decide +kernel) rfl), ⟨by decide +kernel, by decide +kernel, by decide +kernel⟩, by decide⟩
set_option maxRecDepth 20000 in
theorem sm_X5_append : Cond.selects yX5_append.cls yX5_append yX5_append ∈ mtbl := mtb 693 (by decide +kernel) rfl
set_option maxRecDepth 20000 in
theorem cv_X10_196 : mCV "DodgemDebate" 196 5 4 kX5_append := ⟨⟨(RX5, TX5, 5), rfl, rfl⟩, cm_X5_append, (mtb 691 (by decide +kernel) rfl), (mtb 692 (by decide +kernel) rfl), sm_X5_append, (mtb 7 (by decide +kernel) rfl), ⟨by decide +kernel, by decide +kernel, by decide +kernel⟩, by decide⟩
set_option maxRecDepth 20000 in
theorem sm_X10_forget : Cond.selects yX10_forget.cls yX10_forget yX10_forget ∈ mtbl := mtb 697 (by decide +kernel) rfl
set_option maxRecDepth 20000 in
theorem cv_L_110 : mCV "DodgemDebateLaw" 110 9 0 kX10_forget := ⟨⟨(RX10, TX10, 11), rfl, rfl⟩, cm_X10_forget, (mtb 695 (by decide +kernel) rfl), (mtb 696 (by decide +kernel) rfl), sm_X10_forget, (mtb 1 (by decide +kernel) rfl), ⟨by decide +kernel, by decide +kernel, by decide +kernel⟩, by decide⟩
set_option maxRecDepth 20000 in
theorem sm_X10_never : Cond.selects yX10_never.cls yX10_never yX10_never ∈ mtbl := mtb 701 (by decide +kernel) rfl
set_option maxRecDepth 20000 in
theorem cv_L_114 : mCV "DodgemDebateLaw" 114 9 0 kX10_never := ⟨⟨(RX10, TX10, 11), rfl, rfl⟩, cm_X10_never, (mtb 699 (by decide +kernel) rfl), (mtb 700 (by decide +kernel) rfl), sm_X10_never, (mtb 1 (by decide +kernel) rfl), ⟨by decide +kernel, by decide +kernel, by decide +kernel⟩, by decide⟩
set_option maxRecDepth 20000 in
theorem sm_X9_eventsThatNeverWere : Cond.selects yX9_eventsThatNeverWere.cls yX9_eventsThatNeverWere yX9_eventsThatNeverWere ∈ mtbl := mtb 705 (by decide +kernel) rfl
set_option maxRecDepth 20000 in
theorem cv_X10_199 : mCV "DodgemDebate" 199 8 0 kX9_eventsThatNeverWere := ⟨⟨(RX9, TX9, 10), rfl, rfl⟩, cm_X9_eventsThatNeverWere, (mtb 703 (by decide +kernel) rfl), (mtb 704 (by decide +kernel) rfl), sm_X9_eventsThatNeverWere, (mtb 10 (by decide +kernel) rfl), ⟨by decide +kernel, by decide +kernel, by decide +kernel⟩, by decide⟩
set_option maxRecDepth 20000 in
theorem sm_X5_comeOutIn : Cond.selects yX5_comeOutIn.cls yX5_comeOutIn yX5_comeOutIn ∈ mtbl := mtb 709 (by decide +kernel) rfl
set_option maxRecDepth 20000 in
theorem cv_X9_95 : mCV "DodgemDebate$Trials" 95 5 1 kX5_comeOutIn := ⟨⟨(RX5, TX5, 5), rfl, rfl⟩, cm_X5_comeOutIn, (mtb 707 (by decide +kernel) rfl), (mtb 708 (by decide +kernel) rfl), sm_X5_comeOutIn, (mtb 7 (by decide +kernel) rfl), ⟨by decide +kernel, by decide +kernel, by decide +kernel⟩, by decide⟩
set_option maxRecDepth 20000 in
theorem cv_X5_31 : mCV "DodgemDebate$Sightings" 31 3 3 kX3_behind := ⟨⟨(RX3, TX3, 10), rfl, rfl⟩, cm_X3_behind, (mtb 711 (by decide +kernel) rfl), (mtb 559 (by decide +kernel) rfl), sm_X3_behind, (mtb 9 (by decide +kernel) rfl), ⟨by decide +kernel, by decide +kernel, by decide +kernel⟩, by decide⟩
set_option maxRecDepth 20000 in
theorem sm_X10_was : Cond.selects yX10_was.cls yX10_was yX10_was ∈ mtbl := mtb 714 (by decide +kernel) rfl
set_option maxRecDepth 20000 in
theorem cv_L_118 : mCV "DodgemDebateLaw" 118 9 2 kX10_was := ⟨⟨(RX10, TX10, 11), rfl, rfl⟩, cm_X10_was, (mtb 712 (by decide +kernel) rfl), (mtb 713 (by decide +kernel) rfl), sm_X10_was, (mtb 1 (by decide +kernel) rfl), ⟨by decide +kernel, by decide +kernel, by decide +kernel⟩, by decide⟩
set_option maxRecDepth 20000 in
theorem sm_X9_sortsOf : Cond.selects yX9_sortsOf.cls yX9_sortsOf yX9_sortsOf ∈ mtbl := mtb 718 (by decide +kernel) rfl
set_option maxRecDepth 20000 in
theorem cv_X10_202 : mCV "DodgemDebate" 202 8 1 kX9_sortsOf := ⟨⟨(RX9, TX9, 10), rfl, rfl⟩, cm_X9_sortsOf, (mtb 716 (by decide +kernel) rfl), (mtb 717 (by decide +kernel) rfl), sm_X9_sortsOf, (mtb 10 (by decide +kernel) rfl), ⟨by decide +kernel, by decide +kernel, by decide +kernel⟩, by decide⟩
set_option maxRecDepth 20000 in
theorem sm_X9_agrees : Cond.selects yX9_agrees.cls yX9_agrees yX9_agrees ∈ mtbl := mtbs (List.mem_of_getElem? (i := 12) (by decide +kernel)) rfl
set_option maxRecDepth 20000 in
theorem cv_X9_101 : mCV "DodgemDebate$Trials" 101 8 3 kX9_agrees := ⟨⟨(RX9, TX9, 10), rfl, rfl⟩, cm_X9_agrees, (mtb 720 (by decide +kernel) rfl), (mtb 722 (by decide +kernel) rfl), sm_X9_agrees, (mtb 10 (by decide +kernel) rfl), ⟨by decide +kernel, by decide +kernel, by decide +kernel⟩, by decide⟩
set_option maxRecDepth 20000 in
theorem sm_X9_weightsOf : Cond.selects yX9_weightsOf.cls yX9_weightsOf yX9_weightsOf ∈ mtbl := mtb 726 (by decide +kernel) rfl
set_option maxRecDepth 20000 in
theorem cv_X10_205 : mCV "DodgemDebate" 205 8 1 kX9_weightsOf := ⟨⟨(RX9, TX9, 10), rfl, rfl⟩, cm_X9_weightsOf, (mtb 724 (by decide +kernel) rfl), (mtb 725 (by decide +kernel) rfl), sm_X9_weightsOf, (mtb 10 (by decide +kernel) rfl), ⟨by decide +kernel, by decide +kernel, by decide +kernel⟩, by decide⟩
set_option maxRecDepth 20000 in
theorem sm_X10_ask : Cond.selects yX10_ask.cls yX10_ask yX10_ask ∈ mtbl := mtb 730 (by decide +kernel) rfl
set_option maxRecDepth 20000 in
theorem cv_L_122 : mCV "DodgemDebateLaw" 122 9 1 kX10_ask := ⟨⟨(RX10, TX10, 11), rfl, rfl⟩, cm_X10_ask, (mtb 728 (by decide +kernel) rfl), (mtb 729 (by decide +kernel) rfl), sm_X10_ask, (mtb 1 (by decide +kernel) rfl), ⟨by decide +kernel, by decide +kernel, by decide +kernel⟩, by decide⟩
set_option maxRecDepth 20000 in
theorem sm_X9_momentToLook : Cond.selects yX9_momentToLook.cls yX9_momentToLook yX9_momentToLook ∈ mtbl := mtb 734 (by decide +kernel) rfl
set_option maxRecDepth 20000 in
theorem cv_X10_208 : mCV "DodgemDebate" 208 8 1 kX9_momentToLook := ⟨⟨(RX9, TX9, 10), rfl, rfl⟩, cm_X9_momentToLook, (mtb 732 (by decide +kernel) rfl), (mtb 733 (by decide +kernel) rfl), sm_X9_momentToLook, (mtb 10 (by decide +kernel) rfl), ⟨by decide +kernel, by decide +kernel, by decide +kernel⟩, by decide⟩
set_option maxRecDepth 20000 in
theorem sm_X9_cellOf : Cond.selects yX9_cellOf.cls yX9_cellOf yX9_cellOf ∈ mtbl := mtbs (List.mem_of_getElem? (i := 13) (by decide +kernel)) rfl
set_option maxRecDepth 20000 in
theorem cv_X9_105 : mCV "DodgemDebate$Trials" 105 8 2 kX9_cellOf := ⟨⟨(RX9, TX9, 10), rfl, rfl⟩, cm_X9_cellOf, (mtb 736 (by decide +kernel) rfl), (mtb 738 (by decide +kernel) rfl), sm_X9_cellOf, (mtb 10 (by decide +kernel) rfl), ⟨by decide +kernel, by decide +kernel, by decide +kernel⟩, by decide⟩
set_option maxRecDepth 20000 in
theorem cv_X9_113 : mCV "DodgemDebate$Trials" 113 3 3 kX3_behind := ⟨⟨(RX3, TX3, 10), rfl, rfl⟩, cm_X3_behind, (mtb 740 (by decide +kernel) rfl), (mtb 559 (by decide +kernel) rfl), sm_X3_behind, (mtb 9 (by decide +kernel) rfl), ⟨by decide +kernel, by decide +kernel, by decide +kernel⟩, by decide⟩
set_option maxRecDepth 20000 in
theorem sm_X9_mostAlike : Cond.selects yX9_mostAlike.cls yX9_mostAlike yX9_mostAlike ∈ mtbl := mtbs (List.mem_of_getElem? (i := 14) (by decide +kernel)) rfl
set_option maxRecDepth 20000 in
theorem cv_X9_109 : mCV "DodgemDebate$Trials" 109 8 1 kX9_mostAlike := ⟨⟨(RX9, TX9, 10), rfl, rfl⟩, cm_X9_mostAlike, (mtb 741 (by decide +kernel) rfl), (mtb 743 (by decide +kernel) rfl), sm_X9_mostAlike, (mtb 10 (by decide +kernel) rfl), ⟨by decide +kernel, by decide +kernel, by decide +kernel⟩, by decide⟩
set_option maxRecDepth 20000 in
theorem cs_X9_117 : mCS "DodgemDebate$Trials" 117 2 kJ9_max_7cf53 := ⟨cm_J9_max_7cf53, Or.inl (mtb 745 (by decide +kernel) rfl), (mtb 395 (by decide +kernel) rfl), (mtb 15 (by decide +kernel) rfl), ⟨by decide +kernel, by decide +kernel, by decide +kernel⟩, by decide⟩
set_option maxRecDepth 20000 in
theorem sm_X10_chance : Cond.selects yX10_chance.cls yX10_chance yX10_chance ∈ mtbl := mtb 748 (by decide +kernel) rfl
set_option maxRecDepth 20000 in
theorem cv_L_126 : mCV "DodgemDebateLaw" 126 9 3 kX10_chance := ⟨⟨(RX10, TX10, 11), rfl, rfl⟩, cm_X10_chance, (mtb 746 (by decide +kernel) rfl), (mtb 747 (by decide +kernel) rfl), sm_X10_chance, (mtb 1 (by decide +kernel) rfl), ⟨by decide +kernel, by decide +kernel, by decide +kernel⟩, by decide⟩
set_option maxRecDepth 20000 in
theorem sm_X9_weighStruck : Cond.selects yX9_weighStruck.cls yX9_weighStruck yX9_weighStruck ∈ mtbl := mtb 753 (by decide +kernel) rfl
set_option maxRecDepth 20000 in
theorem cv_X10_213 : mCV "DodgemDebate" 213 8 2 kX9_weighStruck := ⟨⟨(RX9, TX9, 10), rfl, rfl⟩, cm_X9_weighStruck, (mtb 751 (by decide +kernel) rfl), (mtb 752 (by decide +kernel) rfl), sm_X9_weighStruck, (mtb 10 (by decide +kernel) rfl), ⟨by decide +kernel, by decide +kernel, by decide +kernel⟩, by decide⟩
set_option maxRecDepth 20000 in
theorem sm_X9_findStruck : Cond.selects yX9_findStruck.cls yX9_findStruck yX9_findStruck ∈ mtbl := mtbs (List.mem_of_getElem? (i := 15) (by decide +kernel)) rfl
set_option maxRecDepth 20000 in
theorem cv_X9_122 : mCV "DodgemDebate$Trials" 122 8 0 kX9_findStruck := ⟨⟨(RX9, TX9, 10), rfl, rfl⟩, cm_X9_findStruck, (mtb 755 (by decide +kernel) rfl), (mtb 757 (by decide +kernel) rfl), sm_X9_findStruck, (mtb 10 (by decide +kernel) rfl), ⟨by decide +kernel, by decide +kernel, by decide +kernel⟩, by decide⟩
set_option maxRecDepth 20000 in
theorem sm_X3_wasStruck : Cond.selects yX3_wasStruck.cls yX3_wasStruck yX3_wasStruck ∈ mtbl := mtb 761 (by decide +kernel) rfl
set_option maxRecDepth 20000 in
theorem cv_X9_134 : mCV "DodgemDebate$Trials" 134 3 1 kX3_wasStruck := ⟨⟨(RX3, TX3, 10), rfl, rfl⟩, cm_X3_wasStruck, (mtb 759 (by decide +kernel) rfl), (mtb 760 (by decide +kernel) rfl), sm_X3_wasStruck, (mtb 9 (by decide +kernel) rfl), ⟨by decide +kernel, by decide +kernel, by decide +kernel⟩, by decide⟩
set_option maxRecDepth 20000 in
theorem sm_X9_weightOf : Cond.selects yX9_weightOf.cls yX9_weightOf yX9_weightOf ∈ mtbl := mtbs (List.mem_of_getElem? (i := 16) (by decide +kernel)) rfl
set_option maxRecDepth 20000 in
theorem cv_X9_125 : mCV "DodgemDebate$Trials" 125 8 2 kX9_weightOf := ⟨⟨(RX9, TX9, 10), rfl, rfl⟩, cm_X9_weightOf, (mtb 763 (by decide +kernel) rfl), (mtb 765 (by decide +kernel) rfl), sm_X9_weightOf, (mtb 10 (by decide +kernel) rfl), ⟨by decide +kernel, by decide +kernel, by decide +kernel⟩, by decide⟩
set_option maxRecDepth 20000 in
theorem sm_X10_fractionPart : Cond.selects yX10_fractionPart.cls yX10_fractionPart yX10_fractionPart ∈ mtbl := mtbs (List.mem_of_getElem? (i := 17) (by decide +kernel)) rfl
set_option maxRecDepth 20000 in
theorem cv_X10_217 : mCV "DodgemDebate" 217 9 2 kX10_fractionPart := ⟨⟨(RX10, TX10, 11), rfl, rfl⟩, cm_X10_fractionPart, (mtb 767 (by decide +kernel) rfl), (mtb 769 (by decide +kernel) rfl), sm_X10_fractionPart, (mtb 1 (by decide +kernel) rfl), ⟨by decide +kernel, by decide +kernel, by decide +kernel⟩, by decide⟩
set_option maxRecDepth 20000 in
theorem sm_X10_ages : Cond.selects yX10_ages.cls yX10_ages yX10_ages ∈ mtbl := mtb 774 (by decide +kernel) rfl
set_option maxRecDepth 20000 in
theorem cv_L_131 : mCV "DodgemDebateLaw" 131 9 3 kX10_ages := ⟨⟨(RX10, TX10, 11), rfl, rfl⟩, cm_X10_ages, (mtb 772 (by decide +kernel) rfl), (mtb 773 (by decide +kernel) rfl), sm_X10_ages, (mtb 1 (by decide +kernel) rfl), ⟨by decide +kernel, by decide +kernel, by decide +kernel⟩, by decide⟩
set_option maxRecDepth 20000 in
theorem sm_X9_playAges : Cond.selects yX9_playAges.cls yX9_playAges yX9_playAges ∈ mtbl := mtb 778 (by decide +kernel) rfl
set_option maxRecDepth 20000 in
theorem cv_X10_221 : mCV "DodgemDebate" 221 8 2 kX9_playAges := ⟨⟨(RX9, TX9, 10), rfl, rfl⟩, cm_X9_playAges, (mtb 776 (by decide +kernel) rfl), (mtb 777 (by decide +kernel) rfl), sm_X9_playAges, (mtb 10 (by decide +kernel) rfl), ⟨by decide +kernel, by decide +kernel, by decide +kernel⟩, by decide⟩
set_option maxRecDepth 20000 in
theorem cs_X9_137 : mCS "DodgemDebate$Trials" 137 1 kX9_nextSeed := ⟨cm_X9_nextSeed, Or.inl (mtb 780 (by decide +kernel) rfl), (mtb 781 (by decide +kernel) rfl), (mtb 10 (by decide +kernel) rfl), ⟨by decide +kernel, by decide +kernel, by decide +kernel⟩, by decide⟩
set_option maxRecDepth 20000 in
theorem cs_X9_140 : mCS "DodgemDebate$Trials" 140 2 kX9_lot := ⟨cm_X9_lot, Or.inl (mtb 784 (by decide +kernel) rfl), (mtb 785 (by decide +kernel) rfl), (mtb 10 (by decide +kernel) rfl), ⟨by decide +kernel, by decide +kernel, by decide +kernel⟩, by decide⟩
set_option maxRecDepth 20000 in
theorem cv_X9_143 : mCV "DodgemDebate$Trials" 143 1 3 kX1_append := ⟨⟨(RX1, TX1, 4), rfl, rfl⟩, cm_X1_append, (mtb 787 (by decide +kernel) rfl), (mtb 535 (by decide +kernel) rfl), sm_X1_append, (mtb 6 (by decide +kernel) rfl), ⟨by decide +kernel, by decide +kernel, by decide +kernel⟩, by decide⟩
set_option maxRecDepth 20000 in
theorem sm_X3_allPoints : Cond.selects yX3_allPoints.cls yX3_allPoints yX3_allPoints ∈ mtbl := mtb 790 (by decide +kernel) rfl
set_option maxRecDepth 20000 in
theorem cv_X10_226 : mCV "DodgemDebate" 226 3 0 kX3_allPoints := ⟨⟨(RX3, TX3, 10), rfl, rfl⟩, cm_X3_allPoints, (mtb 788 (by decide +kernel) rfl), (mtb 789 (by decide +kernel) rfl), sm_X3_allPoints, (mtb 9 (by decide +kernel) rfl), ⟨by decide +kernel, by decide +kernel, by decide +kernel⟩, by decide⟩
set_option maxRecDepth 20000 in
theorem sm_X10_sheet : Cond.selects yX10_sheet.cls yX10_sheet yX10_sheet ∈ mtbl := mtb 794 (by decide +kernel) rfl
set_option maxRecDepth 20000 in
theorem cv_L_135 : mCV "DodgemDebateLaw" 135 9 3 kX10_sheet := ⟨⟨(RX10, TX10, 11), rfl, rfl⟩, cm_X10_sheet, (mtb 792 (by decide +kernel) rfl), (mtb 793 (by decide +kernel) rfl), sm_X10_sheet, (mtb 1 (by decide +kernel) rfl), ⟨by decide +kernel, by decide +kernel, by decide +kernel⟩, by decide⟩
set_option maxRecDepth 20000 in
theorem sm_X4_begin : Cond.selects yX4_begin.cls yX4_begin yX4_begin ∈ mtbl := mtb 798 (by decide +kernel) rfl
set_option maxRecDepth 20000 in
theorem cv_X10_229 : mCV "DodgemDebate" 229 4 3 kX4_begin := ⟨⟨(RX4, TX4, 4), rfl, rfl⟩, cm_X4_begin, (mtb 796 (by decide +kernel) rfl), (mtb 797 (by decide +kernel) rfl), sm_X4_begin, (mtb 8 (by decide +kernel) rfl), ⟨by decide +kernel, by decide +kernel, by decide +kernel⟩, by decide⟩
set_option maxRecDepth 20000 in
theorem cs_X4_27 : mCS "DodgemDebate$Sheets" 27 2 kJ7_fill_53178 := ⟨cm_J7_fill_53178, Or.inl (mtb 800 (by decide +kernel) rfl), (mtb 481 (by decide +kernel) rfl), (mtb 19 (by decide +kernel) rfl), ⟨by decide +kernel, by decide +kernel, by decide +kernel⟩, by decide⟩
set_option maxRecDepth 20000 in
theorem sm_X10_lose : Cond.selects yX10_lose.cls yX10_lose yX10_lose ∈ mtbl := mtb 803 (by decide +kernel) rfl
set_option maxRecDepth 20000 in
theorem cv_L_139 : mCV "DodgemDebateLaw" 139 9 1 kX10_lose := ⟨⟨(RX10, TX10, 11), rfl, rfl⟩, cm_X10_lose, (mtb 801 (by decide +kernel) rfl), (mtb 802 (by decide +kernel) rfl), sm_X10_lose, (mtb 1 (by decide +kernel) rfl), ⟨by decide +kernel, by decide +kernel, by decide +kernel⟩, by decide⟩
set_option maxRecDepth 20000 in
theorem sm_X10_put : Cond.selects yX10_put.cls yX10_put yX10_put ∈ mtbl := mtb 807 (by decide +kernel) rfl
set_option maxRecDepth 20000 in
theorem cv_L_143 : mCV "DodgemDebateLaw" 143 9 4 kX10_put := ⟨⟨(RX10, TX10, 11), rfl, rfl⟩, cm_X10_put, (mtb 805 (by decide +kernel) rfl), (mtb 806 (by decide +kernel) rfl), sm_X10_put, (mtb 1 (by decide +kernel) rfl), ⟨by decide +kernel, by decide +kernel, by decide +kernel⟩, by decide⟩
set_option maxRecDepth 20000 in
theorem sm_X4_barTo : Cond.selects yX4_barTo.cls yX4_barTo yX4_barTo ∈ mtbl := mtb 811 (by decide +kernel) rfl
set_option maxRecDepth 20000 in
theorem cv_X10_232 : mCV "DodgemDebate" 232 4 3 kX4_barTo := ⟨⟨(RX4, TX4, 4), rfl, rfl⟩, cm_X4_barTo, (mtb 809 (by decide +kernel) rfl), (mtb 810 (by decide +kernel) rfl), sm_X4_barTo, (mtb 8 (by decide +kernel) rfl), ⟨by decide +kernel, by decide +kernel, by decide +kernel⟩, by decide⟩
set_option maxRecDepth 20000 in
theorem cv_X4_33 : mCV "DodgemDebate$Sheets" 33 4 1 kX4_isLost := ⟨⟨(RX4, TX4, 4), rfl, rfl⟩, cm_X4_isLost, (mtb 813 (by decide +kernel) rfl), (mtb 547 (by decide +kernel) rfl), sm_X4_isLost, (mtb 8 (by decide +kernel) rfl), ⟨by decide +kernel, by decide +kernel, by decide +kernel⟩, by decide⟩
set_option maxRecDepth 20000 in
theorem cs_X10_235 : mCS "DodgemDebate" 235 2 kX4_lowestBits := ⟨cm_X4_lowestBits, Or.inl (mtb 815 (by decide +kernel) rfl), (mtb 816 (by decide +kernel) rfl), (mtb 8 (by decide +kernel) rfl), ⟨by decide +kernel, by decide +kernel, by decide +kernel⟩, by decide⟩
set_option maxRecDepth 20000 in
theorem sm_X10_get : Cond.selects yX10_get.cls yX10_get yX10_get ∈ mtbl := mtb 820 (by decide +kernel) rfl
set_option maxRecDepth 20000 in
theorem cv_L_147 : mCV "DodgemDebateLaw" 147 9 3 kX10_get := ⟨⟨(RX10, TX10, 11), rfl, rfl⟩, cm_X10_get, (mtb 818 (by decide +kernel) rfl), (mtb 819 (by decide +kernel) rfl), sm_X10_get, (mtb 1 (by decide +kernel) rfl), ⟨by decide +kernel, by decide +kernel, by decide +kernel⟩, by decide⟩
set_option maxRecDepth 20000 in
theorem sm_X10_copy : Cond.selects yX10_copy.cls yX10_copy yX10_copy ∈ mtbl := mtb 825 (by decide +kernel) rfl
set_option maxRecDepth 20000 in
theorem cv_L_151 : mCV "DodgemDebateLaw" 151 9 5 kX10_copy := ⟨⟨(RX10, TX10, 11), rfl, rfl⟩, cm_X10_copy, (mtb 823 (by decide +kernel) rfl), (mtb 824 (by decide +kernel) rfl), sm_X10_copy, (mtb 1 (by decide +kernel) rfl), ⟨by decide +kernel, by decide +kernel, by decide +kernel⟩, by decide⟩
set_option maxRecDepth 20000 in
theorem sm_X4_hasSpan : Cond.selects yX4_hasSpan.cls yX4_hasSpan yX4_hasSpan ∈ mtbl := mtb 829 (by decide +kernel) rfl
set_option maxRecDepth 20000 in
theorem cv_X10_242 : mCV "DodgemDebate" 242 4 3 kX4_hasSpan := ⟨⟨(RX4, TX4, 4), rfl, rfl⟩, cm_X4_hasSpan, (mtb 827 (by decide +kernel) rfl), (mtb 828 (by decide +kernel) rfl), sm_X4_hasSpan, (mtb 8 (by decide +kernel) rfl), ⟨by decide +kernel, by decide +kernel, by decide +kernel⟩, by decide⟩
set_option maxRecDepth 20000 in
theorem sm_X10_write : Cond.selects yX10_write.cls yX10_write yX10_write ∈ mtbl := mtb 834 (by decide +kernel) rfl
set_option maxRecDepth 20000 in
theorem cv_L_156 : mCV "DodgemDebateLaw" 156 9 2 kX10_write := ⟨⟨(RX10, TX10, 11), rfl, rfl⟩, cm_X10_write, (mtb 832 (by decide +kernel) rfl), (mtb 833 (by decide +kernel) rfl), sm_X10_write, (mtb 1 (by decide +kernel) rfl), ⟨by decide +kernel, by decide +kernel, by decide +kernel⟩, by decide⟩
set_option maxRecDepth 20000 in
theorem cs_X10_251 : mCS "DodgemDebate" 251 2 kJ9_min_7cf53 := ⟨cm_J9_min_7cf53, Or.inl (mtb 836 (by decide +kernel) rfl), (mtb 398 (by decide +kernel) rfl), (mtb 15 (by decide +kernel) rfl), ⟨by decide +kernel, by decide +kernel, by decide +kernel⟩, by decide⟩
set_option maxRecDepth 20000 in
theorem sm_X10_count : Cond.selects yX10_count.cls yX10_count yX10_count ∈ mtbl := mtb 839 (by decide +kernel) rfl
set_option maxRecDepth 20000 in
theorem cv_L_160 : mCV "DodgemDebateLaw" 160 9 1 kX10_count := ⟨⟨(RX10, TX10, 11), rfl, rfl⟩, cm_X10_count, (mtb 837 (by decide +kernel) rfl), (mtb 838 (by decide +kernel) rfl), sm_X10_count, (mtb 1 (by decide +kernel) rfl), ⟨by decide +kernel, by decide +kernel, by decide +kernel⟩, by decide⟩
set_option maxRecDepth 20000 in
theorem sm_X10_digest : Cond.selects yX10_digest.cls yX10_digest yX10_digest ∈ mtbl := mtb 843 (by decide +kernel) rfl
set_option maxRecDepth 20000 in
theorem cv_L_164 : mCV "DodgemDebateLaw" 164 9 0 kX10_digest := ⟨⟨(RX10, TX10, 11), rfl, rfl⟩, cm_X10_digest, (mtb 841 (by decide +kernel) rfl), (mtb 842 (by decide +kernel) rfl), sm_X10_digest, (mtb 1 (by decide +kernel) rfl), ⟨by decide +kernel, by decide +kernel, by decide +kernel⟩, by decide⟩
set_option maxRecDepth 20000 in
theorem sm_X10_addTold : Cond.selects yX10_addTold.cls yX10_addTold yX10_addTold ∈ mtbl := mtbs (List.mem_of_getElem? (i := 18) (by decide +kernel)) rfl
set_option maxRecDepth 20000 in
theorem cv_X10_265 : mCV "DodgemDebate" 265 9 0 kX10_addTold := ⟨⟨(RX10, TX10, 11), rfl, rfl⟩, cm_X10_addTold, (mtb 846 (by decide +kernel) rfl), (mtb 848 (by decide +kernel) rfl), sm_X10_addTold, (mtb 1 (by decide +kernel) rfl), ⟨by decide +kernel, by decide +kernel, by decide +kernel⟩, by decide⟩
set_option maxRecDepth 20000 in
theorem cv_X10_277 : mCV "DodgemDebate" 277 9 1 kX10_count := ⟨⟨(RX10, TX10, 11), rfl, rfl⟩, cm_X10_count, (mtb 850 (by decide +kernel) rfl), (mtb 838 (by decide +kernel) rfl), sm_X10_count, (mtb 1 (by decide +kernel) rfl), ⟨by decide +kernel, by decide +kernel, by decide +kernel⟩, by decide⟩
set_option maxRecDepth 20000 in
theorem sm_X2_add : Cond.selects yX2_add.cls yX2_add yX2_add ∈ mtbl := mtb 853 (by decide +kernel) rfl
set_option maxRecDepth 20000 in
theorem cv_X10_280 : mCV "DodgemDebate" 280 2 1 kX2_add := ⟨⟨(RX2, TX2, 1), rfl, rfl⟩, cm_X2_add, (mtb 851 (by decide +kernel) rfl), (mtb 852 (by decide +kernel) rfl), sm_X2_add, (mtb 11 (by decide +kernel) rfl), ⟨by decide +kernel, by decide +kernel, by decide +kernel⟩, by decide⟩
set_option maxRecDepth 20000 in
theorem cv_X10_284 : mCV "DodgemDebate" 284 9 2 kX10_steer := ⟨⟨(RX10, TX10, 11), rfl, rfl⟩, cm_X10_steer, (mtb 856 (by decide +kernel) rfl), (mtb 523 (by decide +kernel) rfl), sm_X10_steer, (mtb 1 (by decide +kernel) rfl), ⟨by decide +kernel, by decide +kernel, by decide +kernel⟩, by decide⟩
set_option maxRecDepth 20000 in
theorem sm_X10_addCar : Cond.selects yX10_addCar.cls yX10_addCar yX10_addCar ∈ mtbl := mtbs (List.mem_of_getElem? (i := 19) (by decide +kernel)) rfl
set_option maxRecDepth 20000 in
theorem cv_X10_268 : mCV "DodgemDebate" 268 9 1 kX10_addCar := ⟨⟨(RX10, TX10, 11), rfl, rfl⟩, cm_X10_addCar, (mtb 857 (by decide +kernel) rfl), (mtb 859 (by decide +kernel) rfl), sm_X10_addCar, (mtb 1 (by decide +kernel) rfl), ⟨by decide +kernel, by decide +kernel, by decide +kernel⟩, by decide⟩
set_option maxRecDepth 20000 in
theorem sm_X10_addHouse : Cond.selects yX10_addHouse.cls yX10_addHouse yX10_addHouse ∈ mtbl := mtbs (List.mem_of_getElem? (i := 20) (by decide +kernel)) rfl
set_option maxRecDepth 20000 in
theorem cv_X10_271 : mCV "DodgemDebate" 271 9 0 kX10_addHouse := ⟨⟨(RX10, TX10, 11), rfl, rfl⟩, cm_X10_addHouse, (mtb 863 (by decide +kernel) rfl), (mtb 865 (by decide +kernel) rfl), sm_X10_addHouse, (mtb 1 (by decide +kernel) rfl), ⟨by decide +kernel, by decide +kernel, by decide +kernel⟩, by decide⟩
set_option maxRecDepth 20000 in
theorem cv_X10_290 : mCV "DodgemDebate" 290 9 2 kX10_house := ⟨⟨(RX10, TX10, 11), rfl, rfl⟩, cm_X10_house, (mtb 867 (by decide +kernel) rfl), (mtb 573 (by decide +kernel) rfl), sm_X10_house, (mtb 1 (by decide +kernel) rfl), ⟨by decide +kernel, by decide +kernel, by decide +kernel⟩, by decide⟩
set_option maxRecDepth 20000 in
theorem sm_X10_addWhole : Cond.selects yX10_addWhole.cls yX10_addWhole yX10_addWhole ∈ mtbl := mtbs (List.mem_of_getElem? (i := 21) (by decide +kernel)) rfl
set_option maxRecDepth 20000 in
theorem cv_X10_274 : mCV "DodgemDebate" 274 9 0 kX10_addWhole := ⟨⟨(RX10, TX10, 11), rfl, rfl⟩, cm_X10_addWhole, (mtb 868 (by decide +kernel) rfl), (mtb 870 (by decide +kernel) rfl), sm_X10_addWhole, (mtb 1 (by decide +kernel) rfl), ⟨by decide +kernel, by decide +kernel, by decide +kernel⟩, by decide⟩
set_option maxRecDepth 20000 in
theorem cv_X10_293 : mCV "DodgemDebate" 293 9 1 kX10_jam := ⟨⟨(RX10, TX10, 11), rfl, rfl⟩, cm_X10_jam, (mtb 872 (by decide +kernel) rfl), (mtb 605 (by decide +kernel) rfl), sm_X10_jam, (mtb 1 (by decide +kernel) rfl), ⟨by decide +kernel, by decide +kernel, by decide +kernel⟩, by decide⟩
set_option maxRecDepth 20000 in
theorem cv_X10_296 : mCV "DodgemDebate" 296 9 0 kX10_carried := ⟨⟨(RX10, TX10, 11), rfl, rfl⟩, cm_X10_carried, (mtb 873 (by decide +kernel) rfl), (mtb 613 (by decide +kernel) rfl), sm_X10_carried, (mtb 1 (by decide +kernel) rfl), ⟨by decide +kernel, by decide +kernel, by decide +kernel⟩, by decide⟩
set_option maxRecDepth 20000 in
theorem cv_X10_299 : mCV "DodgemDebate" 299 9 1 kX10_ring := ⟨⟨(RX10, TX10, 11), rfl, rfl⟩, cm_X10_ring, (mtb 874 (by decide +kernel) rfl), (mtb 654 (by decide +kernel) rfl), sm_X10_ring, (mtb 1 (by decide +kernel) rfl), ⟨by decide +kernel, by decide +kernel, by decide +kernel⟩, by decide⟩
set_option maxRecDepth 20000 in
theorem sm_X11_type : Cond.selects yX11_type.cls yX11_type yX11_type ∈ mtbl := mtb 1044 (by decide +kernel) rfl
set_option maxRecDepth 20000 in
theorem cv_L_17 : mCV "DodgemDebateLaw" 17 10 2 kX11_type := ⟨⟨(RX11, TX11, 53), rfl, rfl⟩, cm_X11_type, (mtb 1042 (by decide +kernel) rfl), (mtb 1043 (by decide +kernel) rfl), sm_X11_type, (mtb 12 (by decide +kernel) rfl), ⟨by decide +kernel, by decide +kernel, by decide +kernel⟩, by decide⟩
set_option maxRecDepth 20000 in
theorem cs_X11_140 : mCS "DodgemDebateModel" 140 1 kX11_isText := ⟨cm_X11_isText, Or.inl (mtb 1046 (by decide +kernel) rfl), (mtb 1047 (by decide +kernel) rfl), (mtb 12 (by decide +kernel) rfl), ⟨by decide +kernel, by decide +kernel, by decide +kernel⟩, by decide⟩
set_option maxRecDepth 20000 in
theorem cs_X11_136 : mCS "DodgemDebateModel" 136 3 kX11_in := ⟨cm_X11_in, Or.inl (mtb 1049 (by decide +kernel) rfl), (mtb 1050 (by decide +kernel) rfl), (mtb 12 (by decide +kernel) rfl), ⟨by decide +kernel, by decide +kernel, by decide +kernel⟩, by decide⟩
set_option maxRecDepth 20000 in
theorem sm_X11_wipe : Cond.selects yX11_wipe.cls yX11_wipe yX11_wipe ∈ mtbl := mtb 1054 (by decide +kernel) rfl
set_option maxRecDepth 20000 in
theorem cv_L_22 : mCV "DodgemDebateLaw" 22 10 1 kX11_wipe := ⟨⟨(RX11, TX11, 53), rfl, rfl⟩, cm_X11_wipe, (mtb 1052 (by decide +kernel) rfl), (mtb 1053 (by decide +kernel) rfl), sm_X11_wipe, (mtb 12 (by decide +kernel) rfl), ⟨by decide +kernel, by decide +kernel, by decide +kernel⟩, by decide⟩
set_option maxRecDepth 20000 in
theorem sm_X11_undo : Cond.selects yX11_undo.cls yX11_undo yX11_undo ∈ mtbl := mtb 1058 (by decide +kernel) rfl
set_option maxRecDepth 20000 in
theorem cv_L_26 : mCV "DodgemDebateLaw" 26 10 1 kX11_undo := ⟨⟨(RX11, TX11, 53), rfl, rfl⟩, cm_X11_undo, (mtb 1056 (by decide +kernel) rfl), (mtb 1057 (by decide +kernel) rfl), sm_X11_undo, (mtb 12 (by decide +kernel) rfl), ⟨by decide +kernel, by decide +kernel, by decide +kernel⟩, by decide⟩
set_option maxRecDepth 20000 in
theorem sm_X11_fault : Cond.selects yX11_fault.cls yX11_fault yX11_fault ∈ mtbl := mtb 1062 (by decide +kernel) rfl
set_option maxRecDepth 20000 in
theorem cv_L_30 : mCV "DodgemDebateLaw" 30 10 1 kX11_fault := ⟨⟨(RX11, TX11, 53), rfl, rfl⟩, cm_X11_fault, (mtb 1060 (by decide +kernel) rfl), (mtb 1061 (by decide +kernel) rfl), sm_X11_fault, (mtb 12 (by decide +kernel) rfl), ⟨by decide +kernel, by decide +kernel, by decide +kernel⟩, by decide⟩
set_option maxRecDepth 20000 in
theorem sm_X11_faultOf : Cond.selects yX11_faultOf.cls yX11_faultOf yX11_faultOf ∈ mtbl := mtbs (List.mem_of_getElem? (i := 22) (by decide +kernel)) rfl
set_option maxRecDepth 20000 in
theorem cv_X11_177 : mCV "DodgemDebateModel" 177 10 1 kX11_faultOf := ⟨⟨(RX11, TX11, 53), rfl, rfl⟩, cm_X11_faultOf, (mtb 1064 (by decide +kernel) rfl), (mtb 1066 (by decide +kernel) rfl), sm_X11_faultOf, (mtb 12 (by decide +kernel) rfl), ⟨by decide +kernel, by decide +kernel, by decide +kernel⟩, by decide⟩
set_option maxRecDepth 20000 in
theorem sm_X11_readsParts : Cond.selects yX11_readsParts.cls yX11_readsParts yX11_readsParts ∈ mtbl := mtbs (List.mem_of_getElem? (i := 23) (by decide +kernel)) rfl
set_option maxRecDepth 20000 in
theorem cv_X11_174 : mCV "DodgemDebateModel" 174 10 1 kX11_readsParts := ⟨⟨(RX11, TX11, 53), rfl, rfl⟩, cm_X11_readsParts, (mtb 1068 (by decide +kernel) rfl), (mtb 1070 (by decide +kernel) rfl), sm_X11_readsParts, (mtb 12 (by decide +kernel) rfl), ⟨by decide +kernel, by decide +kernel, by decide +kernel⟩, by decide⟩
set_option maxRecDepth 20000 in
theorem sm_X11_readsCar : Cond.selects yX11_readsCar.cls yX11_readsCar yX11_readsCar ∈ mtbl := mtbs (List.mem_of_getElem? (i := 24) (by decide +kernel)) rfl
set_option maxRecDepth 20000 in
theorem cv_X11_168 : mCV "DodgemDebateModel" 168 10 2 kX11_readsCar := ⟨⟨(RX11, TX11, 53), rfl, rfl⟩, cm_X11_readsCar, (mtb 1072 (by decide +kernel) rfl), (mtb 1074 (by decide +kernel) rfl), sm_X11_readsCar, (mtb 12 (by decide +kernel) rfl), ⟨by decide +kernel, by decide +kernel, by decide +kernel⟩, by decide⟩
set_option maxRecDepth 20000 in
theorem sm_X11_byteAt : Cond.selects yX11_byteAt.cls yX11_byteAt yX11_byteAt ∈ mtbl := mtbs (List.mem_of_getElem? (i := 25) (by decide +kernel)) rfl
set_option maxRecDepth 20000 in
theorem cv_X11_144 : mCV "DodgemDebateModel" 144 10 2 kX11_byteAt := ⟨⟨(RX11, TX11, 53), rfl, rfl⟩, cm_X11_byteAt, (mtb 1076 (by decide +kernel) rfl), (mtb 1078 (by decide +kernel) rfl), sm_X11_byteAt, (mtb 12 (by decide +kernel) rfl), ⟨by decide +kernel, by decide +kernel, by decide +kernel⟩, by decide⟩
set_option maxRecDepth 20000 in
theorem cs_X11_148 : mCS "DodgemDebateModel" 148 1 kX11_sortOf := ⟨cm_X11_sortOf, Or.inl (mtb 1080 (by decide +kernel) rfl), (mtb 1081 (by decide +kernel) rfl), (mtb 12 (by decide +kernel) rfl), ⟨by decide +kernel, by decide +kernel, by decide +kernel⟩, by decide⟩
set_option maxRecDepth 20000 in
theorem cs_X11_152 : mCS "DodgemDebateModel" 152 1 kX11_wayOf := ⟨cm_X11_wayOf, Or.inl (mtb 1083 (by decide +kernel) rfl), (mtb 1084 (by decide +kernel) rfl), (mtb 12 (by decide +kernel) rfl), ⟨by decide +kernel, by decide +kernel, by decide +kernel⟩, by decide⟩
set_option maxRecDepth 20000 in
theorem cs_X11_155 : mCS "DodgemDebateModel" 155 1 kX11_isSix := ⟨cm_X11_isSix, Or.inl (mtb 1086 (by decide +kernel) rfl), (mtb 1087 (by decide +kernel) rfl), (mtb 12 (by decide +kernel) rfl), ⟨by decide +kernel, by decide +kernel, by decide +kernel⟩, by decide⟩
set_option maxRecDepth 20000 in
theorem sm_X11_isTold : Cond.selects yX11_isTold.cls yX11_isTold yX11_isTold ∈ mtbl := mtbs (List.mem_of_getElem? (i := 26) (by decide +kernel)) rfl
set_option maxRecDepth 20000 in
theorem cv_X11_158 : mCV "DodgemDebateModel" 158 10 3 kX11_isTold := ⟨⟨(RX11, TX11, 53), rfl, rfl⟩, cm_X11_isTold, (mtb 1089 (by decide +kernel) rfl), (mtb 1091 (by decide +kernel) rfl), sm_X11_isTold, (mtb 12 (by decide +kernel) rfl), ⟨by decide +kernel, by decide +kernel, by decide +kernel⟩, by decide⟩
set_option maxRecDepth 20000 in
theorem sm_X11_readsSteer : Cond.selects yX11_readsSteer.cls yX11_readsSteer yX11_readsSteer ∈ mtbl := mtbs (List.mem_of_getElem? (i := 27) (by decide +kernel)) rfl
set_option maxRecDepth 20000 in
theorem cv_X11_171 : mCV "DodgemDebateModel" 171 10 2 kX11_readsSteer := ⟨⟨(RX11, TX11, 53), rfl, rfl⟩, cm_X11_readsSteer, (mtb 1093 (by decide +kernel) rfl), (mtb 1095 (by decide +kernel) rfl), sm_X11_readsSteer, (mtb 12 (by decide +kernel) rfl), ⟨by decide +kernel, by decide +kernel, by decide +kernel⟩, by decide⟩
set_option maxRecDepth 20000 in
theorem sm_X11_car : Cond.selects yX11_car.cls yX11_car yX11_car ∈ mtbl := mtb 1099 (by decide +kernel) rfl
set_option maxRecDepth 20000 in
theorem cv_L_34 : mCV "DodgemDebateLaw" 34 10 2 kX11_car := ⟨⟨(RX11, TX11, 53), rfl, rfl⟩, cm_X11_car, (mtb 1097 (by decide +kernel) rfl), (mtb 1098 (by decide +kernel) rfl), sm_X11_car, (mtb 12 (by decide +kernel) rfl), ⟨by decide +kernel, by decide +kernel, by decide +kernel⟩, by decide⟩
set_option maxRecDepth 20000 in
theorem sm_X11_isCar : Cond.selects yX11_isCar.cls yX11_isCar yX11_isCar ∈ mtbl := mtbs (List.mem_of_getElem? (i := 28) (by decide +kernel)) rfl
set_option maxRecDepth 20000 in
theorem cv_X11_183 : mCV "DodgemDebateModel" 183 10 1 kX11_isCar := ⟨⟨(RX11, TX11, 53), rfl, rfl⟩, cm_X11_isCar, (mtb 1101 (by decide +kernel) rfl), (mtb 1103 (by decide +kernel) rfl), sm_X11_isCar, (mtb 12 (by decide +kernel) rfl), ⟨by decide +kernel, by decide +kernel, by decide +kernel⟩, by decide⟩
set_option maxRecDepth 20000 in
theorem sm_X11_reads : Cond.selects yX11_reads.cls yX11_reads yX11_reads ∈ mtbl := mtbs (List.mem_of_getElem? (i := 29) (by decide +kernel)) rfl
set_option maxRecDepth 20000 in
theorem cv_X11_180 : mCV "DodgemDebateModel" 180 10 0 kX11_reads := ⟨⟨(RX11, TX11, 53), rfl, rfl⟩, cm_X11_reads, (mtb 1105 (by decide +kernel) rfl), (mtb 1107 (by decide +kernel) rfl), sm_X11_reads, (mtb 12 (by decide +kernel) rfl), ⟨by decide +kernel, by decide +kernel, by decide +kernel⟩, by decide⟩
set_option maxRecDepth 20000 in
theorem sm_X11_carOf : Cond.selects yX11_carOf.cls yX11_carOf yX11_carOf ∈ mtbl := mtbs (List.mem_of_getElem? (i := 30) (by decide +kernel)) rfl
set_option maxRecDepth 20000 in
theorem cv_X11_186 : mCV "DodgemDebateModel" 186 10 2 kX11_carOf := ⟨⟨(RX11, TX11, 53), rfl, rfl⟩, cm_X11_carOf, (mtb 1109 (by decide +kernel) rfl), (mtb 1111 (by decide +kernel) rfl), sm_X11_carOf, (mtb 12 (by decide +kernel) rfl), ⟨by decide +kernel, by decide +kernel, by decide +kernel⟩, by decide⟩
set_option maxRecDepth 20000 in
theorem sm_X11_steer : Cond.selects yX11_steer.cls yX11_steer yX11_steer ∈ mtbl := mtb 1115 (by decide +kernel) rfl
set_option maxRecDepth 20000 in
theorem cv_L_38 : mCV "DodgemDebateLaw" 38 10 2 kX11_steer := ⟨⟨(RX11, TX11, 53), rfl, rfl⟩, cm_X11_steer, (mtb 1113 (by decide +kernel) rfl), (mtb 1114 (by decide +kernel) rfl), sm_X11_steer, (mtb 12 (by decide +kernel) rfl), ⟨by decide +kernel, by decide +kernel, by decide +kernel⟩, by decide⟩
set_option maxRecDepth 20000 in
theorem cs_X11_189 : mCS "DodgemDebateModel" 189 1 kX11_isThree := ⟨cm_X11_isThree, Or.inl (mtb 1117 (by decide +kernel) rfl), (mtb 1118 (by decide +kernel) rfl), (mtb 12 (by decide +kernel) rfl), ⟨by decide +kernel, by decide +kernel, by decide +kernel⟩, by decide⟩
set_option maxRecDepth 20000 in
theorem sm_X11_steerTold : Cond.selects yX11_steerTold.cls yX11_steerTold yX11_steerTold ∈ mtbl := mtbs (List.mem_of_getElem? (i := 31) (by decide +kernel)) rfl
set_option maxRecDepth 20000 in
theorem cv_X11_192 : mCV "DodgemDebateModel" 192 10 2 kX11_steerTold := ⟨⟨(RX11, TX11, 53), rfl, rfl⟩, cm_X11_steerTold, (mtb 1120 (by decide +kernel) rfl), (mtb 1122 (by decide +kernel) rfl), sm_X11_steerTold, (mtb 12 (by decide +kernel) rfl), ⟨by decide +kernel, by decide +kernel, by decide +kernel⟩, by decide⟩
set_option maxRecDepth 20000 in
theorem sm_X11_event : Cond.selects yX11_event.cls yX11_event yX11_event ∈ mtbl := mtb 1126 (by decide +kernel) rfl
set_option maxRecDepth 20000 in
theorem cv_L_43 : mCV "DodgemDebateLaw" 43 10 3 kX11_event := ⟨⟨(RX11, TX11, 53), rfl, rfl⟩, cm_X11_event, (mtb 1124 (by decide +kernel) rfl), (mtb 1125 (by decide +kernel) rfl), sm_X11_event, (mtb 12 (by decide +kernel) rfl), ⟨by decide +kernel, by decide +kernel, by decide +kernel⟩, by decide⟩
set_option maxRecDepth 20000 in
theorem cs_X11_195 : mCS "DodgemDebateModel" 195 1 kX11_isTwo := ⟨cm_X11_isTwo, Or.inl (mtb 1128 (by decide +kernel) rfl), (mtb 1129 (by decide +kernel) rfl), (mtb 12 (by decide +kernel) rfl), ⟨by decide +kernel, by decide +kernel, by decide +kernel⟩, by decide⟩
set_option maxRecDepth 20000 in
theorem cs_X11_198 : mCS "DodgemDebateModel" 198 1 kX11_isMoment := ⟨cm_X11_isMoment, Or.inl (mtb 1131 (by decide +kernel) rfl), (mtb 1132 (by decide +kernel) rfl), (mtb 12 (by decide +kernel) rfl), ⟨by decide +kernel, by decide +kernel, by decide +kernel⟩, by decide⟩
set_option maxRecDepth 20000 in
theorem cs_X11_201 : mCS "DodgemDebateModel" 201 1 kX11_isEight := ⟨cm_X11_isEight, Or.inl (mtb 1134 (by decide +kernel) rfl), (mtb 1135 (by decide +kernel) rfl), (mtb 12 (by decide +kernel) rfl), ⟨by decide +kernel, by decide +kernel, by decide +kernel⟩, by decide⟩
set_option maxRecDepth 20000 in
theorem sm_X11_back : Cond.selects yX11_back.cls yX11_back yX11_back ∈ mtbl := mtb 1139 (by decide +kernel) rfl
set_option maxRecDepth 20000 in
theorem cv_L_48 : mCV "DodgemDebateLaw" 48 10 0 kX11_back := ⟨⟨(RX11, TX11, 53), rfl, rfl⟩, cm_X11_back, (mtb 1137 (by decide +kernel) rfl), (mtb 1138 (by decide +kernel) rfl), sm_X11_back, (mtb 12 (by decide +kernel) rfl), ⟨by decide +kernel, by decide +kernel, by decide +kernel⟩, by decide⟩
set_option maxRecDepth 20000 in
theorem sm_X11_read : Cond.selects yX11_read.cls yX11_read yX11_read ∈ mtbl := mtb 1143 (by decide +kernel) rfl
set_option maxRecDepth 20000 in
theorem cv_L_52 : mCV "DodgemDebateLaw" 52 10 1 kX11_read := ⟨⟨(RX11, TX11, 53), rfl, rfl⟩, cm_X11_read, (mtb 1141 (by decide +kernel) rfl), (mtb 1142 (by decide +kernel) rfl), sm_X11_read, (mtb 12 (by decide +kernel) rfl), ⟨by decide +kernel, by decide +kernel, by decide +kernel⟩, by decide⟩
set_option maxRecDepth 20000 in
theorem cs_X11_207 : mCS "DodgemDebateModel" 207 1 kX11_isSheet := ⟨cm_X11_isSheet, Or.inl (mtb 1145 (by decide +kernel) rfl), (mtb 1146 (by decide +kernel) rfl), (mtb 12 (by decide +kernel) rfl), ⟨by decide +kernel, by decide +kernel, by decide +kernel⟩, by decide⟩
set_option maxRecDepth 20000 in
theorem sm_X11_meets : Cond.selects yX11_meets.cls yX11_meets yX11_meets ∈ mtbl := mtbs (List.mem_of_getElem? (i := 32) (by decide +kernel)) rfl
set_option maxRecDepth 20000 in
theorem cv_X11_210 : mCV "DodgemDebateModel" 210 10 1 kX11_meets := ⟨⟨(RX11, TX11, 53), rfl, rfl⟩, cm_X11_meets, (mtb 1148 (by decide +kernel) rfl), (mtb 1150 (by decide +kernel) rfl), sm_X11_meets, (mtb 12 (by decide +kernel) rfl), ⟨by decide +kernel, by decide +kernel, by decide +kernel⟩, by decide⟩
set_option maxRecDepth 20000 in
theorem cv_X11_213 : mCV "DodgemDebateModel" 213 10 3 kX11_event := ⟨⟨(RX11, TX11, 53), rfl, rfl⟩, cm_X11_event, (mtb 1152 (by decide +kernel) rfl), (mtb 1125 (by decide +kernel) rfl), sm_X11_event, (mtb 12 (by decide +kernel) rfl), ⟨by decide +kernel, by decide +kernel, by decide +kernel⟩, by decide⟩
set_option maxRecDepth 20000 in
theorem sm_X11_at : Cond.selects yX11_at.cls yX11_at yX11_at ∈ mtbl := mtb 1155 (by decide +kernel) rfl
set_option maxRecDepth 20000 in
theorem cv_L_56 : mCV "DodgemDebateLaw" 56 10 3 kX11_at := ⟨⟨(RX11, TX11, 53), rfl, rfl⟩, cm_X11_at, (mtb 1153 (by decide +kernel) rfl), (mtb 1154 (by decide +kernel) rfl), sm_X11_at, (mtb 12 (by decide +kernel) rfl), ⟨by decide +kernel, by decide +kernel, by decide +kernel⟩, by decide⟩
set_option maxRecDepth 20000 in
theorem sm_X11_atOf : Cond.selects yX11_atOf.cls yX11_atOf yX11_atOf ∈ mtbl := mtbs (List.mem_of_getElem? (i := 33) (by decide +kernel)) rfl
set_option maxRecDepth 20000 in
theorem cv_X11_279 : mCV "DodgemDebateModel" 279 10 3 kX11_atOf := ⟨⟨(RX11, TX11, 53), rfl, rfl⟩, cm_X11_atOf, (mtb 1157 (by decide +kernel) rfl), (mtb 1159 (by decide +kernel) rfl), sm_X11_atOf, (mtb 12 (by decide +kernel) rfl), ⟨by decide +kernel, by decide +kernel, by decide +kernel⟩, by decide⟩
set_option maxRecDepth 20000 in
theorem sm_X11_runsTold : Cond.selects yX11_runsTold.cls yX11_runsTold yX11_runsTold ∈ mtbl := mtbs (List.mem_of_getElem? (i := 34) (by decide +kernel)) rfl
set_option maxRecDepth 20000 in
theorem cv_X11_276 : mCV "DodgemDebateModel" 276 10 0 kX11_runsTold := ⟨⟨(RX11, TX11, 53), rfl, rfl⟩, cm_X11_runsTold, (mtb 1161 (by decide +kernel) rfl), (mtb 1163 (by decide +kernel) rfl), sm_X11_runsTold, (mtb 12 (by decide +kernel) rfl), ⟨by decide +kernel, by decide +kernel, by decide +kernel⟩, by decide⟩
set_option maxRecDepth 20000 in
theorem sm_X11_asTold : Cond.selects yX11_asTold.cls yX11_asTold yX11_asTold ∈ mtbl := mtbs (List.mem_of_getElem? (i := 35) (by decide +kernel)) rfl
set_option maxRecDepth 20000 in
theorem cv_X11_270 : mCV "DodgemDebateModel" 270 10 0 kX11_asTold := ⟨⟨(RX11, TX11, 53), rfl, rfl⟩, cm_X11_asTold, (mtb 1165 (by decide +kernel) rfl), (mtb 1167 (by decide +kernel) rfl), sm_X11_asTold, (mtb 12 (by decide +kernel) rfl), ⟨by decide +kernel, by decide +kernel, by decide +kernel⟩, by decide⟩
set_option maxRecDepth 20000 in
theorem sm_X11_runs : Cond.selects yX11_runs.cls yX11_runs yX11_runs ∈ mtbl := mtbs (List.mem_of_getElem? (i := 36) (by decide +kernel)) rfl
set_option maxRecDepth 20000 in
theorem cv_X11_273 : mCV "DodgemDebateModel" 273 10 0 kX11_runs := ⟨⟨(RX11, TX11, 53), rfl, rfl⟩, cm_X11_runs, (mtb 1169 (by decide +kernel) rfl), (mtb 1171 (by decide +kernel) rfl), sm_X11_runs, (mtb 12 (by decide +kernel) rfl), ⟨by decide +kernel, by decide +kernel, by decide +kernel⟩, by decide⟩
set_option maxRecDepth 20000 in
theorem sm_X11_goesBy : Cond.selects yX11_goesBy.cls yX11_goesBy yX11_goesBy ∈ mtbl := mtbs (List.mem_of_getElem? (i := 37) (by decide +kernel)) rfl
set_option maxRecDepth 20000 in
theorem cv_X11_267 : mCV "DodgemDebateModel" 267 10 1 kX11_goesBy := ⟨⟨(RX11, TX11, 53), rfl, rfl⟩, cm_X11_goesBy, (mtb 1173 (by decide +kernel) rfl), (mtb 1175 (by decide +kernel) rfl), sm_X11_goesBy, (mtb 12 (by decide +kernel) rfl), ⟨by decide +kernel, by decide +kernel, by decide +kernel⟩, by decide⟩
set_option maxRecDepth 20000 in
theorem cs_X11_252 : mCS "DodgemDebateModel" 252 2 kX11_isIn := ⟨cm_X11_isIn, Or.inl (mtb 1177 (by decide +kernel) rfl), (mtb 1178 (by decide +kernel) rfl), (mtb 12 (by decide +kernel) rfl), ⟨by decide +kernel, by decide +kernel, by decide +kernel⟩, by decide⟩
set_option maxRecDepth 20000 in
theorem sm_X11_steersAll : Cond.selects yX11_steersAll.cls yX11_steersAll yX11_steersAll ∈ mtbl := mtbs (List.mem_of_getElem? (i := 38) (by decide +kernel)) rfl
set_option maxRecDepth 20000 in
theorem cv_X11_259 : mCV "DodgemDebateModel" 259 10 1 kX11_steersAll := ⟨⟨(RX11, TX11, 53), rfl, rfl⟩, cm_X11_steersAll, (mtb 1180 (by decide +kernel) rfl), (mtb 1182 (by decide +kernel) rfl), sm_X11_steersAll, (mtb 12 (by decide +kernel) rfl), ⟨by decide +kernel, by decide +kernel, by decide +kernel⟩, by decide⟩
set_option maxRecDepth 20000 in
theorem sm_X11_drives : Cond.selects yX11_drives.cls yX11_drives yX11_drives ∈ mtbl := mtbs (List.mem_of_getElem? (i := 39) (by decide +kernel)) rfl
set_option maxRecDepth 20000 in
theorem cv_X11_263 : mCV "DodgemDebateModel" 263 10 2 kX11_drives := ⟨⟨(RX11, TX11, 53), rfl, rfl⟩, cm_X11_drives, (mtb 1184 (by decide +kernel) rfl), (mtb 1186 (by decide +kernel) rfl), sm_X11_drives, (mtb 12 (by decide +kernel) rfl), ⟨by decide +kernel, by decide +kernel, by decide +kernel⟩, by decide⟩
set_option maxRecDepth 20000 in
theorem cs_X11_235 : mCS "DodgemDebateModel" 235 1 kX11_stepX := ⟨cm_X11_stepX, Or.inl (mtb 1188 (by decide +kernel) rfl), (mtb 1189 (by decide +kernel) rfl), (mtb 12 (by decide +kernel) rfl), ⟨by decide +kernel, by decide +kernel, by decide +kernel⟩, by decide⟩
set_option maxRecDepth 20000 in
theorem cs_X11_238 : mCS "DodgemDebateModel" 238 1 kX11_stepY := ⟨cm_X11_stepY, Or.inl (mtb 1191 (by decide +kernel) rfl), (mtb 1192 (by decide +kernel) rfl), (mtb 12 (by decide +kernel) rfl), ⟨by decide +kernel, by decide +kernel, by decide +kernel⟩, by decide⟩
set_option maxRecDepth 20000 in
theorem sm_X11_whoIn : Cond.selects yX11_whoIn.cls yX11_whoIn yX11_whoIn ∈ mtbl := mtbs (List.mem_of_getElem? (i := 40) (by decide +kernel)) rfl
set_option maxRecDepth 20000 in
theorem cv_X11_241 : mCV "DodgemDebateModel" 241 10 2 kX11_whoIn := ⟨⟨(RX11, TX11, 53), rfl, rfl⟩, cm_X11_whoIn, (mtb 1194 (by decide +kernel) rfl), (mtb 1196 (by decide +kernel) rfl), sm_X11_whoIn, (mtb 12 (by decide +kernel) rfl), ⟨by decide +kernel, by decide +kernel, by decide +kernel⟩, by decide⟩
set_option maxRecDepth 20000 in
theorem sm_X11_comes : Cond.selects yX11_comes.cls yX11_comes yX11_comes ∈ mtbl := mtbs (List.mem_of_getElem? (i := 41) (by decide +kernel)) rfl
set_option maxRecDepth 20000 in
theorem cv_X11_244 : mCV "DodgemDebateModel" 244 10 3 kX11_comes := ⟨⟨(RX11, TX11, 53), rfl, rfl⟩, cm_X11_comes, (mtb 1198 (by decide +kernel) rfl), (mtb 1200 (by decide +kernel) rfl), sm_X11_comes, (mtb 12 (by decide +kernel) rfl), ⟨by decide +kernel, by decide +kernel, by decide +kernel⟩, by decide⟩
set_option maxRecDepth 20000 in
theorem sm_X11_runsInto : Cond.selects yX11_runsInto.cls yX11_runsInto yX11_runsInto ∈ mtbl := mtbs (List.mem_of_getElem? (i := 42) (by decide +kernel)) rfl
set_option maxRecDepth 20000 in
theorem cv_X11_248 : mCV "DodgemDebateModel" 248 10 4 kX11_runsInto := ⟨⟨(RX11, TX11, 53), rfl, rfl⟩, cm_X11_runsInto, (mtb 1202 (by decide +kernel) rfl), (mtb 1204 (by decide +kernel) rfl), sm_X11_runsInto, (mtb 12 (by decide +kernel) rfl), ⟨by decide +kernel, by decide +kernel, by decide +kernel⟩, by decide⟩
set_option maxRecDepth 20000 in
theorem sm_X11_who : Cond.selects yX11_who.cls yX11_who yX11_who ∈ mtbl := mtb 1208 (by decide +kernel) rfl
set_option maxRecDepth 20000 in
theorem cv_L_60 : mCV "DodgemDebateLaw" 60 10 3 kX11_who := ⟨⟨(RX11, TX11, 53), rfl, rfl⟩, cm_X11_who, (mtb 1206 (by decide +kernel) rfl), (mtb 1207 (by decide +kernel) rfl), sm_X11_who, (mtb 12 (by decide +kernel) rfl), ⟨by decide +kernel, by decide +kernel, by decide +kernel⟩, by decide⟩
set_option maxRecDepth 20000 in
theorem sm_X11_whoOf : Cond.selects yX11_whoOf.cls yX11_whoOf yX11_whoOf ∈ mtbl := mtbs (List.mem_of_getElem? (i := 43) (by decide +kernel)) rfl
set_option maxRecDepth 20000 in
theorem cv_X11_282 : mCV "DodgemDebateModel" 282 10 3 kX11_whoOf := ⟨⟨(RX11, TX11, 53), rfl, rfl⟩, cm_X11_whoOf, (mtb 1210 (by decide +kernel) rfl), (mtb 1212 (by decide +kernel) rfl), sm_X11_whoOf, (mtb 12 (by decide +kernel) rfl), ⟨by decide +kernel, by decide +kernel, by decide +kernel⟩, by decide⟩
set_option maxRecDepth 20000 in
theorem sm_X11_house : Cond.selects yX11_house.cls yX11_house yX11_house ∈ mtbl := mtb 1216 (by decide +kernel) rfl
set_option maxRecDepth 20000 in
theorem cv_L_64 : mCV "DodgemDebateLaw" 64 10 2 kX11_house := ⟨⟨(RX11, TX11, 53), rfl, rfl⟩, cm_X11_house, (mtb 1214 (by decide +kernel) rfl), (mtb 1215 (by decide +kernel) rfl), sm_X11_house, (mtb 12 (by decide +kernel) rfl), ⟨by decide +kernel, by decide +kernel, by decide +kernel⟩, by decide⟩
set_option maxRecDepth 20000 in
theorem sm_X11_houseOf : Cond.selects yX11_houseOf.cls yX11_houseOf yX11_houseOf ∈ mtbl := mtbs (List.mem_of_getElem? (i := 44) (by decide +kernel)) rfl
set_option maxRecDepth 20000 in
theorem cv_X11_288 : mCV "DodgemDebateModel" 288 10 2 kX11_houseOf := ⟨⟨(RX11, TX11, 53), rfl, rfl⟩, cm_X11_houseOf, (mtb 1218 (by decide +kernel) rfl), (mtb 1220 (by decide +kernel) rfl), sm_X11_houseOf, (mtb 12 (by decide +kernel) rfl), ⟨by decide +kernel, by decide +kernel, by decide +kernel⟩, by decide⟩
set_option maxRecDepth 20000 in
theorem sm_X11_ayesAt : Cond.selects yX11_ayesAt.cls yX11_ayesAt yX11_ayesAt ∈ mtbl := mtbs (List.mem_of_getElem? (i := 45) (by decide +kernel)) rfl
set_option maxRecDepth 20000 in
theorem cv_X11_285 : mCV "DodgemDebateModel" 285 10 1 kX11_ayesAt := ⟨⟨(RX11, TX11, 53), rfl, rfl⟩, cm_X11_ayesAt, (mtb 1222 (by decide +kernel) rfl), (mtb 1224 (by decide +kernel) rfl), sm_X11_ayesAt, (mtb 12 (by decide +kernel) rfl), ⟨by decide +kernel, by decide +kernel, by decide +kernel⟩, by decide⟩
set_option maxRecDepth 20000 in
theorem sm_X11_strikes : Cond.selects yX11_strikes.cls yX11_strikes yX11_strikes ∈ mtbl := mtb 1228 (by decide +kernel) rfl
set_option maxRecDepth 20000 in
theorem cv_L_68 : mCV "DodgemDebateLaw" 68 10 0 kX11_strikes := ⟨⟨(RX11, TX11, 53), rfl, rfl⟩, cm_X11_strikes, (mtb 1226 (by decide +kernel) rfl), (mtb 1227 (by decide +kernel) rfl), sm_X11_strikes, (mtb 12 (by decide +kernel) rfl), ⟨by decide +kernel, by decide +kernel, by decide +kernel⟩, by decide⟩
set_option maxRecDepth 20000 in
theorem sm_X11_strikesOf : Cond.selects yX11_strikesOf.cls yX11_strikesOf yX11_strikesOf ∈ mtbl := mtbs (List.mem_of_getElem? (i := 46) (by decide +kernel)) rfl
set_option maxRecDepth 20000 in
theorem cv_X11_291 : mCV "DodgemDebateModel" 291 10 0 kX11_strikesOf := ⟨⟨(RX11, TX11, 53), rfl, rfl⟩, cm_X11_strikesOf, (mtb 1230 (by decide +kernel) rfl), (mtb 1232 (by decide +kernel) rfl), sm_X11_strikesOf, (mtb 12 (by decide +kernel) rfl), ⟨by decide +kernel, by decide +kernel, by decide +kernel⟩, by decide⟩
set_option maxRecDepth 20000 in
theorem sm_X11_first : Cond.selects yX11_first.cls yX11_first yX11_first ∈ mtbl := mtb 1236 (by decide +kernel) rfl
set_option maxRecDepth 20000 in
theorem cv_L_72 : mCV "DodgemDebateLaw" 72 10 1 kX11_first := ⟨⟨(RX11, TX11, 53), rfl, rfl⟩, cm_X11_first, (mtb 1234 (by decide +kernel) rfl), (mtb 1235 (by decide +kernel) rfl), sm_X11_first, (mtb 12 (by decide +kernel) rfl), ⟨by decide +kernel, by decide +kernel, by decide +kernel⟩, by decide⟩
set_option maxRecDepth 20000 in
theorem sm_X11_firstOf : Cond.selects yX11_firstOf.cls yX11_firstOf yX11_firstOf ∈ mtbl := mtbs (List.mem_of_getElem? (i := 47) (by decide +kernel)) rfl
set_option maxRecDepth 20000 in
theorem cv_X11_295 : mCV "DodgemDebateModel" 295 10 1 kX11_firstOf := ⟨⟨(RX11, TX11, 53), rfl, rfl⟩, cm_X11_firstOf, (mtb 1238 (by decide +kernel) rfl), (mtb 1240 (by decide +kernel) rfl), sm_X11_firstOf, (mtb 12 (by decide +kernel) rfl), ⟨by decide +kernel, by decide +kernel, by decide +kernel⟩, by decide⟩
set_option maxRecDepth 20000 in
theorem sm_X11_best : Cond.selects yX11_best.cls yX11_best yX11_best ∈ mtbl := mtb 1244 (by decide +kernel) rfl
set_option maxRecDepth 20000 in
theorem cv_L_76 : mCV "DodgemDebateLaw" 76 10 0 kX11_best := ⟨⟨(RX11, TX11, 53), rfl, rfl⟩, cm_X11_best, (mtb 1242 (by decide +kernel) rfl), (mtb 1243 (by decide +kernel) rfl), sm_X11_best, (mtb 12 (by decide +kernel) rfl), ⟨by decide +kernel, by decide +kernel, by decide +kernel⟩, by decide⟩
set_option maxRecDepth 20000 in
theorem sm_X11_bestOf : Cond.selects yX11_bestOf.cls yX11_bestOf yX11_bestOf ∈ mtbl := mtbs (List.mem_of_getElem? (i := 48) (by decide +kernel)) rfl
set_option maxRecDepth 20000 in
theorem cv_X11_298 : mCV "DodgemDebateModel" 298 10 0 kX11_bestOf := ⟨⟨(RX11, TX11, 53), rfl, rfl⟩, cm_X11_bestOf, (mtb 1246 (by decide +kernel) rfl), (mtb 1248 (by decide +kernel) rfl), sm_X11_bestOf, (mtb 12 (by decide +kernel) rfl), ⟨by decide +kernel, by decide +kernel, by decide +kernel⟩, by decide⟩
set_option maxRecDepth 20000 in
theorem sm_X11_meek : Cond.selects yX11_meek.cls yX11_meek yX11_meek ∈ mtbl := mtb 1252 (by decide +kernel) rfl
set_option maxRecDepth 20000 in
theorem cv_L_80 : mCV "DodgemDebateLaw" 80 10 0 kX11_meek := ⟨⟨(RX11, TX11, 53), rfl, rfl⟩, cm_X11_meek, (mtb 1250 (by decide +kernel) rfl), (mtb 1251 (by decide +kernel) rfl), sm_X11_meek, (mtb 12 (by decide +kernel) rfl), ⟨by decide +kernel, by decide +kernel, by decide +kernel⟩, by decide⟩
set_option maxRecDepth 20000 in
theorem sm_X11_meekOf : Cond.selects yX11_meekOf.cls yX11_meekOf yX11_meekOf ∈ mtbl := mtbs (List.mem_of_getElem? (i := 49) (by decide +kernel)) rfl
set_option maxRecDepth 20000 in
theorem cv_X11_304 : mCV "DodgemDebateModel" 304 10 0 kX11_meekOf := ⟨⟨(RX11, TX11, 53), rfl, rfl⟩, cm_X11_meekOf, (mtb 1254 (by decide +kernel) rfl), (mtb 1256 (by decide +kernel) rfl), sm_X11_meekOf, (mtb 12 (by decide +kernel) rfl), ⟨by decide +kernel, by decide +kernel, by decide +kernel⟩, by decide⟩
set_option maxRecDepth 20000 in
theorem sm_X11_meekNow : Cond.selects yX11_meekNow.cls yX11_meekNow yX11_meekNow ∈ mtbl := mtbs (List.mem_of_getElem? (i := 50) (by decide +kernel)) rfl
set_option maxRecDepth 20000 in
theorem cv_X11_301 : mCV "DodgemDebateModel" 301 10 0 kX11_meekNow := ⟨⟨(RX11, TX11, 53), rfl, rfl⟩, cm_X11_meekNow, (mtb 1258 (by decide +kernel) rfl), (mtb 1260 (by decide +kernel) rfl), sm_X11_meekNow, (mtb 12 (by decide +kernel) rfl), ⟨by decide +kernel, by decide +kernel, by decide +kernel⟩, by decide⟩
set_option maxRecDepth 20000 in
theorem sm_X11_jam : Cond.selects yX11_jam.cls yX11_jam yX11_jam ∈ mtbl := mtb 1264 (by decide +kernel) rfl
set_option maxRecDepth 20000 in
theorem cv_L_84 : mCV "DodgemDebateLaw" 84 10 1 kX11_jam := ⟨⟨(RX11, TX11, 53), rfl, rfl⟩, cm_X11_jam, (mtb 1262 (by decide +kernel) rfl), (mtb 1263 (by decide +kernel) rfl), sm_X11_jam, (mtb 12 (by decide +kernel) rfl), ⟨by decide +kernel, by decide +kernel, by decide +kernel⟩, by decide⟩
set_option maxRecDepth 20000 in
theorem sm_X11_jamOf : Cond.selects yX11_jamOf.cls yX11_jamOf yX11_jamOf ∈ mtbl := mtbs (List.mem_of_getElem? (i := 51) (by decide +kernel)) rfl
set_option maxRecDepth 20000 in
theorem cv_X11_307 : mCV "DodgemDebateModel" 307 10 1 kX11_jamOf := ⟨⟨(RX11, TX11, 53), rfl, rfl⟩, cm_X11_jamOf, (mtb 1266 (by decide +kernel) rfl), (mtb 1268 (by decide +kernel) rfl), sm_X11_jamOf, (mtb 12 (by decide +kernel) rfl), ⟨by decide +kernel, by decide +kernel, by decide +kernel⟩, by decide⟩
set_option maxRecDepth 20000 in
theorem sm_X11_carried : Cond.selects yX11_carried.cls yX11_carried yX11_carried ∈ mtbl := mtb 1272 (by decide +kernel) rfl
set_option maxRecDepth 20000 in
theorem cv_L_88 : mCV "DodgemDebateLaw" 88 10 0 kX11_carried := ⟨⟨(RX11, TX11, 53), rfl, rfl⟩, cm_X11_carried, (mtb 1270 (by decide +kernel) rfl), (mtb 1271 (by decide +kernel) rfl), sm_X11_carried, (mtb 12 (by decide +kernel) rfl), ⟨by decide +kernel, by decide +kernel, by decide +kernel⟩, by decide⟩
set_option maxRecDepth 20000 in
theorem sm_X11_carriedOf : Cond.selects yX11_carriedOf.cls yX11_carriedOf yX11_carriedOf ∈ mtbl := mtbs (List.mem_of_getElem? (i := 52) (by decide +kernel)) rfl
set_option maxRecDepth 20000 in
theorem cv_X11_310 : mCV "DodgemDebateModel" 310 10 0 kX11_carriedOf := ⟨⟨(RX11, TX11, 53), rfl, rfl⟩, cm_X11_carriedOf, (mtb 1274 (by decide +kernel) rfl), (mtb 1276 (by decide +kernel) rfl), sm_X11_carriedOf, (mtb 12 (by decide +kernel) rfl), ⟨by decide +kernel, by decide +kernel, by decide +kernel⟩, by decide⟩
set_option maxRecDepth 20000 in
theorem sm_X11_stand : Cond.selects yX11_stand.cls yX11_stand yX11_stand ∈ mtbl := mtb 1280 (by decide +kernel) rfl
set_option maxRecDepth 20000 in
theorem cv_L_92 : mCV "DodgemDebateLaw" 92 10 2 kX11_stand := ⟨⟨(RX11, TX11, 53), rfl, rfl⟩, cm_X11_stand, (mtb 1278 (by decide +kernel) rfl), (mtb 1279 (by decide +kernel) rfl), sm_X11_stand, (mtb 12 (by decide +kernel) rfl), ⟨by decide +kernel, by decide +kernel, by decide +kernel⟩, by decide⟩
set_option maxRecDepth 20000 in
theorem sm_X11_standOf : Cond.selects yX11_standOf.cls yX11_standOf yX11_standOf ∈ mtbl := mtbs (List.mem_of_getElem? (i := 53) (by decide +kernel)) rfl
set_option maxRecDepth 20000 in
theorem cv_X11_316 : mCV "DodgemDebateModel" 316 10 2 kX11_standOf := ⟨⟨(RX11, TX11, 53), rfl, rfl⟩, cm_X11_standOf, (mtb 1282 (by decide +kernel) rfl), (mtb 1284 (by decide +kernel) rfl), sm_X11_standOf, (mtb 12 (by decide +kernel) rfl), ⟨by decide +kernel, by decide +kernel, by decide +kernel⟩, by decide⟩
set_option maxRecDepth 20000 in
theorem sm_X11_isOther : Cond.selects yX11_isOther.cls yX11_isOther yX11_isOther ∈ mtbl := mtbs (List.mem_of_getElem? (i := 54) (by decide +kernel)) rfl
set_option maxRecDepth 20000 in
theorem cv_X11_313 : mCV "DodgemDebateModel" 313 10 3 kX11_isOther := ⟨⟨(RX11, TX11, 53), rfl, rfl⟩, cm_X11_isOther, (mtb 1286 (by decide +kernel) rfl), (mtb 1288 (by decide +kernel) rfl), sm_X11_isOther, (mtb 12 (by decide +kernel) rfl), ⟨by decide +kernel, by decide +kernel, by decide +kernel⟩, by decide⟩
set_option maxRecDepth 20000 in
theorem sm_X11_better : Cond.selects yX11_better.cls yX11_better yX11_better ∈ mtbl := mtb 1292 (by decide +kernel) rfl
set_option maxRecDepth 20000 in
theorem cv_L_96 : mCV "DodgemDebateLaw" 96 10 3 kX11_better := ⟨⟨(RX11, TX11, 53), rfl, rfl⟩, cm_X11_better, (mtb 1290 (by decide +kernel) rfl), (mtb 1291 (by decide +kernel) rfl), sm_X11_better, (mtb 12 (by decide +kernel) rfl), ⟨by decide +kernel, by decide +kernel, by decide +kernel⟩, by decide⟩
set_option maxRecDepth 20000 in
theorem sm_X11_betterOf : Cond.selects yX11_betterOf.cls yX11_betterOf yX11_betterOf ∈ mtbl := mtbs (List.mem_of_getElem? (i := 55) (by decide +kernel)) rfl
set_option maxRecDepth 20000 in
theorem cv_X11_319 : mCV "DodgemDebateModel" 319 10 3 kX11_betterOf := ⟨⟨(RX11, TX11, 53), rfl, rfl⟩, cm_X11_betterOf, (mtb 1294 (by decide +kernel) rfl), (mtb 1296 (by decide +kernel) rfl), sm_X11_betterOf, (mtb 12 (by decide +kernel) rfl), ⟨by decide +kernel, by decide +kernel, by decide +kernel⟩, by decide⟩
set_option maxRecDepth 20000 in
theorem sm_X11_ring : Cond.selects yX11_ring.cls yX11_ring yX11_ring ∈ mtbl := mtb 1300 (by decide +kernel) rfl
set_option maxRecDepth 20000 in
theorem cv_L_100 : mCV "DodgemDebateLaw" 100 10 1 kX11_ring := ⟨⟨(RX11, TX11, 53), rfl, rfl⟩, cm_X11_ring, (mtb 1298 (by decide +kernel) rfl), (mtb 1299 (by decide +kernel) rfl), sm_X11_ring, (mtb 12 (by decide +kernel) rfl), ⟨by decide +kernel, by decide +kernel, by decide +kernel⟩, by decide⟩
set_option maxRecDepth 20000 in
theorem sm_X11_ringOf : Cond.selects yX11_ringOf.cls yX11_ringOf yX11_ringOf ∈ mtbl := mtbs (List.mem_of_getElem? (i := 56) (by decide +kernel)) rfl
set_option maxRecDepth 20000 in
theorem cv_X11_322 : mCV "DodgemDebateModel" 322 10 1 kX11_ringOf := ⟨⟨(RX11, TX11, 53), rfl, rfl⟩, cm_X11_ringOf, (mtb 1302 (by decide +kernel) rfl), (mtb 1304 (by decide +kernel) rfl), sm_X11_ringOf, (mtb 12 (by decide +kernel) rfl), ⟨by decide +kernel, by decide +kernel, by decide +kernel⟩, by decide⟩
set_option maxRecDepth 20000 in
theorem sm_X11_spare : Cond.selects yX11_spare.cls yX11_spare yX11_spare ∈ mtbl := mtb 1308 (by decide +kernel) rfl
set_option maxRecDepth 20000 in
theorem cv_L_104 : mCV "DodgemDebateLaw" 104 10 1 kX11_spare := ⟨⟨(RX11, TX11, 53), rfl, rfl⟩, cm_X11_spare, (mtb 1306 (by decide +kernel) rfl), (mtb 1307 (by decide +kernel) rfl), sm_X11_spare, (mtb 12 (by decide +kernel) rfl), ⟨by decide +kernel, by decide +kernel, by decide +kernel⟩, by decide⟩
set_option maxRecDepth 20000 in
theorem sm_X11_spareBy : Cond.selects yX11_spareBy.cls yX11_spareBy yX11_spareBy ∈ mtbl := mtbs (List.mem_of_getElem? (i := 57) (by decide +kernel)) rfl
set_option maxRecDepth 20000 in
theorem cv_X11_328 : mCV "DodgemDebateModel" 328 10 0 kX11_spareBy := ⟨⟨(RX11, TX11, 53), rfl, rfl⟩, cm_X11_spareBy, (mtb 1310 (by decide +kernel) rfl), (mtb 1312 (by decide +kernel) rfl), sm_X11_spareBy, (mtb 12 (by decide +kernel) rfl), ⟨by decide +kernel, by decide +kernel, by decide +kernel⟩, by decide⟩
set_option maxRecDepth 20000 in
theorem sm_X11_isSpared : Cond.selects yX11_isSpared.cls yX11_isSpared yX11_isSpared ∈ mtbl := mtbs (List.mem_of_getElem? (i := 58) (by decide +kernel)) rfl
set_option maxRecDepth 20000 in
theorem cv_X11_325 : mCV "DodgemDebateModel" 325 10 1 kX11_isSpared := ⟨⟨(RX11, TX11, 53), rfl, rfl⟩, cm_X11_isSpared, (mtb 1314 (by decide +kernel) rfl), (mtb 1316 (by decide +kernel) rfl), sm_X11_isSpared, (mtb 12 (by decide +kernel) rfl), ⟨by decide +kernel, by decide +kernel, by decide +kernel⟩, by decide⟩
set_option maxRecDepth 20000 in
theorem sm_X11_ofRow : Cond.selects yX11_ofRow.cls yX11_ofRow yX11_ofRow ∈ mtbl := mtbs (List.mem_of_getElem? (i := 59) (by decide +kernel)) rfl
set_option maxRecDepth 20000 in
theorem cv_X11_331 : mCV "DodgemDebateModel" 331 10 2 kX11_ofRow := ⟨⟨(RX11, TX11, 53), rfl, rfl⟩, cm_X11_ofRow, (mtb 1318 (by decide +kernel) rfl), (mtb 1320 (by decide +kernel) rfl), sm_X11_ofRow, (mtb 12 (by decide +kernel) rfl), ⟨by decide +kernel, by decide +kernel, by decide +kernel⟩, by decide⟩
set_option maxRecDepth 20000 in
theorem sm_X11_seen : Cond.selects yX11_seen.cls yX11_seen yX11_seen ∈ mtbl := mtb 1324 (by decide +kernel) rfl
set_option maxRecDepth 20000 in
theorem cv_L_109 : mCV "DodgemDebateLaw" 109 10 4 kX11_seen := ⟨⟨(RX11, TX11, 53), rfl, rfl⟩, cm_X11_seen, (mtb 1322 (by decide +kernel) rfl), (mtb 1323 (by decide +kernel) rfl), sm_X11_seen, (mtb 12 (by decide +kernel) rfl), ⟨by decide +kernel, by decide +kernel, by decide +kernel⟩, by decide⟩
set_option maxRecDepth 20000 in
theorem sm_X11_forget : Cond.selects yX11_forget.cls yX11_forget yX11_forget ∈ mtbl := mtb 1328 (by decide +kernel) rfl
set_option maxRecDepth 20000 in
theorem cv_L_113 : mCV "DodgemDebateLaw" 113 10 0 kX11_forget := ⟨⟨(RX11, TX11, 53), rfl, rfl⟩, cm_X11_forget, (mtb 1326 (by decide +kernel) rfl), (mtb 1327 (by decide +kernel) rfl), sm_X11_forget, (mtb 12 (by decide +kernel) rfl), ⟨by decide +kernel, by decide +kernel, by decide +kernel⟩, by decide⟩
set_option maxRecDepth 20000 in
theorem sm_X11_never : Cond.selects yX11_never.cls yX11_never yX11_never ∈ mtbl := mtb 1332 (by decide +kernel) rfl
set_option maxRecDepth 20000 in
theorem cv_L_117 : mCV "DodgemDebateLaw" 117 10 0 kX11_never := ⟨⟨(RX11, TX11, 53), rfl, rfl⟩, cm_X11_never, (mtb 1330 (by decide +kernel) rfl), (mtb 1331 (by decide +kernel) rfl), sm_X11_never, (mtb 12 (by decide +kernel) rfl), ⟨by decide +kernel, by decide +kernel, by decide +kernel⟩, by decide⟩
set_option maxRecDepth 20000 in
theorem sm_X11_neverNow : Cond.selects yX11_neverNow.cls yX11_neverNow yX11_neverNow ∈ mtbl := mtbs (List.mem_of_getElem? (i := 60) (by decide +kernel)) rfl
set_option maxRecDepth 20000 in
theorem cv_X11_341 : mCV "DodgemDebateModel" 341 10 0 kX11_neverNow := ⟨⟨(RX11, TX11, 53), rfl, rfl⟩, cm_X11_neverNow, (mtb 1334 (by decide +kernel) rfl), (mtb 1336 (by decide +kernel) rfl), sm_X11_neverNow, (mtb 12 (by decide +kernel) rfl), ⟨by decide +kernel, by decide +kernel, by decide +kernel⟩, by decide⟩
set_option maxRecDepth 20000 in
theorem sm_X11_isSeen : Cond.selects yX11_isSeen.cls yX11_isSeen yX11_isSeen ∈ mtbl := mtbs (List.mem_of_getElem? (i := 61) (by decide +kernel)) rfl
set_option maxRecDepth 20000 in
theorem cv_X11_337 : mCV "DodgemDebateModel" 337 10 0 kX11_isSeen := ⟨⟨(RX11, TX11, 53), rfl, rfl⟩, cm_X11_isSeen, (mtb 1338 (by decide +kernel) rfl), (mtb 1340 (by decide +kernel) rfl), sm_X11_isSeen, (mtb 12 (by decide +kernel) rfl), ⟨by decide +kernel, by decide +kernel, by decide +kernel⟩, by decide⟩
set_option maxRecDepth 20000 in
theorem sm_X11_was : Cond.selects yX11_was.cls yX11_was yX11_was ∈ mtbl := mtb 1344 (by decide +kernel) rfl
set_option maxRecDepth 20000 in
theorem cv_L_121 : mCV "DodgemDebateLaw" 121 10 2 kX11_was := ⟨⟨(RX11, TX11, 53), rfl, rfl⟩, cm_X11_was, (mtb 1342 (by decide +kernel) rfl), (mtb 1343 (by decide +kernel) rfl), sm_X11_was, (mtb 12 (by decide +kernel) rfl), ⟨by decide +kernel, by decide +kernel, by decide +kernel⟩, by decide⟩
set_option maxRecDepth 20000 in
theorem sm_X11_sortsBy : Cond.selects yX11_sortsBy.cls yX11_sortsBy yX11_sortsBy ∈ mtbl := mtbs (List.mem_of_getElem? (i := 62) (by decide +kernel)) rfl
set_option maxRecDepth 20000 in
theorem cv_X11_344 : mCV "DodgemDebateModel" 344 10 1 kX11_sortsBy := ⟨⟨(RX11, TX11, 53), rfl, rfl⟩, cm_X11_sortsBy, (mtb 1346 (by decide +kernel) rfl), (mtb 1348 (by decide +kernel) rfl), sm_X11_sortsBy, (mtb 12 (by decide +kernel) rfl), ⟨by decide +kernel, by decide +kernel, by decide +kernel⟩, by decide⟩
set_option maxRecDepth 20000 in
theorem sm_X11_heavyBy : Cond.selects yX11_heavyBy.cls yX11_heavyBy yX11_heavyBy ∈ mtbl := mtbs (List.mem_of_getElem? (i := 63) (by decide +kernel)) rfl
set_option maxRecDepth 20000 in
theorem cv_X11_347 : mCV "DodgemDebateModel" 347 10 1 kX11_heavyBy := ⟨⟨(RX11, TX11, 53), rfl, rfl⟩, cm_X11_heavyBy, (mtb 1350 (by decide +kernel) rfl), (mtb 1352 (by decide +kernel) rfl), sm_X11_heavyBy, (mtb 12 (by decide +kernel) rfl), ⟨by decide +kernel, by decide +kernel, by decide +kernel⟩, by decide⟩
set_option maxRecDepth 20000 in
theorem sm_X11_ask : Cond.selects yX11_ask.cls yX11_ask yX11_ask ∈ mtbl := mtb 1356 (by decide +kernel) rfl
set_option maxRecDepth 20000 in
theorem cv_L_125 : mCV "DodgemDebateLaw" 125 10 1 kX11_ask := ⟨⟨(RX11, TX11, 53), rfl, rfl⟩, cm_X11_ask, (mtb 1354 (by decide +kernel) rfl), (mtb 1355 (by decide +kernel) rfl), sm_X11_ask, (mtb 12 (by decide +kernel) rfl), ⟨by decide +kernel, by decide +kernel, by decide +kernel⟩, by decide⟩
set_option maxRecDepth 20000 in
theorem sm_X11_askOf : Cond.selects yX11_askOf.cls yX11_askOf yX11_askOf ∈ mtbl := mtbs (List.mem_of_getElem? (i := 64) (by decide +kernel)) rfl
set_option maxRecDepth 20000 in
theorem cv_X11_350 : mCV "DodgemDebateModel" 350 10 1 kX11_askOf := ⟨⟨(RX11, TX11, 53), rfl, rfl⟩, cm_X11_askOf, (mtb 1358 (by decide +kernel) rfl), (mtb 1360 (by decide +kernel) rfl), sm_X11_askOf, (mtb 12 (by decide +kernel) rfl), ⟨by decide +kernel, by decide +kernel, by decide +kernel⟩, by decide⟩
set_option maxRecDepth 20000 in
theorem sm_X11_chance : Cond.selects yX11_chance.cls yX11_chance yX11_chance ∈ mtbl := mtb 1364 (by decide +kernel) rfl
set_option maxRecDepth 20000 in
theorem cv_L_130 : mCV "DodgemDebateLaw" 130 10 3 kX11_chance := ⟨⟨(RX11, TX11, 53), rfl, rfl⟩, cm_X11_chance, (mtb 1362 (by decide +kernel) rfl), (mtb 1363 (by decide +kernel) rfl), sm_X11_chance, (mtb 12 (by decide +kernel) rfl), ⟨by decide +kernel, by decide +kernel, by decide +kernel⟩, by decide⟩
set_option maxRecDepth 20000 in
theorem sm_X11_chanceOf : Cond.selects yX11_chanceOf.cls yX11_chanceOf yX11_chanceOf ∈ mtbl := mtbs (List.mem_of_getElem? (i := 65) (by decide +kernel)) rfl
set_option maxRecDepth 20000 in
theorem cv_X11_357 : mCV "DodgemDebateModel" 357 10 3 kX11_chanceOf := ⟨⟨(RX11, TX11, 53), rfl, rfl⟩, cm_X11_chanceOf, (mtb 1366 (by decide +kernel) rfl), (mtb 1368 (by decide +kernel) rfl), sm_X11_chanceOf, (mtb 12 (by decide +kernel) rfl), ⟨by decide +kernel, by decide +kernel, by decide +kernel⟩, by decide⟩
set_option maxRecDepth 20000 in
theorem cs_X11_353 : mCS "DodgemDebateModel" 353 3 kX11_lowest := ⟨cm_X11_lowest, Or.inl (mtb 1370 (by decide +kernel) rfl), (mtb 1371 (by decide +kernel) rfl), (mtb 12 (by decide +kernel) rfl), ⟨by decide +kernel, by decide +kernel, by decide +kernel⟩, by decide⟩
set_option maxRecDepth 20000 in
theorem cs_X11_361 : mCS "DodgemDebateModel" 361 1 kX11_no := ⟨cm_X11_no, Or.inl (mtb 1373 (by decide +kernel) rfl), (mtb 1374 (by decide +kernel) rfl), (mtb 12 (by decide +kernel) rfl), ⟨by decide +kernel, by decide +kernel, by decide +kernel⟩, by decide⟩
set_option maxRecDepth 20000 in
theorem sm_X11_ages : Cond.selects yX11_ages.cls yX11_ages yX11_ages ∈ mtbl := mtb 1379 (by decide +kernel) rfl
set_option maxRecDepth 20000 in
theorem cv_L_134 : mCV "DodgemDebateLaw" 134 10 3 kX11_ages := ⟨⟨(RX11, TX11, 53), rfl, rfl⟩, cm_X11_ages, (mtb 1377 (by decide +kernel) rfl), (mtb 1378 (by decide +kernel) rfl), sm_X11_ages, (mtb 12 (by decide +kernel) rfl), ⟨by decide +kernel, by decide +kernel, by decide +kernel⟩, by decide⟩
set_option maxRecDepth 20000 in
theorem sm_X11_agesOf : Cond.selects yX11_agesOf.cls yX11_agesOf yX11_agesOf ∈ mtbl := mtbs (List.mem_of_getElem? (i := 66) (by decide +kernel)) rfl
set_option maxRecDepth 20000 in
theorem cv_X11_369 : mCV "DodgemDebateModel" 369 10 3 kX11_agesOf := ⟨⟨(RX11, TX11, 53), rfl, rfl⟩, cm_X11_agesOf, (mtb 1381 (by decide +kernel) rfl), (mtb 1383 (by decide +kernel) rfl), sm_X11_agesOf, (mtb 12 (by decide +kernel) rfl), ⟨by decide +kernel, by decide +kernel, by decide +kernel⟩, by decide⟩
set_option maxRecDepth 20000 in
theorem sm_X11_pointsAll : Cond.selects yX11_pointsAll.cls yX11_pointsAll yX11_pointsAll ∈ mtbl := mtbs (List.mem_of_getElem? (i := 67) (by decide +kernel)) rfl
set_option maxRecDepth 20000 in
theorem cv_X11_366 : mCV "DodgemDebateModel" 366 10 0 kX11_pointsAll := ⟨⟨(RX11, TX11, 53), rfl, rfl⟩, cm_X11_pointsAll, (mtb 1386 (by decide +kernel) rfl), (mtb 1388 (by decide +kernel) rfl), sm_X11_pointsAll, (mtb 12 (by decide +kernel) rfl), ⟨by decide +kernel, by decide +kernel, by decide +kernel⟩, by decide⟩
set_option maxRecDepth 20000 in
theorem sm_X11_sheet : Cond.selects yX11_sheet.cls yX11_sheet yX11_sheet ∈ mtbl := mtb 1392 (by decide +kernel) rfl
set_option maxRecDepth 20000 in
theorem cv_L_138 : mCV "DodgemDebateLaw" 138 10 3 kX11_sheet := ⟨⟨(RX11, TX11, 53), rfl, rfl⟩, cm_X11_sheet, (mtb 1390 (by decide +kernel) rfl), (mtb 1391 (by decide +kernel) rfl), sm_X11_sheet, (mtb 12 (by decide +kernel) rfl), ⟨by decide +kernel, by decide +kernel, by decide +kernel⟩, by decide⟩
set_option maxRecDepth 20000 in
theorem sm_X11_lose : Cond.selects yX11_lose.cls yX11_lose yX11_lose ∈ mtbl := mtb 1396 (by decide +kernel) rfl
set_option maxRecDepth 20000 in
theorem cv_L_142 : mCV "DodgemDebateLaw" 142 10 1 kX11_lose := ⟨⟨(RX11, TX11, 53), rfl, rfl⟩, cm_X11_lose, (mtb 1394 (by decide +kernel) rfl), (mtb 1395 (by decide +kernel) rfl), sm_X11_lose, (mtb 12 (by decide +kernel) rfl), ⟨by decide +kernel, by decide +kernel, by decide +kernel⟩, by decide⟩
set_option maxRecDepth 20000 in
theorem sm_X11_put : Cond.selects yX11_put.cls yX11_put yX11_put ∈ mtbl := mtb 1400 (by decide +kernel) rfl
set_option maxRecDepth 20000 in
theorem cv_L_146 : mCV "DodgemDebateLaw" 146 10 4 kX11_put := ⟨⟨(RX11, TX11, 53), rfl, rfl⟩, cm_X11_put, (mtb 1398 (by decide +kernel) rfl), (mtb 1399 (by decide +kernel) rfl), sm_X11_put, (mtb 12 (by decide +kernel) rfl), ⟨by decide +kernel, by decide +kernel, by decide +kernel⟩, by decide⟩
set_option maxRecDepth 20000 in
theorem sm_X11_lacks : Cond.selects yX11_lacks.cls yX11_lacks yX11_lacks ∈ mtbl := mtbs (List.mem_of_getElem? (i := 68) (by decide +kernel)) rfl
set_option maxRecDepth 20000 in
theorem cv_X11_375 : mCV "DodgemDebateModel" 375 10 3 kX11_lacks := ⟨⟨(RX11, TX11, 53), rfl, rfl⟩, cm_X11_lacks, (mtb 1402 (by decide +kernel) rfl), (mtb 1404 (by decide +kernel) rfl), sm_X11_lacks, (mtb 12 (by decide +kernel) rfl), ⟨by decide +kernel, by decide +kernel, by decide +kernel⟩, by decide⟩
set_option maxRecDepth 20000 in
theorem sm_X11_keep : Cond.selects yX11_keep.cls yX11_keep yX11_keep ∈ mtbl := mtbs (List.mem_of_getElem? (i := 69) (by decide +kernel)) rfl
set_option maxRecDepth 20000 in
theorem cv_X11_378 : mCV "DodgemDebateModel" 378 10 3 kX11_keep := ⟨⟨(RX11, TX11, 53), rfl, rfl⟩, cm_X11_keep, (mtb 1406 (by decide +kernel) rfl), (mtb 1408 (by decide +kernel) rfl), sm_X11_keep, (mtb 12 (by decide +kernel) rfl), ⟨by decide +kernel, by decide +kernel, by decide +kernel⟩, by decide⟩
set_option maxRecDepth 20000 in
theorem sm_X11_get : Cond.selects yX11_get.cls yX11_get yX11_get ∈ mtbl := mtb 1412 (by decide +kernel) rfl
set_option maxRecDepth 20000 in
theorem cv_L_150 : mCV "DodgemDebateLaw" 150 10 3 kX11_get := ⟨⟨(RX11, TX11, 53), rfl, rfl⟩, cm_X11_get, (mtb 1410 (by decide +kernel) rfl), (mtb 1411 (by decide +kernel) rfl), sm_X11_get, (mtb 12 (by decide +kernel) rfl), ⟨by decide +kernel, by decide +kernel, by decide +kernel⟩, by decide⟩
set_option maxRecDepth 20000 in
theorem sm_X11_copy : Cond.selects yX11_copy.cls yX11_copy yX11_copy ∈ mtbl := mtb 1417 (by decide +kernel) rfl
set_option maxRecDepth 20000 in
theorem cv_L_155 : mCV "DodgemDebateLaw" 155 10 5 kX11_copy := ⟨⟨(RX11, TX11, 53), rfl, rfl⟩, cm_X11_copy, (mtb 1415 (by decide +kernel) rfl), (mtb 1416 (by decide +kernel) rfl), sm_X11_copy, (mtb 12 (by decide +kernel) rfl), ⟨by decide +kernel, by decide +kernel, by decide +kernel⟩, by decide⟩
set_option maxRecDepth 20000 in
theorem sm_X11_write : Cond.selects yX11_write.cls yX11_write yX11_write ∈ mtbl := mtb 1421 (by decide +kernel) rfl
set_option maxRecDepth 20000 in
theorem cv_L_159 : mCV "DodgemDebateLaw" 159 10 2 kX11_write := ⟨⟨(RX11, TX11, 53), rfl, rfl⟩, cm_X11_write, (mtb 1419 (by decide +kernel) rfl), (mtb 1420 (by decide +kernel) rfl), sm_X11_write, (mtb 12 (by decide +kernel) rfl), ⟨by decide +kernel, by decide +kernel, by decide +kernel⟩, by decide⟩
set_option maxRecDepth 20000 in
theorem sm_X11_count : Cond.selects yX11_count.cls yX11_count yX11_count ∈ mtbl := mtb 1425 (by decide +kernel) rfl
set_option maxRecDepth 20000 in
theorem cv_L_163 : mCV "DodgemDebateLaw" 163 10 1 kX11_count := ⟨⟨(RX11, TX11, 53), rfl, rfl⟩, cm_X11_count, (mtb 1423 (by decide +kernel) rfl), (mtb 1424 (by decide +kernel) rfl), sm_X11_count, (mtb 12 (by decide +kernel) rfl), ⟨by decide +kernel, by decide +kernel, by decide +kernel⟩, by decide⟩
set_option maxRecDepth 20000 in
theorem sm_X11_sumOf : Cond.selects yX11_sumOf.cls yX11_sumOf yX11_sumOf ∈ mtbl := mtbs (List.mem_of_getElem? (i := 70) (by decide +kernel)) rfl
set_option maxRecDepth 20000 in
theorem cv_X11_382 : mCV "DodgemDebateModel" 382 10 1 kX11_sumOf := ⟨⟨(RX11, TX11, 53), rfl, rfl⟩, cm_X11_sumOf, (mtb 1427 (by decide +kernel) rfl), (mtb 1429 (by decide +kernel) rfl), sm_X11_sumOf, (mtb 12 (by decide +kernel) rfl), ⟨by decide +kernel, by decide +kernel, by decide +kernel⟩, by decide⟩
set_option maxRecDepth 20000 in
theorem sm_X11_digest : Cond.selects yX11_digest.cls yX11_digest yX11_digest ∈ mtbl := mtb 1433 (by decide +kernel) rfl
set_option maxRecDepth 20000 in
theorem cv_L_168 : mCV "DodgemDebateLaw" 168 10 0 kX11_digest := ⟨⟨(RX11, TX11, 53), rfl, rfl⟩, cm_X11_digest, (mtb 1431 (by decide +kernel) rfl), (mtb 1432 (by decide +kernel) rfl), sm_X11_digest, (mtb 12 (by decide +kernel) rfl), ⟨by decide +kernel, by decide +kernel, by decide +kernel⟩, by decide⟩
set_option maxRecDepth 20000 in
theorem cv_X11_393 : mCV "DodgemDebateModel" 393 10 1 kX11_count := ⟨⟨(RX11, TX11, 53), rfl, rfl⟩, cm_X11_count, (mtb 1437 (by decide +kernel) rfl), (mtb 1424 (by decide +kernel) rfl), sm_X11_count, (mtb 12 (by decide +kernel) rfl), ⟨by decide +kernel, by decide +kernel, by decide +kernel⟩, by decide⟩
set_option maxRecDepth 20000 in
theorem sm_X11_carDigest : Cond.selects yX11_carDigest.cls yX11_carDigest yX11_carDigest ∈ mtbl := mtbs (List.mem_of_getElem? (i := 71) (by decide +kernel)) rfl
set_option maxRecDepth 20000 in
theorem cv_X11_396 : mCV "DodgemDebateModel" 396 10 2 kX11_carDigest := ⟨⟨(RX11, TX11, 53), rfl, rfl⟩, cm_X11_carDigest, (mtb 1438 (by decide +kernel) rfl), (mtb 1440 (by decide +kernel) rfl), sm_X11_carDigest, (mtb 12 (by decide +kernel) rfl), ⟨by decide +kernel, by decide +kernel, by decide +kernel⟩, by decide⟩
set_option maxRecDepth 20000 in
theorem sm_X11_momentDigest : Cond.selects yX11_momentDigest.cls yX11_momentDigest yX11_momentDigest ∈ mtbl := mtbs (List.mem_of_getElem? (i := 72) (by decide +kernel)) rfl
set_option maxRecDepth 20000 in
theorem cv_X11_387 : mCV "DodgemDebateModel" 387 10 3 kX11_momentDigest := ⟨⟨(RX11, TX11, 53), rfl, rfl⟩, cm_X11_momentDigest, (mtb 1442 (by decide +kernel) rfl), (mtb 1444 (by decide +kernel) rfl), sm_X11_momentDigest, (mtb 12 (by decide +kernel) rfl), ⟨by decide +kernel, by decide +kernel, by decide +kernel⟩, by decide⟩
set_option maxRecDepth 20000 in
theorem cs_X3_99 : mCS "DodgemDebate$Run" 99 2 kX10_onFloor := ⟨cm_X10_onFloor, Or.inr (by decide +kernel), (mtb 500 (by decide +kernel) rfl), (mtb 1 (by decide +kernel) rfl), ⟨by decide +kernel, by decide +kernel, by decide +kernel⟩, by decide⟩
set_option maxRecDepth 20000 in
theorem cs_X1_21 : mCS "DodgemDebate$Events" 21 2 kX10_within := ⟨cm_X10_within, Or.inr (by decide +kernel), (mtb 323 (by decide +kernel) rfl), (mtb 1 (by decide +kernel) rfl), ⟨by decide +kernel, by decide +kernel, by decide +kernel⟩, by decide⟩
set_option maxRecDepth 20000 in
theorem cs_X4_37 : mCS "DodgemDebate$Sheets" 37 2 kX10_within := ⟨cm_X10_within, Or.inr (by decide +kernel), (mtb 323 (by decide +kernel) rfl), (mtb 1 (by decide +kernel) rfl), ⟨by decide +kernel, by decide +kernel, by decide +kernel⟩, by decide⟩
set_option maxRecDepth 20000 in
theorem kc_J2_227 : Cond.constant "java/lang/StringUTF16" 227 (65536) ∈ mtbl := mtb 408 (by decide +kernel) rfl
set_option maxRecDepth 20000 in
theorem kc_J11_110 : Cond.constant "java/lang/Character" 110 (55232) ∈ mtbl := mtb 447 (by decide +kernel) rfl
set_option maxRecDepth 20000 in
theorem kc_J11_76 : Cond.constant "java/lang/Character" 76 (56320) ∈ mtbl := mtb 451 (by decide +kernel) rfl
set_option maxRecDepth 20000 in
theorem kc_J6_265 : Cond.constant "java/lang/Integer" 265 (1431655765) ∈ mtbl := mtb 684 (by decide +kernel) rfl
set_option maxRecDepth 20000 in
theorem kc_J6_266 : Cond.constant "java/lang/Integer" 266 (858993459) ∈ mtbl := mtb 685 (by decide +kernel) rfl
set_option maxRecDepth 20000 in
theorem kc_J6_267 : Cond.constant "java/lang/Integer" 267 (252645135) ∈ mtbl := mtb 686 (by decide +kernel) rfl
set_option maxRecDepth 20000 in
theorem kc_X9_146 : Cond.constant "DodgemDebate$Trials" 146 (1103515245) ∈ mtbl := mtb 783 (by decide +kernel) rfl
set_option maxRecDepth 20000 in
theorem kc_X10_238 : Cond.constant "DodgemDebate" 238 (-2147483648) ∈ mtbl := mtb 822 (by decide +kernel) rfl
set_option maxRecDepth 20000 in
theorem kc_X11_365 : Cond.constant "DodgemDebateModel" 365 (1103515245) ∈ mtbl := mtb 1385 (by decide +kernel) rfl
set_option maxRecDepth 20000 in
theorem kc_X11_381 : Cond.constant "DodgemDebateModel" 381 (-2147483648) ∈ mtbl := mtb 1414 (by decide +kernel) rfl
set_option maxRecDepth 20000 in
theorem kl_X10_211 : Cond.constantLong "DodgemDebate" 211 (-9223372036854775806) ∈ mtbl := mtb 750 (by decide +kernel) rfl
set_option maxRecDepth 20000 in
theorem kl_X10_322 : Cond.constantLong "DodgemDebate" 322 (2) ∈ mtbl := mtb 771 (by decide +kernel) rfl
set_option maxRecDepth 20000 in
theorem kl_X10_259 : Cond.constantLong "DodgemDebate" 259 (17) ∈ mtbl := mtb 845 (by decide +kernel) rfl
set_option maxRecDepth 20000 in
theorem kl_X2_7 : Cond.constantLong "DodgemDebate$Hash" 7 (31) ∈ mtbl := mtb 855 (by decide +kernel) rfl
set_option maxRecDepth 20000 in
theorem kl_X11_134 : Cond.constantLong "DodgemDebateModel" 134 (-9223372036854775808) ∈ mtbl := mtb 1376 (by decide +kernel) rfl
set_option maxRecDepth 20000 in
theorem kl_X11_391 : Cond.constantLong "DodgemDebateModel" 391 (17) ∈ mtbl := mtb 1435 (by decide +kernel) rfl
set_option maxRecDepth 20000 in
theorem kl_X11_385 : Cond.constantLong "DodgemDebateModel" 385 (31) ∈ mtbl := mtb 1436 (by decide +kernel) rfl
set_option maxRecDepth 20000 in
theorem cu_learn_cars : mCU "DodgemDebate" "DodgemDebate$Cars" "DodgemDebate$Told" 302 1 ⟨"DodgemDebate$Cars", "learn", "(LDodgemDebate$Text;)V"⟩ kX8_learn := ⟨cm_X8_learn, (mtb 349 (by decide +kernel) rfl), (mtb 350 (by decide +kernel) rfl), (mtb 352 (by decide +kernel) rfl), (mtb 353 (by decide +kernel) rfl), (mtb 3 (by decide +kernel) rfl), ⟨by decide +kernel, by decide +kernel, by decide +kernel⟩, Or.inl (by decide +kernel), by decide⟩
set_option maxRecDepth 20000 in
theorem cu_learn_steers : mCU "DodgemDebate" "DodgemDebate$Steers" "DodgemDebate$Told" 306 1 ⟨"DodgemDebate$Steers", "learn", "(LDodgemDebate$Text;)V"⟩ kX8_learn := ⟨cm_X8_learn, (mtb 469 (by decide +kernel) rfl), (mtb 470 (by decide +kernel) rfl), (mtb 471 (by decide +kernel) rfl), (mtb 353 (by decide +kernel) rfl), (mtb 3 (by decide +kernel) rfl), ⟨by decide +kernel, by decide +kernel, by decide +kernel⟩, Or.inl (by decide +kernel), by decide⟩
set_option maxRecDepth 20000 in
theorem cu_takes_cars : mCU "DodgemDebate$Told" "DodgemDebate$Cars" "DodgemDebate$Told" 34 3 ⟨"DodgemDebate$Told", "takes", "(IIC)Z"⟩ kX8_takes := ⟨cm_X8_takes, (mtb 355 (by decide +kernel) rfl), (mtb 1446 (by decide +kernel) rfl), (mtbx (by decide +kernel) rfl), (mtb 357 (by decide +kernel) rfl), (mtb 3 (by decide +kernel) rfl), ⟨by decide +kernel, by decide +kernel, by decide +kernel⟩, Or.inr rfl, by decide⟩
set_option maxRecDepth 20000 in
theorem cu_meaning_cars : mCU "DodgemDebate$Told" "DodgemDebate$Cars" "DodgemDebate$Told" 41 3 ⟨"DodgemDebate$Told", "meaning", "(IIC)I"⟩ kX0_meaning := ⟨cm_X0_meaning, (mtb 359 (by decide +kernel) rfl), (mtb 361 (by decide +kernel) rfl), (mtb 362 (by decide +kernel) rfl), (mtb 363 (by decide +kernel) rfl), (mtb 4 (by decide +kernel) rfl), ⟨by decide +kernel, by decide +kernel, by decide +kernel⟩, Or.inl (by decide +kernel), by decide⟩
set_option maxRecDepth 20000 in
theorem cu_takes_steers : mCU "DodgemDebate$Told" "DodgemDebate$Steers" "DodgemDebate$Told" 34 3 ⟨"DodgemDebate$Told", "takes", "(IIC)Z"⟩ kX8_takes := ⟨cm_X8_takes, (mtb 355 (by decide +kernel) rfl), (mtb 1446 (by decide +kernel) rfl), (mtbx (by decide +kernel) rfl), (mtb 357 (by decide +kernel) rfl), (mtb 3 (by decide +kernel) rfl), ⟨by decide +kernel, by decide +kernel, by decide +kernel⟩, Or.inr rfl, by decide⟩
set_option maxRecDepth 20000 in
theorem cu_meaning_steers : mCU "DodgemDebate$Told" "DodgemDebate$Steers" "DodgemDebate$Told" 41 3 ⟨"DodgemDebate$Told", "meaning", "(IIC)I"⟩ kX6_meaning := ⟨cm_X6_meaning, (mtb 359 (by decide +kernel) rfl), (mtb 361 (by decide +kernel) rfl), (mtb 463 (by decide +kernel) rfl), (mtb 464 (by decide +kernel) rfl), (mtb 5 (by decide +kernel) rfl), ⟨by decide +kernel, by decide +kernel, by decide +kernel⟩, Or.inl (by decide +kernel), by decide⟩
set_option maxRecDepth 20000 in
theorem ac_X3_111 : Cond.methodLink "DodgemDebate$Run" 111 arraycopyName ∈ mtbl := mtb 514 (by decide +kernel) rfl
set_option maxRecDepth 20000 in
theorem ac_X0_42 : Cond.methodLink "DodgemDebate$Cars" 42 arraycopyName ∈ mtbl := mtb 628 (by decide +kernel) rfl
set_option maxRecDepth 20000 in
theorem ac_X10_245 : Cond.methodLink "DodgemDebate" 245 arraycopyName ∈ mtbl := mtb 831 (by decide +kernel) rfl
set_option maxRecDepth 20000 in
theorem ac_nat : Cond.native arraycopyName ∈ mtbl := mtb 516 (by decide +kernel) rfl
set_option maxRecDepth 20000 in
theorem ac_sta : Cond.static arraycopyName ∈ mtbl := mtb 515 (by decide +kernel) rfl
set_option maxRecDepth 20000 in
theorem ac_ini : Cond.initialized "java/lang/System" ∈ mtbl := mtb 20 (by decide +kernel) rfl
set_option maxRecDepth 20000 in
theorem fs_coder : Cond.fieldLink "java/lang/String" 15 "java/lang/String" "coder" "B" ∈ mtbl := mtb 1447 (by decide +kernel) rfl
set_option maxRecDepth 20000 in
theorem fs_value : Cond.fieldLink "java/lang/String" 9 "java/lang/String" "value" "[B" ∈ mtbl := mtb 1448 (by decide +kernel) rfl
set_option maxRecDepth 20000 in
theorem fs_COMPACT_STRINGS : Cond.fieldLink "java/lang/String" 38 "java/lang/String" "COMPACT_STRINGS" "Z" ∈ mtbl := mtb 378 (by decide +kernel) rfl
set_option maxRecDepth 20000 in
theorem fs_DIGEST_MOMENTS : Cond.fieldLink "DodgemDebate" 287 "DodgemDebate" "DIGEST_MOMENTS" "[I" ∈ mtbl := mtb 861 (by decide +kernel) rfl
end
section
/-! ===== forms of contracts; numbers; loops ===== -/
/-- the answer r, the store σ0 -/
def qI (r : Int32) (σ0 : mS) : Option Value → mS → Prop := fun v σ => v = some (.int r) ∧ σ = σ0
def qL (r : Int64) (σ0 : mS) : Option Value → mS → Prop := fun v σ => v = some (.long r) ∧ σ = σ0
def qR (r : Nat) (σ0 : mS) : Option Value → mS → Prop := fun v σ => v = some (.ref r) ∧ σ = σ0
def qV (σ0 : mS) : Option Value → mS → Prop := fun v σ => v = none ∧ σ = σ0
/-- no answer, a store of which P holds; an int and a store -/
def qVP (P : mS → Prop) : Option Value → mS → Prop := fun v σ => v = none ∧ P σ
def qIP (P : Int32 → mS → Prop) : Option Value → mS → Prop := fun v σ => ∃ r, v = some (.int r) ∧ P r σ
def qLP (P : Int64 → mS → Prop) : Option Value → mS → Prop := fun v σ => ∃ r, v = some (.long r) ∧ P r σ
/-- a truth as an int -/
def bI (b : Bool) : Int32 := if b then 1 else 0
theorem bI_t : bI true = 1 := rfl
theorem bI_f : bI false = 0 := rfl
theorem bI_nar (b : Bool) : narrow .boolean (.int (bI b)) = .int (bI b) := by cases b <;> rfl
theorem bI_ne {b : Bool} : bI b ≠ 0 ↔ b = true := by cases b <;> decide
theorem bI_eq {b : Bool} : bI b = 0 ↔ b = false := by cases b <;> decide
section MB
variable {G : mG} {l : Launch} {d : Nat} {μ : mM} {pc : Nat} {ls : List (Nat × Value)} {st : List Value} {σ : mS} {Q : Option Value → mS → Prop}
/-- a choice of two values, and on at the place where both roads meet -/
theorem m_sel {P : Prop} [Decidable P] {a b : Int32} {pcJ : Nat} {X : Prop} (k : mW G l d μ pcJ ls (.int (if P then a else b) :: st) σ Q) (f : (P → mW G l d μ pcJ ls (.int a :: st) σ Q) → (¬ P → mW G l d μ pcJ ls (.int b :: st) σ Q) → X) : X :=
  f (fun h => by rw [if_pos h] at k; exact k) (fun h => by rw [if_neg h] at k; exact k)
theorem mW.cut (P : mS → Prop) (hP : P σ) (k : ∀ s, P s → mW G l d μ pc ls st s Q) : mW G l d μ pc ls st σ Q := k σ hP
theorem mW.sto {σ1 : mS} (h : σ = σ1) (k : mW G l d μ pc ls st σ1 Q) : mW G l d μ pc ls st σ Q := h ▸ k
/-- another first value on the stack that is the same -/
theorem mW.top {v w : Int32} (h : v = w) (k : mW G l d μ pc ls (.int w :: st) σ Q) : mW G l d μ pc ls (.int v :: st) σ Q := h ▸ k
theorem m_qI {v : Option Value} {σ1 : mS} {r : Int32} {σ0 : mS} (h : qI r σ0 v σ1) (k : mW G l d μ pc ls (.int r :: st) σ0 Q) : mW G l d μ pc ls (v.toList ++ st) σ1 Q := by
  obtain ⟨rfl, rfl⟩ := h
  exact k
theorem m_qL {v : Option Value} {σ1 : mS} {r : Int64} {σ0 : mS} (h : qL r σ0 v σ1) (k : mW G l d μ pc ls (.long r :: st) σ0 Q) : mW G l d μ pc ls (v.toList ++ st) σ1 Q := by
  obtain ⟨rfl, rfl⟩ := h
  exact k
theorem m_qR {v : Option Value} {σ1 : mS} {r : Nat} {σ0 : mS} (h : qR r σ0 v σ1) (k : mW G l d μ pc ls (.ref r :: st) σ0 Q) : mW G l d μ pc ls (v.toList ++ st) σ1 Q := by
  obtain ⟨rfl, rfl⟩ := h
  exact k
theorem m_qV {v : Option Value} {σ1 : mS} {σ0 : mS} (h : qV σ0 v σ1) (k : mW G l d μ pc ls st σ0 Q) : mW G l d μ pc ls (v.toList ++ st) σ1 Q := by
  obtain ⟨rfl, rfl⟩ := h
  exact k
theorem m_qVP {v : Option Value} {σ1 : mS} {P : mS → Prop} (h : qVP P v σ1) (k : P σ1 → mW G l d μ pc ls st σ1 Q) : mW G l d μ pc ls (v.toList ++ st) σ1 Q := by
  obtain ⟨rfl, h⟩ := h
  exact k h
theorem m_qIP {v : Option Value} {σ1 : mS} {P : Int32 → mS → Prop} (h : qIP P v σ1) (k : ∀ r, P r σ1 → mW G l d μ pc ls (.int r :: st) σ1 Q) : mW G l d μ pc ls (v.toList ++ st) σ1 Q := by
  obtain ⟨r, rfl, h⟩ := h
  exact k r h
theorem m_qLP {v : Option Value} {σ1 : mS} {P : Int64 → mS → Prop} (h : qLP P v σ1) (k : ∀ r, P r σ1 → mW G l d μ pc ls (.long r :: st) σ1 Q) : mW G l d μ pc ls (v.toList ++ st) σ1 Q := by
  obtain ⟨r, rfl, h⟩ := h
  exact k r h
/-- a weaker end -/
theorem mMet.conseq {As : List Value} {Q1 : Option Value → mS → Prop} (h : mMet G l d μ As σ Q1) (hq : ∀ v s, Q1 v s → Q v s) : mMet G l d μ As σ Q := by
  intro p e h1 h2 h3 s m args below h4 h5 h6 h7
  obtain ⟨n, o, g1, g2, g3, ⟨⟨v, σ1, q1, q2⟩, g4⟩, g5⟩ := h p e h1 h2 h3 s m args below h4 h5 h6 h7
  exact ⟨n, o, g1, g2, g3, ⟨⟨v, σ1, hq v σ1 q1, q2⟩, g4⟩, g5⟩
end MB
theorem nle {a b : Nat} (ha : a < 1000000) (hb : b < 1000000) : nI a ≤ nI b ↔ a ≤ b := nI_leI (by omega) (by omega)
theorem nlt {a b : Nat} (ha : a < 1000000) (hb : b < 1000000) : nI a < nI b ↔ a < b := nI_ltI (by omega) (by omega)
theorem neq {a b : Nat} (ha : a < 1000000) (hb : b < 1000000) : nI a = nI b ↔ a = b := nI_eq (by omega) (by omega)
theorem nI_ofI {x : Int32} {n : Nat} (h0 : 0 ≤ x) (hn : n < 1000000) (h : x < nI n) : ∃ j, j < n ∧ x = nI j := by
  rcases pk_ix x (n := n) (by omega) with h1 | h1 | h1
  · exact absurd h1 (Int32.not_lt.mpr h0)
  · exact absurd h (Int32.not_lt.mpr h1)
  · exact h1
/-- a loop that counts up to N -/
theorem down {S : Type} {N : Nat} (I : Nat → S → Prop) (g : Nat → S → Prop) (hx : ∀ s, I N s → g N s) (hs : ∀ k s, k < N → I k s → (∀ s', I (k + 1) s' → g (k + 1) s') → g k s) : ∀ k s, k ≤ N → I k s → g k s := by
  have h : ∀ j k s, N - k = j → k ≤ N → I k s → g k s := by
    intro j
    induction j with
    | zero =>
      intro k s e hk hI
      have : k = N := by omega
      subst this
      exact hx s hI
    | succ j ih =>
      intro k s e hk hI
      exact hs k s (by omega) hI (fun s' h' => ih (k + 1) s' (by omega) (by omega) h')
  exact fun k s => h (N - k) k s rfl
theorem qI_of {r r1 : Int32} {σ : mS} (h : r1 = r) : qI r σ (some (.int r1)) σ := ⟨by rw [h], rfl⟩
theorem bI_pos {P : Prop} [Decidable P] (h : P) : (1 : Int32) = bI (decide P) := by rw [decide_eq_true h]; rfl
theorem bI_neg {P : Prop} [Decidable P] (h : ¬ P) : (0 : Int32) = bI (decide P) := by rw [decide_eq_false h]; rfl
theorem ge_no {x y : Int32} {a b : Nat} (hx : x = nI a) (h : x ≤ y) (hy : y = nI b) (hb : b < a) (ha : a < 1000000) : False := by
  subst hx hy
  have := (nle (by omega) (by omega)).mp h
  omega
theorem ge_yes {x y : Int32} (h : ¬ x ≤ y) (hx : x = y) : False := h (by rw [hx]; exact Int32.le_refl _)
theorem bI0 {P : Prop} [Decidable P] (h : bI (decide P) = 0) : ¬ P := of_decide_eq_false (bI_eq.mp h)
theorem bI1 {P : Prop} [Decidable P] (h : ¬ bI (decide P) = 0) : P := of_decide_eq_true (bI_ne.mp h)
theorem nadd {a b c : Nat} (h : a + b = c) : nI a + nI b = nI c := by rw [nI_add, h]
theorem naddL {a c : Nat} {v : Int32} (b : Nat) (hv : v = nI b) (h : a + b = c) : nI a + v = nI c := by rw [hv, nI_add, h]
end
section
section LF
variable {G : mG} {l : Launch} {d : Nat} {σ : mS}
theorem dX10_within_0 : decode cX10_within 0 = .ok (.iload_n 0, 1) := by decide +kernel
theorem dX10_within_1 : decode cX10_within 1 = .ok (.ifCond .lt 12, 3) := by decide +kernel
theorem dX10_within_4 : decode cX10_within 4 = .ok (.iload_n 0, 1) := by decide +kernel
theorem dX10_within_5 : decode cX10_within 5 = .ok (.iload_n 1, 1) := by decide +kernel
theorem dX10_within_6 : decode cX10_within 6 = .ok (.if_icmp .ge 7, 3) := by decide +kernel
theorem dX10_within_9 : decode cX10_within 9 = .ok (.iconst 1, 1) := by decide +kernel
theorem dX10_within_10 : decode cX10_within 10 = .ok (.goto 4, 3) := by decide +kernel
theorem dX10_within_13 : decode cX10_within 13 = .ok (.iconst 0, 1) := by decide +kernel
theorem dX10_within_14 : decode cX10_within 14 = .ok (.ireturn, 1) := by decide +kernel
theorem dX10_onFloor_0 : decode cX10_onFloor 0 = .ok (.iload_n 0, 1) := by decide +kernel
theorem dX10_onFloor_1 : decode cX10_onFloor 1 = .ok (.ifCond .lt 23, 3) := by decide +kernel
theorem dX10_onFloor_4 : decode cX10_onFloor 4 = .ok (.iload_n 0, 1) := by decide +kernel
theorem dX10_onFloor_5 : decode cX10_onFloor 5 = .ok (.bipush 6, 2) := by decide +kernel
theorem dX10_onFloor_7 : decode cX10_onFloor 7 = .ok (.if_icmp .ge 17, 3) := by decide +kernel
theorem dX10_onFloor_10 : decode cX10_onFloor 10 = .ok (.iload_n 1, 1) := by decide +kernel
theorem dX10_onFloor_11 : decode cX10_onFloor 11 = .ok (.ifCond .lt 13, 3) := by decide +kernel
theorem dX10_onFloor_14 : decode cX10_onFloor 14 = .ok (.iload_n 1, 1) := by decide +kernel
theorem dX10_onFloor_15 : decode cX10_onFloor 15 = .ok (.bipush 6, 2) := by decide +kernel
theorem dX10_onFloor_17 : decode cX10_onFloor 17 = .ok (.if_icmp .ge 7, 3) := by decide +kernel
theorem dX10_onFloor_20 : decode cX10_onFloor 20 = .ok (.iconst 1, 1) := by decide +kernel
theorem dX10_onFloor_21 : decode cX10_onFloor 21 = .ok (.goto 4, 3) := by decide +kernel
theorem dX10_onFloor_24 : decode cX10_onFloor 24 = .ok (.iconst 0, 1) := by decide +kernel
theorem dX10_onFloor_25 : decode cX10_onFloor 25 = .ok (.ireturn, 1) := by decide +kernel
theorem dX3_behind_0 : decode cX3_behind 0 = .ok (.aload_n 0, 1) := by decide +kernel
theorem dX3_behind_1 : decode cX3_behind 1 = .ok (.getfield 16, 3) := by decide +kernel
theorem dX3_behind_4 : decode cX3_behind 4 = .ok (.iload_n 3, 1) := by decide +kernel
theorem dX3_behind_5 : decode cX3_behind 5 = .ok (.aaload, 1) := by decide +kernel
theorem dX3_behind_6 : decode cX3_behind 6 = .ok (.iload_n 1, 1) := by decide +kernel
theorem dX3_behind_7 : decode cX3_behind 7 = .ok (.bipush 8, 2) := by decide +kernel
theorem dX3_behind_9 : decode cX3_behind 9 = .ok (.imul, 1) := by decide +kernel
theorem dX3_behind_10 : decode cX3_behind 10 = .ok (.iload_n 2, 1) := by decide +kernel
theorem dX3_behind_11 : decode cX3_behind 11 = .ok (.iadd, 1) := by decide +kernel
theorem dX3_behind_12 : decode cX3_behind 12 = .ok (.iaload, 1) := by decide +kernel
theorem dX3_behind_13 : decode cX3_behind 13 = .ok (.ireturn, 1) := by decide +kernel
theorem dX11_in_0 : decode cX11_in 0 = .ok (.iload_n 0, 1) := by decide +kernel
theorem dX11_in_1 : decode cX11_in 1 = .ok (.iload_n 1, 1) := by decide +kernel
theorem dX11_in_2 : decode cX11_in 2 = .ok (.if_icmp .lt 12, 3) := by decide +kernel
theorem dX11_in_5 : decode cX11_in 5 = .ok (.iload_n 0, 1) := by decide +kernel
theorem dX11_in_6 : decode cX11_in 6 = .ok (.iload_n 2, 1) := by decide +kernel
theorem dX11_in_7 : decode cX11_in 7 = .ok (.if_icmp .gt 7, 3) := by decide +kernel
theorem dX11_in_10 : decode cX11_in 10 = .ok (.iconst 1, 1) := by decide +kernel
theorem dX11_in_11 : decode cX11_in 11 = .ok (.goto 4, 3) := by decide +kernel
theorem dX11_in_14 : decode cX11_in 14 = .ok (.iconst 0, 1) := by decide +kernel
theorem dX11_in_15 : decode cX11_in 15 = .ok (.ireturn, 1) := by decide +kernel
theorem dX11_isIn_0 : decode cX11_isIn 0 = .ok (.iload_n 0, 1) := by decide +kernel
theorem dX11_isIn_1 : decode cX11_isIn 1 = .ok (.iload_n 1, 1) := by decide +kernel
theorem dX11_isIn_2 : decode cX11_isIn 2 = .ok (.ishr, 1) := by decide +kernel
theorem dX11_isIn_3 : decode cX11_isIn 3 = .ok (.iconst 1, 1) := by decide +kernel
theorem dX11_isIn_4 : decode cX11_isIn 4 = .ok (.iand, 1) := by decide +kernel
theorem dX11_isIn_5 : decode cX11_isIn 5 = .ok (.iconst 1, 1) := by decide +kernel
theorem dX11_isIn_6 : decode cX11_isIn 6 = .ok (.if_icmp .ne 7, 3) := by decide +kernel
theorem dX11_isIn_9 : decode cX11_isIn 9 = .ok (.iconst 1, 1) := by decide +kernel
theorem dX11_isIn_10 : decode cX11_isIn 10 = .ok (.goto 4, 3) := by decide +kernel
theorem dX11_isIn_13 : decode cX11_isIn 13 = .ok (.iconst 0, 1) := by decide +kernel
theorem dX11_isIn_14 : decode cX11_isIn 14 = .ok (.ireturn, 1) := by decide +kernel
theorem dX11_isText_0 : decode cX11_isText 0 = .ok (.iload_n 0, 1) := by decide +kernel
theorem dX11_isText_1 : decode cX11_isText 1 = .ok (.iconst 0, 1) := by decide +kernel
theorem dX11_isText_2 : decode cX11_isText 2 = .ok (.iconst 1, 1) := by decide +kernel
theorem dX11_isText_3 : decode cX11_isText 3 = .ok (.invokestatic 136, 3) := by decide +kernel
theorem dX11_isText_6 : decode cX11_isText 6 = .ok (.ireturn, 1) := by decide +kernel
theorem dX11_isMoment_0 : decode cX11_isMoment 0 = .ok (.iload_n 0, 1) := by decide +kernel
theorem dX11_isMoment_1 : decode cX11_isMoment 1 = .ok (.iconst 0, 1) := by decide +kernel
theorem dX11_isMoment_2 : decode cX11_isMoment 2 = .ok (.bipush 23, 2) := by decide +kernel
theorem dX11_isMoment_4 : decode cX11_isMoment 4 = .ok (.invokestatic 136, 3) := by decide +kernel
theorem dX11_isMoment_7 : decode cX11_isMoment 7 = .ok (.ireturn, 1) := by decide +kernel
theorem dX11_isTwo_0 : decode cX11_isTwo 0 = .ok (.iload_n 0, 1) := by decide +kernel
theorem dX11_isTwo_1 : decode cX11_isTwo 1 = .ok (.iconst 0, 1) := by decide +kernel
theorem dX11_isTwo_2 : decode cX11_isTwo 2 = .ok (.iconst 1, 1) := by decide +kernel
theorem dX11_isTwo_3 : decode cX11_isTwo 3 = .ok (.invokestatic 136, 3) := by decide +kernel
theorem dX11_isTwo_6 : decode cX11_isTwo 6 = .ok (.ireturn, 1) := by decide +kernel
theorem dX11_isThree_0 : decode cX11_isThree 0 = .ok (.iload_n 0, 1) := by decide +kernel
theorem dX11_isThree_1 : decode cX11_isThree 1 = .ok (.iconst 0, 1) := by decide +kernel
theorem dX11_isThree_2 : decode cX11_isThree 2 = .ok (.iconst 2, 1) := by decide +kernel
theorem dX11_isThree_3 : decode cX11_isThree 3 = .ok (.invokestatic 136, 3) := by decide +kernel
theorem dX11_isThree_6 : decode cX11_isThree 6 = .ok (.ireturn, 1) := by decide +kernel
theorem dX11_isEight_0 : decode cX11_isEight 0 = .ok (.iload_n 0, 1) := by decide +kernel
theorem dX11_isEight_1 : decode cX11_isEight 1 = .ok (.iconst 0, 1) := by decide +kernel
theorem dX11_isEight_2 : decode cX11_isEight 2 = .ok (.bipush 7, 2) := by decide +kernel
theorem dX11_isEight_4 : decode cX11_isEight 4 = .ok (.invokestatic 136, 3) := by decide +kernel
theorem dX11_isEight_7 : decode cX11_isEight 7 = .ok (.ireturn, 1) := by decide +kernel
theorem dX11_isSix_0 : decode cX11_isSix 0 = .ok (.iload_n 0, 1) := by decide +kernel
theorem dX11_isSix_1 : decode cX11_isSix 1 = .ok (.iconst 0, 1) := by decide +kernel
theorem dX11_isSix_2 : decode cX11_isSix 2 = .ok (.iconst 5, 1) := by decide +kernel
theorem dX11_isSix_3 : decode cX11_isSix 3 = .ok (.invokestatic 136, 3) := by decide +kernel
theorem dX11_isSix_6 : decode cX11_isSix 6 = .ok (.ireturn, 1) := by decide +kernel
theorem dX11_isSheet_0 : decode cX11_isSheet 0 = .ok (.iload_n 0, 1) := by decide +kernel
theorem dX11_isSheet_1 : decode cX11_isSheet 1 = .ok (.iconst 0, 1) := by decide +kernel
theorem dX11_isSheet_2 : decode cX11_isSheet 2 = .ok (.iconst 3, 1) := by decide +kernel
theorem dX11_isSheet_3 : decode cX11_isSheet 3 = .ok (.invokestatic 136, 3) := by decide +kernel
theorem dX11_isSheet_6 : decode cX11_isSheet 6 = .ok (.ireturn, 1) := by decide +kernel
theorem dX11_no_0 : decode cX11_no 0 = .ok (.ldc2_w 134, 3) := by decide +kernel
theorem dX11_no_3 : decode cX11_no 3 = .ok (.iload_n 0, 1) := by decide +kernel
theorem dX11_no_4 : decode cX11_no 4 = .ok (.i2l, 1) := by decide +kernel
theorem dX11_no_5 : decode cX11_no 5 = .ok (.lsub, 1) := by decide +kernel
theorem dX11_no_6 : decode cX11_no 6 = .ok (.lreturn, 1) := by decide +kernel
theorem dX11_wayOf_0 : decode cX11_wayOf 0 = .ok (.iload_n 0, 1) := by decide +kernel
theorem dX11_wayOf_1 : decode cX11_wayOf 1 = .ok (.bipush 101, 2) := by decide +kernel
theorem dX11_wayOf_3 : decode cX11_wayOf 3 = .ok (.if_icmp .ne 7, 3) := by decide +kernel
theorem dX11_wayOf_6 : decode cX11_wayOf 6 = .ok (.iconst 0, 1) := by decide +kernel
theorem dX11_wayOf_7 : decode cX11_wayOf 7 = .ok (.goto 34, 3) := by decide +kernel
theorem dX11_wayOf_10 : decode cX11_wayOf 10 = .ok (.iload_n 0, 1) := by decide +kernel
theorem dX11_wayOf_11 : decode cX11_wayOf 11 = .ok (.bipush 110, 2) := by decide +kernel
theorem dX11_wayOf_13 : decode cX11_wayOf 13 = .ok (.if_icmp .ne 7, 3) := by decide +kernel
theorem dX11_wayOf_16 : decode cX11_wayOf 16 = .ok (.iconst 1, 1) := by decide +kernel
theorem dX11_wayOf_17 : decode cX11_wayOf 17 = .ok (.goto 24, 3) := by decide +kernel
theorem dX11_wayOf_20 : decode cX11_wayOf 20 = .ok (.iload_n 0, 1) := by decide +kernel
theorem dX11_wayOf_21 : decode cX11_wayOf 21 = .ok (.bipush 119, 2) := by decide +kernel
theorem dX11_wayOf_23 : decode cX11_wayOf 23 = .ok (.if_icmp .ne 7, 3) := by decide +kernel
theorem dX11_wayOf_26 : decode cX11_wayOf 26 = .ok (.iconst 2, 1) := by decide +kernel
theorem dX11_wayOf_27 : decode cX11_wayOf 27 = .ok (.goto 14, 3) := by decide +kernel
theorem dX11_wayOf_30 : decode cX11_wayOf 30 = .ok (.iload_n 0, 1) := by decide +kernel
theorem dX11_wayOf_31 : decode cX11_wayOf 31 = .ok (.bipush 115, 2) := by decide +kernel
theorem dX11_wayOf_33 : decode cX11_wayOf 33 = .ok (.if_icmp .ne 7, 3) := by decide +kernel
theorem dX11_wayOf_36 : decode cX11_wayOf 36 = .ok (.iconst 3, 1) := by decide +kernel
theorem dX11_wayOf_37 : decode cX11_wayOf 37 = .ok (.goto 4, 3) := by decide +kernel
theorem dX11_wayOf_40 : decode cX11_wayOf 40 = .ok (.iconst (-1), 1) := by decide +kernel
theorem dX11_wayOf_41 : decode cX11_wayOf 41 = .ok (.ireturn, 1) := by decide +kernel
theorem dX11_sortOf_0 : decode cX11_sortOf 0 = .ok (.iload_n 0, 1) := by decide +kernel
theorem dX11_sortOf_1 : decode cX11_sortOf 1 = .ok (.bipush 98, 2) := by decide +kernel
theorem dX11_sortOf_3 : decode cX11_sortOf 3 = .ok (.if_icmp .ne 7, 3) := by decide +kernel
theorem dX11_sortOf_6 : decode cX11_sortOf 6 = .ok (.iconst 0, 1) := by decide +kernel
theorem dX11_sortOf_7 : decode cX11_sortOf 7 = .ok (.goto 24, 3) := by decide +kernel
theorem dX11_sortOf_10 : decode cX11_sortOf 10 = .ok (.iload_n 0, 1) := by decide +kernel
theorem dX11_sortOf_11 : decode cX11_sortOf 11 = .ok (.bipush 109, 2) := by decide +kernel
theorem dX11_sortOf_13 : decode cX11_sortOf 13 = .ok (.if_icmp .ne 7, 3) := by decide +kernel
theorem dX11_sortOf_16 : decode cX11_sortOf 16 = .ok (.iconst 1, 1) := by decide +kernel
theorem dX11_sortOf_17 : decode cX11_sortOf 17 = .ok (.goto 14, 3) := by decide +kernel
theorem dX11_sortOf_20 : decode cX11_sortOf 20 = .ok (.iload_n 0, 1) := by decide +kernel
theorem dX11_sortOf_21 : decode cX11_sortOf 21 = .ok (.bipush 104, 2) := by decide +kernel
theorem dX11_sortOf_23 : decode cX11_sortOf 23 = .ok (.if_icmp .ne 7, 3) := by decide +kernel
theorem dX11_sortOf_26 : decode cX11_sortOf 26 = .ok (.iconst 2, 1) := by decide +kernel
theorem dX11_sortOf_27 : decode cX11_sortOf 27 = .ok (.goto 4, 3) := by decide +kernel
theorem dX11_sortOf_30 : decode cX11_sortOf 30 = .ok (.iconst (-1), 1) := by decide +kernel
theorem dX11_sortOf_31 : decode cX11_sortOf 31 = .ok (.ireturn, 1) := by decide +kernel
theorem dX11_stepX_0 : decode cX11_stepX 0 = .ok (.iload_n 0, 1) := by decide +kernel
theorem dX11_stepX_1 : decode cX11_stepX 1 = .ok (.ifCond .ne 7, 3) := by decide +kernel
theorem dX11_stepX_4 : decode cX11_stepX 4 = .ok (.iconst 1, 1) := by decide +kernel
theorem dX11_stepX_5 : decode cX11_stepX 5 = .ok (.goto 13, 3) := by decide +kernel
theorem dX11_stepX_8 : decode cX11_stepX 8 = .ok (.iload_n 0, 1) := by decide +kernel
theorem dX11_stepX_9 : decode cX11_stepX 9 = .ok (.iconst 2, 1) := by decide +kernel
theorem dX11_stepX_10 : decode cX11_stepX 10 = .ok (.if_icmp .ne 7, 3) := by decide +kernel
theorem dX11_stepX_13 : decode cX11_stepX 13 = .ok (.iconst (-1), 1) := by decide +kernel
theorem dX11_stepX_14 : decode cX11_stepX 14 = .ok (.goto 4, 3) := by decide +kernel
theorem dX11_stepX_17 : decode cX11_stepX 17 = .ok (.iconst 0, 1) := by decide +kernel
theorem dX11_stepX_18 : decode cX11_stepX 18 = .ok (.ireturn, 1) := by decide +kernel
theorem dX11_stepY_0 : decode cX11_stepY 0 = .ok (.iload_n 0, 1) := by decide +kernel
theorem dX11_stepY_1 : decode cX11_stepY 1 = .ok (.iconst 1, 1) := by decide +kernel
theorem dX11_stepY_2 : decode cX11_stepY 2 = .ok (.if_icmp .ne 7, 3) := by decide +kernel
theorem dX11_stepY_5 : decode cX11_stepY 5 = .ok (.iconst 1, 1) := by decide +kernel
theorem dX11_stepY_6 : decode cX11_stepY 6 = .ok (.goto 13, 3) := by decide +kernel
theorem dX11_stepY_9 : decode cX11_stepY 9 = .ok (.iload_n 0, 1) := by decide +kernel
theorem dX11_stepY_10 : decode cX11_stepY 10 = .ok (.iconst 3, 1) := by decide +kernel
theorem dX11_stepY_11 : decode cX11_stepY 11 = .ok (.if_icmp .ne 7, 3) := by decide +kernel
theorem dX11_stepY_14 : decode cX11_stepY 14 = .ok (.iconst (-1), 1) := by decide +kernel
theorem dX11_stepY_15 : decode cX11_stepY 15 = .ok (.goto 4, 3) := by decide +kernel
theorem dX11_stepY_18 : decode cX11_stepY 18 = .ok (.iconst 0, 1) := by decide +kernel
theorem dX11_stepY_19 : decode cX11_stepY 19 = .ok (.ireturn, 1) := by decide +kernel
theorem dX1_fits_0 : decode cX1_fits 0 = .ok (.iload_n 0, 1) := by decide +kernel
theorem dX1_fits_1 : decode cX1_fits 1 = .ok (.iconst 2, 1) := by decide +kernel
theorem dX1_fits_2 : decode cX1_fits 2 = .ok (.invokestatic 21, 3) := by decide +kernel
theorem dX1_fits_5 : decode cX1_fits 5 = .ok (.ifCond .eq 25, 3) := by decide +kernel
theorem dX1_fits_8 : decode cX1_fits 8 = .ok (.iload_n 1, 1) := by decide +kernel
theorem dX1_fits_9 : decode cX1_fits 9 = .ok (.bipush 24, 2) := by decide +kernel
theorem dX1_fits_11 : decode cX1_fits 11 = .ok (.invokestatic 21, 3) := by decide +kernel
theorem dX1_fits_14 : decode cX1_fits 14 = .ok (.ifCond .eq 16, 3) := by decide +kernel
theorem dX1_fits_17 : decode cX1_fits 17 = .ok (.iload_n 2, 1) := by decide +kernel
theorem dX1_fits_18 : decode cX1_fits 18 = .ok (.bipush 8, 2) := by decide +kernel
theorem dX1_fits_20 : decode cX1_fits 20 = .ok (.invokestatic 21, 3) := by decide +kernel
theorem dX1_fits_23 : decode cX1_fits 23 = .ok (.ifCond .eq 7, 3) := by decide +kernel
theorem dX1_fits_26 : decode cX1_fits 26 = .ok (.iconst 1, 1) := by decide +kernel
theorem dX1_fits_27 : decode cX1_fits 27 = .ok (.goto 4, 3) := by decide +kernel
theorem dX1_fits_30 : decode cX1_fits 30 = .ok (.iconst 0, 1) := by decide +kernel
theorem dX1_fits_31 : decode cX1_fits 31 = .ok (.ireturn, 1) := by decide +kernel
/-- within(value, limit) -/
theorem c_within (v n : Int32) : mMet G l d kX10_within [.int v, .int n] σ (qI (bI (decide (0 ≤ v ∧ v < n))) σ) := by
  refine mMet.of cm_X10_within rfl (Nat.le_of_ble_eq_true rfl) rfl (fun v1 σ1 h => by rw [h.1]; exact bI_nar _) ?_
  refine m_iload_n dX10_within_0 0 rfl ?_
  refine m_if_lt dX10_within_1 13 (by decide) (fun h1 => ?_) (fun h1 => ?_)
  · refine m_iconst (v := 0) dX10_within_13 (by decide) ?_
    refine m_ireturn dX10_within_14 ?_
    first | exact qI_of (bI_pos (by simp only [Int32.le_iff_toInt_le, Int32.lt_iff_toInt_lt] at *; omega)) | exact qI_of (bI_neg (by simp only [Int32.le_iff_toInt_le, Int32.lt_iff_toInt_lt] at *; omega))
  · refine m_iload_n dX10_within_4 0 rfl ?_
    refine m_iload_n dX10_within_5 1 rfl ?_
    refine m_icmp_ge dX10_within_6 13 (by decide) (fun h6 => ?_) (fun h6 => ?_)
    · refine m_iconst (v := 0) dX10_within_13 (by decide) ?_
      refine m_ireturn dX10_within_14 ?_
      first | exact qI_of (bI_pos (by simp only [Int32.le_iff_toInt_le, Int32.lt_iff_toInt_lt] at *; omega)) | exact qI_of (bI_neg (by simp only [Int32.le_iff_toInt_le, Int32.lt_iff_toInt_lt] at *; omega))
    · refine m_iconst (v := 1) dX10_within_9 (by decide) ?_
      refine m_goto dX10_within_10 14 (by decide) ?_
      refine m_ireturn dX10_within_14 ?_
      first | exact qI_of (bI_pos (by simp only [Int32.le_iff_toInt_le, Int32.lt_iff_toInt_lt] at *; omega)) | exact qI_of (bI_neg (by simp only [Int32.le_iff_toInt_le, Int32.lt_iff_toInt_lt] at *; omega))
theorem c_in (v lo hi : Int32) : mMet G l d kX11_in [.int v, .int lo, .int hi] σ (qI (bI (decide (lo ≤ v ∧ v ≤ hi))) σ) := by
  refine mMet.of cm_X11_in rfl (Nat.le_of_ble_eq_true rfl) rfl (fun v1 σ1 h => by rw [h.1]; exact bI_nar _) ?_
  refine m_iload_n dX11_in_0 0 rfl ?_
  refine m_iload_n dX11_in_1 1 rfl ?_
  refine m_icmp_lt dX11_in_2 14 (by decide) (fun h2 => ?_) (fun h2 => ?_)
  · refine m_iconst (v := 0) dX11_in_14 (by decide) ?_
    refine m_ireturn dX11_in_15 ?_
    first | exact qI_of (bI_pos (by simp only [Int32.le_iff_toInt_le, Int32.lt_iff_toInt_lt] at *; omega)) | exact qI_of (bI_neg (by simp only [Int32.le_iff_toInt_le, Int32.lt_iff_toInt_lt] at *; omega))
  · refine m_iload_n dX11_in_5 0 rfl ?_
    refine m_iload_n dX11_in_6 2 rfl ?_
    refine m_icmp_gt dX11_in_7 14 (by decide) (fun h7 => ?_) (fun h7 => ?_)
    · refine m_iconst (v := 0) dX11_in_14 (by decide) ?_
      refine m_ireturn dX11_in_15 ?_
      first | exact qI_of (bI_pos (by simp only [Int32.le_iff_toInt_le, Int32.lt_iff_toInt_lt] at *; omega)) | exact qI_of (bI_neg (by simp only [Int32.le_iff_toInt_le, Int32.lt_iff_toInt_lt] at *; omega))
    · refine m_iconst (v := 1) dX11_in_10 (by decide) ?_
      refine m_goto dX11_in_11 15 (by decide) ?_
      refine m_ireturn dX11_in_15 ?_
      first | exact qI_of (bI_pos (by simp only [Int32.le_iff_toInt_le, Int32.lt_iff_toInt_lt] at *; omega)) | exact qI_of (bI_neg (by simp only [Int32.le_iff_toInt_le, Int32.lt_iff_toInt_lt] at *; omega))
theorem c_onFloor (x y : Int32) : mMet G l d kX10_onFloor [.int x, .int y] σ (qI (bI (decide (0 ≤ x ∧ x < 6 ∧ 0 ≤ y ∧ y < 6))) σ) := by
  refine mMet.of cm_X10_onFloor rfl (Nat.le_of_ble_eq_true rfl) rfl (fun v1 σ1 h => by rw [h.1]; exact bI_nar _) ?_
  refine m_iload_n dX10_onFloor_0 0 rfl ?_
  refine m_if_lt dX10_onFloor_1 24 (by decide) (fun h1 => ?_) (fun h1 => ?_)
  · refine m_iconst (v := 0) dX10_onFloor_24 (by decide) ?_
    refine m_ireturn dX10_onFloor_25 ?_
    first | exact qI_of (bI_pos (by simp only [Int32.le_iff_toInt_le, Int32.lt_iff_toInt_lt] at *; omega)) | exact qI_of (bI_neg (by simp only [Int32.le_iff_toInt_le, Int32.lt_iff_toInt_lt] at *; omega))
  · refine m_iload_n dX10_onFloor_4 0 rfl ?_
    refine m_bipush (v := 6) dX10_onFloor_5 (by decide) ?_
    refine m_icmp_ge dX10_onFloor_7 24 (by decide) (fun h7 => ?_) (fun h7 => ?_)
    · refine m_iconst (v := 0) dX10_onFloor_24 (by decide) ?_
      refine m_ireturn dX10_onFloor_25 ?_
      first | exact qI_of (bI_pos (by simp only [Int32.le_iff_toInt_le, Int32.lt_iff_toInt_lt] at *; omega)) | exact qI_of (bI_neg (by simp only [Int32.le_iff_toInt_le, Int32.lt_iff_toInt_lt] at *; omega))
    · refine m_iload_n dX10_onFloor_10 1 rfl ?_
      refine m_if_lt dX10_onFloor_11 24 (by decide) (fun h11 => ?_) (fun h11 => ?_)
      · refine m_iconst (v := 0) dX10_onFloor_24 (by decide) ?_
        refine m_ireturn dX10_onFloor_25 ?_
        first | exact qI_of (bI_pos (by simp only [Int32.le_iff_toInt_le, Int32.lt_iff_toInt_lt] at *; omega)) | exact qI_of (bI_neg (by simp only [Int32.le_iff_toInt_le, Int32.lt_iff_toInt_lt] at *; omega))
      · refine m_iload_n dX10_onFloor_14 1 rfl ?_
        refine m_bipush (v := 6) dX10_onFloor_15 (by decide) ?_
        refine m_icmp_ge dX10_onFloor_17 24 (by decide) (fun h17 => ?_) (fun h17 => ?_)
        · refine m_iconst (v := 0) dX10_onFloor_24 (by decide) ?_
          refine m_ireturn dX10_onFloor_25 ?_
          first | exact qI_of (bI_pos (by simp only [Int32.le_iff_toInt_le, Int32.lt_iff_toInt_lt] at *; omega)) | exact qI_of (bI_neg (by simp only [Int32.le_iff_toInt_le, Int32.lt_iff_toInt_lt] at *; omega))
        · refine m_iconst (v := 1) dX10_onFloor_20 (by decide) ?_
          refine m_goto dX10_onFloor_21 25 (by decide) ?_
          refine m_ireturn dX10_onFloor_25 ?_
          first | exact qI_of (bI_pos (by simp only [Int32.le_iff_toInt_le, Int32.lt_iff_toInt_lt] at *; omega)) | exact qI_of (bI_neg (by simp only [Int32.le_iff_toInt_le, Int32.lt_iff_toInt_lt] at *; omega))
theorem c_isIn (b k : Int32) : mMet G l d kX11_isIn [.int b, .int k] σ (qI (bI (decide (b >>> (k &&& 31) &&& 1 = 1))) σ) := by
  refine mMet.of cm_X11_isIn rfl (Nat.le_of_ble_eq_true rfl) rfl (fun v1 σ1 h => by rw [h.1]; exact bI_nar _) ?_
  refine m_iload_n dX11_isIn_0 0 rfl ?_
  refine m_iload_n dX11_isIn_1 1 rfl ?_
  refine m_ishr dX11_isIn_2 ?_
  refine m_iconst (v := 1) dX11_isIn_3 (by decide) ?_
  refine m_iand dX11_isIn_4 ?_
  refine m_iconst (v := 1) dX11_isIn_5 (by decide) ?_
  refine m_icmp_ne dX11_isIn_6 13 (by decide) (fun h6 => ?_) (fun h6 => ?_)
  · refine m_iconst (v := 0) dX11_isIn_13 (by decide) ?_
    refine m_ireturn dX11_isIn_14 ?_
    first | exact qI_of (bI_pos (by assumption)) | exact qI_of (bI_neg (by assumption))
  · refine m_iconst (v := 1) dX11_isIn_9 (by decide) ?_
    refine m_goto dX11_isIn_10 14 (by decide) ?_
    refine m_ireturn dX11_isIn_14 ?_
    first | exact qI_of (bI_pos (by assumption)) | exact qI_of (bI_neg (by assumption))
theorem c_isText (hd : 1 ≤ d) (v : Int32) : mMet G l d kX11_isText [.int v] σ (qI (bI (decide (0 ≤ v ∧ v ≤ 1))) σ) := by
  refine mMet.of cm_X11_isText rfl (Nat.le_of_ble_eq_true rfl) rfl (fun v1 σ1 h => by rw [h.1]; exact bI_nar _) ?_
  refine m_iload_n dX11_isText_0 0 rfl ?_
  refine m_iconst (v := 0) dX11_isText_1 (by decide) ?_
  refine m_iconst (v := 1) dX11_isText_2 (by decide) ?_
  refine m_callS (As := [_, _, _]) dX11_isText_3 cs_X11_136 (by omega) rfl rfl (Nat.le_of_ble_eq_true rfl) (c_in (d := d - 1) v 0 1) (fun v1 σ1 hv1 => ?_)
  refine m_qI hv1 ?_
  clear hv1 v1 σ1
  refine m_ireturn dX11_isText_6 ?_
  exact ⟨rfl, rfl⟩
end LF
end
section
/-! ===== the model: a debate and its moments, as numbers ===== -/
/-- cars: how many, and of car k what j (0 sort, 1 x, 2 y, 3 way, 4 weight); steers likewise (0 moment, 1 car, 2 turn); events (0 kind, 1 moment, 2 car); those that are spared, as bits -/
abbrev Deb : Type := (Nat × (Nat → Nat → Int32)) × (Nat × (Nat → Nat → Int32)) × (Nat × (Nat → Nat → Int32)) × Int32
/-- x, y, way, points, struck, strikes by car; cut bits, strikes, first moment, first car, strikes of this moment by which both stay -/
abbrev RS : Type := (Nat → Int32) × (Nat → Int32) × (Nat → Int32) × (Nat → Int32) × (Nat → Int32) × (Nat → Int32) × Int32 × Int32 × Int32 × Int32 × Int32
def stX (w : Int32) : Int32 := if w = 0 then 1 else if w = 2 then -1 else 0
def stY (w : Int32) : Int32 := if w = 1 then 1 else if w = 3 then -1 else 0
/-- the remainder by 4 -/
def m4 (x : Int32) : Int32 := x - x / 4 * 4
abbrev six (v : Int32) : Prop := 0 ≤ v ∧ v ≤ 5
theorem six_iff (v : Int32) : six v ↔ 0 ≤ v ∧ v ≤ 5 := Iff.rfl
/-- bit k -/
abbrev bitI (b : Int32) (k : Int32) : Prop := b >>> (k &&& 31) &&& 1 = 1
def whoIn (xs ys : Nat → Int32) (x y : Int32) : Nat → Int32
  | 0 => -1
  | k + 1 => if xs k = x ∧ ys k = y then nI k else whoIn xs ys x y k
def strikeR (k o : Nat) (way mo : Int32) (r : RS) : RS :=
  (r.1, r.2.1, r.2.2.1, upd r.2.2.2.1 k (r.2.2.2.1 k + (if m4 (r.2.2.1 o - way + 4) = 2 then 3 else if m4 (r.2.2.1 o - way + 4) = 0 then 1 else 2)), upd r.2.2.2.2.1 o (r.2.2.2.2.1 o + 1), upd r.2.2.2.2.2.1 k (r.2.2.2.2.2.1 k + 1), r.2.2.2.2.2.2.1, r.2.2.2.2.2.2.2.1 + 1, (if r.2.2.2.2.2.2.2.2.1 = -1 then mo else r.2.2.2.2.2.2.2.2.1), (if r.2.2.2.2.2.2.2.2.1 = -1 then nI k else r.2.2.2.2.2.2.2.2.2.1), r.2.2.2.2.2.2.2.2.2.2)
def moveR (k : Nat) (x y : Int32) (r : RS) : RS := (upd r.1 k x, upd r.2.1 k y, r.2.2)
def jamR (r : RS) : RS := (r.1, r.2.1, r.2.2.1, r.2.2.2.1, r.2.2.2.2.1, r.2.2.2.2.2.1, r.2.2.2.2.2.2.1, r.2.2.2.2.2.2.2.1, r.2.2.2.2.2.2.2.2.1, r.2.2.2.2.2.2.2.2.2.1, r.2.2.2.2.2.2.2.2.2.2 + 1)
/-- may car k shift car o by the way w -/
abbrev mayR (n : Nat) (wt : Nat → Int32) (k o : Nat) (w : Int32) (r : RS) : Prop := wt o ≤ wt k ∧ six (r.1 o + stX w) ∧ six (r.2.1 o + stY w) ∧ whoIn r.1 r.2.1 (r.1 o + stX w) (r.2.1 o + stY w) n = -1
def intoR (n : Nat) (wt : Nat → Int32) (k o : Nat) (w : Int32) (r : RS) : RS :=
  if mayR n wt k o w r then moveR k (r.1 o) (r.2.1 o) (moveR o (r.1 o + stX w) (r.2.1 o + stY w) r) else jamR r
def rInto (n : Nat) (wt : Nat → Int32) (k o : Nat) (w mo : Int32) (r : RS) : RS := intoR n wt k o w (strikeR k o w mo r)
/-- the way in which car k goes -/
def wayR (st : Nat → Int32) (k : Nat) (r : RS) : Int32 := if st k = 2 then m4 (r.2.2.1 k + 2) else r.2.2.1 k
def turnR (k : Nat) (w : Int32) (r : RS) : RS := (r.1, r.2.1, upd r.2.2.1 k w, r.2.2.2)
def driveW (n : Nat) (wt : Nat → Int32) (k : Nat) (mo w : Int32) (r : RS) : RS :=
  if ¬ six (r.1 k + stX w) ∨ ¬ six (r.2.1 k + stY w) then turnR k (m4 (r.2.2.1 k + 2)) r
  else if whoIn r.1 r.2.1 (r.1 k + stX w) (r.2.1 k + stY w) n = -1 then moveR k (r.1 k + stX w) (r.2.1 k + stY w) r
  else rInto n wt k (whoIn r.1 r.2.1 (r.1 k + stX w) (r.2.1 k + stY w) n).toNatClampNeg w mo r
/-- car k goes -/
def driveR (n : Nat) (c : Nat → Nat → Int32) (k : Nat) (mo : Int32) (r : RS) : RS := driveW n (fun i => c i 4) k mo (wayR (fun i => c i 0) k r) r
/-- the ways behind the first i steers of the moment -/
def steerW (n : Nat) (c s : Nat → Nat → Int32) (mo : Int32) (w : Nat → Int32) : Nat → (Nat → Int32)
  | 0 => w
  | i + 1 => if s i 0 = mo ∧ s i 1 < nI n ∧ c (s i 1).toNatClampNeg 0 ≠ 1 then upd (steerW n c s mo w i) (s i 1).toNatClampNeg (m4 (steerW n c s mo w i (s i 1).toNatClampNeg + (if s i 2 = 1 then 1 else 3))) else steerW n c s mo w i
/-- whether it is rung, and the cut bits, behind the first i events of the moment -/
def rungE (v : Nat → Nat → Int32) (mask mo : Int32) : Nat → Int32
  | 0 => 0
  | i + 1 => if v i 1 = mo ∧ ¬ bitI mask (nI i) then (if v i 0 = 0 then 1 else rungE v mask mo i) else rungE v mask mo i
def cutE (v : Nat → Nat → Int32) (mask mo cut : Int32) : Nat → Int32
  | 0 => cut
  | i + 1 => if v i 1 = mo ∧ ¬ bitI mask (nI i) then cutE v mask mo cut i ||| (if v i 0 = 1 then (1 : Int32) <<< (v i 2 &&& 31) else 0) else cutE v mask mo cut i
/-- the first k cars go -/
def driveAll (n : Nat) (c : Nat → Nat → Int32) (mo cut : Int32) (r : RS) : Nat → RS
  | 0 => r
  | k + 1 => if bitI cut (nI k) then driveAll n c mo cut r k else driveR n c k mo (driveAll n c mo cut r k)
def rungD (D : Deb) (mo : Int32) : Int32 := rungE D.2.2.1.2 D.2.2.2 mo D.2.2.1.1
def cutD (D : Deb) (mo cut : Int32) : Int32 := cutE D.2.2.1.2 D.2.2.2 mo cut D.2.2.1.1
/-- ahead of the going: events and steers done -/
def readyR (D : Deb) (mo : Int32) (r : RS) : RS := (r.1, r.2.1, steerW D.1.1 D.1.2 D.2.1.2 mo r.2.2.1 D.2.1.1, r.2.2.2.1, r.2.2.2.2.1, r.2.2.2.2.2.1, cutD D mo r.2.2.2.2.2.2.1, r.2.2.2.2.2.2.2.1, r.2.2.2.2.2.2.2.2.1, r.2.2.2.2.2.2.2.2.2.1, 0)
def goR (D : Deb) (mo : Int32) (r : RS) : RS := if rungD D mo = 0 then driveAll D.1.1 D.1.2 mo (cutD D mo r.2.2.2.2.2.2.1) (readyR D mo r) D.1.1 else readyR D mo r
def startR (D : Deb) : RS := (fun k => D.1.2 k 1, fun k => D.1.2 k 2, fun k => D.1.2 k 3, fun _ => 0, fun _ => 0, fun _ => 0, 0, 0, -1, -1, 0)
/-- behind the first t moments -/
def RSt (D : Deb) : Nat → RS
  | 0 => startR D
  | t + 1 => goR D (nI t) (RSt D t)
end
section
/-! ===== the reference's run ===== -/
section RR
variable {G : mG} {l : Launch} {d : Nat} {σ : mS}
/-- what the reference's rows hold of the run, at moment m -/
abbrev gR (σ : mS) (m : Nat) : RS := (σ.1 128, σ.1 129, σ.1 130, σ.1 131, σ.1 132, σ.1 133, σ.1 111 28, σ.1 111 29, σ.1 111 30, σ.1 111 31, σ.1 141 m)
/-- nothing else has changed -/
def fR (m : Nat) (σ σ1 : mS) : Prop := σ1.2 = σ.2 ∧ ∀ y z, (128 ≤ y ∧ y ≤ 133) ∨ (y = 111 ∧ 28 ≤ z ∧ z ≤ 31) ∨ (y = 141 ∧ z = m) ∨ σ1.1 y z = σ.1 y z
theorem fR.rf {m : Nat} : fR m σ σ := ⟨rfl, fun _ _ => Or.inr (Or.inr (Or.inr rfl))⟩
theorem us_at (x j : Nat) (v : Int32) (y z : Nat) : (us σ x j v).1 y z = if y = x ∧ z = j then v else σ.1 y z := by
  unfold us
  by_cases h : y = x
  · subst h
    by_cases h2 : z = j
    · subst h2; simp [pk_us]
    · simp [pk_un h2, h2]
  · simp [h]
theorem fR.us {m y0 z0 : Nat} {v : Int32} {σ0 : mS} (h : (128 ≤ y0 ∧ y0 ≤ 133) ∨ (y0 = 111 ∧ 28 ≤ z0 ∧ z0 ≤ 31) ∨ (y0 = 141 ∧ z0 = m)) (k : fR m σ σ0) : fR m σ (us σ0 y0 z0 v) := by
  refine ⟨k.1, fun y z => ?_⟩
  rw [us_at]
  by_cases h2 : y = y0 ∧ z = z0
  · obtain ⟨rfl, rfl⟩ := h2
    rcases h with h | h | h
    · exact Or.inl h
    · exact Or.inr (Or.inl h)
    · exact Or.inr (Or.inr (Or.inl h))
  · rw [if_neg h2]
    exact k.2 y z
theorem fR.tr {m : Nat} {σ0 σ1 : mS} (h : fR m σ σ0) (k : fR m σ0 σ1) : fR m σ σ1 := by
  refine ⟨k.1.trans h.1, fun y z => ?_⟩
  rcases k.2 y z with h1 | h1 | h1 | h1
  · exact Or.inl h1
  · exact Or.inr (Or.inl h1)
  · exact Or.inr (Or.inr (Or.inl h1))
  · rw [h1]; exact h.2 y z
theorem fR.at {m y z : Nat} {s : mS} (k : fR m σ s) (h : ¬ ((128 ≤ y ∧ y ≤ 133) ∨ (y = 111 ∧ 28 ≤ z ∧ z ≤ 31) ∨ (y = 141 ∧ z = m))) : s.1 y z = σ.1 y z := by
  rcases k.2 y z with h1 | h1 | h1 | h1
  · exact absurd (Or.inl h1) h
  · exact absurd (Or.inr (Or.inl h1)) h
  · exact absurd (Or.inr (Or.inr h1)) h
  · exact h1
theorem fR.row {m y : Nat} {s : mS} (k : fR m σ s) (h : ¬ ((128 ≤ y ∧ y ≤ 133) ∨ y = 111 ∨ y = 141)) : s.1 y = σ.1 y := funext fun z => k.at (by omega)
theorem dX11_whoIn_0 : decode cX11_whoIn 0 = .ok (.iconst (-1), 1) := by decide +kernel
theorem dX11_whoIn_1 : decode cX11_whoIn 1 = .ok (.istore_n 3, 1) := by decide +kernel
theorem dX11_whoIn_2 : decode cX11_whoIn 2 = .ok (.iconst 0, 1) := by decide +kernel
theorem dX11_whoIn_3 : decode cX11_whoIn 3 = .ok (.istore 4, 2) := by decide +kernel
theorem dX11_whoIn_5 : decode cX11_whoIn 5 = .ok (.iload 4, 2) := by decide +kernel
theorem dX11_whoIn_7 : decode cX11_whoIn 7 = .ok (.aload_n 0, 1) := by decide +kernel
theorem dX11_whoIn_8 : decode cX11_whoIn 8 = .ok (.getfield 161, 3) := by decide +kernel
theorem dX11_whoIn_11 : decode cX11_whoIn 11 = .ok (.if_icmp .ge 38, 3) := by decide +kernel
theorem dX11_whoIn_14 : decode cX11_whoIn 14 = .ok (.aload_n 0, 1) := by decide +kernel
theorem dX11_whoIn_15 : decode cX11_whoIn 15 = .ok (.getfield 58, 3) := by decide +kernel
theorem dX11_whoIn_18 : decode cX11_whoIn 18 = .ok (.iload 4, 2) := by decide +kernel
theorem dX11_whoIn_20 : decode cX11_whoIn 20 = .ok (.iaload, 1) := by decide +kernel
theorem dX11_whoIn_21 : decode cX11_whoIn 21 = .ok (.iload_n 1, 1) := by decide +kernel
theorem dX11_whoIn_22 : decode cX11_whoIn 22 = .ok (.if_icmp .ne 19, 3) := by decide +kernel
theorem dX11_whoIn_25 : decode cX11_whoIn 25 = .ok (.aload_n 0, 1) := by decide +kernel
theorem dX11_whoIn_26 : decode cX11_whoIn 26 = .ok (.getfield 61, 3) := by decide +kernel
theorem dX11_whoIn_29 : decode cX11_whoIn 29 = .ok (.iload 4, 2) := by decide +kernel
theorem dX11_whoIn_31 : decode cX11_whoIn 31 = .ok (.iaload, 1) := by decide +kernel
theorem dX11_whoIn_32 : decode cX11_whoIn 32 = .ok (.iload_n 2, 1) := by decide +kernel
theorem dX11_whoIn_33 : decode cX11_whoIn 33 = .ok (.if_icmp .ne 8, 3) := by decide +kernel
theorem dX11_whoIn_36 : decode cX11_whoIn 36 = .ok (.iload 4, 2) := by decide +kernel
theorem dX11_whoIn_38 : decode cX11_whoIn 38 = .ok (.goto 4, 3) := by decide +kernel
theorem dX11_whoIn_41 : decode cX11_whoIn 41 = .ok (.iload_n 3, 1) := by decide +kernel
theorem dX11_whoIn_42 : decode cX11_whoIn 42 = .ok (.istore_n 3, 1) := by decide +kernel
theorem dX11_whoIn_43 : decode cX11_whoIn 43 = .ok (.iinc 4 1, 3) := by decide +kernel
theorem dX11_whoIn_46 : decode cX11_whoIn 46 = .ok (.goto (-41), 3) := by decide +kernel
theorem dX11_whoIn_49 : decode cX11_whoIn 49 = .ok (.iload_n 3, 1) := by decide +kernel
theorem dX11_whoIn_50 : decode cX11_whoIn 50 = .ok (.ireturn, 1) := by decide +kernel
theorem dX11_comes_0 : decode cX11_comes 0 = .ok (.aload_n 0, 1) := by decide +kernel
theorem dX11_comes_1 : decode cX11_comes 1 = .ok (.getfield 58, 3) := by decide +kernel
theorem dX11_comes_4 : decode cX11_comes 4 = .ok (.iload_n 1, 1) := by decide +kernel
theorem dX11_comes_5 : decode cX11_comes 5 = .ok (.iload_n 2, 1) := by decide +kernel
theorem dX11_comes_6 : decode cX11_comes 6 = .ok (.iastore, 1) := by decide +kernel
theorem dX11_comes_7 : decode cX11_comes 7 = .ok (.aload_n 0, 1) := by decide +kernel
theorem dX11_comes_8 : decode cX11_comes 8 = .ok (.getfield 61, 3) := by decide +kernel
theorem dX11_comes_11 : decode cX11_comes 11 = .ok (.iload_n 1, 1) := by decide +kernel
theorem dX11_comes_12 : decode cX11_comes 12 = .ok (.iload_n 3, 1) := by decide +kernel
theorem dX11_comes_13 : decode cX11_comes 13 = .ok (.iastore, 1) := by decide +kernel
theorem dX11_comes_14 : decode cX11_comes 14 = .ok (.return_, 1) := by decide +kernel
theorem dX11_runsInto_0 : decode cX11_runsInto 0 = .ok (.aload_n 0, 1) := by decide +kernel
theorem dX11_runsInto_1 : decode cX11_runsInto 1 = .ok (.getfield 64, 3) := by decide +kernel
theorem dX11_runsInto_4 : decode cX11_runsInto 4 = .ok (.iload_n 2, 1) := by decide +kernel
theorem dX11_runsInto_5 : decode cX11_runsInto 5 = .ok (.iaload, 1) := by decide +kernel
theorem dX11_runsInto_6 : decode cX11_runsInto 6 = .ok (.iload_n 3, 1) := by decide +kernel
theorem dX11_runsInto_7 : decode cX11_runsInto 7 = .ok (.isub, 1) := by decide +kernel
theorem dX11_runsInto_8 : decode cX11_runsInto 8 = .ok (.iconst 4, 1) := by decide +kernel
theorem dX11_runsInto_9 : decode cX11_runsInto 9 = .ok (.iadd, 1) := by decide +kernel
theorem dX11_runsInto_10 : decode cX11_runsInto 10 = .ok (.iconst 4, 1) := by decide +kernel
theorem dX11_runsInto_11 : decode cX11_runsInto 11 = .ok (.irem, 1) := by decide +kernel
theorem dX11_runsInto_12 : decode cX11_runsInto 12 = .ok (.istore 5, 2) := by decide +kernel
theorem dX11_runsInto_14 : decode cX11_runsInto 14 = .ok (.aload_n 0, 1) := by decide +kernel
theorem dX11_runsInto_15 : decode cX11_runsInto 15 = .ok (.getfield 67, 3) := by decide +kernel
theorem dX11_runsInto_18 : decode cX11_runsInto 18 = .ok (.iload_n 1, 1) := by decide +kernel
theorem dX11_runsInto_19 : decode cX11_runsInto 19 = .ok (.dup2, 1) := by decide +kernel
theorem dX11_runsInto_20 : decode cX11_runsInto 20 = .ok (.iaload, 1) := by decide +kernel
theorem dX11_runsInto_21 : decode cX11_runsInto 21 = .ok (.iload 5, 2) := by decide +kernel
theorem dX11_runsInto_23 : decode cX11_runsInto 23 = .ok (.iconst 2, 1) := by decide +kernel
theorem dX11_runsInto_24 : decode cX11_runsInto 24 = .ok (.if_icmp .ne 7, 3) := by decide +kernel
theorem dX11_runsInto_27 : decode cX11_runsInto 27 = .ok (.iconst 3, 1) := by decide +kernel
theorem dX11_runsInto_28 : decode cX11_runsInto 28 = .ok (.goto 13, 3) := by decide +kernel
theorem dX11_runsInto_31 : decode cX11_runsInto 31 = .ok (.iload 5, 2) := by decide +kernel
theorem dX11_runsInto_33 : decode cX11_runsInto 33 = .ok (.ifCond .ne 7, 3) := by decide +kernel
theorem dX11_runsInto_36 : decode cX11_runsInto 36 = .ok (.iconst 1, 1) := by decide +kernel
theorem dX11_runsInto_37 : decode cX11_runsInto 37 = .ok (.goto 4, 3) := by decide +kernel
theorem dX11_runsInto_40 : decode cX11_runsInto 40 = .ok (.iconst 2, 1) := by decide +kernel
theorem dX11_runsInto_41 : decode cX11_runsInto 41 = .ok (.iadd, 1) := by decide +kernel
theorem dX11_runsInto_42 : decode cX11_runsInto 42 = .ok (.iastore, 1) := by decide +kernel
theorem dX11_runsInto_43 : decode cX11_runsInto 43 = .ok (.aload_n 0, 1) := by decide +kernel
theorem dX11_runsInto_44 : decode cX11_runsInto 44 = .ok (.getfield 70, 3) := by decide +kernel
theorem dX11_runsInto_47 : decode cX11_runsInto 47 = .ok (.iload_n 2, 1) := by decide +kernel
theorem dX11_runsInto_48 : decode cX11_runsInto 48 = .ok (.dup2, 1) := by decide +kernel
theorem dX11_runsInto_49 : decode cX11_runsInto 49 = .ok (.iaload, 1) := by decide +kernel
theorem dX11_runsInto_50 : decode cX11_runsInto 50 = .ok (.iconst 1, 1) := by decide +kernel
theorem dX11_runsInto_51 : decode cX11_runsInto 51 = .ok (.iadd, 1) := by decide +kernel
theorem dX11_runsInto_52 : decode cX11_runsInto 52 = .ok (.iastore, 1) := by decide +kernel
theorem dX11_runsInto_53 : decode cX11_runsInto 53 = .ok (.aload_n 0, 1) := by decide +kernel
theorem dX11_runsInto_54 : decode cX11_runsInto 54 = .ok (.getfield 73, 3) := by decide +kernel
theorem dX11_runsInto_57 : decode cX11_runsInto 57 = .ok (.iload_n 1, 1) := by decide +kernel
theorem dX11_runsInto_58 : decode cX11_runsInto 58 = .ok (.dup2, 1) := by decide +kernel
theorem dX11_runsInto_59 : decode cX11_runsInto 59 = .ok (.iaload, 1) := by decide +kernel
theorem dX11_runsInto_60 : decode cX11_runsInto 60 = .ok (.iconst 1, 1) := by decide +kernel
theorem dX11_runsInto_61 : decode cX11_runsInto 61 = .ok (.iadd, 1) := by decide +kernel
theorem dX11_runsInto_62 : decode cX11_runsInto 62 = .ok (.iastore, 1) := by decide +kernel
theorem dX11_runsInto_63 : decode cX11_runsInto 63 = .ok (.aload_n 0, 1) := by decide +kernel
theorem dX11_runsInto_64 : decode cX11_runsInto 64 = .ok (.dup, 1) := by decide +kernel
theorem dX11_runsInto_65 : decode cX11_runsInto 65 = .ok (.getfield 226, 3) := by decide +kernel
theorem dX11_runsInto_68 : decode cX11_runsInto 68 = .ok (.iconst 1, 1) := by decide +kernel
theorem dX11_runsInto_69 : decode cX11_runsInto 69 = .ok (.iadd, 1) := by decide +kernel
theorem dX11_runsInto_70 : decode cX11_runsInto 70 = .ok (.putfield 226, 3) := by decide +kernel
theorem dX11_runsInto_73 : decode cX11_runsInto 73 = .ok (.aload_n 0, 1) := by decide +kernel
theorem dX11_runsInto_74 : decode cX11_runsInto 74 = .ok (.aload_n 0, 1) := by decide +kernel
theorem dX11_runsInto_75 : decode cX11_runsInto 75 = .ok (.getfield 229, 3) := by decide +kernel
theorem dX11_runsInto_78 : decode cX11_runsInto 78 = .ok (.iconst (-1), 1) := by decide +kernel
theorem dX11_runsInto_79 : decode cX11_runsInto 79 = .ok (.if_icmp .ne 7, 3) := by decide +kernel
theorem dX11_runsInto_82 : decode cX11_runsInto 82 = .ok (.iload_n 1, 1) := by decide +kernel
theorem dX11_runsInto_83 : decode cX11_runsInto 83 = .ok (.goto 7, 3) := by decide +kernel
theorem dX11_runsInto_86 : decode cX11_runsInto 86 = .ok (.aload_n 0, 1) := by decide +kernel
theorem dX11_runsInto_87 : decode cX11_runsInto 87 = .ok (.getfield 232, 3) := by decide +kernel
theorem dX11_runsInto_90 : decode cX11_runsInto 90 = .ok (.putfield 232, 3) := by decide +kernel
theorem dX11_runsInto_93 : decode cX11_runsInto 93 = .ok (.aload_n 0, 1) := by decide +kernel
theorem dX11_runsInto_94 : decode cX11_runsInto 94 = .ok (.aload_n 0, 1) := by decide +kernel
theorem dX11_runsInto_95 : decode cX11_runsInto 95 = .ok (.getfield 229, 3) := by decide +kernel
theorem dX11_runsInto_98 : decode cX11_runsInto 98 = .ok (.iconst (-1), 1) := by decide +kernel
theorem dX11_runsInto_99 : decode cX11_runsInto 99 = .ok (.if_icmp .ne 8, 3) := by decide +kernel
theorem dX11_runsInto_102 : decode cX11_runsInto 102 = .ok (.iload 4, 2) := by decide +kernel
theorem dX11_runsInto_104 : decode cX11_runsInto 104 = .ok (.goto 7, 3) := by decide +kernel
theorem dX11_runsInto_107 : decode cX11_runsInto 107 = .ok (.aload_n 0, 1) := by decide +kernel
theorem dX11_runsInto_108 : decode cX11_runsInto 108 = .ok (.getfield 229, 3) := by decide +kernel
theorem dX11_runsInto_111 : decode cX11_runsInto 111 = .ok (.putfield 229, 3) := by decide +kernel
theorem dX11_runsInto_114 : decode cX11_runsInto 114 = .ok (.aload_n 0, 1) := by decide +kernel
theorem dX11_runsInto_115 : decode cX11_runsInto 115 = .ok (.getfield 58, 3) := by decide +kernel
theorem dX11_runsInto_118 : decode cX11_runsInto 118 = .ok (.iload_n 2, 1) := by decide +kernel
theorem dX11_runsInto_119 : decode cX11_runsInto 119 = .ok (.iaload, 1) := by decide +kernel
theorem dX11_runsInto_120 : decode cX11_runsInto 120 = .ok (.istore 6, 2) := by decide +kernel
theorem dX11_runsInto_122 : decode cX11_runsInto 122 = .ok (.aload_n 0, 1) := by decide +kernel
theorem dX11_runsInto_123 : decode cX11_runsInto 123 = .ok (.getfield 61, 3) := by decide +kernel
theorem dX11_runsInto_126 : decode cX11_runsInto 126 = .ok (.iload_n 2, 1) := by decide +kernel
theorem dX11_runsInto_127 : decode cX11_runsInto 127 = .ok (.iaload, 1) := by decide +kernel
theorem dX11_runsInto_128 : decode cX11_runsInto 128 = .ok (.istore 7, 2) := by decide +kernel
theorem dX11_runsInto_130 : decode cX11_runsInto 130 = .ok (.iload 6, 2) := by decide +kernel
theorem dX11_runsInto_132 : decode cX11_runsInto 132 = .ok (.iload_n 3, 1) := by decide +kernel
theorem dX11_runsInto_133 : decode cX11_runsInto 133 = .ok (.invokestatic 235, 3) := by decide +kernel
theorem dX11_runsInto_136 : decode cX11_runsInto 136 = .ok (.iadd, 1) := by decide +kernel
theorem dX11_runsInto_137 : decode cX11_runsInto 137 = .ok (.istore 8, 2) := by decide +kernel
theorem dX11_runsInto_139 : decode cX11_runsInto 139 = .ok (.iload 7, 2) := by decide +kernel
theorem dX11_runsInto_141 : decode cX11_runsInto 141 = .ok (.iload_n 3, 1) := by decide +kernel
theorem dX11_runsInto_142 : decode cX11_runsInto 142 = .ok (.invokestatic 238, 3) := by decide +kernel
theorem dX11_runsInto_145 : decode cX11_runsInto 145 = .ok (.iadd, 1) := by decide +kernel
theorem dX11_runsInto_146 : decode cX11_runsInto 146 = .ok (.istore 9, 2) := by decide +kernel
theorem dX11_runsInto_148 : decode cX11_runsInto 148 = .ok (.aload_n 0, 1) := by decide +kernel
theorem dX11_runsInto_149 : decode cX11_runsInto 149 = .ok (.getfield 28, 3) := by decide +kernel
theorem dX11_runsInto_152 : decode cX11_runsInto 152 = .ok (.iload_n 1, 1) := by decide +kernel
theorem dX11_runsInto_153 : decode cX11_runsInto 153 = .ok (.iaload, 1) := by decide +kernel
theorem dX11_runsInto_154 : decode cX11_runsInto 154 = .ok (.aload_n 0, 1) := by decide +kernel
theorem dX11_runsInto_155 : decode cX11_runsInto 155 = .ok (.getfield 28, 3) := by decide +kernel
theorem dX11_runsInto_158 : decode cX11_runsInto 158 = .ok (.iload_n 2, 1) := by decide +kernel
theorem dX11_runsInto_159 : decode cX11_runsInto 159 = .ok (.iaload, 1) := by decide +kernel
theorem dX11_runsInto_160 : decode cX11_runsInto 160 = .ok (.if_icmp .lt 52, 3) := by decide +kernel
theorem dX11_runsInto_163 : decode cX11_runsInto 163 = .ok (.iload 8, 2) := by decide +kernel
theorem dX11_runsInto_165 : decode cX11_runsInto 165 = .ok (.invokestatic 155, 3) := by decide +kernel
theorem dX11_runsInto_168 : decode cX11_runsInto 168 = .ok (.ifCond .eq 44, 3) := by decide +kernel
theorem dX11_runsInto_171 : decode cX11_runsInto 171 = .ok (.iload 9, 2) := by decide +kernel
theorem dX11_runsInto_173 : decode cX11_runsInto 173 = .ok (.invokestatic 155, 3) := by decide +kernel
theorem dX11_runsInto_176 : decode cX11_runsInto 176 = .ok (.ifCond .eq 36, 3) := by decide +kernel
theorem dX11_runsInto_179 : decode cX11_runsInto 179 = .ok (.aload_n 0, 1) := by decide +kernel
theorem dX11_runsInto_180 : decode cX11_runsInto 180 = .ok (.iload 8, 2) := by decide +kernel
theorem dX11_runsInto_182 : decode cX11_runsInto 182 = .ok (.iload 9, 2) := by decide +kernel
theorem dX11_runsInto_184 : decode cX11_runsInto 184 = .ok (.invokevirtual 241, 3) := by decide +kernel
theorem dX11_runsInto_187 : decode cX11_runsInto 187 = .ok (.iconst (-1), 1) := by decide +kernel
theorem dX11_runsInto_188 : decode cX11_runsInto 188 = .ok (.if_icmp .ne 24, 3) := by decide +kernel
theorem dX11_runsInto_191 : decode cX11_runsInto 191 = .ok (.aload_n 0, 1) := by decide +kernel
theorem dX11_runsInto_192 : decode cX11_runsInto 192 = .ok (.iload_n 2, 1) := by decide +kernel
theorem dX11_runsInto_193 : decode cX11_runsInto 193 = .ok (.iload 8, 2) := by decide +kernel
theorem dX11_runsInto_195 : decode cX11_runsInto 195 = .ok (.iload 9, 2) := by decide +kernel
theorem dX11_runsInto_197 : decode cX11_runsInto 197 = .ok (.invokevirtual 244, 3) := by decide +kernel
theorem dX11_runsInto_200 : decode cX11_runsInto 200 = .ok (.aload_n 0, 1) := by decide +kernel
theorem dX11_runsInto_201 : decode cX11_runsInto 201 = .ok (.iload_n 1, 1) := by decide +kernel
theorem dX11_runsInto_202 : decode cX11_runsInto 202 = .ok (.iload 6, 2) := by decide +kernel
theorem dX11_runsInto_204 : decode cX11_runsInto 204 = .ok (.iload 7, 2) := by decide +kernel
theorem dX11_runsInto_206 : decode cX11_runsInto 206 = .ok (.invokevirtual 244, 3) := by decide +kernel
theorem dX11_runsInto_209 : decode cX11_runsInto 209 = .ok (.goto 14, 3) := by decide +kernel
theorem dX11_runsInto_212 : decode cX11_runsInto 212 = .ok (.aload_n 0, 1) := by decide +kernel
theorem dX11_runsInto_213 : decode cX11_runsInto 213 = .ok (.getfield 97, 3) := by decide +kernel
theorem dX11_runsInto_216 : decode cX11_runsInto 216 = .ok (.iload 4, 2) := by decide +kernel
theorem dX11_runsInto_218 : decode cX11_runsInto 218 = .ok (.dup2, 1) := by decide +kernel
theorem dX11_runsInto_219 : decode cX11_runsInto 219 = .ok (.iaload, 1) := by decide +kernel
theorem dX11_runsInto_220 : decode cX11_runsInto 220 = .ok (.iconst 1, 1) := by decide +kernel
theorem dX11_runsInto_221 : decode cX11_runsInto 221 = .ok (.iadd, 1) := by decide +kernel
theorem dX11_runsInto_222 : decode cX11_runsInto 222 = .ok (.iastore, 1) := by decide +kernel
theorem dX11_runsInto_223 : decode cX11_runsInto 223 = .ok (.return_, 1) := by decide +kernel
theorem dX11_drives_0 : decode cX11_drives 0 = .ok (.aload_n 0, 1) := by decide +kernel
theorem dX11_drives_1 : decode cX11_drives 1 = .ok (.getfield 16, 3) := by decide +kernel
theorem dX11_drives_4 : decode cX11_drives 4 = .ok (.iload_n 1, 1) := by decide +kernel
theorem dX11_drives_5 : decode cX11_drives 5 = .ok (.iaload, 1) := by decide +kernel
theorem dX11_drives_6 : decode cX11_drives 6 = .ok (.iconst 2, 1) := by decide +kernel
theorem dX11_drives_7 : decode cX11_drives 7 = .ok (.if_icmp .ne 16, 3) := by decide +kernel
theorem dX11_drives_10 : decode cX11_drives 10 = .ok (.aload_n 0, 1) := by decide +kernel
theorem dX11_drives_11 : decode cX11_drives 11 = .ok (.getfield 64, 3) := by decide +kernel
theorem dX11_drives_14 : decode cX11_drives 14 = .ok (.iload_n 1, 1) := by decide +kernel
theorem dX11_drives_15 : decode cX11_drives 15 = .ok (.iaload, 1) := by decide +kernel
theorem dX11_drives_16 : decode cX11_drives 16 = .ok (.iconst 2, 1) := by decide +kernel
theorem dX11_drives_17 : decode cX11_drives 17 = .ok (.iadd, 1) := by decide +kernel
theorem dX11_drives_18 : decode cX11_drives 18 = .ok (.iconst 4, 1) := by decide +kernel
theorem dX11_drives_19 : decode cX11_drives 19 = .ok (.irem, 1) := by decide +kernel
theorem dX11_drives_20 : decode cX11_drives 20 = .ok (.goto 9, 3) := by decide +kernel
theorem dX11_drives_23 : decode cX11_drives 23 = .ok (.aload_n 0, 1) := by decide +kernel
theorem dX11_drives_24 : decode cX11_drives 24 = .ok (.getfield 64, 3) := by decide +kernel
theorem dX11_drives_27 : decode cX11_drives 27 = .ok (.iload_n 1, 1) := by decide +kernel
theorem dX11_drives_28 : decode cX11_drives 28 = .ok (.iaload, 1) := by decide +kernel
theorem dX11_drives_29 : decode cX11_drives 29 = .ok (.istore_n 3, 1) := by decide +kernel
theorem dX11_drives_30 : decode cX11_drives 30 = .ok (.aload_n 0, 1) := by decide +kernel
theorem dX11_drives_31 : decode cX11_drives 31 = .ok (.getfield 58, 3) := by decide +kernel
theorem dX11_drives_34 : decode cX11_drives 34 = .ok (.iload_n 1, 1) := by decide +kernel
theorem dX11_drives_35 : decode cX11_drives 35 = .ok (.iaload, 1) := by decide +kernel
theorem dX11_drives_36 : decode cX11_drives 36 = .ok (.iload_n 3, 1) := by decide +kernel
theorem dX11_drives_37 : decode cX11_drives 37 = .ok (.invokestatic 235, 3) := by decide +kernel
theorem dX11_drives_40 : decode cX11_drives 40 = .ok (.iadd, 1) := by decide +kernel
theorem dX11_drives_41 : decode cX11_drives 41 = .ok (.istore 4, 2) := by decide +kernel
theorem dX11_drives_43 : decode cX11_drives 43 = .ok (.aload_n 0, 1) := by decide +kernel
theorem dX11_drives_44 : decode cX11_drives 44 = .ok (.getfield 61, 3) := by decide +kernel
theorem dX11_drives_47 : decode cX11_drives 47 = .ok (.iload_n 1, 1) := by decide +kernel
theorem dX11_drives_48 : decode cX11_drives 48 = .ok (.iaload, 1) := by decide +kernel
theorem dX11_drives_49 : decode cX11_drives 49 = .ok (.iload_n 3, 1) := by decide +kernel
theorem dX11_drives_50 : decode cX11_drives 50 = .ok (.invokestatic 238, 3) := by decide +kernel
theorem dX11_drives_53 : decode cX11_drives 53 = .ok (.iadd, 1) := by decide +kernel
theorem dX11_drives_54 : decode cX11_drives 54 = .ok (.istore 5, 2) := by decide +kernel
theorem dX11_drives_56 : decode cX11_drives 56 = .ok (.aload_n 0, 1) := by decide +kernel
theorem dX11_drives_57 : decode cX11_drives 57 = .ok (.iload 4, 2) := by decide +kernel
theorem dX11_drives_59 : decode cX11_drives 59 = .ok (.iload 5, 2) := by decide +kernel
theorem dX11_drives_61 : decode cX11_drives 61 = .ok (.invokevirtual 241, 3) := by decide +kernel
theorem dX11_drives_64 : decode cX11_drives 64 = .ok (.istore 6, 2) := by decide +kernel
theorem dX11_drives_66 : decode cX11_drives 66 = .ok (.iload 4, 2) := by decide +kernel
theorem dX11_drives_68 : decode cX11_drives 68 = .ok (.invokestatic 155, 3) := by decide +kernel
theorem dX11_drives_71 : decode cX11_drives 71 = .ok (.ifCond .eq 11, 3) := by decide +kernel
theorem dX11_drives_74 : decode cX11_drives 74 = .ok (.iload 5, 2) := by decide +kernel
theorem dX11_drives_76 : decode cX11_drives 76 = .ok (.invokestatic 155, 3) := by decide +kernel
theorem dX11_drives_79 : decode cX11_drives 79 = .ok (.ifCond .ne 22, 3) := by decide +kernel
theorem dX11_drives_82 : decode cX11_drives 82 = .ok (.aload_n 0, 1) := by decide +kernel
theorem dX11_drives_83 : decode cX11_drives 83 = .ok (.getfield 64, 3) := by decide +kernel
theorem dX11_drives_86 : decode cX11_drives 86 = .ok (.iload_n 1, 1) := by decide +kernel
theorem dX11_drives_87 : decode cX11_drives 87 = .ok (.aload_n 0, 1) := by decide +kernel
theorem dX11_drives_88 : decode cX11_drives 88 = .ok (.getfield 64, 3) := by decide +kernel
theorem dX11_drives_91 : decode cX11_drives 91 = .ok (.iload_n 1, 1) := by decide +kernel
theorem dX11_drives_92 : decode cX11_drives 92 = .ok (.iaload, 1) := by decide +kernel
theorem dX11_drives_93 : decode cX11_drives 93 = .ok (.iconst 2, 1) := by decide +kernel
theorem dX11_drives_94 : decode cX11_drives 94 = .ok (.iadd, 1) := by decide +kernel
theorem dX11_drives_95 : decode cX11_drives 95 = .ok (.iconst 4, 1) := by decide +kernel
theorem dX11_drives_96 : decode cX11_drives 96 = .ok (.irem, 1) := by decide +kernel
theorem dX11_drives_97 : decode cX11_drives 97 = .ok (.iastore, 1) := by decide +kernel
theorem dX11_drives_98 : decode cX11_drives 98 = .ok (.goto 30, 3) := by decide +kernel
theorem dX11_drives_101 : decode cX11_drives 101 = .ok (.iload 6, 2) := by decide +kernel
theorem dX11_drives_103 : decode cX11_drives 103 = .ok (.iconst (-1), 1) := by decide +kernel
theorem dX11_drives_104 : decode cX11_drives 104 = .ok (.if_icmp .ne 15, 3) := by decide +kernel
theorem dX11_drives_107 : decode cX11_drives 107 = .ok (.aload_n 0, 1) := by decide +kernel
theorem dX11_drives_108 : decode cX11_drives 108 = .ok (.iload_n 1, 1) := by decide +kernel
theorem dX11_drives_109 : decode cX11_drives 109 = .ok (.iload 4, 2) := by decide +kernel
theorem dX11_drives_111 : decode cX11_drives 111 = .ok (.iload 5, 2) := by decide +kernel
theorem dX11_drives_113 : decode cX11_drives 113 = .ok (.invokevirtual 244, 3) := by decide +kernel
theorem dX11_drives_116 : decode cX11_drives 116 = .ok (.goto 12, 3) := by decide +kernel
theorem dX11_drives_119 : decode cX11_drives 119 = .ok (.aload_n 0, 1) := by decide +kernel
theorem dX11_drives_120 : decode cX11_drives 120 = .ok (.iload_n 1, 1) := by decide +kernel
theorem dX11_drives_121 : decode cX11_drives 121 = .ok (.iload 6, 2) := by decide +kernel
theorem dX11_drives_123 : decode cX11_drives 123 = .ok (.iload_n 3, 1) := by decide +kernel
theorem dX11_drives_124 : decode cX11_drives 124 = .ok (.iload_n 2, 1) := by decide +kernel
theorem dX11_drives_125 : decode cX11_drives 125 = .ok (.invokevirtual 248, 3) := by decide +kernel
theorem dX11_drives_128 : decode cX11_drives 128 = .ok (.return_, 1) := by decide +kernel
theorem c_stepX (w : Int32) : mMet G l d kX11_stepX [.int w] σ (qI (stX w) σ) := by
  refine mMet.of cm_X11_stepX rfl (Nat.le_of_ble_eq_true rfl) rfl (fun v1 σ1 h => by rw [h.1]; rfl) ?_
  refine m_iload_n dX11_stepX_0 0 rfl ?_
  refine m_sel (pcJ := 18) ?_ (fun kt0 kf0 => m_if_ne dX11_stepX_1 8 (by decide) (fun h => (m_iload_n dX11_stepX_8 0 rfl (m_iconst (v := 2) dX11_stepX_9 (by decide) (m_sel (pcJ := 18) (kf0 h) (fun kt1 kf1 => m_icmp_ne dX11_stepX_10 17 (by decide) (fun h => (m_iconst (v := 0) dX11_stepX_17 (by decide) (kf1 h))) (fun h => (m_iconst (v := -1) dX11_stepX_13 (by decide) (m_goto dX11_stepX_14 18 (by decide) (kt1 h))))))))) (fun h => (m_iconst (v := 1) dX11_stepX_4 (by decide) (m_goto dX11_stepX_5 18 (by decide) (kt0 h)))))
  refine m_ireturn dX11_stepX_18 ?_
  exact ⟨rfl, rfl⟩
theorem c_stepY (w : Int32) : mMet G l d kX11_stepY [.int w] σ (qI (stY w) σ) := by
  refine mMet.of cm_X11_stepY rfl (Nat.le_of_ble_eq_true rfl) rfl (fun v1 σ1 h => by rw [h.1]; rfl) ?_
  refine m_iload_n dX11_stepY_0 0 rfl ?_
  refine m_iconst (v := 1) dX11_stepY_1 (by decide) ?_
  refine m_sel (pcJ := 19) ?_ (fun kt0 kf0 => m_icmp_ne dX11_stepY_2 9 (by decide) (fun h => (m_iload_n dX11_stepY_9 0 rfl (m_iconst (v := 3) dX11_stepY_10 (by decide) (m_sel (pcJ := 19) (kf0 h) (fun kt1 kf1 => m_icmp_ne dX11_stepY_11 18 (by decide) (fun h => (m_iconst (v := 0) dX11_stepY_18 (by decide) (kf1 h))) (fun h => (m_iconst (v := -1) dX11_stepY_14 (by decide) (m_goto dX11_stepY_15 19 (by decide) (kt1 h))))))))) (fun h => (m_iconst (v := 1) dX11_stepY_5 (by decide) (m_goto dX11_stepY_6 19 (by decide) (kt0 h)))))
  refine m_ireturn dX11_stepY_19 ?_
  exact ⟨rfl, rfl⟩
theorem c_isSix (hd : 1 ≤ d) (v : Int32) : mMet G l d kX11_isSix [.int v] σ (qI (bI (decide (six v))) σ) := by
  refine mMet.of cm_X11_isSix rfl (Nat.le_of_ble_eq_true rfl) rfl (fun v1 σ1 h => by rw [h.1]; exact bI_nar _) ?_
  refine m_iload_n dX11_isSix_0 0 rfl ?_
  refine m_iconst (v := 0) dX11_isSix_1 (by decide) ?_
  refine m_iconst (v := 5) dX11_isSix_2 (by decide) ?_
  refine m_callS (As := [_, _, _]) dX11_isSix_3 cs_X11_136 (by omega) rfl rfl (Nat.le_of_ble_eq_true rfl) (c_in (d := d - 1) v 0 5) (fun v1 σ1 hv1 => ?_)
  refine m_qI hv1 ?_
  clear hv1 v1 σ1
  refine m_ireturn dX11_isSix_6 ?_
  exact ⟨rfl, rfl⟩
theorem whoIn_of (xs ys : Nat → Int32) (x y : Int32) : ∀ n, n ≤ 8 → whoIn xs ys x y n = -1 ∨ ∃ j, j < n ∧ whoIn xs ys x y n = nI j
  | 0, _ => Or.inl rfl
  | k + 1, h => by
    unfold whoIn
    by_cases h1 : xs k = x ∧ ys k = y
    · rw [if_pos h1]; exact Or.inr ⟨k, by omega, rfl⟩
    · rw [if_neg h1]
      rcases whoIn_of xs ys x y k (by omega) with h2 | ⟨j, h2, h3⟩
      · exact Or.inl h2
      · exact Or.inr ⟨j, by omega, h3⟩
theorem c_whoIn (n : Nat) (hn : n ≤ 8) (hc : σ.1 111 2 = nI n) (x y : Int32) : mMet G l d kX11_whoIn [.ref 111, .int x, .int y] σ (qI (whoIn (σ.1 128) (σ.1 129) x y n) σ) := by
  refine mMet.of cm_X11_whoIn rfl (Nat.le_of_ble_eq_true rfl) rfl (fun v1 σ1 h => by rw [h.1]; rfl) ?_
  refine m_iconst (v := -1) dX11_whoIn_0 (by decide) ?_
  refine m_istore_n (ls1 := [(3, _), (0, _), (1, _), (2, _)]) dX11_whoIn_1 (by decide) rfl ?_
  refine m_iconst (v := 0) dX11_whoIn_2 (by decide) ?_
  refine m_istore (ls1 := [(4, _), (3, _), (0, _), (1, _), (2, _)]) dX11_whoIn_3 (by decide) rfl ?_
  refine down (N := n) (fun k (f : Int32) => f = whoIn (σ.1 128) (σ.1 129) x y k) (fun k f => mW G l d kX11_whoIn 5 [(4, .int (nI k)), (3, .int f), (0, .ref 111), (1, .int x), (2, .int y)] [] σ _) ?_ ?_ 0 (-1) (Nat.zero_le _) rfl
  · intro f hf
    refine m_iload dX11_whoIn_5 0 rfl ?_
    refine m_aload_n dX11_whoIn_7 2 rfl ?_
    refine m_getI 2 dX11_whoIn_8 fl_X11_161_10 rfl (by decide) (by first | assumption | rfl) ?_
    refine m_icmp_ge dX11_whoIn_11 49 (by decide) (fun h => ?_) (fun h => ?_)
    · refine m_iload_n dX11_whoIn_49 1 rfl ?_
      refine m_ireturn dX11_whoIn_50 ?_
      exact ⟨by rw [hf], rfl⟩
    · exact (ge_yes h hc).elim
  · intro k f hk hf ih
    refine m_iload dX11_whoIn_5 0 rfl ?_
    refine m_aload_n dX11_whoIn_7 2 rfl ?_
    refine m_getI 2 dX11_whoIn_8 fl_X11_161_10 rfl (by decide) (by first | assumption | rfl) ?_
    refine m_icmp_ge dX11_whoIn_11 49 (by decide) (fun h => ?_) (fun h => ?_)
    · exact (ge_no hc h rfl hk (by omega)).elim
    · refine m_aload_n dX11_whoIn_14 2 rfl ?_
      refine m_getR 22 128 dX11_whoIn_15 fl_X11_58_10 rfl (by decide) rfl (by first | assumption | rfl) ?_
      refine m_iload dX11_whoIn_18 0 rfl ?_
      refine m_iald dX11_whoIn_20 (by first | assumption | rfl) _ rfl (by first | assumption | omega | decide) ?_
      refine m_iload_n dX11_whoIn_21 3 rfl ?_
      refine m_icmp_ne dX11_whoIn_22 41 (by decide) (fun h22 => ?_) (fun h22 => ?_)
      · refine m_iload_n dX11_whoIn_41 1 rfl ?_
        refine m_istore_n (ls1 := [(3, _), (4, _), (0, _), (1, _), (2, _)]) dX11_whoIn_42 (by decide) rfl ?_
        refine m_iinc (v := nI (k + 1)) (ls1 := [(4, _), (3, _), (0, _), (1, _), (2, _)]) dX11_whoIn_43 1 rfl (nI_1 k) (by decide) rfl ?_
        refine m_goto dX11_whoIn_46 5 (by decide) ?_
        exact ih _ (by rw [whoIn]; first | (rw [if_pos ⟨h22, h33⟩]; done) | (rw [if_neg (fun q => h22 q.1)]; exact hf) | (rw [if_neg (fun q => h33 q.2)]; exact hf))
      · refine m_aload_n dX11_whoIn_25 2 rfl ?_
        refine m_getR 23 129 dX11_whoIn_26 fl_X11_61_10 rfl (by decide) rfl (by first | assumption | rfl) ?_
        refine m_iload dX11_whoIn_29 0 rfl ?_
        refine m_iald dX11_whoIn_31 (by first | assumption | rfl) _ rfl (by first | assumption | omega | decide) ?_
        refine m_iload_n dX11_whoIn_32 4 rfl ?_
        refine m_icmp_ne dX11_whoIn_33 41 (by decide) (fun h33 => ?_) (fun h33 => ?_)
        · refine m_iload_n dX11_whoIn_41 1 rfl ?_
          refine m_istore_n (ls1 := [(3, _), (4, _), (0, _), (1, _), (2, _)]) dX11_whoIn_42 (by decide) rfl ?_
          refine m_iinc (v := nI (k + 1)) (ls1 := [(4, _), (3, _), (0, _), (1, _), (2, _)]) dX11_whoIn_43 1 rfl (nI_1 k) (by decide) rfl ?_
          refine m_goto dX11_whoIn_46 5 (by decide) ?_
          exact ih _ (by rw [whoIn]; first | (rw [if_pos ⟨h22, h33⟩]; done) | (rw [if_neg (fun q => h22 q.1)]; exact hf) | (rw [if_neg (fun q => h33 q.2)]; exact hf))
        · refine m_iload dX11_whoIn_36 0 rfl ?_
          refine m_goto dX11_whoIn_38 42 (by decide) ?_
          refine m_istore_n (ls1 := [(3, _), (4, _), (0, _), (1, _), (2, _)]) dX11_whoIn_42 (by decide) rfl ?_
          refine m_iinc (v := nI (k + 1)) (ls1 := [(4, _), (3, _), (0, _), (1, _), (2, _)]) dX11_whoIn_43 1 rfl (nI_1 k) (by decide) rfl ?_
          refine m_goto dX11_whoIn_46 5 (by decide) ?_
          exact ih _ (by rw [whoIn]; first | (rw [if_pos ⟨h22, h33⟩]; done) | (rw [if_neg (fun q => h22 q.1)]; exact hf) | (rw [if_neg (fun q => h33 q.2)]; exact hf))
theorem c_comes (k : Nat) (hk : k < 8) (x y : Int32) : mMet G l d kX11_comes [.ref 111, .int (nI k), .int x, .int y] σ (qV (us (us σ 128 k x) 129 k y)) := by
  refine mMet.of cm_X11_comes rfl (Nat.le_of_ble_eq_true rfl) rfl (fun v1 σ1 h => by rw [h.1]; trivial) ?_
  refine m_aload_n dX11_comes_0 0 rfl ?_
  refine m_getR 22 128 dX11_comes_1 fl_X11_58_10 rfl (by decide) rfl (by first | assumption | rfl) ?_
  refine m_iload_n dX11_comes_4 1 rfl ?_
  refine m_iload_n dX11_comes_5 2 rfl ?_
  refine m_iast dX11_comes_6 (by first | assumption | rfl) k rfl (by first | assumption | omega | decide) ?_
  refine m_aload_n dX11_comes_7 0 rfl ?_
  refine m_getR 23 129 dX11_comes_8 fl_X11_61_10 rfl (by decide) rfl (by first | assumption | rfl) ?_
  refine m_iload_n dX11_comes_11 1 rfl ?_
  refine m_iload_n dX11_comes_12 3 rfl ?_
  refine m_iast dX11_comes_13 (by first | assumption | rfl) k rfl (by first | assumption | omega | decide) ?_
  refine m_return dX11_comes_14 ?_
  exact ⟨rfl, rfl⟩
theorem m4n {x : Int32} : ¬ (4 : Int32) = 0 := by decide
theorem c_runsInto (hd : 3 ≤ d) (n : Nat) (hn : n ≤ 8) (hc : σ.1 111 2 = nI n) (k o m : Nat) (hk : k < 8) (ho : o < 8) (hm : m < 24) (w : Int32) : mMet G l d kX11_runsInto [.ref 111, .int (nI k), .int (nI o), .int w, .int (nI m)] σ (qVP (fun σ1 => gR σ1 m = rInto n (σ.1 118) k o w (nI m) (gR σ m) ∧ fR m σ σ1)) := by
  refine mMet.of cm_X11_runsInto rfl (Nat.le_of_ble_eq_true rfl) rfl (fun v1 σ1 h => by rw [h.1]; trivial) ?_
  refine m_aload_n dX11_runsInto_0 0 rfl ?_
  refine m_getR 24 130 dX11_runsInto_1 fl_X11_64_10 rfl (by decide) rfl (by first | assumption | rfl) ?_
  refine m_iload_n dX11_runsInto_4 2 rfl ?_
  refine m_iald dX11_runsInto_5 (by first | assumption | rfl) o rfl (by first | assumption | omega | decide) ?_
  refine m_iload_n dX11_runsInto_6 3 rfl ?_
  refine m_isub dX11_runsInto_7 ?_
  refine m_iconst (v := 4) dX11_runsInto_8 (by decide) ?_
  refine m_iadd dX11_runsInto_9 ?_
  refine m_iconst (v := 4) dX11_runsInto_10 (by decide) ?_
  refine m_irem dX11_runsInto_11 (by decide) ?_
  refine m_istore (ls1 := [(5, _), (0, _), (1, _), (2, _), (3, _), (4, _)]) dX11_runsInto_12 (by decide) rfl ?_
  refine m_aload_n dX11_runsInto_14 1 rfl ?_
  refine m_getR 25 131 dX11_runsInto_15 fl_X11_67_10 rfl (by decide) rfl (by first | assumption | rfl) ?_
  refine m_iload_n dX11_runsInto_18 2 rfl ?_
  refine m_dup2 dX11_runsInto_19 rfl rfl ?_
  refine m_iald dX11_runsInto_20 (by first | assumption | rfl) k rfl (by first | assumption | omega | decide) ?_
  refine m_iload dX11_runsInto_21 0 rfl ?_
  refine m_iconst (v := 2) dX11_runsInto_23 (by decide) ?_
  refine m_sel (pcJ := 41) ?_ (fun kt0 kf0 => m_icmp_ne dX11_runsInto_24 31 (by decide) (fun h => (m_iload dX11_runsInto_31 0 rfl (m_sel (pcJ := 41) (kf0 h) (fun kt1 kf1 => m_if_ne dX11_runsInto_33 40 (by decide) (fun h => (m_iconst (v := 2) dX11_runsInto_40 (by decide) (kf1 h))) (fun h => (m_iconst (v := 1) dX11_runsInto_36 (by decide) (m_goto dX11_runsInto_37 41 (by decide) (kt1 h)))))))) (fun h => (m_iconst (v := 3) dX11_runsInto_27 (by decide) (m_goto dX11_runsInto_28 41 (by decide) (kt0 h)))))
  refine m_iadd dX11_runsInto_41 ?_
  refine m_iast dX11_runsInto_42 (by first | assumption | rfl) k rfl (by first | assumption | omega | decide) ?_
  refine m_aload_n dX11_runsInto_43 1 rfl ?_
  refine m_getR 26 132 dX11_runsInto_44 fl_X11_70_10 rfl (by decide) rfl (by first | assumption | rfl) ?_
  refine m_iload_n dX11_runsInto_47 3 rfl ?_
  refine m_dup2 dX11_runsInto_48 rfl rfl ?_
  refine m_iald dX11_runsInto_49 (by first | assumption | rfl) o rfl (by first | assumption | omega | decide) ?_
  refine m_iconst (v := 1) dX11_runsInto_50 (by decide) ?_
  refine m_iadd dX11_runsInto_51 ?_
  refine m_iast dX11_runsInto_52 (by first | assumption | rfl) o rfl (by first | assumption | omega | decide) ?_
  refine m_aload_n dX11_runsInto_53 1 rfl ?_
  refine m_getR 27 133 dX11_runsInto_54 fl_X11_73_10 rfl (by decide) rfl (by first | assumption | rfl) ?_
  refine m_iload_n dX11_runsInto_57 2 rfl ?_
  refine m_dup2 dX11_runsInto_58 rfl rfl ?_
  refine m_iald dX11_runsInto_59 (by first | assumption | rfl) k rfl (by first | assumption | omega | decide) ?_
  refine m_iconst (v := 1) dX11_runsInto_60 (by decide) ?_
  refine m_iadd dX11_runsInto_61 ?_
  refine m_iast dX11_runsInto_62 (by first | assumption | rfl) k rfl (by first | assumption | omega | decide) ?_
  refine m_aload_n dX11_runsInto_63 1 rfl ?_
  refine m_dup dX11_runsInto_64 rfl ?_
  refine m_getI 29 dX11_runsInto_65 fl_X11_226_10 rfl (by decide) (by first | assumption | rfl) ?_
  refine m_iconst (v := 1) dX11_runsInto_68 (by decide) ?_
  refine m_iadd dX11_runsInto_69 ?_
  refine m_putI 29 dX11_runsInto_70 fw_X11_226_10 rfl (by decide) rfl rfl (by first | assumption | rfl) ?_
  refine m_aload_n dX11_runsInto_73 1 rfl ?_
  refine m_aload_n dX11_runsInto_74 1 rfl ?_
  refine m_getI 30 dX11_runsInto_75 fl_X11_229_10 rfl (by decide) (by first | assumption | rfl) ?_
  refine m_iconst (v := -1) dX11_runsInto_78 (by decide) ?_
  refine m_sel (pcJ := 90) ?_ (fun kt0 kf0 => m_icmp_ne dX11_runsInto_79 86 (by decide) (fun h => (m_aload_n dX11_runsInto_86 1 rfl (m_getI 31 dX11_runsInto_87 fl_X11_232_10 rfl (by decide) (by first | assumption | rfl) (kf0 h)))) (fun h => (m_iload_n dX11_runsInto_82 2 rfl (m_goto dX11_runsInto_83 90 (by decide) (kt0 h)))))
  refine m_putI 31 dX11_runsInto_90 fw_X11_232_10 rfl (by decide) rfl rfl (by first | assumption | rfl) ?_
  refine m_aload_n dX11_runsInto_93 1 rfl ?_
  refine m_aload_n dX11_runsInto_94 1 rfl ?_
  refine m_getI 30 dX11_runsInto_95 fl_X11_229_10 rfl (by decide) (by first | assumption | rfl) ?_
  refine m_iconst (v := -1) dX11_runsInto_98 (by decide) ?_
  refine m_sel (pcJ := 111) ?_ (fun kt0 kf0 => m_icmp_ne dX11_runsInto_99 107 (by decide) (fun h => (m_aload_n dX11_runsInto_107 1 rfl (m_getI 30 dX11_runsInto_108 fl_X11_229_10 rfl (by decide) (by first | assumption | rfl) (kf0 h)))) (fun h => (m_iload dX11_runsInto_102 5 rfl (m_goto dX11_runsInto_104 111 (by decide) (kt0 h)))))
  refine m_putI 30 dX11_runsInto_111 fw_X11_229_10 rfl (by decide) rfl rfl (by first | assumption | rfl) ?_
  refine mW.cut (fun s => gR s m = strikeR k o w (nI m) (gR σ m) ∧ fR m σ s) ⟨rfl, ?_⟩ (fun s hs => ?_)
  · repeat (first | exact fR.rf | refine fR.us (by omega) ?_)
  obtain ⟨hs, hf⟩ := hs
  have hn1 : s.1 111 2 = nI n := (hf.at (by omega)).trans hc
  have hw : s.1 118 = σ.1 118 := hf.row (by omega)
  show mW G l d kX11_runsInto 114 _ _ _ _
  rw [rInto, ← hs, ← hw]
  refine m_aload_n dX11_runsInto_114 1 rfl ?_
  refine m_getR 22 128 dX11_runsInto_115 fl_X11_58_10 rfl (by decide) rfl (by first | assumption | rfl) ?_
  refine m_iload_n dX11_runsInto_118 3 rfl ?_
  refine m_iald dX11_runsInto_119 (by first | assumption | rfl) o rfl (by first | assumption | omega | decide) ?_
  refine m_istore (ls1 := [(6, _), (5, _), (0, _), (1, _), (2, _), (3, _), (4, _)]) dX11_runsInto_120 (by decide) rfl ?_
  refine m_aload_n dX11_runsInto_122 2 rfl ?_
  refine m_getR 23 129 dX11_runsInto_123 fl_X11_61_10 rfl (by decide) rfl (by first | assumption | rfl) ?_
  refine m_iload_n dX11_runsInto_126 4 rfl ?_
  refine m_iald dX11_runsInto_127 (by first | assumption | rfl) o rfl (by first | assumption | omega | decide) ?_
  refine m_istore (ls1 := [(7, _), (6, _), (5, _), (0, _), (1, _), (2, _), (3, _), (4, _)]) dX11_runsInto_128 (by decide) rfl ?_
  refine m_iload dX11_runsInto_130 1 rfl ?_
  refine m_iload_n dX11_runsInto_132 6 rfl ?_
  refine m_callS (As := [_]) dX11_runsInto_133 cs_X11_235 (by omega) rfl rfl (Nat.le_of_ble_eq_true rfl) (c_stepX (d := d - 1) w) (fun v1 σ1 hv1 => ?_)
  refine m_qI hv1 ?_
  clear hv1 v1 σ1
  refine m_iadd dX11_runsInto_136 ?_
  refine m_istore (ls1 := [(8, _), (7, _), (6, _), (5, _), (0, _), (1, _), (2, _), (3, _), (4, _)]) dX11_runsInto_137 (by decide) rfl ?_
  refine m_iload dX11_runsInto_139 1 rfl ?_
  refine m_iload_n dX11_runsInto_141 7 rfl ?_
  refine m_callS (As := [_]) dX11_runsInto_142 cs_X11_238 (by omega) rfl rfl (Nat.le_of_ble_eq_true rfl) (c_stepY (d := d - 1) w) (fun v1 σ1 hv1 => ?_)
  refine m_qI hv1 ?_
  clear hv1 v1 σ1
  refine m_iadd dX11_runsInto_145 ?_
  refine m_istore (ls1 := [(9, _), (8, _), (7, _), (6, _), (5, _), (0, _), (1, _), (2, _), (3, _), (4, _)]) dX11_runsInto_146 (by decide) rfl ?_
  refine m_aload_n dX11_runsInto_148 5 rfl ?_
  refine m_getR 7 118 dX11_runsInto_149 fl_X11_28_10 rfl (by decide) rfl (by first | assumption | rfl) ?_
  refine m_iload_n dX11_runsInto_152 6 rfl ?_
  refine m_iald dX11_runsInto_153 (by first | assumption | rfl) k rfl (by first | assumption | omega | decide) ?_
  refine m_aload_n dX11_runsInto_154 5 rfl ?_
  refine m_getR 7 118 dX11_runsInto_155 fl_X11_28_10 rfl (by decide) rfl (by first | assumption | rfl) ?_
  refine m_iload_n dX11_runsInto_158 7 rfl ?_
  refine m_iald dX11_runsInto_159 (by first | assumption | rfl) o rfl (by first | assumption | omega | decide) ?_
  refine m_icmp_lt dX11_runsInto_160 212 (by decide) (fun h160 => ?_) (fun h160 => ?_)
  · refine m_aload_n dX11_runsInto_212 5 rfl ?_
    refine m_getR 39 141 dX11_runsInto_213 fl_X11_97_10 rfl (by decide) rfl (by first | assumption | rfl) ?_
    refine m_iload dX11_runsInto_216 9 rfl ?_
    refine m_dup2 dX11_runsInto_218 rfl rfl ?_
    refine m_iald dX11_runsInto_219 (by first | assumption | rfl) m rfl (by first | assumption | omega | decide) ?_
    refine m_iconst (v := 1) dX11_runsInto_220 (by decide) ?_
    refine m_iadd dX11_runsInto_221 ?_
    refine m_iast dX11_runsInto_222 (by first | assumption | rfl) m rfl (by first | assumption | omega | decide) ?_
    first | (refine m_return dX11_runsInto_223 ⟨rfl, ?_, fR.us (by omega) hf⟩; rw [intoR, if_neg (fun q => by first | exact absurd q.1 (Int32.not_le.mpr h160) | exact bI0 h168 q.2.1 | exact bI0 h176 q.2.2.1 | exact h188 q.2.2.2)]; simp only [gR, jamR, us_eq, pk_us]; rfl) | (refine m_return dX11_runsInto_223 ⟨rfl, ?_, fR.us (by omega) (fR.us (by omega) (fR.us (by omega) (fR.us (by omega) hf)))⟩; rw [intoR, if_pos ⟨Int32.not_lt.mp h160, bI1 h168, bI1 h176, h188⟩]; rfl)
  · refine m_iload dX11_runsInto_163 1 rfl ?_
    refine m_callS (As := [_]) dX11_runsInto_165 cs_X11_155 (by omega) rfl rfl (Nat.le_of_ble_eq_true rfl) (c_isSix (d := d - 1) (by omega) _) (fun v1 σ1 hv1 => ?_)
    refine m_qI hv1 ?_
    clear hv1 v1 σ1
    refine m_if_eq dX11_runsInto_168 212 (by decide) (fun h168 => ?_) (fun h168 => ?_)
    · refine m_aload_n dX11_runsInto_212 5 rfl ?_
      refine m_getR 39 141 dX11_runsInto_213 fl_X11_97_10 rfl (by decide) rfl (by first | assumption | rfl) ?_
      refine m_iload dX11_runsInto_216 9 rfl ?_
      refine m_dup2 dX11_runsInto_218 rfl rfl ?_
      refine m_iald dX11_runsInto_219 (by first | assumption | rfl) m rfl (by first | assumption | omega | decide) ?_
      refine m_iconst (v := 1) dX11_runsInto_220 (by decide) ?_
      refine m_iadd dX11_runsInto_221 ?_
      refine m_iast dX11_runsInto_222 (by first | assumption | rfl) m rfl (by first | assumption | omega | decide) ?_
      first | (refine m_return dX11_runsInto_223 ⟨rfl, ?_, fR.us (by omega) hf⟩; rw [intoR, if_neg (fun q => by first | exact absurd q.1 (Int32.not_le.mpr h160) | exact bI0 h168 q.2.1 | exact bI0 h176 q.2.2.1 | exact h188 q.2.2.2)]; simp only [gR, jamR, us_eq, pk_us]; rfl) | (refine m_return dX11_runsInto_223 ⟨rfl, ?_, fR.us (by omega) (fR.us (by omega) (fR.us (by omega) (fR.us (by omega) hf)))⟩; rw [intoR, if_pos ⟨Int32.not_lt.mp h160, bI1 h168, bI1 h176, h188⟩]; rfl)
    · refine m_iload dX11_runsInto_171 0 rfl ?_
      refine m_callS (As := [_]) dX11_runsInto_173 cs_X11_155 (by omega) rfl rfl (Nat.le_of_ble_eq_true rfl) (c_isSix (d := d - 1) (by omega) _) (fun v1 σ1 hv1 => ?_)
      refine m_qI hv1 ?_
      clear hv1 v1 σ1
      refine m_if_eq dX11_runsInto_176 212 (by decide) (fun h176 => ?_) (fun h176 => ?_)
      · refine m_aload_n dX11_runsInto_212 5 rfl ?_
        refine m_getR 39 141 dX11_runsInto_213 fl_X11_97_10 rfl (by decide) rfl (by first | assumption | rfl) ?_
        refine m_iload dX11_runsInto_216 9 rfl ?_
        refine m_dup2 dX11_runsInto_218 rfl rfl ?_
        refine m_iald dX11_runsInto_219 (by first | assumption | rfl) m rfl (by first | assumption | omega | decide) ?_
        refine m_iconst (v := 1) dX11_runsInto_220 (by decide) ?_
        refine m_iadd dX11_runsInto_221 ?_
        refine m_iast dX11_runsInto_222 (by first | assumption | rfl) m rfl (by first | assumption | omega | decide) ?_
        first | (refine m_return dX11_runsInto_223 ⟨rfl, ?_, fR.us (by omega) hf⟩; rw [intoR, if_neg (fun q => by first | exact absurd q.1 (Int32.not_le.mpr h160) | exact bI0 h168 q.2.1 | exact bI0 h176 q.2.2.1 | exact h188 q.2.2.2)]; simp only [gR, jamR, us_eq, pk_us]; rfl) | (refine m_return dX11_runsInto_223 ⟨rfl, ?_, fR.us (by omega) (fR.us (by omega) (fR.us (by omega) (fR.us (by omega) hf)))⟩; rw [intoR, if_pos ⟨Int32.not_lt.mp h160, bI1 h168, bI1 h176, h188⟩]; rfl)
      · refine m_aload_n dX11_runsInto_179 5 rfl ?_
        refine m_iload dX11_runsInto_180 1 rfl ?_
        refine m_iload dX11_runsInto_182 0 rfl ?_
        refine m_callV (As := [_, _]) dX11_runsInto_184 cv_X11_241 (by first | assumption | rfl) (by decide) (by omega) rfl rfl (Nat.le_of_ble_eq_true rfl) (c_whoIn (d := d - 1) n hn hn1 _ _) (fun v1 σ1 hv1 => ?_)
        refine m_qI hv1 ?_
        clear hv1 v1 σ1
        refine m_iconst (v := -1) dX11_runsInto_187 (by decide) ?_
        refine m_icmp_ne dX11_runsInto_188 212 (by decide) (fun h188 => ?_) (fun h188 => ?_)
        · refine m_aload_n dX11_runsInto_212 5 rfl ?_
          refine m_getR 39 141 dX11_runsInto_213 fl_X11_97_10 rfl (by decide) rfl (by first | assumption | rfl) ?_
          refine m_iload dX11_runsInto_216 9 rfl ?_
          refine m_dup2 dX11_runsInto_218 rfl rfl ?_
          refine m_iald dX11_runsInto_219 (by first | assumption | rfl) m rfl (by first | assumption | omega | decide) ?_
          refine m_iconst (v := 1) dX11_runsInto_220 (by decide) ?_
          refine m_iadd dX11_runsInto_221 ?_
          refine m_iast dX11_runsInto_222 (by first | assumption | rfl) m rfl (by first | assumption | omega | decide) ?_
          first | (refine m_return dX11_runsInto_223 ⟨rfl, ?_, fR.us (by omega) hf⟩; rw [intoR, if_neg (fun q => by first | exact absurd q.1 (Int32.not_le.mpr h160) | exact bI0 h168 q.2.1 | exact bI0 h176 q.2.2.1 | exact h188 q.2.2.2)]; simp only [gR, jamR, us_eq, pk_us]; rfl) | (refine m_return dX11_runsInto_223 ⟨rfl, ?_, fR.us (by omega) (fR.us (by omega) (fR.us (by omega) (fR.us (by omega) hf)))⟩; rw [intoR, if_pos ⟨Int32.not_lt.mp h160, bI1 h168, bI1 h176, h188⟩]; rfl)
        · refine m_aload_n dX11_runsInto_191 5 rfl ?_
          refine m_iload_n dX11_runsInto_192 7 rfl ?_
          refine m_iload dX11_runsInto_193 1 rfl ?_
          refine m_iload dX11_runsInto_195 0 rfl ?_
          refine m_callV (As := [_, _, _]) dX11_runsInto_197 cv_X11_244 (by first | assumption | rfl) (by decide) (by omega) rfl rfl (Nat.le_of_ble_eq_true rfl) (c_comes (d := d - 1) o ho _ _) (fun v1 σ1 hv1 => ?_)
          refine m_qV hv1 ?_
          clear hv1 v1 σ1
          refine m_aload_n dX11_runsInto_200 5 rfl ?_
          refine m_iload_n dX11_runsInto_201 6 rfl ?_
          refine m_iload dX11_runsInto_202 3 rfl ?_
          refine m_iload dX11_runsInto_204 2 rfl ?_
          refine m_callV (As := [_, _, _]) dX11_runsInto_206 cv_X11_244 (by first | assumption | rfl) (by decide) (by omega) rfl rfl (Nat.le_of_ble_eq_true rfl) (c_comes (d := d - 1) k hk _ _) (fun v1 σ1 hv1 => ?_)
          refine m_qV hv1 ?_
          clear hv1 v1 σ1
          refine m_goto dX11_runsInto_209 223 (by decide) ?_
          first | (refine m_return dX11_runsInto_223 ⟨rfl, ?_, fR.us (by omega) hf⟩; rw [intoR, if_neg (fun q => by first | exact absurd q.1 (Int32.not_le.mpr h160) | exact bI0 h168 q.2.1 | exact bI0 h176 q.2.2.1 | exact h188 q.2.2.2)]; simp only [gR, jamR, us_eq, pk_us]; rfl) | (refine m_return dX11_runsInto_223 ⟨rfl, ?_, fR.us (by omega) (fR.us (by omega) (fR.us (by omega) (fR.us (by omega) hf)))⟩; rw [intoR, if_pos ⟨Int32.not_lt.mp h160, bI1 h168, bI1 h176, h188⟩]; rfl)
theorem c_drives (hd : 4 ≤ d) (n : Nat) (hn : n ≤ 8) (hc : σ.1 111 2 = nI n) (k m : Nat) (hk : k < n) (hm : m < 24) : mMet G l d kX11_drives [.ref 111, .int (nI k), .int (nI m)] σ (qVP (fun σ1 => gR σ1 m = driveW n (σ.1 118) k (nI m) (wayR (σ.1 114) k (gR σ m)) (gR σ m) ∧ fR m σ σ1)) := by
  refine mMet.of cm_X11_drives rfl (Nat.le_of_ble_eq_true rfl) rfl (fun v1 σ1 h => by rw [h.1]; trivial) ?_
  have hk8 : k < 8 := by omega
  refine m_aload_n dX11_drives_0 0 rfl ?_
  refine m_getR 3 114 dX11_drives_1 fl_X11_16_10 rfl (by decide) rfl (by first | assumption | rfl) ?_
  refine m_iload_n dX11_drives_4 1 rfl ?_
  refine m_iald dX11_drives_5 (by first | assumption | rfl) k rfl (by first | assumption | omega | decide) ?_
  refine m_iconst (v := 2) dX11_drives_6 (by decide) ?_
  refine m_sel (pcJ := 29) ?_ (fun kt0 kf0 => m_icmp_ne dX11_drives_7 23 (by decide) (fun h => (m_aload_n dX11_drives_23 0 rfl (m_getR 24 130 dX11_drives_24 fl_X11_64_10 rfl (by decide) rfl (by first | assumption | rfl) (m_iload_n dX11_drives_27 1 rfl (m_iald dX11_drives_28 (by first | assumption | rfl) k rfl (by first | assumption | omega | decide) (kf0 h)))))) (fun h => (m_aload_n dX11_drives_10 0 rfl (m_getR 24 130 dX11_drives_11 fl_X11_64_10 rfl (by decide) rfl (by first | assumption | rfl) (m_iload_n dX11_drives_14 1 rfl (m_iald dX11_drives_15 (by first | assumption | rfl) k rfl (by first | assumption | omega | decide) (m_iconst (v := 2) dX11_drives_16 (by decide) (m_iadd dX11_drives_17 (m_iconst (v := 4) dX11_drives_18 (by decide) (m_irem dX11_drives_19 (by decide) (m_goto dX11_drives_20 29 (by decide) (kt0 h))))))))))))
  refine mW.top (w := wayR (σ.1 114) k (gR σ m)) rfl ?_
  generalize wayR (σ.1 114) k (gR σ m) = w
  refine m_istore_n (ls1 := [(3, _), (0, _), (1, _), (2, _)]) dX11_drives_29 (by decide) rfl ?_
  refine m_aload_n dX11_drives_30 1 rfl ?_
  refine m_getR 22 128 dX11_drives_31 fl_X11_58_10 rfl (by decide) rfl (by first | assumption | rfl) ?_
  refine m_iload_n dX11_drives_34 2 rfl ?_
  refine m_iald dX11_drives_35 (by first | assumption | rfl) k rfl (by first | assumption | omega | decide) ?_
  refine m_iload_n dX11_drives_36 0 rfl ?_
  refine m_callS (As := [_]) dX11_drives_37 cs_X11_235 (by omega) rfl rfl (Nat.le_of_ble_eq_true rfl) (c_stepX (d := d - 1) w) (fun v1 σ1 hv1 => ?_)
  refine m_qI hv1 ?_
  clear hv1 v1 σ1
  refine m_iadd dX11_drives_40 ?_
  refine m_istore (ls1 := [(4, _), (3, _), (0, _), (1, _), (2, _)]) dX11_drives_41 (by decide) rfl ?_
  refine m_aload_n dX11_drives_43 2 rfl ?_
  refine m_getR 23 129 dX11_drives_44 fl_X11_61_10 rfl (by decide) rfl (by first | assumption | rfl) ?_
  refine m_iload_n dX11_drives_47 3 rfl ?_
  refine m_iald dX11_drives_48 (by first | assumption | rfl) k rfl (by first | assumption | omega | decide) ?_
  refine m_iload_n dX11_drives_49 1 rfl ?_
  refine m_callS (As := [_]) dX11_drives_50 cs_X11_238 (by omega) rfl rfl (Nat.le_of_ble_eq_true rfl) (c_stepY (d := d - 1) w) (fun v1 σ1 hv1 => ?_)
  refine m_qI hv1 ?_
  clear hv1 v1 σ1
  refine m_iadd dX11_drives_53 ?_
  refine m_istore (ls1 := [(5, _), (4, _), (3, _), (0, _), (1, _), (2, _)]) dX11_drives_54 (by decide) rfl ?_
  refine m_aload_n dX11_drives_56 3 rfl ?_
  refine m_iload dX11_drives_57 1 rfl ?_
  refine m_iload dX11_drives_59 0 rfl ?_
  refine m_callV (As := [_, _]) dX11_drives_61 cv_X11_241 (by first | assumption | rfl) (by decide) (by omega) rfl rfl (Nat.le_of_ble_eq_true rfl) (c_whoIn (d := d - 1) n hn hc _ _) (fun v1 σ1 hv1 => ?_)
  refine m_qI hv1 ?_
  clear hv1 v1 σ1
  refine m_istore (ls1 := [(6, _), (5, _), (4, _), (3, _), (0, _), (1, _), (2, _)]) dX11_drives_64 (by decide) rfl ?_
  refine m_iload dX11_drives_66 2 rfl ?_
  refine m_callS (As := [_]) dX11_drives_68 cs_X11_155 (by omega) rfl rfl (Nat.le_of_ble_eq_true rfl) (c_isSix (d := d - 1) (by omega) _) (fun v1 σ1 hv1 => ?_)
  refine m_qI hv1 ?_
  clear hv1 v1 σ1
  refine m_if_eq dX11_drives_71 82 (by decide) (fun h1 => ?_) (fun h1 => ?_)
  · refine m_aload_n dX11_drives_82 4 rfl ?_
    refine m_getR 24 130 dX11_drives_83 fl_X11_64_10 rfl (by decide) rfl (by first | assumption | rfl) ?_
    refine m_iload_n dX11_drives_86 5 rfl ?_
    refine m_aload_n dX11_drives_87 4 rfl ?_
    refine m_getR 24 130 dX11_drives_88 fl_X11_64_10 rfl (by decide) rfl (by first | assumption | rfl) ?_
    refine m_iload_n dX11_drives_91 5 rfl ?_
    refine m_iald dX11_drives_92 (by first | assumption | rfl) k rfl (by first | assumption | omega | decide) ?_
    refine m_iconst (v := 2) dX11_drives_93 (by decide) ?_
    refine m_iadd dX11_drives_94 ?_
    refine m_iconst (v := 4) dX11_drives_95 (by decide) ?_
    refine m_irem dX11_drives_96 (by decide) ?_
    refine m_iast dX11_drives_97 (by first | assumption | rfl) k rfl (by first | assumption | omega | decide) ?_
    refine m_goto dX11_drives_98 128 (by decide) ?_
    refine m_return dX11_drives_128 ?_
    refine ⟨rfl, ?_, fR.us (by omega) fR.rf⟩
    rw [driveW, if_pos (Or.inl (bI0 h1))]
    rfl
  · refine m_iload dX11_drives_74 1 rfl ?_
    refine m_callS (As := [_]) dX11_drives_76 cs_X11_155 (by omega) rfl rfl (Nat.le_of_ble_eq_true rfl) (c_isSix (d := d - 1) (by omega) _) (fun v1 σ1 hv1 => ?_)
    refine m_qI hv1 ?_
    clear hv1 v1 σ1
    refine m_if_ne dX11_drives_79 101 (by decide) (fun h2 => ?_) (fun h2 => ?_)
    · refine m_iload dX11_drives_101 0 rfl ?_
      refine m_iconst (v := -1) dX11_drives_103 (by decide) ?_
      refine m_icmp_ne dX11_drives_104 119 (by decide) (fun h3 => ?_) (fun h3 => ?_)
      · rcases whoIn_of (σ.1 128) (σ.1 129) (σ.1 128 k + stX w) (σ.1 129 k + stY w) n hn with h4 | ⟨j, h4, h5⟩
        · exact absurd h4 h3
        · have hj8 : j < 8 := by omega
          refine mW.post (Q1 := qVP (fun σ1 => gR σ1 m = rInto n (σ.1 118) k j w (nI m) (gR σ m) ∧ fR m σ σ1)) ?_ ?_
          · rw [h5]
            refine m_aload_n dX11_drives_119 4 rfl ?_
            refine m_iload_n dX11_drives_120 5 rfl ?_
            refine m_iload dX11_drives_121 0 rfl ?_
            refine m_iload_n dX11_drives_123 3 rfl ?_
            refine m_iload_n dX11_drives_124 6 rfl ?_
            refine m_callV (As := [_, _, _, _]) dX11_drives_125 cv_X11_248 (by first | assumption | rfl) (by decide) (by omega) rfl rfl (Nat.le_of_ble_eq_true rfl) (c_runsInto (d := d - 1) (by omega) n hn hc k j m hk8 hj8 hm w) (fun v1 σ1 hv1 => ?_)
            refine m_qVP hv1 (fun hp => ?_)
            clear hv1 v1
            exact m_return dX11_drives_128 ⟨rfl, hp⟩
          · rintro v s ⟨rfl, e1, e2⟩
            refine ⟨rfl, ?_, e2⟩
            rw [driveW, if_neg (by rintro (q | q); exact q (bI1 h1); exact q (bI1 h2)), if_neg h3, e1]
            show _ = rInto _ _ _ (whoIn (σ.1 128) (σ.1 129) (σ.1 128 k + stX w) (σ.1 129 k + stY w) n).toNatClampNeg _ _ _
            rw [h5, nI_clamp (by omega)]
      · refine m_aload_n dX11_drives_107 4 rfl ?_
        refine m_iload_n dX11_drives_108 5 rfl ?_
        refine m_iload dX11_drives_109 2 rfl ?_
        refine m_iload dX11_drives_111 1 rfl ?_
        refine m_callV (As := [_, _, _]) dX11_drives_113 cv_X11_244 (by first | assumption | rfl) (by decide) (by omega) rfl rfl (Nat.le_of_ble_eq_true rfl) (c_comes (d := d - 1) k hk8 _ _) (fun v1 σ1 hv1 => ?_)
        refine m_qV hv1 ?_
        clear hv1 v1 σ1
        refine m_goto dX11_drives_116 128 (by decide) ?_
        refine m_return dX11_drives_128 ?_
        refine ⟨rfl, ?_, fR.us (by omega) (fR.us (by omega) fR.rf)⟩
        rw [driveW, if_neg (by rintro (q | q); exact q (bI1 h1); exact q (bI1 h2)), if_pos h3]
        rfl
    · refine m_aload_n dX11_drives_82 4 rfl ?_
      refine m_getR 24 130 dX11_drives_83 fl_X11_64_10 rfl (by decide) rfl (by first | assumption | rfl) ?_
      refine m_iload_n dX11_drives_86 5 rfl ?_
      refine m_aload_n dX11_drives_87 4 rfl ?_
      refine m_getR 24 130 dX11_drives_88 fl_X11_64_10 rfl (by decide) rfl (by first | assumption | rfl) ?_
      refine m_iload_n dX11_drives_91 5 rfl ?_
      refine m_iald dX11_drives_92 (by first | assumption | rfl) k rfl (by first | assumption | omega | decide) ?_
      refine m_iconst (v := 2) dX11_drives_93 (by decide) ?_
      refine m_iadd dX11_drives_94 ?_
      refine m_iconst (v := 4) dX11_drives_95 (by decide) ?_
      refine m_irem dX11_drives_96 (by decide) ?_
      refine m_iast dX11_drives_97 (by first | assumption | rfl) k rfl (by first | assumption | omega | decide) ?_
      refine m_goto dX11_drives_98 128 (by decide) ?_
      refine m_return dX11_drives_128 ?_
      refine ⟨rfl, ?_, fR.us (by omega) fR.rf⟩
      rw [driveW, if_pos (Or.inr (bI0 h2))]
      rfl
end RR
end
section
/-! ===== the reference's moments ===== -/
section RG
variable {G : mG} {l : Launch} {d : Nat} {σ : mS}
/-- what W doesn't name stays -/
def fW (W : Nat → Nat → Prop) (σ σ1 : mS) : Prop := σ1.2 = σ.2 ∧ ∀ y z, W y z ∨ σ1.1 y z = σ.1 y z
theorem fW.rf {W : Nat → Nat → Prop} : fW W σ σ := ⟨rfl, fun _ _ => Or.inr rfl⟩
theorem fW.us {W : Nat → Nat → Prop} {y0 z0 : Nat} {v : Int32} {σ0 : mS} (h : W y0 z0) (k : fW W σ σ0) : fW W σ (us σ0 y0 z0 v) := by
  refine ⟨k.1, fun y z => ?_⟩
  rw [us_at]
  by_cases h2 : y = y0 ∧ z = z0
  · obtain ⟨rfl, rfl⟩ := h2
    exact Or.inl h
  · rw [if_neg h2]
    exact k.2 y z
theorem fW.tr {W : Nat → Nat → Prop} {σ0 σ1 : mS} (h : fW W σ σ0) (k : fW W σ0 σ1) : fW W σ σ1 := by
  refine ⟨k.1.trans h.1, fun y z => ?_⟩
  rcases k.2 y z with h1 | h1
  · exact Or.inl h1
  · rw [h1]; exact h.2 y z
theorem fW.at {W : Nat → Nat → Prop} {y z : Nat} {s : mS} (k : fW W σ s) (h : ¬ W y z) : s.1 y z = σ.1 y z := (k.2 y z).resolve_left h
theorem fW.row {W : Nat → Nat → Prop} {y : Nat} {s : mS} (k : fW W σ s) (h : ∀ z, ¬ W y z) : s.1 y = σ.1 y := funext fun z => k.at (h z)
theorem fW.mono {W W1 : Nat → Nat → Prop} {s : mS} (k : fW W σ s) (h : ∀ y z, W y z → W1 y z) : fW W1 σ s := ⟨k.1, fun y z => (k.2 y z).imp_left (h y z)⟩
theorem fR.fW {m : Nat} {s : mS} (k : fR m σ s) : fW (fun y z => (128 ≤ y ∧ y ≤ 133) ∨ (y = 111 ∧ 28 ≤ z ∧ z ≤ 31) ∨ (y = 141 ∧ z = m)) σ s := ⟨k.1, fun y z => by
  rcases k.2 y z with h1 | h1 | h1 | h1
  · exact Or.inl (Or.inl h1)
  · exact Or.inl (Or.inr (Or.inl h1))
  · exact Or.inl (Or.inr (Or.inr h1))
  · exact Or.inr h1⟩
theorem fW.ur {W : Nat → Nat → Prop} {y0 : Nat} {f : Nat → Int32} {σ0 : mS} (h : ∀ z, W y0 z) (k : fW W σ σ0) : fW W σ (ur σ0 y0 f) := by
  refine ⟨k.1, fun y z => ?_⟩
  by_cases h2 : y = y0
  · subst h2; exact Or.inl (h z)
  · rw [ur_ne h2]; exact k.2 y z
theorem ur_id (y : Nat) : σ = ur σ y (σ.1 y) := by
  refine Prod.ext (funext fun z => ?_) rfl
  by_cases h : z = y
  · subst h; rw [ur_eq]
  · rw [ur_ne h]
theorem us_ur (y k : Nat) (f : Nat → Int32) (v : Int32) : us (ur σ y f) y k v = ur σ y (upd f k v) := by
  refine Prod.ext (funext fun z => ?_) rfl
  by_cases h : z = y
  · subst h; rw [us_eq, ur_eq, ur_eq]
  · rw [us_ne h, ur_ne h, ur_ne h]
theorem ix8 (m k : Nat) : 8 * nI m + nI k = nI (8 * m + k) := by rw [show (8 : Int32) = nI 8 from rfl, pk_mul, nI_add]
def cF (σ : mS) : Nat → Nat → Int32 := fun k j => if j < 5 then σ.1 (114 + j) k else 0
def sF (σ : mS) : Nat → Nat → Int32 := fun i j => if j < 3 then σ.1 (119 + j) i else 0
def vF (σ : mS) : Nat → Nat → Int32 := fun i j => if j < 3 then σ.1 (125 + j) i else 0
/-- the debate that the reference's rows tell -/
abbrev debR (σ : mS) (n ns e : Nat) : Deb := ((n, cF σ), (ns, sF σ), (e, vF σ), σ.1 111 21)
theorem cF_eq {s : mS} (h : ∀ y, 114 ≤ y → y ≤ 118 → s.1 y = σ.1 y) : cF s = cF σ := by
  funext k j
  unfold cF
  by_cases hj : j < 5
  · rw [if_pos hj, if_pos hj, h _ (by omega) (by omega)]
  · rw [if_neg hj, if_neg hj]
theorem sF_eq {s : mS} (h : ∀ y, 119 ≤ y → y ≤ 121 → s.1 y = σ.1 y) : sF s = sF σ := by
  funext k j
  unfold sF
  by_cases hj : j < 3
  · rw [if_pos hj, if_pos hj, h _ (by omega) (by omega)]
  · rw [if_neg hj, if_neg hj]
theorem vF_eq {s : mS} (h : ∀ y, 125 ≤ y → y ≤ 127 → s.1 y = σ.1 y) : vF s = vF σ := by
  funext k j
  unfold vF
  by_cases hj : j < 3
  · rw [if_pos hj, if_pos hj, h _ (by omega) (by omega)]
  · rw [if_neg hj, if_neg hj]
theorem dX11_steersAll_0 : decode cX11_steersAll 0 = .ok (.iconst 0, 1) := by decide +kernel
theorem dX11_steersAll_1 : decode cX11_steersAll 1 = .ok (.istore_n 2, 1) := by decide +kernel
theorem dX11_steersAll_2 : decode cX11_steersAll 2 = .ok (.iload_n 2, 1) := by decide +kernel
theorem dX11_steersAll_3 : decode cX11_steersAll 3 = .ok (.aload_n 0, 1) := by decide +kernel
theorem dX11_steersAll_4 : decode cX11_steersAll 4 = .ok (.getfield 217, 3) := by decide +kernel
theorem dX11_steersAll_7 : decode cX11_steersAll 7 = .ok (.if_icmp .ge 74, 3) := by decide +kernel
theorem dX11_steersAll_10 : decode cX11_steersAll 10 = .ok (.aload_n 0, 1) := by decide +kernel
theorem dX11_steersAll_11 : decode cX11_steersAll 11 = .ok (.getfield 34, 3) := by decide +kernel
theorem dX11_steersAll_14 : decode cX11_steersAll 14 = .ok (.iload_n 2, 1) := by decide +kernel
theorem dX11_steersAll_15 : decode cX11_steersAll 15 = .ok (.iaload, 1) := by decide +kernel
theorem dX11_steersAll_16 : decode cX11_steersAll 16 = .ok (.istore_n 3, 1) := by decide +kernel
theorem dX11_steersAll_17 : decode cX11_steersAll 17 = .ok (.aload_n 0, 1) := by decide +kernel
theorem dX11_steersAll_18 : decode cX11_steersAll 18 = .ok (.getfield 31, 3) := by decide +kernel
theorem dX11_steersAll_21 : decode cX11_steersAll 21 = .ok (.iload_n 2, 1) := by decide +kernel
theorem dX11_steersAll_22 : decode cX11_steersAll 22 = .ok (.iaload, 1) := by decide +kernel
theorem dX11_steersAll_23 : decode cX11_steersAll 23 = .ok (.iload_n 1, 1) := by decide +kernel
theorem dX11_steersAll_24 : decode cX11_steersAll 24 = .ok (.if_icmp .ne 51, 3) := by decide +kernel
theorem dX11_steersAll_27 : decode cX11_steersAll 27 = .ok (.iload_n 3, 1) := by decide +kernel
theorem dX11_steersAll_28 : decode cX11_steersAll 28 = .ok (.aload_n 0, 1) := by decide +kernel
theorem dX11_steersAll_29 : decode cX11_steersAll 29 = .ok (.getfield 161, 3) := by decide +kernel
theorem dX11_steersAll_32 : decode cX11_steersAll 32 = .ok (.if_icmp .ge 43, 3) := by decide +kernel
theorem dX11_steersAll_35 : decode cX11_steersAll 35 = .ok (.aload_n 0, 1) := by decide +kernel
theorem dX11_steersAll_36 : decode cX11_steersAll 36 = .ok (.getfield 16, 3) := by decide +kernel
theorem dX11_steersAll_39 : decode cX11_steersAll 39 = .ok (.iload_n 3, 1) := by decide +kernel
theorem dX11_steersAll_40 : decode cX11_steersAll 40 = .ok (.iaload, 1) := by decide +kernel
theorem dX11_steersAll_41 : decode cX11_steersAll 41 = .ok (.iconst 1, 1) := by decide +kernel
theorem dX11_steersAll_42 : decode cX11_steersAll 42 = .ok (.if_icmp .eq 33, 3) := by decide +kernel
theorem dX11_steersAll_45 : decode cX11_steersAll 45 = .ok (.aload_n 0, 1) := by decide +kernel
theorem dX11_steersAll_46 : decode cX11_steersAll 46 = .ok (.getfield 64, 3) := by decide +kernel
theorem dX11_steersAll_49 : decode cX11_steersAll 49 = .ok (.iload_n 3, 1) := by decide +kernel
theorem dX11_steersAll_50 : decode cX11_steersAll 50 = .ok (.aload_n 0, 1) := by decide +kernel
theorem dX11_steersAll_51 : decode cX11_steersAll 51 = .ok (.getfield 64, 3) := by decide +kernel
theorem dX11_steersAll_54 : decode cX11_steersAll 54 = .ok (.iload_n 3, 1) := by decide +kernel
theorem dX11_steersAll_55 : decode cX11_steersAll 55 = .ok (.iaload, 1) := by decide +kernel
theorem dX11_steersAll_56 : decode cX11_steersAll 56 = .ok (.aload_n 0, 1) := by decide +kernel
theorem dX11_steersAll_57 : decode cX11_steersAll 57 = .ok (.getfield 37, 3) := by decide +kernel
theorem dX11_steersAll_60 : decode cX11_steersAll 60 = .ok (.iload_n 2, 1) := by decide +kernel
theorem dX11_steersAll_61 : decode cX11_steersAll 61 = .ok (.iaload, 1) := by decide +kernel
theorem dX11_steersAll_62 : decode cX11_steersAll 62 = .ok (.iconst 1, 1) := by decide +kernel
theorem dX11_steersAll_63 : decode cX11_steersAll 63 = .ok (.if_icmp .ne 7, 3) := by decide +kernel
theorem dX11_steersAll_66 : decode cX11_steersAll 66 = .ok (.iconst 1, 1) := by decide +kernel
theorem dX11_steersAll_67 : decode cX11_steersAll 67 = .ok (.goto 4, 3) := by decide +kernel
theorem dX11_steersAll_70 : decode cX11_steersAll 70 = .ok (.iconst 3, 1) := by decide +kernel
theorem dX11_steersAll_71 : decode cX11_steersAll 71 = .ok (.iadd, 1) := by decide +kernel
theorem dX11_steersAll_72 : decode cX11_steersAll 72 = .ok (.iconst 4, 1) := by decide +kernel
theorem dX11_steersAll_73 : decode cX11_steersAll 73 = .ok (.irem, 1) := by decide +kernel
theorem dX11_steersAll_74 : decode cX11_steersAll 74 = .ok (.iastore, 1) := by decide +kernel
theorem dX11_steersAll_75 : decode cX11_steersAll 75 = .ok (.iinc 2 1, 3) := by decide +kernel
theorem dX11_steersAll_78 : decode cX11_steersAll 78 = .ok (.goto (-76), 3) := by decide +kernel
theorem dX11_steersAll_81 : decode cX11_steersAll 81 = .ok (.return_, 1) := by decide +kernel
theorem dX11_goesBy_0 : decode cX11_goesBy 0 = .ok (.aload_n 0, 1) := by decide +kernel
theorem dX11_goesBy_1 : decode cX11_goesBy 1 = .ok (.getfield 94, 3) := by decide +kernel
theorem dX11_goesBy_4 : decode cX11_goesBy 4 = .ok (.iload_n 1, 1) := by decide +kernel
theorem dX11_goesBy_5 : decode cX11_goesBy 5 = .ok (.iconst 0, 1) := by decide +kernel
theorem dX11_goesBy_6 : decode cX11_goesBy 6 = .ok (.iastore, 1) := by decide +kernel
theorem dX11_goesBy_7 : decode cX11_goesBy 7 = .ok (.aload_n 0, 1) := by decide +kernel
theorem dX11_goesBy_8 : decode cX11_goesBy 8 = .ok (.getfield 97, 3) := by decide +kernel
theorem dX11_goesBy_11 : decode cX11_goesBy 11 = .ok (.iload_n 1, 1) := by decide +kernel
theorem dX11_goesBy_12 : decode cX11_goesBy 12 = .ok (.iconst 0, 1) := by decide +kernel
theorem dX11_goesBy_13 : decode cX11_goesBy 13 = .ok (.iastore, 1) := by decide +kernel
theorem dX11_goesBy_14 : decode cX11_goesBy 14 = .ok (.iconst 0, 1) := by decide +kernel
theorem dX11_goesBy_15 : decode cX11_goesBy 15 = .ok (.istore_n 2, 1) := by decide +kernel
theorem dX11_goesBy_16 : decode cX11_goesBy 16 = .ok (.iload_n 2, 1) := by decide +kernel
theorem dX11_goesBy_17 : decode cX11_goesBy 17 = .ok (.aload_n 0, 1) := by decide +kernel
theorem dX11_goesBy_18 : decode cX11_goesBy 18 = .ok (.getfield 220, 3) := by decide +kernel
theorem dX11_goesBy_21 : decode cX11_goesBy 21 = .ok (.if_icmp .ge 86, 3) := by decide +kernel
theorem dX11_goesBy_24 : decode cX11_goesBy 24 = .ok (.aload_n 0, 1) := by decide +kernel
theorem dX11_goesBy_25 : decode cX11_goesBy 25 = .ok (.getfield 52, 3) := by decide +kernel
theorem dX11_goesBy_28 : decode cX11_goesBy 28 = .ok (.iload_n 2, 1) := by decide +kernel
theorem dX11_goesBy_29 : decode cX11_goesBy 29 = .ok (.iaload, 1) := by decide +kernel
theorem dX11_goesBy_30 : decode cX11_goesBy 30 = .ok (.iload_n 1, 1) := by decide +kernel
theorem dX11_goesBy_31 : decode cX11_goesBy 31 = .ok (.if_icmp .ne 70, 3) := by decide +kernel
theorem dX11_goesBy_34 : decode cX11_goesBy 34 = .ok (.aload_n 0, 1) := by decide +kernel
theorem dX11_goesBy_35 : decode cX11_goesBy 35 = .ok (.getfield 223, 3) := by decide +kernel
theorem dX11_goesBy_38 : decode cX11_goesBy 38 = .ok (.iload_n 2, 1) := by decide +kernel
theorem dX11_goesBy_39 : decode cX11_goesBy 39 = .ok (.invokestatic 252, 3) := by decide +kernel
theorem dX11_goesBy_42 : decode cX11_goesBy 42 = .ok (.ifCond .ne 59, 3) := by decide +kernel
theorem dX11_goesBy_45 : decode cX11_goesBy 45 = .ok (.aload_n 0, 1) := by decide +kernel
theorem dX11_goesBy_46 : decode cX11_goesBy 46 = .ok (.getfield 94, 3) := by decide +kernel
theorem dX11_goesBy_49 : decode cX11_goesBy 49 = .ok (.iload_n 1, 1) := by decide +kernel
theorem dX11_goesBy_50 : decode cX11_goesBy 50 = .ok (.aload_n 0, 1) := by decide +kernel
theorem dX11_goesBy_51 : decode cX11_goesBy 51 = .ok (.getfield 49, 3) := by decide +kernel
theorem dX11_goesBy_54 : decode cX11_goesBy 54 = .ok (.iload_n 2, 1) := by decide +kernel
theorem dX11_goesBy_55 : decode cX11_goesBy 55 = .ok (.iaload, 1) := by decide +kernel
theorem dX11_goesBy_56 : decode cX11_goesBy 56 = .ok (.ifCond .ne 7, 3) := by decide +kernel
theorem dX11_goesBy_59 : decode cX11_goesBy 59 = .ok (.iconst 1, 1) := by decide +kernel
theorem dX11_goesBy_60 : decode cX11_goesBy 60 = .ok (.goto 9, 3) := by decide +kernel
theorem dX11_goesBy_63 : decode cX11_goesBy 63 = .ok (.aload_n 0, 1) := by decide +kernel
theorem dX11_goesBy_64 : decode cX11_goesBy 64 = .ok (.getfield 94, 3) := by decide +kernel
theorem dX11_goesBy_67 : decode cX11_goesBy 67 = .ok (.iload_n 1, 1) := by decide +kernel
theorem dX11_goesBy_68 : decode cX11_goesBy 68 = .ok (.iaload, 1) := by decide +kernel
theorem dX11_goesBy_69 : decode cX11_goesBy 69 = .ok (.iastore, 1) := by decide +kernel
theorem dX11_goesBy_70 : decode cX11_goesBy 70 = .ok (.aload_n 0, 1) := by decide +kernel
theorem dX11_goesBy_71 : decode cX11_goesBy 71 = .ok (.dup, 1) := by decide +kernel
theorem dX11_goesBy_72 : decode cX11_goesBy 72 = .ok (.getfield 256, 3) := by decide +kernel
theorem dX11_goesBy_75 : decode cX11_goesBy 75 = .ok (.aload_n 0, 1) := by decide +kernel
theorem dX11_goesBy_76 : decode cX11_goesBy 76 = .ok (.getfield 49, 3) := by decide +kernel
theorem dX11_goesBy_79 : decode cX11_goesBy 79 = .ok (.iload_n 2, 1) := by decide +kernel
theorem dX11_goesBy_80 : decode cX11_goesBy 80 = .ok (.iaload, 1) := by decide +kernel
theorem dX11_goesBy_81 : decode cX11_goesBy 81 = .ok (.iconst 1, 1) := by decide +kernel
theorem dX11_goesBy_82 : decode cX11_goesBy 82 = .ok (.if_icmp .ne 14, 3) := by decide +kernel
theorem dX11_goesBy_85 : decode cX11_goesBy 85 = .ok (.iconst 1, 1) := by decide +kernel
theorem dX11_goesBy_86 : decode cX11_goesBy 86 = .ok (.aload_n 0, 1) := by decide +kernel
theorem dX11_goesBy_87 : decode cX11_goesBy 87 = .ok (.getfield 55, 3) := by decide +kernel
theorem dX11_goesBy_90 : decode cX11_goesBy 90 = .ok (.iload_n 2, 1) := by decide +kernel
theorem dX11_goesBy_91 : decode cX11_goesBy 91 = .ok (.iaload, 1) := by decide +kernel
theorem dX11_goesBy_92 : decode cX11_goesBy 92 = .ok (.ishl, 1) := by decide +kernel
theorem dX11_goesBy_93 : decode cX11_goesBy 93 = .ok (.goto 4, 3) := by decide +kernel
theorem dX11_goesBy_96 : decode cX11_goesBy 96 = .ok (.iconst 0, 1) := by decide +kernel
theorem dX11_goesBy_97 : decode cX11_goesBy 97 = .ok (.ior, 1) := by decide +kernel
theorem dX11_goesBy_98 : decode cX11_goesBy 98 = .ok (.putfield 256, 3) := by decide +kernel
theorem dX11_goesBy_101 : decode cX11_goesBy 101 = .ok (.iinc 2 1, 3) := by decide +kernel
theorem dX11_goesBy_104 : decode cX11_goesBy 104 = .ok (.goto (-88), 3) := by decide +kernel
theorem dX11_goesBy_107 : decode cX11_goesBy 107 = .ok (.aload_n 0, 1) := by decide +kernel
theorem dX11_goesBy_108 : decode cX11_goesBy 108 = .ok (.iload_n 1, 1) := by decide +kernel
theorem dX11_goesBy_109 : decode cX11_goesBy 109 = .ok (.invokevirtual 259, 3) := by decide +kernel
theorem dX11_goesBy_112 : decode cX11_goesBy 112 = .ok (.iconst 0, 1) := by decide +kernel
theorem dX11_goesBy_113 : decode cX11_goesBy 113 = .ok (.istore_n 2, 1) := by decide +kernel
theorem dX11_goesBy_114 : decode cX11_goesBy 114 = .ok (.iload_n 2, 1) := by decide +kernel
theorem dX11_goesBy_115 : decode cX11_goesBy 115 = .ok (.aload_n 0, 1) := by decide +kernel
theorem dX11_goesBy_116 : decode cX11_goesBy 116 = .ok (.getfield 161, 3) := by decide +kernel
theorem dX11_goesBy_119 : decode cX11_goesBy 119 = .ok (.if_icmp .ge 35, 3) := by decide +kernel
theorem dX11_goesBy_122 : decode cX11_goesBy 122 = .ok (.aload_n 0, 1) := by decide +kernel
theorem dX11_goesBy_123 : decode cX11_goesBy 123 = .ok (.getfield 94, 3) := by decide +kernel
theorem dX11_goesBy_126 : decode cX11_goesBy 126 = .ok (.iload_n 1, 1) := by decide +kernel
theorem dX11_goesBy_127 : decode cX11_goesBy 127 = .ok (.iaload, 1) := by decide +kernel
theorem dX11_goesBy_128 : decode cX11_goesBy 128 = .ok (.ifCond .ne 26, 3) := by decide +kernel
theorem dX11_goesBy_131 : decode cX11_goesBy 131 = .ok (.aload_n 0, 1) := by decide +kernel
theorem dX11_goesBy_132 : decode cX11_goesBy 132 = .ok (.getfield 256, 3) := by decide +kernel
theorem dX11_goesBy_135 : decode cX11_goesBy 135 = .ok (.iload_n 2, 1) := by decide +kernel
theorem dX11_goesBy_136 : decode cX11_goesBy 136 = .ok (.invokestatic 252, 3) := by decide +kernel
theorem dX11_goesBy_139 : decode cX11_goesBy 139 = .ok (.ifCond .ne 9, 3) := by decide +kernel
theorem dX11_goesBy_142 : decode cX11_goesBy 142 = .ok (.aload_n 0, 1) := by decide +kernel
theorem dX11_goesBy_143 : decode cX11_goesBy 143 = .ok (.iload_n 2, 1) := by decide +kernel
theorem dX11_goesBy_144 : decode cX11_goesBy 144 = .ok (.iload_n 1, 1) := by decide +kernel
theorem dX11_goesBy_145 : decode cX11_goesBy 145 = .ok (.invokevirtual 263, 3) := by decide +kernel
theorem dX11_goesBy_148 : decode cX11_goesBy 148 = .ok (.iinc 2 1, 3) := by decide +kernel
theorem dX11_goesBy_151 : decode cX11_goesBy 151 = .ok (.goto (-37), 3) := by decide +kernel
theorem dX11_goesBy_154 : decode cX11_goesBy 154 = .ok (.aload_n 0, 1) := by decide +kernel
theorem dX11_goesBy_155 : decode cX11_goesBy 155 = .ok (.getfield 91, 3) := by decide +kernel
theorem dX11_goesBy_158 : decode cX11_goesBy 158 = .ok (.iload_n 1, 1) := by decide +kernel
theorem dX11_goesBy_159 : decode cX11_goesBy 159 = .ok (.aload_n 0, 1) := by decide +kernel
theorem dX11_goesBy_160 : decode cX11_goesBy 160 = .ok (.getfield 256, 3) := by decide +kernel
theorem dX11_goesBy_163 : decode cX11_goesBy 163 = .ok (.iastore, 1) := by decide +kernel
theorem dX11_goesBy_164 : decode cX11_goesBy 164 = .ok (.iconst 0, 1) := by decide +kernel
theorem dX11_goesBy_165 : decode cX11_goesBy 165 = .ok (.istore_n 2, 1) := by decide +kernel
theorem dX11_goesBy_166 : decode cX11_goesBy 166 = .ok (.iload_n 2, 1) := by decide +kernel
theorem dX11_goesBy_167 : decode cX11_goesBy 167 = .ok (.aload_n 0, 1) := by decide +kernel
theorem dX11_goesBy_168 : decode cX11_goesBy 168 = .ok (.getfield 161, 3) := by decide +kernel
theorem dX11_goesBy_171 : decode cX11_goesBy 171 = .ok (.if_icmp .ge 76, 3) := by decide +kernel
theorem dX11_goesBy_174 : decode cX11_goesBy 174 = .ok (.bipush 8, 2) := by decide +kernel
theorem dX11_goesBy_176 : decode cX11_goesBy 176 = .ok (.iload_n 1, 1) := by decide +kernel
theorem dX11_goesBy_177 : decode cX11_goesBy 177 = .ok (.imul, 1) := by decide +kernel
theorem dX11_goesBy_178 : decode cX11_goesBy 178 = .ok (.iload_n 2, 1) := by decide +kernel
theorem dX11_goesBy_179 : decode cX11_goesBy 179 = .ok (.iadd, 1) := by decide +kernel
theorem dX11_goesBy_180 : decode cX11_goesBy 180 = .ok (.istore_n 3, 1) := by decide +kernel
theorem dX11_goesBy_181 : decode cX11_goesBy 181 = .ok (.aload_n 0, 1) := by decide +kernel
theorem dX11_goesBy_182 : decode cX11_goesBy 182 = .ok (.getfield 76, 3) := by decide +kernel
theorem dX11_goesBy_185 : decode cX11_goesBy 185 = .ok (.iload_n 3, 1) := by decide +kernel
theorem dX11_goesBy_186 : decode cX11_goesBy 186 = .ok (.aload_n 0, 1) := by decide +kernel
theorem dX11_goesBy_187 : decode cX11_goesBy 187 = .ok (.getfield 58, 3) := by decide +kernel
theorem dX11_goesBy_190 : decode cX11_goesBy 190 = .ok (.iload_n 2, 1) := by decide +kernel
theorem dX11_goesBy_191 : decode cX11_goesBy 191 = .ok (.iaload, 1) := by decide +kernel
theorem dX11_goesBy_192 : decode cX11_goesBy 192 = .ok (.iastore, 1) := by decide +kernel
theorem dX11_goesBy_193 : decode cX11_goesBy 193 = .ok (.aload_n 0, 1) := by decide +kernel
theorem dX11_goesBy_194 : decode cX11_goesBy 194 = .ok (.getfield 79, 3) := by decide +kernel
theorem dX11_goesBy_197 : decode cX11_goesBy 197 = .ok (.iload_n 3, 1) := by decide +kernel
theorem dX11_goesBy_198 : decode cX11_goesBy 198 = .ok (.aload_n 0, 1) := by decide +kernel
theorem dX11_goesBy_199 : decode cX11_goesBy 199 = .ok (.getfield 61, 3) := by decide +kernel
theorem dX11_goesBy_202 : decode cX11_goesBy 202 = .ok (.iload_n 2, 1) := by decide +kernel
theorem dX11_goesBy_203 : decode cX11_goesBy 203 = .ok (.iaload, 1) := by decide +kernel
theorem dX11_goesBy_204 : decode cX11_goesBy 204 = .ok (.iastore, 1) := by decide +kernel
theorem dX11_goesBy_205 : decode cX11_goesBy 205 = .ok (.aload_n 0, 1) := by decide +kernel
theorem dX11_goesBy_206 : decode cX11_goesBy 206 = .ok (.getfield 82, 3) := by decide +kernel
theorem dX11_goesBy_209 : decode cX11_goesBy 209 = .ok (.iload_n 3, 1) := by decide +kernel
theorem dX11_goesBy_210 : decode cX11_goesBy 210 = .ok (.aload_n 0, 1) := by decide +kernel
theorem dX11_goesBy_211 : decode cX11_goesBy 211 = .ok (.getfield 64, 3) := by decide +kernel
theorem dX11_goesBy_214 : decode cX11_goesBy 214 = .ok (.iload_n 2, 1) := by decide +kernel
theorem dX11_goesBy_215 : decode cX11_goesBy 215 = .ok (.iaload, 1) := by decide +kernel
theorem dX11_goesBy_216 : decode cX11_goesBy 216 = .ok (.iastore, 1) := by decide +kernel
theorem dX11_goesBy_217 : decode cX11_goesBy 217 = .ok (.aload_n 0, 1) := by decide +kernel
theorem dX11_goesBy_218 : decode cX11_goesBy 218 = .ok (.getfield 85, 3) := by decide +kernel
theorem dX11_goesBy_221 : decode cX11_goesBy 221 = .ok (.iload_n 3, 1) := by decide +kernel
theorem dX11_goesBy_222 : decode cX11_goesBy 222 = .ok (.aload_n 0, 1) := by decide +kernel
theorem dX11_goesBy_223 : decode cX11_goesBy 223 = .ok (.getfield 67, 3) := by decide +kernel
theorem dX11_goesBy_226 : decode cX11_goesBy 226 = .ok (.iload_n 2, 1) := by decide +kernel
theorem dX11_goesBy_227 : decode cX11_goesBy 227 = .ok (.iaload, 1) := by decide +kernel
theorem dX11_goesBy_228 : decode cX11_goesBy 228 = .ok (.iastore, 1) := by decide +kernel
theorem dX11_goesBy_229 : decode cX11_goesBy 229 = .ok (.aload_n 0, 1) := by decide +kernel
theorem dX11_goesBy_230 : decode cX11_goesBy 230 = .ok (.getfield 88, 3) := by decide +kernel
theorem dX11_goesBy_233 : decode cX11_goesBy 233 = .ok (.iload_n 3, 1) := by decide +kernel
theorem dX11_goesBy_234 : decode cX11_goesBy 234 = .ok (.aload_n 0, 1) := by decide +kernel
theorem dX11_goesBy_235 : decode cX11_goesBy 235 = .ok (.getfield 70, 3) := by decide +kernel
theorem dX11_goesBy_238 : decode cX11_goesBy 238 = .ok (.iload_n 2, 1) := by decide +kernel
theorem dX11_goesBy_239 : decode cX11_goesBy 239 = .ok (.iaload, 1) := by decide +kernel
theorem dX11_goesBy_240 : decode cX11_goesBy 240 = .ok (.iastore, 1) := by decide +kernel
theorem dX11_goesBy_241 : decode cX11_goesBy 241 = .ok (.iinc 2 1, 3) := by decide +kernel
theorem dX11_goesBy_244 : decode cX11_goesBy 244 = .ok (.goto (-78), 3) := by decide +kernel
theorem dX11_goesBy_247 : decode cX11_goesBy 247 = .ok (.return_, 1) := by decide +kernel
theorem c_steersAll (n ns : Nat) (hn : n ≤ 8) (hns : ns ≤ 13) (hc : σ.1 111 2 = nI n) (hs : σ.1 111 16 = nI ns) (hof : ∀ i, i < ns → ∃ j, j < 8 ∧ σ.1 120 i = nI j) (m : Nat) : mMet G l d kX11_steersAll [.ref 111, .int (nI m)] σ (qV (ur σ 130 (steerW n (cF σ) (sF σ) (nI m) (σ.1 130) ns))) := by
  refine mMet.of cm_X11_steersAll rfl (Nat.le_of_ble_eq_true rfl) rfl (fun v1 σ1 h => by rw [h.1]; trivial) ?_
  refine m_iconst (v := 0) dX11_steersAll_0 (by decide) ?_
  refine m_istore_n (ls1 := [(2, _), (0, _), (1, _)]) dX11_steersAll_1 (by decide) rfl ?_
  refine down (N := ns) (fun i (s : mS) => s = ur σ 130 (steerW n (cF σ) (sF σ) (nI m) (σ.1 130) i)) (fun i s => mW G l d kX11_steersAll 2 [(2, .int (nI i)), (0, .ref 111), (1, .int (nI m))] [] s _) ?_ ?_ 0 σ (Nat.zero_le _) (ur_id 130)
  · intro s hs1
    subst hs1
    refine m_iload_n dX11_steersAll_2 0 rfl ?_
    refine m_aload_n dX11_steersAll_3 1 rfl ?_
    refine m_getI 16 dX11_steersAll_4 fl_X11_217_10 rfl (by decide) (by first | assumption | rfl) ?_
    refine m_icmp_ge dX11_steersAll_7 81 (by decide) (fun h => ?_) (fun h => ?_)
    · refine m_return dX11_steersAll_81 ?_
      exact ⟨rfl, rfl⟩
    · exact (ge_yes h hs).elim
  · intro i s hi hs1 ih
    subst hs1
    obtain ⟨j, hj, hji⟩ := hof i hi
    have hjs : sF σ i 1 = nI j := hji
    refine m_iload_n dX11_steersAll_2 0 rfl ?_
    refine m_aload_n dX11_steersAll_3 1 rfl ?_
    refine m_getI 16 dX11_steersAll_4 fl_X11_217_10 rfl (by decide) (by first | assumption | rfl) ?_
    refine m_icmp_ge dX11_steersAll_7 81 (by decide) (fun h => ?_) (fun h => ?_)
    · exact (ge_no hs h rfl hi (by omega)).elim
    · refine m_aload_n dX11_steersAll_10 1 rfl ?_
      refine m_getR 10 120 dX11_steersAll_11 fl_X11_34_10 rfl (by decide) rfl (by first | assumption | rfl) ?_
      refine m_iload_n dX11_steersAll_14 0 rfl ?_
      refine m_iald dX11_steersAll_15 (by first | assumption | rfl) i rfl (by first | assumption | omega | decide) ?_
      refine mW.top (w := nI j) hji ?_
      refine m_istore_n (ls1 := [(3, _), (2, _), (0, _), (1, _)]) dX11_steersAll_16 (by decide) rfl ?_
      refine m_aload_n dX11_steersAll_17 2 rfl ?_
      refine m_getR 9 119 dX11_steersAll_18 fl_X11_31_10 rfl (by decide) rfl (by first | assumption | rfl) ?_
      refine m_iload_n dX11_steersAll_21 1 rfl ?_
      refine m_iald dX11_steersAll_22 (by first | assumption | rfl) i rfl (by first | assumption | omega | decide) ?_
      refine m_iload_n dX11_steersAll_23 3 rfl ?_
      refine m_icmp_ne dX11_steersAll_24 75 (by decide) (fun h24 => ?_) (fun h24 => ?_)
      · refine m_iinc (v := nI (i + 1)) (ls1 := [(2, _), (3, _), (0, _), (1, _)]) dX11_steersAll_75 1 rfl (nI_1 i) (by decide) rfl ?_
        refine m_goto dX11_steersAll_78 2 (by decide) ?_
        refine mW.sub (ls1 := [(2, _), (0, _), (1, _)]) [0, 2, 3] rfl ?_
        exact ih _ (by rw [steerW, if_neg (fun q => h24 q.1)])
      · refine m_iload_n dX11_steersAll_27 0 rfl ?_
        refine m_aload_n dX11_steersAll_28 2 rfl ?_
        refine m_getI 2 dX11_steersAll_29 fl_X11_161_10 rfl (by decide) (by first | assumption | rfl) ?_
        refine m_icmp_ge dX11_steersAll_32 75 (by decide) (fun h32 => ?_) (fun h32 => ?_)
        · refine m_iinc (v := nI (i + 1)) (ls1 := [(2, _), (3, _), (0, _), (1, _)]) dX11_steersAll_75 1 rfl (nI_1 i) (by decide) rfl ?_
          refine m_goto dX11_steersAll_78 2 (by decide) ?_
          refine mW.sub (ls1 := [(2, _), (0, _), (1, _)]) [0, 2, 3] rfl ?_
          exact ih _ (by rw [steerW, if_neg (fun q => absurd q.2.1 (Int32.not_lt.mpr (by rw [hjs]; rw [← hc]; exact h32)))])
        · refine m_aload_n dX11_steersAll_35 2 rfl ?_
          refine m_getR 3 114 dX11_steersAll_36 fl_X11_16_10 rfl (by decide) rfl (by first | assumption | rfl) ?_
          refine m_iload_n dX11_steersAll_39 0 rfl ?_
          refine m_iald dX11_steersAll_40 (by first | assumption | rfl) j rfl (by first | assumption | omega | decide) ?_
          refine m_iconst (v := 1) dX11_steersAll_41 (by decide) ?_
          refine m_icmp_eq dX11_steersAll_42 75 (by decide) (fun h42 => ?_) (fun h42 => ?_)
          · refine m_iinc (v := nI (i + 1)) (ls1 := [(2, _), (3, _), (0, _), (1, _)]) dX11_steersAll_75 1 rfl (nI_1 i) (by decide) rfl ?_
            refine m_goto dX11_steersAll_78 2 (by decide) ?_
            refine mW.sub (ls1 := [(2, _), (0, _), (1, _)]) [0, 2, 3] rfl ?_
            exact ih _ (by rw [steerW, if_neg (fun q => by have := q.2.2; rw [hjs, nI_clamp (by omega)] at this; exact this h42)])
          · refine m_aload_n dX11_steersAll_45 2 rfl ?_
            refine m_getR 24 130 dX11_steersAll_46 fl_X11_64_10 rfl (by decide) rfl (by first | assumption | rfl) ?_
            refine m_iload_n dX11_steersAll_49 0 rfl ?_
            refine m_aload_n dX11_steersAll_50 2 rfl ?_
            refine m_getR 24 130 dX11_steersAll_51 fl_X11_64_10 rfl (by decide) rfl (by first | assumption | rfl) ?_
            refine m_iload_n dX11_steersAll_54 0 rfl ?_
            refine m_iald dX11_steersAll_55 (by first | assumption | rfl) j rfl (by first | assumption | omega | decide) ?_
            refine m_aload_n dX11_steersAll_56 2 rfl ?_
            refine m_getR 11 121 dX11_steersAll_57 fl_X11_37_10 rfl (by decide) rfl (by first | assumption | rfl) ?_
            refine m_iload_n dX11_steersAll_60 1 rfl ?_
            refine m_iald dX11_steersAll_61 (by first | assumption | rfl) i rfl (by first | assumption | omega | decide) ?_
            refine m_iconst (v := 1) dX11_steersAll_62 (by decide) ?_
            refine m_sel (pcJ := 71) ?_ (fun kt0 kf0 => m_icmp_ne dX11_steersAll_63 70 (by decide) (fun h => (m_iconst (v := 3) dX11_steersAll_70 (by decide) (kf0 h))) (fun h => (m_iconst (v := 1) dX11_steersAll_66 (by decide) (m_goto dX11_steersAll_67 71 (by decide) (kt0 h)))))
            refine m_iadd dX11_steersAll_71 ?_
            refine m_iconst (v := 4) dX11_steersAll_72 (by decide) ?_
            refine m_irem dX11_steersAll_73 (by decide) ?_
            refine m_iast dX11_steersAll_74 (by first | assumption | rfl) j rfl (by first | assumption | omega | decide) ?_
            refine m_iinc (v := nI (i + 1)) (ls1 := [(2, _), (3, _), (0, _), (1, _)]) dX11_steersAll_75 1 rfl (nI_1 i) (by decide) rfl ?_
            refine m_goto dX11_steersAll_78 2 (by decide) ?_
            refine mW.sub (ls1 := [(2, _), (0, _), (1, _)]) [0, 2, 3] rfl ?_
            refine ih _ ?_
            rw [us_ur, steerW, hjs, nI_clamp (by omega)]
            exact congrArg (ur σ 130) (Eq.trans rfl (if_pos ⟨h24, by rw [← hc]; exact Int32.not_le.mp h32, h42⟩).symm)
theorem driveR_cut {n : Nat} {c : Nat → Nat → Int32} {k : Nat} {mo : Int32} {r : RS} : (driveR n c k mo r).2.2.2.2.2.2.1 = r.2.2.2.2.2.2.1 := by
  unfold driveR driveW
  split
  · rfl
  · split
    · rfl
    · unfold rInto intoR
      split <;> rfl
theorem driveAll_cut {n : Nat} {c : Nat → Nat → Int32} {mo cut cu : Int32} {r : RS} (h : r.2.2.2.2.2.2.1 = cu) : ∀ k, (driveAll n c mo cut r k).2.2.2.2.2.2.1 = cu
  | 0 => h
  | k + 1 => by
    unfold driveAll
    split
    · exact driveAll_cut h k
    · rw [driveR_cut]; exact driveAll_cut h k
/-- what a moment may change -/
abbrev wG (m : Nat) : Nat → Nat → Prop := fun y z => (128 ≤ y ∧ y ≤ 133) ∨ (y = 111 ∧ 28 ≤ z ∧ z ≤ 31) ∨ (139 ≤ y ∧ y ≤ 141 ∧ z = m) ∨ (134 ≤ y ∧ y ≤ 138 ∧ 8 * m ≤ z ∧ z < 8 * m + 8)
theorem c_goesBy (hd : 5 ≤ d) (n ns e : Nat) (hn : n ≤ 8) (hns : ns ≤ 13) (he9 : e ≤ 9) (hc : σ.1 111 2 = nI n) (hs : σ.1 111 16 = nI ns) (he : σ.1 111 17 = nI e) (hof : ∀ i, i < ns → ∃ j, j < 8 ∧ σ.1 120 i = nI j) (m : Nat) (hm : m < 24) : mMet G l d kX11_goesBy [.ref 111, .int (nI m)] σ (qVP (fun s => gR s m = goR (debR σ n ns e) (nI m) (gR σ m) ∧ s.1 140 m = rungD (debR σ n ns e) (nI m) ∧ s.1 139 m = s.1 111 28 ∧ (∀ k, k < n → s.1 134 (8 * m + k) = s.1 128 k ∧ s.1 135 (8 * m + k) = s.1 129 k ∧ s.1 136 (8 * m + k) = s.1 130 k ∧ s.1 137 (8 * m + k) = s.1 131 k ∧ s.1 138 (8 * m + k) = s.1 132 k) ∧ fW (wG m) σ s)) := by
  refine mMet.of cm_X11_goesBy rfl (Nat.le_of_ble_eq_true rfl) rfl (fun v1 σ1 h => by rw [h.1]; trivial) ?_
  refine m_aload_n dX11_goesBy_0 0 rfl ?_
  refine m_getR 38 140 dX11_goesBy_1 fl_X11_94_10 rfl (by decide) rfl (by first | assumption | rfl) ?_
  refine m_iload_n dX11_goesBy_4 1 rfl ?_
  refine m_iconst (v := 0) dX11_goesBy_5 (by decide) ?_
  refine m_iast dX11_goesBy_6 (by first | assumption | rfl) m rfl (by first | assumption | omega | decide) ?_
  refine m_aload_n dX11_goesBy_7 0 rfl ?_
  refine m_getR 39 141 dX11_goesBy_8 fl_X11_97_10 rfl (by decide) rfl (by first | assumption | rfl) ?_
  refine m_iload_n dX11_goesBy_11 1 rfl ?_
  refine m_iconst (v := 0) dX11_goesBy_12 (by decide) ?_
  refine m_iast dX11_goesBy_13 (by first | assumption | rfl) m rfl (by first | assumption | omega | decide) ?_
  refine m_iconst (v := 0) dX11_goesBy_14 (by decide) ?_
  refine m_istore_n (ls1 := [(2, _), (0, _), (1, _)]) dX11_goesBy_15 (by decide) rfl ?_
  refine down (N := e) (fun i (s : mS) => s.1 140 m = rungE (vF σ) (σ.1 111 21) (nI m) i ∧ s.1 111 28 = cutE (vF σ) (σ.1 111 21) (nI m) (σ.1 111 28) i ∧ s.1 141 m = 0 ∧ fW (fun y z => (y = 140 ∧ z = m) ∨ (y = 141 ∧ z = m) ∨ (y = 111 ∧ z = 28)) σ s) (fun i s => mW G l d kX11_goesBy 16 [(2, .int (nI i)), (0, .ref 111), (1, .int (nI m))] [] s _) ?_ ?_ 0 _ (Nat.zero_le _) ⟨?_, ?_, ?_, fW.us (by omega) (fW.us (by omega) fW.rf)⟩
  · rintro s ⟨i1, i2, i3, i4⟩
    refine m_iload_n dX11_goesBy_16 0 rfl ?_
    refine m_aload_n dX11_goesBy_17 1 rfl ?_
    refine m_getI 17 dX11_goesBy_18 fl_X11_220_10 rfl (by decide) (by first | assumption | rfl) ?_
    refine m_icmp_ge dX11_goesBy_21 107 (by decide) (fun h => ?_) (fun h => ?_)
    · clear h
      have r : ∀ y, 112 ≤ y → y ≤ 139 → s.1 y = σ.1 y := fun y _ _ => i4.row (fun z => by omega)
      have hcs : cF s = cF σ := cF_eq (fun y a b => r y (by omega) (by omega))
      have hss : sF s = sF σ := sF_eq (fun y a b => r y (by omega) (by omega))
      refine m_aload_n dX11_goesBy_107 1 rfl ?_
      refine m_iload_n dX11_goesBy_108 2 rfl ?_
      refine m_callV (As := [_]) dX11_goesBy_109 cv_X11_259 (by first | assumption | rfl) (by decide) (by omega) rfl rfl (Nat.le_of_ble_eq_true rfl) (c_steersAll (d := d - 1) n ns hn hns ((i4.at (by omega)).trans hc) ((i4.at (by omega)).trans hs) (fun i hi => by rw [r 120 (by omega) (by omega)]; exact hof i hi) m) (fun v1 σ1 hv1 => ?_)
      refine m_qV hv1 ?_
      clear hv1 v1 σ1
      rw [hcs, hss, r 130 (by omega) (by omega)]
      generalize hD : debR σ n ns e = D
      refine mW.cut (fun s2 => gR s2 m = readyR D (nI m) (gR σ m) ∧ s2.1 140 m = rungD D (nI m) ∧ fW (wG m) σ s2) ⟨?_, ?_, ?_⟩ (fun s2 h2 => ?_)
      · subst hD
        show (s.1 128, s.1 129, steerW n (cF σ) (sF σ) (nI m) (σ.1 130) ns, s.1 131, s.1 132, s.1 133, s.1 111 28, s.1 111 29, s.1 111 30, s.1 111 31, s.1 141 m) = _
        rw [r 128 (by omega) (by omega), r 129 (by omega) (by omega), r 131 (by omega) (by omega), r 132 (by omega) (by omega), r 133 (by omega) (by omega), i2, i3, i4.at (y := 111) (z := 29) (by omega), i4.at (y := 111) (z := 30) (by omega), i4.at (y := 111) (z := 31) (by omega)]
        rfl
      · subst hD
        exact i1
      · exact fW.ur (fun z => by omega) (i4.mono (fun y z h => by omega))
      obtain ⟨g2, r2, f2⟩ := h2
      clear i1 i2 i3 i4 r hcs hss
      suffices K : ∀ (kk : Int32) (s3 : mS), gR s3 m = goR D (nI m) (gR σ m) → s3.1 140 m = rungD D (nI m) → fW (wG m) σ s3 → mW G l d kX11_goesBy 154 [(2, .int kk), (0, .ref 111), (1, .int (nI m))] [] s3 _ by
        by_cases hr : rungD D (nI m) = 0
        · have hgo : goR D (nI m) (gR σ m) = driveAll n (cF σ) (nI m) (cutD D (nI m) (σ.1 111 28)) (readyR D (nI m) (gR σ m)) n := by rw [goR, if_pos hr, ← hD]
          refine m_iconst (v := 0) dX11_goesBy_112 (by decide) ?_
          refine m_istore_n (ls1 := [(2, _), (0, _), (1, _)]) dX11_goesBy_113 (by decide) rfl ?_
          refine down (N := n) (fun k (s3 : mS) => gR s3 m = driveAll n (cF σ) (nI m) (cutD D (nI m) (σ.1 111 28)) (readyR D (nI m) (gR σ m)) k ∧ s3.1 140 m = 0 ∧ fW (wG m) σ s3) (fun k s3 => mW G l d kX11_goesBy 114 [(2, .int (nI k)), (0, .ref 111), (1, .int (nI m))] [] s3 _) ?_ ?_ 0 s2 (Nat.zero_le _) ⟨g2, r2.trans hr, f2⟩
          · rintro s3 ⟨a1, a2, a3⟩
            refine m_iload_n dX11_goesBy_114 0 rfl ?_
            refine m_aload_n dX11_goesBy_115 1 rfl ?_
            refine m_getI 2 dX11_goesBy_116 fl_X11_161_10 rfl (by decide) (by first | assumption | rfl) ?_
            refine m_icmp_ge dX11_goesBy_119 154 (by decide) (fun h => ?_) (fun h => ?_)
            · exact K _ s3 (a1.trans hgo.symm) (a2.trans hr.symm) a3
            · exact (ge_yes h ((a3.at (by omega)).trans hc)).elim
          · rintro k s3 hk ⟨a1, a2, a3⟩ ih
            have hcut : s3.1 111 28 = cutD D (nI m) (σ.1 111 28) := by
              have h9 : ∀ k, (driveAll n (cF σ) (nI m) (cutD D (nI m) (σ.1 111 28)) (readyR D (nI m) (gR σ m)) k).2.2.2.2.2.2.1 = cutD D (nI m) (σ.1 111 28) := fun k => driveAll_cut rfl k
              rw [← h9 k, ← a1]
            refine m_iload_n dX11_goesBy_114 0 rfl ?_
            refine m_aload_n dX11_goesBy_115 1 rfl ?_
            refine m_getI 2 dX11_goesBy_116 fl_X11_161_10 rfl (by decide) (by first | assumption | rfl) ?_
            refine m_icmp_ge dX11_goesBy_119 154 (by decide) (fun h => ?_) (fun h => ?_)
            · exact (ge_no ((a3.at (by omega)).trans hc) h rfl hk (by omega)).elim
            · clear h
              refine m_aload_n dX11_goesBy_122 1 rfl ?_
              refine m_getR 38 140 dX11_goesBy_123 fl_X11_94_10 rfl (by decide) rfl (by first | assumption | rfl) ?_
              refine m_iload_n dX11_goesBy_126 2 rfl ?_
              refine m_iald dX11_goesBy_127 (by first | assumption | rfl) m rfl (by first | assumption | omega | decide) ?_
              refine mW.top a2 ?_
              refine m_if_ne dX11_goesBy_128 154 (by decide) (fun h => ?_) (fun h => ?_)
              · exact absurd rfl h
              · clear h
                refine m_aload_n dX11_goesBy_131 1 rfl ?_
                refine m_getI 28 dX11_goesBy_132 fl_X11_256_10 rfl (by decide) (by first | assumption | rfl) ?_
                refine mW.top hcut ?_
                refine m_iload_n dX11_goesBy_135 0 rfl ?_
                refine m_callS (As := [_, _]) dX11_goesBy_136 cs_X11_252 (by omega) rfl rfl (Nat.le_of_ble_eq_true rfl) (c_isIn (d := d - 1) _ (nI k)) (fun v1 σ1 hv1 => ?_)
                refine m_qI hv1 ?_
                clear hv1 v1 σ1
                refine m_if_ne dX11_goesBy_139 148 (by decide) (fun h9 => ?_) (fun h9 => ?_)
                · refine m_iinc (v := nI (k + 1)) (ls1 := [(2, _), (0, _), (1, _)]) dX11_goesBy_148 0 rfl (nI_1 k) (by decide) rfl ?_
                  refine m_goto dX11_goesBy_151 114 (by decide) ?_
                  exact ih _ ⟨a1.trans (if_pos (bI1 h9)).symm, a2, a3⟩
                · refine m_aload_n dX11_goesBy_142 1 rfl ?_
                  refine m_iload_n dX11_goesBy_143 0 rfl ?_
                  refine m_iload_n dX11_goesBy_144 2 rfl ?_
                  refine m_callV (As := [_, _]) dX11_goesBy_145 cv_X11_263 (by first | assumption | rfl) (by decide) (by omega) rfl rfl (Nat.le_of_ble_eq_true rfl) (c_drives (d := d - 1) (by omega) n hn ((a3.at (by omega)).trans hc) k m hk hm) (fun v1 σ1 hv1 => ?_)
                  refine m_qVP hv1 (fun hp => ?_)
                  clear hv1 v1
                  rename mS => s4
                  refine m_iinc (v := nI (k + 1)) (ls1 := [(2, _), (0, _), (1, _)]) dX11_goesBy_148 0 rfl (nI_1 k) (by decide) rfl ?_
                  refine m_goto dX11_goesBy_151 114 (by decide) ?_
                  refine ih _ ⟨?_, ?_, a3.tr (hp.2.fW.mono (fun y z h => by omega))⟩
                  · rw [hp.1, a1, a3.row (y := 118) (fun z => by omega), a3.row (y := 114) (fun z => by omega)]; exact (if_neg (bI0 h9)).symm
                  · rw [hp.2.at (by omega)]; exact a2
        · have hgo : goR D (nI m) (gR σ m) = readyR D (nI m) (gR σ m) := by rw [goR, if_neg hr]
          refine m_iconst (v := 0) dX11_goesBy_112 (by decide) ?_
          refine m_istore_n (ls1 := [(2, _), (0, _), (1, _)]) dX11_goesBy_113 (by decide) rfl ?_
          refine m_iload_n dX11_goesBy_114 0 rfl ?_
          refine m_aload_n dX11_goesBy_115 1 rfl ?_
          refine m_getI 2 dX11_goesBy_116 fl_X11_161_10 rfl (by decide) (by first | assumption | rfl) ?_
          refine m_icmp_ge dX11_goesBy_119 154 (by decide) (fun h => ?_) (fun h => ?_)
          · exact K _ s2 (g2.trans hgo.symm) r2 f2
          · refine m_aload_n dX11_goesBy_122 1 rfl ?_
            refine m_getR 38 140 dX11_goesBy_123 fl_X11_94_10 rfl (by decide) rfl (by first | assumption | rfl) ?_
            refine m_iload_n dX11_goesBy_126 2 rfl ?_
            refine m_iald dX11_goesBy_127 (by first | assumption | rfl) m rfl (by first | assumption | omega | decide) ?_
            refine m_if_ne dX11_goesBy_128 154 (by decide) (fun h => ?_) (fun h => ?_)
            · exact K _ s2 (g2.trans hgo.symm) r2 f2
            · exact absurd (r2.symm.trans h) hr
      intro kk s3 g3 r3 f3
      clear g2 r2 f2
      refine m_aload_n dX11_goesBy_154 1 rfl ?_
      refine m_getR 37 139 dX11_goesBy_155 fl_X11_91_10 rfl (by decide) rfl (by first | assumption | rfl) ?_
      refine m_iload_n dX11_goesBy_158 2 rfl ?_
      refine m_aload_n dX11_goesBy_159 1 rfl ?_
      refine m_getI 28 dX11_goesBy_160 fl_X11_256_10 rfl (by decide) (by first | assumption | rfl) ?_
      refine m_iast dX11_goesBy_163 (by first | assumption | rfl) m rfl (by first | assumption | omega | decide) ?_
      refine m_iconst (v := 0) dX11_goesBy_164 (by decide) ?_
      refine m_istore_n (ls1 := [(2, _), (0, _), (1, _)]) dX11_goesBy_165 (by decide) rfl ?_
      refine down (N := n) (fun k (s4 : mS) => (∀ k', k' < k → s4.1 134 (8 * m + k') = s3.1 128 k' ∧ s4.1 135 (8 * m + k') = s3.1 129 k' ∧ s4.1 136 (8 * m + k') = s3.1 130 k' ∧ s4.1 137 (8 * m + k') = s3.1 131 k' ∧ s4.1 138 (8 * m + k') = s3.1 132 k') ∧ s4.1 139 m = s3.1 111 28 ∧ fW (fun y z => (y = 139 ∧ z = m) ∨ (134 ≤ y ∧ y ≤ 138 ∧ 8 * m ≤ z ∧ z < 8 * m + 8)) s3 s4) (fun k s4 => mW G l d kX11_goesBy 166 [(2, .int (nI k)), (0, .ref 111), (1, .int (nI m))] [] s4 _) ?_ ?_ 0 _ (Nat.zero_le _) ⟨fun k' h => absurd h (Nat.not_lt_zero _), ?_, fW.us (by omega) fW.rf⟩
      · rintro s4 ⟨b1, b2, b3⟩
        have hg : gR s4 m = gR s3 m := by
          show (s4.1 128, s4.1 129, s4.1 130, s4.1 131, s4.1 132, s4.1 133, s4.1 111 28, s4.1 111 29, s4.1 111 30, s4.1 111 31, s4.1 141 m) = _
          rw [b3.row (y := 128) (fun z => by omega), b3.row (y := 129) (fun z => by omega), b3.row (y := 130) (fun z => by omega), b3.row (y := 131) (fun z => by omega), b3.row (y := 132) (fun z => by omega), b3.row (y := 133) (fun z => by omega), b3.row (y := 111) (fun z => by omega), b3.row (y := 141) (fun z => by omega)]
        refine m_iload_n dX11_goesBy_166 0 rfl ?_
        refine m_aload_n dX11_goesBy_167 1 rfl ?_
        refine m_getI 2 dX11_goesBy_168 fl_X11_161_10 rfl (by decide) (by first | assumption | rfl) ?_
        refine m_icmp_ge dX11_goesBy_171 247 (by decide) (fun h => ?_) (fun h => ?_)
        · refine m_return dX11_goesBy_247 ⟨rfl, ?_, ?_, ?_, ?_, ?_⟩
          · rw [hg]; exact g3
          · rw [b3.at (by omega)]; exact r3
          · rw [b2, b3.at (by omega)]
          · intro k hk
            rw [b3.row (y := 128) (fun z => by omega), b3.row (y := 129) (fun z => by omega), b3.row (y := 130) (fun z => by omega), b3.row (y := 131) (fun z => by omega), b3.row (y := 132) (fun z => by omega)]
            exact b1 k hk
          · exact f3.tr (b3.mono (fun y z h => by omega))
        · exact (ge_yes h (((b3.at (by omega)).trans (f3.at (by omega))).trans hc)).elim
      · rintro k s4 hk ⟨b1, b2, b3⟩ ih
        have q0 : s4.1 128 k = s3.1 128 k := b3.at (by omega)
        have q1 : s4.1 129 k = s3.1 129 k := b3.at (by omega)
        have q2 : s4.1 130 k = s3.1 130 k := b3.at (by omega)
        have q3 : s4.1 131 k = s3.1 131 k := b3.at (by omega)
        have q4 : s4.1 132 k = s3.1 132 k := b3.at (by omega)
        refine m_iload_n dX11_goesBy_166 0 rfl ?_
        refine m_aload_n dX11_goesBy_167 1 rfl ?_
        refine m_getI 2 dX11_goesBy_168 fl_X11_161_10 rfl (by decide) (by first | assumption | rfl) ?_
        refine m_icmp_ge dX11_goesBy_171 247 (by decide) (fun h => ?_) (fun h => ?_)
        · exact (ge_no (((b3.at (by omega)).trans (f3.at (by omega))).trans hc) h rfl hk (by omega)).elim
        · clear h
          refine m_bipush (v := 8) dX11_goesBy_174 (by decide) ?_
          refine m_iload_n dX11_goesBy_176 2 rfl ?_
          refine m_imul dX11_goesBy_177 ?_
          refine m_iload_n dX11_goesBy_178 0 rfl ?_
          refine m_iadd dX11_goesBy_179 ?_
          refine mW.top (w := nI (8 * m + k)) (ix8 m k) ?_
          refine m_istore_n (ls1 := [(3, _), (2, _), (0, _), (1, _)]) dX11_goesBy_180 (by decide) rfl ?_
          refine m_aload_n dX11_goesBy_181 2 rfl ?_
          refine m_getR 32 134 dX11_goesBy_182 fl_X11_76_10 rfl (by decide) rfl (by first | assumption | rfl) ?_
          refine m_iload_n dX11_goesBy_185 0 rfl ?_
          refine m_aload_n dX11_goesBy_186 2 rfl ?_
          refine m_getR 22 128 dX11_goesBy_187 fl_X11_58_10 rfl (by decide) rfl (by first | assumption | rfl) ?_
          refine m_iload_n dX11_goesBy_190 1 rfl ?_
          refine m_iald dX11_goesBy_191 (by first | assumption | rfl) k rfl (by first | assumption | omega | decide) ?_
          refine mW.top q0 ?_
          refine m_iast dX11_goesBy_192 (by first | assumption | rfl) (8 * m + k) rfl (by first | assumption | omega | decide) ?_
          refine m_aload_n dX11_goesBy_193 2 rfl ?_
          refine m_getR 33 135 dX11_goesBy_194 fl_X11_79_10 rfl (by decide) rfl (by first | assumption | rfl) ?_
          refine m_iload_n dX11_goesBy_197 0 rfl ?_
          refine m_aload_n dX11_goesBy_198 2 rfl ?_
          refine m_getR 23 129 dX11_goesBy_199 fl_X11_61_10 rfl (by decide) rfl (by first | assumption | rfl) ?_
          refine m_iload_n dX11_goesBy_202 1 rfl ?_
          refine m_iald dX11_goesBy_203 (by first | assumption | rfl) k rfl (by first | assumption | omega | decide) ?_
          refine mW.top q1 ?_
          refine m_iast dX11_goesBy_204 (by first | assumption | rfl) (8 * m + k) rfl (by first | assumption | omega | decide) ?_
          refine m_aload_n dX11_goesBy_205 2 rfl ?_
          refine m_getR 34 136 dX11_goesBy_206 fl_X11_82_10 rfl (by decide) rfl (by first | assumption | rfl) ?_
          refine m_iload_n dX11_goesBy_209 0 rfl ?_
          refine m_aload_n dX11_goesBy_210 2 rfl ?_
          refine m_getR 24 130 dX11_goesBy_211 fl_X11_64_10 rfl (by decide) rfl (by first | assumption | rfl) ?_
          refine m_iload_n dX11_goesBy_214 1 rfl ?_
          refine m_iald dX11_goesBy_215 (by first | assumption | rfl) k rfl (by first | assumption | omega | decide) ?_
          refine mW.top q2 ?_
          refine m_iast dX11_goesBy_216 (by first | assumption | rfl) (8 * m + k) rfl (by first | assumption | omega | decide) ?_
          refine m_aload_n dX11_goesBy_217 2 rfl ?_
          refine m_getR 35 137 dX11_goesBy_218 fl_X11_85_10 rfl (by decide) rfl (by first | assumption | rfl) ?_
          refine m_iload_n dX11_goesBy_221 0 rfl ?_
          refine m_aload_n dX11_goesBy_222 2 rfl ?_
          refine m_getR 25 131 dX11_goesBy_223 fl_X11_67_10 rfl (by decide) rfl (by first | assumption | rfl) ?_
          refine m_iload_n dX11_goesBy_226 1 rfl ?_
          refine m_iald dX11_goesBy_227 (by first | assumption | rfl) k rfl (by first | assumption | omega | decide) ?_
          refine mW.top q3 ?_
          refine m_iast dX11_goesBy_228 (by first | assumption | rfl) (8 * m + k) rfl (by first | assumption | omega | decide) ?_
          refine m_aload_n dX11_goesBy_229 2 rfl ?_
          refine m_getR 36 138 dX11_goesBy_230 fl_X11_88_10 rfl (by decide) rfl (by first | assumption | rfl) ?_
          refine m_iload_n dX11_goesBy_233 0 rfl ?_
          refine m_aload_n dX11_goesBy_234 2 rfl ?_
          refine m_getR 26 132 dX11_goesBy_235 fl_X11_70_10 rfl (by decide) rfl (by first | assumption | rfl) ?_
          refine m_iload_n dX11_goesBy_238 1 rfl ?_
          refine m_iald dX11_goesBy_239 (by first | assumption | rfl) k rfl (by first | assumption | omega | decide) ?_
          refine mW.top q4 ?_
          refine m_iast dX11_goesBy_240 (by first | assumption | rfl) (8 * m + k) rfl (by first | assumption | omega | decide) ?_
          refine m_iinc (v := nI (k + 1)) (ls1 := [(2, _), (3, _), (0, _), (1, _)]) dX11_goesBy_241 1 rfl (nI_1 k) (by decide) rfl ?_
          refine m_goto dX11_goesBy_244 166 (by decide) ?_
          refine mW.sub (ls1 := [(2, _), (0, _), (1, _)]) [0, 2, 3] rfl ?_
          refine ih _ ⟨fun k' hk' => ?_, ?_, fW.us (by omega) (fW.us (by omega) (fW.us (by omega) (fW.us (by omega) (fW.us (by omega) b3))))⟩
          · rcases Nat.lt_succ_iff_lt_or_eq.mp hk' with h | rfl
            · have hb := b1 k' h
              simp [us_at, Nat.ne_of_lt h]
              exact hb
            · simp [us_at]
          · simp [us_at]
            exact b2
      · rw [us_at, if_pos ⟨rfl, rfl⟩]
    · exact (ge_yes h ((i4.at (by omega)).trans he)).elim
  · rintro i s hi ⟨i1, i2, i3, i4⟩ ih
    have hi9 : i < 9 := by omega
    refine m_iload_n dX11_goesBy_16 0 rfl ?_
    refine m_aload_n dX11_goesBy_17 1 rfl ?_
    refine m_getI 17 dX11_goesBy_18 fl_X11_220_10 rfl (by decide) (by first | assumption | rfl) ?_
    refine m_icmp_ge dX11_goesBy_21 107 (by decide) (fun h => ?_) (fun h => ?_)
    · exact (ge_no ((i4.at (by omega)).trans he) h rfl hi (by omega)).elim
    · have e1 : s.1 126 i = σ.1 126 i := i4.at (by omega)
      have e0 : s.1 125 i = σ.1 125 i := i4.at (by omega)
      have e2 : s.1 127 i = σ.1 127 i := i4.at (by omega)
      have em : s.1 111 21 = σ.1 111 21 := i4.at (by omega)
      refine m_aload_n dX11_goesBy_24 1 rfl ?_
      refine m_getR 19 126 dX11_goesBy_25 fl_X11_52_10 rfl (by decide) rfl (by first | assumption | rfl) ?_
      refine m_iload_n dX11_goesBy_28 0 rfl ?_
      refine m_iald dX11_goesBy_29 (by first | assumption | rfl) i rfl (by first | assumption | omega | decide) ?_
      refine mW.top e1 ?_
      refine m_iload_n dX11_goesBy_30 2 rfl ?_
      refine m_icmp_ne dX11_goesBy_31 101 (by decide) (fun h31 => ?_) (fun h31 => ?_)
      · refine m_iinc (v := nI (i + 1)) (ls1 := [(2, _), (0, _), (1, _)]) dX11_goesBy_101 0 rfl (nI_1 i) (by decide) rfl ?_
        refine m_goto dX11_goesBy_104 16 (by decide) ?_
        exact ih _ ⟨by rw [rungE, if_neg (fun q => h31 q.1)]; exact i1, by rw [cutE, if_neg (fun q => h31 q.1)]; exact i2, i3, i4⟩
      · refine m_aload_n dX11_goesBy_34 1 rfl ?_
        refine m_getI 21 dX11_goesBy_35 fl_X11_223_10 rfl (by decide) (by first | assumption | rfl) ?_
        refine mW.top em ?_
        refine m_iload_n dX11_goesBy_38 0 rfl ?_
        refine m_callS (As := [_, _]) dX11_goesBy_39 cs_X11_252 (by omega) rfl rfl (Nat.le_of_ble_eq_true rfl) (c_isIn (d := d - 1) (σ.1 111 21) (nI i)) (fun v1 σ1 hv1 => ?_)
        refine m_qI hv1 ?_
        clear hv1 v1 σ1
        refine m_if_ne dX11_goesBy_42 101 (by decide) (fun h42 => ?_) (fun h42 => ?_)
        · refine m_iinc (v := nI (i + 1)) (ls1 := [(2, _), (0, _), (1, _)]) dX11_goesBy_101 0 rfl (nI_1 i) (by decide) rfl ?_
          refine m_goto dX11_goesBy_104 16 (by decide) ?_
          exact ih _ ⟨by rw [rungE, if_neg (fun q => q.2 (bI1 h42))]; exact i1, by rw [cutE, if_neg (fun q => q.2 (bI1 h42))]; exact i2, i3, i4⟩
        · refine m_aload_n dX11_goesBy_45 1 rfl ?_
          refine m_getR 38 140 dX11_goesBy_46 fl_X11_94_10 rfl (by decide) rfl (by first | assumption | rfl) ?_
          refine m_iload_n dX11_goesBy_49 2 rfl ?_
          refine m_aload_n dX11_goesBy_50 1 rfl ?_
          refine m_getR 18 125 dX11_goesBy_51 fl_X11_49_10 rfl (by decide) rfl (by first | assumption | rfl) ?_
          refine m_iload_n dX11_goesBy_54 0 rfl ?_
          refine m_iald dX11_goesBy_55 (by first | assumption | rfl) i rfl (by first | assumption | omega | decide) ?_
          refine mW.top e0 ?_
          refine m_sel (pcJ := 69) ?_ (fun kt0 kf0 => m_if_ne dX11_goesBy_56 63 (by decide) (fun h => (m_aload_n dX11_goesBy_63 1 rfl (m_getR 38 140 dX11_goesBy_64 fl_X11_94_10 rfl (by decide) rfl (by first | assumption | rfl) (m_iload_n dX11_goesBy_67 2 rfl (m_iald dX11_goesBy_68 (by first | assumption | rfl) m rfl (by first | assumption | omega | decide) (kf0 h)))))) (fun h => (m_iconst (v := 1) dX11_goesBy_59 (by decide) (m_goto dX11_goesBy_60 69 (by decide) (kt0 h)))))
          refine m_iast dX11_goesBy_69 (by first | assumption | rfl) m rfl (by first | assumption | omega | decide) ?_
          refine m_aload_n dX11_goesBy_70 1 rfl ?_
          refine m_dup dX11_goesBy_71 rfl ?_
          refine m_getI 28 dX11_goesBy_72 fl_X11_256_10 rfl (by decide) (by first | assumption | rfl) ?_
          refine mW.top i2 ?_
          refine m_aload_n dX11_goesBy_75 1 rfl ?_
          refine m_getR 18 125 dX11_goesBy_76 fl_X11_49_10 rfl (by decide) rfl (by first | assumption | rfl) ?_
          refine m_iload_n dX11_goesBy_79 0 rfl ?_
          refine m_iald dX11_goesBy_80 (by first | assumption | rfl) i rfl (by first | assumption | omega | decide) ?_
          refine mW.top e0 ?_
          refine m_iconst (v := 1) dX11_goesBy_81 (by decide) ?_
          refine m_sel (pcJ := 97) ?_ (fun kt0 kf0 => m_icmp_ne dX11_goesBy_82 96 (by decide) (fun h => (m_iconst (v := 0) dX11_goesBy_96 (by decide) (kf0 h))) (fun h => (m_iconst (v := 1) dX11_goesBy_85 (by decide) (m_aload_n dX11_goesBy_86 1 rfl (m_getR 20 127 dX11_goesBy_87 fl_X11_55_10 rfl (by decide) rfl (by first | assumption | rfl) (m_iload_n dX11_goesBy_90 0 rfl (m_iald dX11_goesBy_91 (by first | assumption | rfl) i rfl (by first | assumption | omega | decide) (mW.top e2 (m_ishl dX11_goesBy_92 (m_goto dX11_goesBy_93 97 (by decide) (kt0 h)))))))))))
          refine m_ior dX11_goesBy_97 ?_
          refine m_putI 28 dX11_goesBy_98 fw_X11_256_10 rfl (by decide) rfl rfl (by first | assumption | rfl) ?_
          refine m_iinc (v := nI (i + 1)) (ls1 := [(2, _), (0, _), (1, _)]) dX11_goesBy_101 0 rfl (nI_1 i) (by decide) rfl ?_
          refine m_goto dX11_goesBy_104 16 (by decide) ?_
          refine ih _ ⟨?_, ?_, ?_, fW.us (by omega) (fW.us (by omega) i4)⟩
          · refine Eq.trans ?_ (if_pos ⟨h31, bI0 h42⟩).symm; rw [us_at, if_neg (by omega), us_at, if_pos (⟨rfl, rfl⟩ : (140 : Nat) = 140 ∧ m = m), i1]; rfl
          · refine Eq.trans ?_ (if_pos ⟨h31, bI0 h42⟩).symm; rw [us_at, if_pos (⟨rfl, rfl⟩ : (111 : Nat) = 111 ∧ (28 : Nat) = 28)]; rfl
          · rw [us_at, if_neg (by omega), us_at, if_neg (by omega)]; exact i3
  · rw [us_at, if_neg (by omega), us_at, if_pos ⟨rfl, rfl⟩]; rfl
  · rw [us_at, if_neg (by omega), us_at, if_neg (by omega)]; rfl
  · rw [us_at, if_pos ⟨rfl, rfl⟩]
end RG
end
section
/-! ===== what lies beyond the cars doesn't matter ===== -/
section RQ
variable {n : Nat} {r q : RS}
/-- alike for the first n cars, but for the strikes of this moment by which both stay -/
def Req (n : Nat) (r q : RS) : Prop := (∀ k, k < n → r.1 k = q.1 k ∧ r.2.1 k = q.2.1 k ∧ r.2.2.1 k = q.2.2.1 k ∧ r.2.2.2.1 k = q.2.2.2.1 k ∧ r.2.2.2.2.1 k = q.2.2.2.2.1 k ∧ r.2.2.2.2.2.1 k = q.2.2.2.2.2.1 k) ∧ r.2.2.2.2.2.2.1 = q.2.2.2.2.2.2.1 ∧ r.2.2.2.2.2.2.2.1 = q.2.2.2.2.2.2.2.1 ∧ r.2.2.2.2.2.2.2.2.1 = q.2.2.2.2.2.2.2.2.1 ∧ r.2.2.2.2.2.2.2.2.2.1 = q.2.2.2.2.2.2.2.2.2.1
def ReqJ (n : Nat) (r q : RS) : Prop := Req n r q ∧ r.2.2.2.2.2.2.2.2.2.2 = q.2.2.2.2.2.2.2.2.2.2
theorem upd_cong {f g : Nat → Int32} {k i : Nat} {v w : Int32} (h : f i = g i) (hv : v = w) : upd f k v i = upd g k w i := by
  subst hv
  by_cases e : i = k
  · subst e; rw [pk_us, pk_us]
  · rw [pk_un e, pk_un e, h]
theorem whoIn_cong {xs ys xs' ys' : Nat → Int32} {x y : Int32} : ∀ n, (∀ k, k < n → xs k = xs' k ∧ ys k = ys' k) → whoIn xs ys x y n = whoIn xs' ys' x y n
  | 0, _ => rfl
  | n + 1, h => by
    unfold whoIn
    rw [(h n (by omega)).1, (h n (by omega)).2, whoIn_cong n (fun k hk => h k (by omega))]
theorem ReqJ.rf : ReqJ n r r := ⟨⟨fun _ _ => ⟨rfl, rfl, rfl, rfl, rfl, rfl⟩, rfl, rfl, rfl, rfl⟩, rfl⟩
theorem ReqJ.turn {k : Nat} {w w1 : Int32} (h : ReqJ n r q) (hw : w = w1) : ReqJ n (turnR k w r) (turnR k w1 q) :=
  ⟨⟨fun i hi => ⟨(h.1.1 i hi).1, (h.1.1 i hi).2.1, upd_cong (h.1.1 i hi).2.2.1 hw, (h.1.1 i hi).2.2.2.1, (h.1.1 i hi).2.2.2.2.1, (h.1.1 i hi).2.2.2.2.2⟩, h.1.2⟩, h.2⟩
theorem ReqJ.move {k : Nat} {x x1 y y1 : Int32} (h : ReqJ n r q) (hx : x = x1) (hy : y = y1) : ReqJ n (moveR k x y r) (moveR k x1 y1 q) :=
  ⟨⟨fun i hi => ⟨upd_cong (h.1.1 i hi).1 hx, upd_cong (h.1.1 i hi).2.1 hy, (h.1.1 i hi).2.2.1, (h.1.1 i hi).2.2.2.1, (h.1.1 i hi).2.2.2.2.1, (h.1.1 i hi).2.2.2.2.2⟩, h.1.2⟩, h.2⟩
theorem ReqJ.jam (h : ReqJ n r q) : ReqJ n (jamR r) (jamR q) := ⟨h.1, congrArg (· + 1) h.2⟩
theorem ReqJ.strike {k o : Nat} {w mo : Int32} (h : ReqJ n r q) (hk : k < n) (ho : o < n) : ReqJ n (strikeR k o w mo r) (strikeR k o w mo q) := by
  obtain ⟨⟨h1, h2, h3, h4, h5⟩, h6⟩ := h
  refine ⟨⟨fun i hi => ⟨(h1 i hi).1, (h1 i hi).2.1, (h1 i hi).2.2.1, upd_cong (h1 i hi).2.2.2.1 ?_, upd_cong (h1 i hi).2.2.2.2.1 ?_, upd_cong (h1 i hi).2.2.2.2.2 ?_⟩, h2, ?_, ?_, ?_⟩, h6⟩
  · rw [(h1 k hk).2.2.2.1, (h1 o ho).2.2.1]
  · rw [(h1 o ho).2.2.2.2.1]
  · rw [(h1 k hk).2.2.2.2.2]
  · show r.2.2.2.2.2.2.2.1 + 1 = q.2.2.2.2.2.2.2.1 + 1
    rw [h3]
  · show (if r.2.2.2.2.2.2.2.2.1 = -1 then mo else r.2.2.2.2.2.2.2.2.1) = (if q.2.2.2.2.2.2.2.2.1 = -1 then mo else q.2.2.2.2.2.2.2.2.1)
    rw [h4]
  · show (if r.2.2.2.2.2.2.2.2.1 = -1 then nI k else r.2.2.2.2.2.2.2.2.2.1) = (if q.2.2.2.2.2.2.2.2.1 = -1 then nI k else q.2.2.2.2.2.2.2.2.2.1)
    rw [h4, h5]
theorem ReqJ.into {k o : Nat} {w : Int32} {wt wu : Nat → Int32} (h : ReqJ n r q) (hk : k < n) (ho : o < n) (hw : ∀ i, i < n → wt i = wu i) : ReqJ n (intoR n wt k o w r) (intoR n wu k o w q) := by
  have e1 := (h.1.1 o ho).1
  have e2 := (h.1.1 o ho).2.1
  have e3 : ∀ x y, whoIn r.1 r.2.1 x y n = whoIn q.1 q.2.1 x y n := fun x y => whoIn_cong n (fun k hk => ⟨(h.1.1 k hk).1, (h.1.1 k hk).2.1⟩)
  unfold intoR
  have e4 : mayR n wt k o w r ↔ mayR n wu k o w q := by
    unfold mayR
    rw [e1, e2, e3, hw k hk, hw o ho]
  by_cases hm : mayR n wt k o w r
  · rw [if_pos hm, if_pos (e4.mp hm)]
    exact (h.move (by rw [e1]) (by rw [e2])).move e1 e2
  · rw [if_neg hm, if_neg (fun z => hm (e4.mpr z))]
    exact h.jam
theorem ReqJ.drvW {k : Nat} {w mo : Int32} {wt wu : Nat → Int32} (hn : n ≤ 8) (h : ReqJ n r q) (hk : k < n) (hw : ∀ i, i < n → wt i = wu i) : ReqJ n (driveW n wt k mo w r) (driveW n wu k mo w q) := by
  have e1 := (h.1.1 k hk).1
  have e2 := (h.1.1 k hk).2.1
  have e0 := (h.1.1 k hk).2.2.1
  have e3 : ∀ x y, whoIn r.1 r.2.1 x y n = whoIn q.1 q.2.1 x y n := fun x y => whoIn_cong n (fun k hk => ⟨(h.1.1 k hk).1, (h.1.1 k hk).2.1⟩)
  unfold driveW
  rw [e1, e2, e3, e0]
  split
  · exact h.turn rfl
  · split
    · exact h.move rfl rfl
    · rename_i h1 h2
      rcases whoIn_of q.1 q.2.1 (q.1 k + stX w) (q.2.1 k + stY w) n hn with h3 | ⟨j, hj, h3⟩
      · exact absurd h3 h2
      · rw [h3, nI_clamp (by omega)]
        exact (h.strike hk hj).into hk hj hw
theorem ReqJ.drv {k : Nat} {mo : Int32} {c c1 : Nat → Nat → Int32} (hn : n ≤ 8) (h : ReqJ n r q) (hk : k < n) (hc : ∀ k, k < n → ∀ j, j < 5 → c k j = c1 k j) : ReqJ n (driveR n c k mo r) (driveR n c1 k mo q) := by
  have e0 : wayR (fun i => c i 0) k r = wayR (fun i => c1 i 0) k q := by
    unfold wayR
    rw [(h.1.1 k hk).2.2.1]
    show (if c k 0 = 2 then _ else _) = (if c1 k 0 = 2 then _ else _)
    rw [hc k hk 0 (by decide)]
  unfold driveR
  rw [e0]
  exact h.drvW hn hk (fun i hi => hc i hi 4 (by decide))
theorem ReqJ.all {c c1 : Nat → Nat → Int32} {mo cut : Int32} (hn : n ≤ 8) (h : ReqJ n r q) (hc : ∀ k, k < n → ∀ j, j < 5 → c k j = c1 k j) : ∀ k, k ≤ n → ReqJ n (driveAll n c mo cut r k) (driveAll n c1 mo cut q k)
  | 0, _ => h
  | k + 1, hk => by
    unfold driveAll
    split
    · exact ReqJ.all hn h hc k (by omega)
    · exact (ReqJ.all hn h hc k (by omega)).drv hn (by omega) hc
/-- the steers tell of cars 0 to 7 -/
def stOK (D : Deb) : Prop := ∀ i, i < D.2.1.1 → ∃ j, j < 8 ∧ D.2.1.2 i 1 = nI j
/-- the same debate, as far as it is told -/
def Deq (D E : Deb) : Prop := D.1.1 = E.1.1 ∧ D.2.1.1 = E.2.1.1 ∧ D.2.2.1.1 = E.2.2.1.1 ∧ D.2.2.2 = E.2.2.2 ∧ (∀ k, k < D.1.1 → ∀ j, j < 5 → D.1.2 k j = E.1.2 k j) ∧ (∀ i, i < D.2.1.1 → ∀ j, j < 3 → D.2.1.2 i j = E.2.1.2 i j) ∧ ∀ i, i < D.2.2.1.1 → ∀ j, j < 3 → D.2.2.1.2 i j = E.2.2.1.2 i j
theorem Deq.rf {D : Deb} : Deq D D := ⟨rfl, rfl, rfl, rfl, fun _ _ _ _ => rfl, fun _ _ _ _ => rfl, fun _ _ _ _ => rfl⟩
theorem steerW_cong {c s c1 s1 : Nat → Nat → Int32} {mo : Int32} {w w1 : Nat → Int32} (hn : n ≤ 8) (h : ∀ k, k < n → w k = w1 k) (hc : ∀ k, k < n → ∀ j, j < 5 → c k j = c1 k j) : ∀ i, (∀ a, a < i → ∀ j, j < 3 → s a j = s1 a j) → (∀ a, a < i → ∃ j, j < 8 ∧ s a 1 = nI j) → ∀ k, k < n → steerW n c s mo w i k = steerW n c1 s1 mo w1 i k
  | 0, _, _, k, hk => h k hk
  | i + 1, ha, hs, k, hk => by
    have ih := steerW_cong (mo := mo) hn h hc i (fun a h => ha a (by omega)) (fun a h => hs a (by omega))
    unfold steerW
    obtain ⟨j, hj, e⟩ := hs i (by omega)
    have e0 := ha i (by omega) 0 (by decide)
    have e1 := ha i (by omega) 1 (by decide)
    have e2 := ha i (by omega) 2 (by decide)
    rw [← e0, ← e1, ← e2, e, nI_clamp (show j < 2 ^ 31 by omega)]
    by_cases hjn : j < n
    · rw [← hc j hjn 0 (by decide)]
      split
      · exact upd_cong (ih k hk) (by rw [ih j hjn])
      · exact ih k hk
    · have hno : ¬ nI j < nI n := fun q => hjn ((nlt (by omega) (by omega)).mp q)
      rw [if_neg (fun q => hno q.2.1), if_neg (fun q => hno q.2.1)]
      exact ih k hk
theorem rungE_cong {v v1 : Nat → Nat → Int32} {mask mo : Int32} : ∀ i, (∀ a, a < i → ∀ j, j < 3 → v a j = v1 a j) → rungE v mask mo i = rungE v1 mask mo i
  | 0, _ => rfl
  | i + 1, h => by
    unfold rungE
    rw [rungE_cong i (fun a ha => h a (by omega)), h i (by omega) 0 (by decide), h i (by omega) 1 (by decide)]
theorem cutE_cong {v v1 : Nat → Nat → Int32} {mask mo cu : Int32} : ∀ i, (∀ a, a < i → ∀ j, j < 3 → v a j = v1 a j) → cutE v mask mo cu i = cutE v1 mask mo cu i
  | 0, _ => rfl
  | i + 1, h => by
    unfold cutE
    rw [cutE_cong i (fun a ha => h a (by omega)), h i (by omega) 0 (by decide), h i (by omega) 1 (by decide), h i (by omega) 2 (by decide)]
theorem Deq.rung {D E : Deb} (h : Deq D E) (mo : Int32) : rungD D mo = rungD E mo := by
  unfold rungD
  rw [← h.2.2.1, ← h.2.2.2.1]
  exact rungE_cong _ h.2.2.2.2.2.2
theorem Deq.cut {D E : Deb} (h : Deq D E) (mo cu : Int32) : cutD D mo cu = cutD E mo cu := by
  unfold cutD
  rw [← h.2.2.1, ← h.2.2.2.1]
  exact cutE_cong _ h.2.2.2.2.2.2
theorem Req.ready {D E : Deb} {mo : Int32} (hD : Deq D E) (hn : D.1.1 ≤ 8) (hs : stOK D) (h : Req D.1.1 r q) : ReqJ D.1.1 (readyR D mo r) (readyR E mo q) := by
  obtain ⟨h1, h2, h3, h4, h5⟩ := h
  refine ⟨⟨fun i hi => ⟨(h1 i hi).1, (h1 i hi).2.1, ?_, (h1 i hi).2.2.2.1, (h1 i hi).2.2.2.2.1, (h1 i hi).2.2.2.2.2⟩, ?_, h3, h4, h5⟩, rfl⟩
  · show steerW D.1.1 D.1.2 D.2.1.2 mo r.2.2.1 D.2.1.1 i = steerW E.1.1 E.1.2 E.2.1.2 mo q.2.2.1 E.2.1.1 i
    rw [← hD.1, ← hD.2.1]
    exact steerW_cong hn (fun k hk => (h1 k hk).2.2.1) hD.2.2.2.2.1 _ hD.2.2.2.2.2.1 hs i hi
  · show cutD D mo _ = cutD E mo _
    rw [h2, hD.cut]
theorem Req.go {D E : Deb} {mo : Int32} (hD : Deq D E) (hn : D.1.1 ≤ 8) (hs : stOK D) (h : Req D.1.1 r q) : ReqJ D.1.1 (goR D mo r) (goR E mo q) := by
  unfold goR
  rw [h.2.1, hD.rung, hD.cut]
  split
  · rw [← hD.1]
    exact (h.ready hD hn hs).all hn hD.2.2.2.2.1 D.1.1 (Nat.le_refl _)
  · exact h.ready hD hn hs
theorem RSt_cong {D E : Deb} (hD : Deq D E) (hn : D.1.1 ≤ 8) (hs : stOK D) : ∀ t, ReqJ D.1.1 (RSt D t) (RSt E t)
  | 0 => ⟨⟨fun k hk => ⟨hD.2.2.2.2.1 k hk 1 (by decide), hD.2.2.2.2.1 k hk 2 (by decide), hD.2.2.2.2.1 k hk 3 (by decide), rfl, rfl, rfl⟩, rfl, rfl, rfl, rfl⟩, rfl⟩
  | t + 1 => (RSt_cong hD hn hs t).1.go hD hn hs
end RQ
end
section
/-! ===== the reference's runs ===== -/
section RU
variable {G : mG} {l : Launch} {d : Nat} {σ : mS}
/-- the reference's rows hold what came of the debate D -/
def outR (D : Deb) (s : mS) : Prop :=
  (∀ t, t < 24 → s.1 140 t = rungD D (nI t) ∧ s.1 139 t = (RSt D (t + 1)).2.2.2.2.2.2.1 ∧ s.1 141 t = (RSt D (t + 1)).2.2.2.2.2.2.2.2.2.2 ∧ ∀ k, k < D.1.1 → s.1 134 (8 * t + k) = (RSt D (t + 1)).1 k ∧ s.1 135 (8 * t + k) = (RSt D (t + 1)).2.1 k ∧ s.1 136 (8 * t + k) = (RSt D (t + 1)).2.2.1 k ∧ s.1 137 (8 * t + k) = (RSt D (t + 1)).2.2.2.1 k ∧ s.1 138 (8 * t + k) = (RSt D (t + 1)).2.2.2.2.1 k) ∧
  Req D.1.1 (gR s 23) (RSt D 24)
/-- what a run may change -/
abbrev wRun : Nat → Nat → Prop := fun y z => (128 ≤ y ∧ y ≤ 141) ∨ (y = 111 ∧ 28 ≤ z ∧ z ≤ 31)
theorem dX11_runs_0 : decode cX11_runs 0 = .ok (.iconst 0, 1) := by decide +kernel
theorem dX11_runs_1 : decode cX11_runs 1 = .ok (.istore_n 1, 1) := by decide +kernel
theorem dX11_runs_2 : decode cX11_runs 2 = .ok (.iload_n 1, 1) := by decide +kernel
theorem dX11_runs_3 : decode cX11_runs 3 = .ok (.aload_n 0, 1) := by decide +kernel
theorem dX11_runs_4 : decode cX11_runs 4 = .ok (.getfield 161, 3) := by decide +kernel
theorem dX11_runs_7 : decode cX11_runs 7 = .ok (.if_icmp .ge 66, 3) := by decide +kernel
theorem dX11_runs_10 : decode cX11_runs 10 = .ok (.aload_n 0, 1) := by decide +kernel
theorem dX11_runs_11 : decode cX11_runs 11 = .ok (.getfield 58, 3) := by decide +kernel
theorem dX11_runs_14 : decode cX11_runs 14 = .ok (.iload_n 1, 1) := by decide +kernel
theorem dX11_runs_15 : decode cX11_runs 15 = .ok (.aload_n 0, 1) := by decide +kernel
theorem dX11_runs_16 : decode cX11_runs 16 = .ok (.getfield 19, 3) := by decide +kernel
theorem dX11_runs_19 : decode cX11_runs 19 = .ok (.iload_n 1, 1) := by decide +kernel
theorem dX11_runs_20 : decode cX11_runs 20 = .ok (.iaload, 1) := by decide +kernel
theorem dX11_runs_21 : decode cX11_runs 21 = .ok (.iastore, 1) := by decide +kernel
theorem dX11_runs_22 : decode cX11_runs 22 = .ok (.aload_n 0, 1) := by decide +kernel
theorem dX11_runs_23 : decode cX11_runs 23 = .ok (.getfield 61, 3) := by decide +kernel
theorem dX11_runs_26 : decode cX11_runs 26 = .ok (.iload_n 1, 1) := by decide +kernel
theorem dX11_runs_27 : decode cX11_runs 27 = .ok (.aload_n 0, 1) := by decide +kernel
theorem dX11_runs_28 : decode cX11_runs 28 = .ok (.getfield 22, 3) := by decide +kernel
theorem dX11_runs_31 : decode cX11_runs 31 = .ok (.iload_n 1, 1) := by decide +kernel
theorem dX11_runs_32 : decode cX11_runs 32 = .ok (.iaload, 1) := by decide +kernel
theorem dX11_runs_33 : decode cX11_runs 33 = .ok (.iastore, 1) := by decide +kernel
theorem dX11_runs_34 : decode cX11_runs 34 = .ok (.aload_n 0, 1) := by decide +kernel
theorem dX11_runs_35 : decode cX11_runs 35 = .ok (.getfield 64, 3) := by decide +kernel
theorem dX11_runs_38 : decode cX11_runs 38 = .ok (.iload_n 1, 1) := by decide +kernel
theorem dX11_runs_39 : decode cX11_runs 39 = .ok (.aload_n 0, 1) := by decide +kernel
theorem dX11_runs_40 : decode cX11_runs 40 = .ok (.getfield 25, 3) := by decide +kernel
theorem dX11_runs_43 : decode cX11_runs 43 = .ok (.iload_n 1, 1) := by decide +kernel
theorem dX11_runs_44 : decode cX11_runs 44 = .ok (.iaload, 1) := by decide +kernel
theorem dX11_runs_45 : decode cX11_runs 45 = .ok (.iastore, 1) := by decide +kernel
theorem dX11_runs_46 : decode cX11_runs 46 = .ok (.aload_n 0, 1) := by decide +kernel
theorem dX11_runs_47 : decode cX11_runs 47 = .ok (.getfield 67, 3) := by decide +kernel
theorem dX11_runs_50 : decode cX11_runs 50 = .ok (.iload_n 1, 1) := by decide +kernel
theorem dX11_runs_51 : decode cX11_runs 51 = .ok (.iconst 0, 1) := by decide +kernel
theorem dX11_runs_52 : decode cX11_runs 52 = .ok (.iastore, 1) := by decide +kernel
theorem dX11_runs_53 : decode cX11_runs 53 = .ok (.aload_n 0, 1) := by decide +kernel
theorem dX11_runs_54 : decode cX11_runs 54 = .ok (.getfield 70, 3) := by decide +kernel
theorem dX11_runs_57 : decode cX11_runs 57 = .ok (.iload_n 1, 1) := by decide +kernel
theorem dX11_runs_58 : decode cX11_runs 58 = .ok (.iconst 0, 1) := by decide +kernel
theorem dX11_runs_59 : decode cX11_runs 59 = .ok (.iastore, 1) := by decide +kernel
theorem dX11_runs_60 : decode cX11_runs 60 = .ok (.aload_n 0, 1) := by decide +kernel
theorem dX11_runs_61 : decode cX11_runs 61 = .ok (.getfield 73, 3) := by decide +kernel
theorem dX11_runs_64 : decode cX11_runs 64 = .ok (.iload_n 1, 1) := by decide +kernel
theorem dX11_runs_65 : decode cX11_runs 65 = .ok (.iconst 0, 1) := by decide +kernel
theorem dX11_runs_66 : decode cX11_runs 66 = .ok (.iastore, 1) := by decide +kernel
theorem dX11_runs_67 : decode cX11_runs 67 = .ok (.iinc 1 1, 3) := by decide +kernel
theorem dX11_runs_70 : decode cX11_runs 70 = .ok (.goto (-68), 3) := by decide +kernel
theorem dX11_runs_73 : decode cX11_runs 73 = .ok (.aload_n 0, 1) := by decide +kernel
theorem dX11_runs_74 : decode cX11_runs 74 = .ok (.iconst 0, 1) := by decide +kernel
theorem dX11_runs_75 : decode cX11_runs 75 = .ok (.putfield 256, 3) := by decide +kernel
theorem dX11_runs_78 : decode cX11_runs 78 = .ok (.aload_n 0, 1) := by decide +kernel
theorem dX11_runs_79 : decode cX11_runs 79 = .ok (.iconst 0, 1) := by decide +kernel
theorem dX11_runs_80 : decode cX11_runs 80 = .ok (.putfield 226, 3) := by decide +kernel
theorem dX11_runs_83 : decode cX11_runs 83 = .ok (.aload_n 0, 1) := by decide +kernel
theorem dX11_runs_84 : decode cX11_runs 84 = .ok (.iconst (-1), 1) := by decide +kernel
theorem dX11_runs_85 : decode cX11_runs 85 = .ok (.putfield 229, 3) := by decide +kernel
theorem dX11_runs_88 : decode cX11_runs 88 = .ok (.aload_n 0, 1) := by decide +kernel
theorem dX11_runs_89 : decode cX11_runs 89 = .ok (.iconst (-1), 1) := by decide +kernel
theorem dX11_runs_90 : decode cX11_runs 90 = .ok (.putfield 232, 3) := by decide +kernel
theorem dX11_runs_93 : decode cX11_runs 93 = .ok (.iconst 0, 1) := by decide +kernel
theorem dX11_runs_94 : decode cX11_runs 94 = .ok (.istore_n 1, 1) := by decide +kernel
theorem dX11_runs_95 : decode cX11_runs 95 = .ok (.iload_n 1, 1) := by decide +kernel
theorem dX11_runs_96 : decode cX11_runs 96 = .ok (.bipush 24, 2) := by decide +kernel
theorem dX11_runs_98 : decode cX11_runs 98 = .ok (.if_icmp .ge 14, 3) := by decide +kernel
theorem dX11_runs_101 : decode cX11_runs 101 = .ok (.aload_n 0, 1) := by decide +kernel
theorem dX11_runs_102 : decode cX11_runs 102 = .ok (.iload_n 1, 1) := by decide +kernel
theorem dX11_runs_103 : decode cX11_runs 103 = .ok (.invokevirtual 267, 3) := by decide +kernel
theorem dX11_runs_106 : decode cX11_runs 106 = .ok (.iinc 1 1, 3) := by decide +kernel
theorem dX11_runs_109 : decode cX11_runs 109 = .ok (.goto (-14), 3) := by decide +kernel
theorem dX11_runs_112 : decode cX11_runs 112 = .ok (.return_, 1) := by decide +kernel
theorem c_runs (hd : 6 ≤ d) (n ns e : Nat) (hn : n ≤ 8) (hns : ns ≤ 13) (he9 : e ≤ 9) (hc : σ.1 111 2 = nI n) (hs : σ.1 111 16 = nI ns) (he : σ.1 111 17 = nI e) (hof : ∀ i, i < ns → ∃ j, j < 8 ∧ σ.1 120 i = nI j) : mMet G l d kX11_runs [.ref 111] σ (qVP (fun s => outR (debR σ n ns e) s ∧ fW wRun σ s)) := by
  refine mMet.of cm_X11_runs rfl (Nat.le_of_ble_eq_true rfl) rfl (fun v1 σ1 h => by rw [h.1]; trivial) ?_
  refine m_iconst (v := 0) dX11_runs_0 (by decide) ?_
  refine m_istore_n (ls1 := [(1, _), (0, _)]) dX11_runs_1 (by decide) rfl ?_
  refine down (N := n) (fun k (s : mS) => (∀ i, i < k → s.1 128 i = σ.1 115 i ∧ s.1 129 i = σ.1 116 i ∧ s.1 130 i = σ.1 117 i ∧ s.1 131 i = 0 ∧ s.1 132 i = 0 ∧ s.1 133 i = 0) ∧ fW wRun σ s) (fun k s => mW G l d kX11_runs 2 [(1, .int (nI k)), (0, .ref 111)] [] s _) ?_ ?_ 0 σ (Nat.zero_le _) ⟨fun i hi => absurd hi (Nat.not_lt_zero _), fW.rf⟩
  · rintro s ⟨i1, i2⟩
    refine m_iload_n dX11_runs_2 0 rfl ?_
    refine m_aload_n dX11_runs_3 1 rfl ?_
    refine m_getI 2 dX11_runs_4 fl_X11_161_10 rfl (by decide) (by first | assumption | rfl) ?_
    refine m_icmp_ge dX11_runs_7 73 (by decide) (fun h => ?_) (fun h => ?_)
    · clear h
      refine m_aload_n dX11_runs_73 1 rfl ?_
      refine m_iconst (v := 0) dX11_runs_74 (by decide) ?_
      refine m_putI 28 dX11_runs_75 fw_X11_256_10 rfl (by decide) rfl rfl (by first | assumption | rfl) ?_
      refine m_aload_n dX11_runs_78 1 rfl ?_
      refine m_iconst (v := 0) dX11_runs_79 (by decide) ?_
      refine m_putI 29 dX11_runs_80 fw_X11_226_10 rfl (by decide) rfl rfl (by first | assumption | rfl) ?_
      refine m_aload_n dX11_runs_83 1 rfl ?_
      refine m_iconst (v := -1) dX11_runs_84 (by decide) ?_
      refine m_putI 30 dX11_runs_85 fw_X11_229_10 rfl (by decide) rfl rfl (by first | assumption | rfl) ?_
      refine m_aload_n dX11_runs_88 1 rfl ?_
      refine m_iconst (v := -1) dX11_runs_89 (by decide) ?_
      refine m_putI 31 dX11_runs_90 fw_X11_232_10 rfl (by decide) rfl rfl (by first | assumption | rfl) ?_
      refine m_iconst (v := 0) dX11_runs_93 (by decide) ?_
      refine m_istore_n (ls1 := [(1, _), (0, _)]) dX11_runs_94 (by decide) rfl ?_
      generalize hD : debR σ n ns e = D
      have hDn : D.1.1 = n := by rw [← hD]
      have hDs : stOK D := by rw [← hD]; exact hof
      refine down (N := 24) (fun t (s : mS) => Req n (gR s 0) (RSt D t) ∧ (∀ u, u < t → s.1 140 u = rungD D (nI u) ∧ s.1 139 u = (RSt D (u + 1)).2.2.2.2.2.2.1 ∧ s.1 141 u = (RSt D (u + 1)).2.2.2.2.2.2.2.2.2.2 ∧ ∀ k, k < n → s.1 134 (8 * u + k) = (RSt D (u + 1)).1 k ∧ s.1 135 (8 * u + k) = (RSt D (u + 1)).2.1 k ∧ s.1 136 (8 * u + k) = (RSt D (u + 1)).2.2.1 k ∧ s.1 137 (8 * u + k) = (RSt D (u + 1)).2.2.2.1 k ∧ s.1 138 (8 * u + k) = (RSt D (u + 1)).2.2.2.2.1 k) ∧ fW wRun σ s) (fun t s => mW G l d kX11_runs 95 [(1, .int (nI t)), (0, .ref 111)] [] s _) ?_ ?_ 0 _ (Nat.zero_le _) ⟨?_, fun u hu => absurd hu (Nat.not_lt_zero _), fW.us (by omega) (fW.us (by omega) (fW.us (by omega) (fW.us (by omega) i2)))⟩
      · rintro s ⟨a1, a2, a3⟩
        refine m_iload_n dX11_runs_95 0 rfl ?_
        refine m_bipush (v := 24) dX11_runs_96 (by decide) ?_
        refine m_icmp_ge dX11_runs_98 112 (by decide) (fun h => ?_) (fun h => ?_)
        · refine m_return dX11_runs_112 ⟨rfl, ⟨fun t ht => ?_, ?_⟩, a3⟩
          · rw [hDn]; exact a2 t ht
          · rw [hDn]; exact a1
        · exact absurd (Int32.le_refl _) h
      · rintro t s ht ⟨a1, a2, a3⟩ ih
        have r : ∀ y, 112 ≤ y → y ≤ 127 → s.1 y = σ.1 y := fun y _ _ => a3.row (fun z => by omega)
        have hDD : debR s n ns e = D := by
          rw [← hD]
          show ((n, cF s), (ns, sF s), (e, vF s), s.1 111 21) = _
          rw [cF_eq (fun y a b => r y (by omega) (by omega)), sF_eq (fun y a b => r y (by omega) (by omega)), vF_eq (fun y a b => r y (by omega) (by omega)), a3.at (by omega)]
        refine m_iload_n dX11_runs_95 0 rfl ?_
        refine m_bipush (v := 24) dX11_runs_96 (by decide) ?_
        refine m_icmp_ge dX11_runs_98 112 (by decide) (fun h => ?_) (fun h => ?_)
        · exact absurd ((nle (a := 24) (by omega) (by omega)).mp h) (by omega)
        · clear h
          refine m_aload_n dX11_runs_101 1 rfl ?_
          refine m_iload_n dX11_runs_102 0 rfl ?_
          refine m_callV (As := [_]) dX11_runs_103 cv_X11_267 (by first | assumption | rfl) (by decide) (by omega) rfl rfl (Nat.le_of_ble_eq_true rfl) (c_goesBy (d := d - 1) (by omega) n ns e hn hns he9 ((a3.at (by omega)).trans hc) ((a3.at (by omega)).trans hs) ((a3.at (by omega)).trans he) (fun i hi => by rw [r 120 (by omega) (by omega)]; exact hof i hi) t ht) (fun v1 σ1 hv1 => ?_)
          refine m_qVP hv1 (fun hp => ?_)
          clear hv1 v1
          rename mS => s1
          rw [hDD] at hp
          obtain ⟨p1, p2, p3, p4, p5⟩ := hp
          have hq : ReqJ n (gR s1 t) (RSt D (t + 1)) := by
            rw [p1]
            have h0 : Req D.1.1 (gR s t) (RSt D t) := by rw [hDn]; exact a1
            have := h0.go (mo := nI t) Deq.rf (by rw [hDn]; exact hn) hDs
            rw [hDn] at this
            exact this
          refine m_iinc (v := nI (t + 1)) (ls1 := [(1, _), (0, _)]) dX11_runs_106 0 rfl (nI_1 t) (by decide) rfl ?_
          refine m_goto dX11_runs_109 95 (by decide) ?_
          refine ih _ ⟨hq.1, fun u hu => ?_, a3.tr (p5.mono (fun y z h => by omega))⟩
          rcases Nat.lt_succ_iff_lt_or_eq.mp hu with h | rfl
          · rw [p5.at (y := 140) (z := u) (by omega), p5.at (y := 139) (z := u) (by omega), p5.at (y := 141) (z := u) (by omega)]
            refine ⟨(a2 u h).1, (a2 u h).2.1, (a2 u h).2.2.1, fun k hk => ?_⟩
            rw [p5.at (y := 134) (by omega), p5.at (y := 135) (by omega), p5.at (y := 136) (by omega), p5.at (y := 137) (by omega), p5.at (y := 138) (by omega)]
            exact (a2 u h).2.2.2 k hk
          · refine ⟨p2, p3.trans hq.1.2.1, hq.2, fun k hk => ?_⟩
            obtain ⟨q1, q2, q3, q4, q5⟩ := p4 k hk
            rw [q1, q2, q3, q4, q5]
            exact ⟨(hq.1.1 k hk).1, (hq.1.1 k hk).2.1, (hq.1.1 k hk).2.2.1, (hq.1.1 k hk).2.2.2.1, (hq.1.1 k hk).2.2.2.2.1⟩
      · rw [← hD]
        refine ⟨fun k hk => ?_, ?_, ?_, ?_, ?_⟩
        · exact i1 k hk
        all_goals first | (simp [us_at]; rfl) | (simp [us_at, RSt, startR])
    · exact (ge_yes h ((i2.at (by omega)).trans hc)).elim
  · rintro k s hk ⟨i1, i2⟩ ih
    have hk8 : k < 8 := by omega
    have e1 : s.1 115 k = σ.1 115 k := i2.at (by omega)
    have e2 : s.1 116 k = σ.1 116 k := i2.at (by omega)
    have e3 : s.1 117 k = σ.1 117 k := i2.at (by omega)
    refine m_iload_n dX11_runs_2 0 rfl ?_
    refine m_aload_n dX11_runs_3 1 rfl ?_
    refine m_getI 2 dX11_runs_4 fl_X11_161_10 rfl (by decide) (by first | assumption | rfl) ?_
    refine m_icmp_ge dX11_runs_7 73 (by decide) (fun h => ?_) (fun h => ?_)
    · exact (ge_no ((i2.at (by omega)).trans hc) h rfl hk (by omega)).elim
    · clear h
      refine m_aload_n dX11_runs_10 1 rfl ?_
      refine m_getR 22 128 dX11_runs_11 fl_X11_58_10 rfl (by decide) rfl (by first | assumption | rfl) ?_
      refine m_iload_n dX11_runs_14 0 rfl ?_
      refine m_aload_n dX11_runs_15 1 rfl ?_
      refine m_getR 4 115 dX11_runs_16 fl_X11_19_10 rfl (by decide) rfl (by first | assumption | rfl) ?_
      refine m_iload_n dX11_runs_19 0 rfl ?_
      refine m_iald dX11_runs_20 (by first | assumption | rfl) k rfl (by first | assumption | omega | decide) ?_
      refine mW.top e1 ?_
      refine m_iast dX11_runs_21 (by first | assumption | rfl) k rfl (by first | assumption | omega | decide) ?_
      refine m_aload_n dX11_runs_22 1 rfl ?_
      refine m_getR 23 129 dX11_runs_23 fl_X11_61_10 rfl (by decide) rfl (by first | assumption | rfl) ?_
      refine m_iload_n dX11_runs_26 0 rfl ?_
      refine m_aload_n dX11_runs_27 1 rfl ?_
      refine m_getR 5 116 dX11_runs_28 fl_X11_22_10 rfl (by decide) rfl (by first | assumption | rfl) ?_
      refine m_iload_n dX11_runs_31 0 rfl ?_
      refine m_iald dX11_runs_32 (by first | assumption | rfl) k rfl (by first | assumption | omega | decide) ?_
      refine mW.top e2 ?_
      refine m_iast dX11_runs_33 (by first | assumption | rfl) k rfl (by first | assumption | omega | decide) ?_
      refine m_aload_n dX11_runs_34 1 rfl ?_
      refine m_getR 24 130 dX11_runs_35 fl_X11_64_10 rfl (by decide) rfl (by first | assumption | rfl) ?_
      refine m_iload_n dX11_runs_38 0 rfl ?_
      refine m_aload_n dX11_runs_39 1 rfl ?_
      refine m_getR 6 117 dX11_runs_40 fl_X11_25_10 rfl (by decide) rfl (by first | assumption | rfl) ?_
      refine m_iload_n dX11_runs_43 0 rfl ?_
      refine m_iald dX11_runs_44 (by first | assumption | rfl) k rfl (by first | assumption | omega | decide) ?_
      refine mW.top e3 ?_
      refine m_iast dX11_runs_45 (by first | assumption | rfl) k rfl (by first | assumption | omega | decide) ?_
      refine m_aload_n dX11_runs_46 1 rfl ?_
      refine m_getR 25 131 dX11_runs_47 fl_X11_67_10 rfl (by decide) rfl (by first | assumption | rfl) ?_
      refine m_iload_n dX11_runs_50 0 rfl ?_
      refine m_iconst (v := 0) dX11_runs_51 (by decide) ?_
      refine m_iast dX11_runs_52 (by first | assumption | rfl) k rfl (by first | assumption | omega | decide) ?_
      refine m_aload_n dX11_runs_53 1 rfl ?_
      refine m_getR 26 132 dX11_runs_54 fl_X11_70_10 rfl (by decide) rfl (by first | assumption | rfl) ?_
      refine m_iload_n dX11_runs_57 0 rfl ?_
      refine m_iconst (v := 0) dX11_runs_58 (by decide) ?_
      refine m_iast dX11_runs_59 (by first | assumption | rfl) k rfl (by first | assumption | omega | decide) ?_
      refine m_aload_n dX11_runs_60 1 rfl ?_
      refine m_getR 27 133 dX11_runs_61 fl_X11_73_10 rfl (by decide) rfl (by first | assumption | rfl) ?_
      refine m_iload_n dX11_runs_64 0 rfl ?_
      refine m_iconst (v := 0) dX11_runs_65 (by decide) ?_
      refine m_iast dX11_runs_66 (by first | assumption | rfl) k rfl (by first | assumption | omega | decide) ?_
      refine m_iinc (v := nI (k + 1)) (ls1 := [(1, _), (0, _)]) dX11_runs_67 0 rfl (nI_1 k) (by decide) rfl ?_
      refine m_goto dX11_runs_70 2 (by decide) ?_
      refine ih _ ⟨fun i hi => ?_, fW.us (by omega) (fW.us (by omega) (fW.us (by omega) (fW.us (by omega) (fW.us (by omega) (fW.us (by omega) i2)))))⟩
      rcases Nat.lt_succ_iff_lt_or_eq.mp hi with h | rfl
      · have hb := i1 i h
        simp [us_at, Nat.ne_of_lt h]
        exact hb
      · simp [us_at]
theorem Req.tr {n : Nat} {a b c : RS} (h : Req n a b) (k : Req n b c) : Req n a c :=
  ⟨fun i hi => ⟨(h.1 i hi).1.trans (k.1 i hi).1, (h.1 i hi).2.1.trans (k.1 i hi).2.1, (h.1 i hi).2.2.1.trans (k.1 i hi).2.2.1, (h.1 i hi).2.2.2.1.trans (k.1 i hi).2.2.2.1, (h.1 i hi).2.2.2.2.1.trans (k.1 i hi).2.2.2.2.1, (h.1 i hi).2.2.2.2.2.trans (k.1 i hi).2.2.2.2.2⟩, h.2.1.trans k.2.1, h.2.2.1.trans k.2.2.1, h.2.2.2.1.trans k.2.2.2.1, h.2.2.2.2.trans k.2.2.2.2⟩
theorem outR_cong {D E : Deb} {s : mS} (hD : Deq D E) (hn : D.1.1 ≤ 8) (hs : stOK D) (h : outR D s) : outR E s := by
  obtain ⟨h1, h2⟩ := h
  refine ⟨fun t ht => ?_, ?_⟩
  · have c := RSt_cong hD hn hs (t + 1)
    obtain ⟨g1, g2, g3, g4⟩ := h1 t ht
    refine ⟨g1.trans (hD.rung _), g2.trans c.1.2.1, g3.trans c.2, fun k hk => ?_⟩
    rw [← hD.1] at hk
    obtain ⟨q1, q2, q3, q4, q5⟩ := g4 k hk
    exact ⟨q1.trans (c.1.1 k hk).1, q2.trans (c.1.1 k hk).2.1, q3.trans (c.1.1 k hk).2.2.1, q4.trans (c.1.1 k hk).2.2.2.1, q5.trans (c.1.1 k hk).2.2.2.2.1⟩
  · rw [← hD.1]
    exact h2.tr (RSt_cong hD hn hs 24).1
/-- the reference's rows tell the debate D -/
def repR (s : mS) (D : Deb) : Prop := D.1.1 ≤ 8 ∧ D.2.1.1 ≤ 13 ∧ D.2.2.1.1 ≤ 9 ∧ s.1 111 2 = nI D.1.1 ∧ s.1 111 16 = nI D.2.1.1 ∧ s.1 111 17 = nI D.2.2.1.1 ∧ s.1 111 21 = D.2.2.2 ∧ (∀ k, k < D.1.1 → ∀ j, j < 5 → s.1 (114 + j) k = D.1.2 k j) ∧ (∀ i, i < D.2.1.1 → ∀ j, j < 3 → s.1 (119 + j) i = D.2.1.2 i j) ∧ (∀ i, i < D.2.2.1.1 → ∀ j, j < 3 → s.1 (125 + j) i = D.2.2.1.2 i j) ∧ stOK D
theorem repR.deq {s : mS} {D : Deb} (h : repR s D) : Deq (debR s D.1.1 D.2.1.1 D.2.2.1.1) D := by
  obtain ⟨h1, h2, h3, h4, h5, h6, h7, h8, h9, h10, h11⟩ := h
  refine ⟨rfl, rfl, rfl, h7, fun k hk j hj => ?_, fun k hk j hj => ?_, fun k hk j hj => ?_⟩
  · show cF s k j = _
    unfold cF; rw [if_pos hj]; exact h8 k hk j hj
  · show sF s k j = _
    unfold sF; rw [if_pos hj]; exact h9 k hk j hj
  · show vF s k j = _
    unfold vF; rw [if_pos hj]; exact h10 k hk j hj
theorem c_runsD (hd : 6 ≤ d) (D : Deb) (h : repR σ D) : mMet G l d kX11_runs [.ref 111] σ (qVP (fun s => outR D s ∧ fW wRun σ s)) := by
  have hq := h.deq
  obtain ⟨h1, h2, h3, h4, h5, h6, h7, h8, h9, h10, h11⟩ := h
  have hof : ∀ i, i < D.2.1.1 → ∃ j, j < 8 ∧ σ.1 120 i = nI j := fun i hi => by
    obtain ⟨j, hj, e⟩ := h11 i hi
    exact ⟨j, hj, (h9 i hi 1 (by decide)).trans e⟩
  refine mMet.conseq (c_runs hd D.1.1 D.2.1.1 D.2.2.1.1 h1 h2 h3 h4 h5 h6 hof) (fun v s hv => ?_)
  obtain ⟨rfl, g1, g2⟩ := hv
  exact ⟨rfl, outR_cong hq h1 (fun i hi => hof i hi) g1, g2⟩
end RU
end
section
/-! ===== texts: what they tell ===== -/
def sortB (b : Int32) : Int32 := if b = 98 then 0 else if b = 109 then 1 else if b = 104 then 2 else -1
def wayB (b : Int32) : Int32 := if b = 101 then 0 else if b = 110 then 1 else if b = 119 then 2 else if b = 115 then 3 else -1
/-- the byte at i, -1 behind the end -/
def btE (L : Nat) (b : Nat → Int32) (i : Nat) : Int32 := if i < L then b i else -1
def takB (X Y : Nat → Int32) (x y : Int32) : Nat → Bool
  | 0 => false
  | k + 1 => takB X Y x y k || decide (X k = x ∧ Y k = y)
/-- what a text tells of car k: 0 sort, 1 x, 2 y, 3 way, 4 weight -/
def carB (L : Nat) (b : Nat → Int32) (k j : Nat) : Int32 := match j with
  | 0 => sortB (btE L b (6 * k))
  | 1 => btE L b (6 * k + 1) - 48
  | 2 => btE L b (6 * k + 2) - 48
  | 3 => wayB (btE L b (6 * k + 3))
  | 4 => btE L b (6 * k + 4) - 48
  | _ => 0
/-- how many signs of car k are well (5: all) -/
def goodC (L : Nat) (b : Nat → Int32) (k : Nat) : Nat :=
  if k = 8 ∨ carB L b k 0 = -1 then 0 else if ¬ six (carB L b k 1) then 1
  else if ¬ six (carB L b k 2) ∨ takB (fun i => carB L b i 1) (fun i => carB L b i 2) (carB L b k 1) (carB L b k 2) k = true then 2
  else if carB L b k 3 = -1 then 3 else if ¬ (1 ≤ carB L b k 4 ∧ carB L b k 4 ≤ 9) then 4 else 5
/-- steers: 0 moment, 1 car, 2 turn -/
def steB (L : Nat) (b : Nat → Int32) (k j : Nat) : Int32 := match j with
  | 0 => btE L b (4 * k) - 97
  | 1 => btE L b (4 * k + 1) - 48
  | 2 => if btE L b (4 * k + 2) = 108 then 1 else 2
  | _ => 0
def goodS (L : Nat) (b : Nat → Int32) (k : Nat) : Nat :=
  if k = 12 ∨ ¬ (97 ≤ btE L b (4 * k) ∧ btE L b (4 * k) ≤ 120) then 0 else if ¬ (48 ≤ btE L b (4 * k + 1) ∧ btE L b (4 * k + 1) ≤ 55) then 1
  else if btE L b (4 * k + 2) ≠ 108 ∧ btE L b (4 * k + 2) ≠ 114 then 2 else 3
/-- from part k on: the fault (-1: none), how many parts -/
def parT (z : Nat) (good : Nat → Nat) (L : Nat) (b : Nat → Int32) : Nat → Nat → Int32 × Nat
  | 0, _ => (-1, 0)
  | f + 1, k => if good k < z then (nI ((z + 1) * k + good k), 0) else if (z + 1) * k + z = L then (-1, k + 1) else if btE L b ((z + 1) * k + z) ≠ 59 then (nI ((z + 1) * k + z), 0) else parT z good L b f (k + 1)
def parC (L : Nat) (b : Nat → Int32) : Int32 × Nat := if L = 0 then (-1, 0) else parT 5 (goodC L b) L b 9 0
def parS (L : Nat) (b : Nat → Int32) : Int32 × Nat := if L = 0 then (-1, 0) else parT 3 (goodS L b) L b 13 0
theorem goodC_le (L : Nat) (b : Nat → Int32) (k : Nat) : goodC L b k ≤ 5 := by unfold goodC; (repeat' split) <;> omega
theorem goodS_le (L : Nat) (b : Nat → Int32) (k : Nat) : goodS L b k ≤ 3 := by unfold goodS; (repeat' split) <;> omega
theorem parT_n (z N : Nat) (good : Nat → Nat) (L : Nat) (b : Nat → Int32) (h : good N = 0) (hz : 0 < z) : ∀ f k, k ≤ N → (parT z good L b f k).2 ≤ N
  | 0, k, _ => Nat.zero_le _
  | f + 1, k, hk => by
    unfold parT
    split
    · exact Nat.zero_le _
    · rename_i h1
      have hkN : k ≠ N := fun e => h1 (by rw [e, h]; exact hz)
      split
      · show k + 1 ≤ N; omega
      · split
        · exact Nat.zero_le _
        · exact parT_n z N good L b h hz f (k + 1) (by omega)
theorem parC_n (L : Nat) (b : Nat → Int32) : (parC L b).2 ≤ 8 := by
  unfold parC
  split
  · exact Nat.zero_le _
  · exact parT_n 5 8 _ L b (by unfold goodC; rw [if_pos (Or.inl rfl)]) (by decide) 9 0 (by decide)
theorem parS_n (L : Nat) (b : Nat → Int32) : (parS L b).2 ≤ 12 := by
  unfold parS
  split
  · exact Nat.zero_le _
  · exact parT_n 3 12 _ L b (by unfold goodS; rw [if_pos (Or.inl rfl)]) (by decide) 13 0 (by decide)
end
section
/-! ===== the reference reads its texts ===== -/
section RT
variable {G : mG} {l : Launch} {d : Nat} {σ : mS}
/-- the bytes of text t -/
abbrev tx (σ : mS) (t : Nat) : Nat → Int32 := fun i => σ.1 113 (47 * t + i)
theorem dX11_byteAt_0 : decode cX11_byteAt 0 = .ok (.iload_n 2, 1) := by decide +kernel
theorem dX11_byteAt_1 : decode cX11_byteAt 1 = .ok (.aload_n 0, 1) := by decide +kernel
theorem dX11_byteAt_2 : decode cX11_byteAt 2 = .ok (.getfield 7, 3) := by decide +kernel
theorem dX11_byteAt_5 : decode cX11_byteAt 5 = .ok (.iload_n 1, 1) := by decide +kernel
theorem dX11_byteAt_6 : decode cX11_byteAt 6 = .ok (.iaload, 1) := by decide +kernel
theorem dX11_byteAt_7 : decode cX11_byteAt 7 = .ok (.if_icmp .ge 17, 3) := by decide +kernel
theorem dX11_byteAt_10 : decode cX11_byteAt 10 = .ok (.aload_n 0, 1) := by decide +kernel
theorem dX11_byteAt_11 : decode cX11_byteAt 11 = .ok (.getfield 13, 3) := by decide +kernel
theorem dX11_byteAt_14 : decode cX11_byteAt 14 = .ok (.bipush 47, 2) := by decide +kernel
theorem dX11_byteAt_16 : decode cX11_byteAt 16 = .ok (.iload_n 1, 1) := by decide +kernel
theorem dX11_byteAt_17 : decode cX11_byteAt 17 = .ok (.imul, 1) := by decide +kernel
theorem dX11_byteAt_18 : decode cX11_byteAt 18 = .ok (.iload_n 2, 1) := by decide +kernel
theorem dX11_byteAt_19 : decode cX11_byteAt 19 = .ok (.iadd, 1) := by decide +kernel
theorem dX11_byteAt_20 : decode cX11_byteAt 20 = .ok (.iaload, 1) := by decide +kernel
theorem dX11_byteAt_21 : decode cX11_byteAt 21 = .ok (.goto 4, 3) := by decide +kernel
theorem dX11_byteAt_24 : decode cX11_byteAt 24 = .ok (.iconst (-1), 1) := by decide +kernel
theorem dX11_byteAt_25 : decode cX11_byteAt 25 = .ok (.ireturn, 1) := by decide +kernel
theorem dX11_isTold_0 : decode cX11_isTold 0 = .ok (.iconst 0, 1) := by decide +kernel
theorem dX11_isTold_1 : decode cX11_isTold 1 = .ok (.istore 4, 2) := by decide +kernel
theorem dX11_isTold_3 : decode cX11_isTold 3 = .ok (.iconst 0, 1) := by decide +kernel
theorem dX11_isTold_4 : decode cX11_isTold 4 = .ok (.istore 5, 2) := by decide +kernel
theorem dX11_isTold_6 : decode cX11_isTold 6 = .ok (.iload 5, 2) := by decide +kernel
theorem dX11_isTold_8 : decode cX11_isTold 8 = .ok (.iload_n 1, 1) := by decide +kernel
theorem dX11_isTold_9 : decode cX11_isTold 9 = .ok (.if_icmp .ge 43, 3) := by decide +kernel
theorem dX11_isTold_12 : decode cX11_isTold 12 = .ok (.iload 4, 2) := by decide +kernel
theorem dX11_isTold_14 : decode cX11_isTold 14 = .ok (.ifCond .ne 25, 3) := by decide +kernel
theorem dX11_isTold_17 : decode cX11_isTold 17 = .ok (.aload_n 0, 1) := by decide +kernel
theorem dX11_isTold_18 : decode cX11_isTold 18 = .ok (.getfield 19, 3) := by decide +kernel
theorem dX11_isTold_21 : decode cX11_isTold 21 = .ok (.iload 5, 2) := by decide +kernel
theorem dX11_isTold_23 : decode cX11_isTold 23 = .ok (.iaload, 1) := by decide +kernel
theorem dX11_isTold_24 : decode cX11_isTold 24 = .ok (.iload_n 2, 1) := by decide +kernel
theorem dX11_isTold_25 : decode cX11_isTold 25 = .ok (.if_icmp .ne 18, 3) := by decide +kernel
theorem dX11_isTold_28 : decode cX11_isTold 28 = .ok (.aload_n 0, 1) := by decide +kernel
theorem dX11_isTold_29 : decode cX11_isTold 29 = .ok (.getfield 22, 3) := by decide +kernel
theorem dX11_isTold_32 : decode cX11_isTold 32 = .ok (.iload 5, 2) := by decide +kernel
theorem dX11_isTold_34 : decode cX11_isTold 34 = .ok (.iaload, 1) := by decide +kernel
theorem dX11_isTold_35 : decode cX11_isTold 35 = .ok (.iload_n 3, 1) := by decide +kernel
theorem dX11_isTold_36 : decode cX11_isTold 36 = .ok (.if_icmp .ne 7, 3) := by decide +kernel
theorem dX11_isTold_39 : decode cX11_isTold 39 = .ok (.iconst 1, 1) := by decide +kernel
theorem dX11_isTold_40 : decode cX11_isTold 40 = .ok (.goto 4, 3) := by decide +kernel
theorem dX11_isTold_43 : decode cX11_isTold 43 = .ok (.iconst 0, 1) := by decide +kernel
theorem dX11_isTold_44 : decode cX11_isTold 44 = .ok (.istore 4, 2) := by decide +kernel
theorem dX11_isTold_46 : decode cX11_isTold 46 = .ok (.iinc 5 1, 3) := by decide +kernel
theorem dX11_isTold_49 : decode cX11_isTold 49 = .ok (.goto (-43), 3) := by decide +kernel
theorem dX11_isTold_52 : decode cX11_isTold 52 = .ok (.iload 4, 2) := by decide +kernel
theorem dX11_isTold_54 : decode cX11_isTold 54 = .ok (.ireturn, 1) := by decide +kernel
theorem dX11_readsCar_0 : decode cX11_readsCar 0 = .ok (.aload_n 0, 1) := by decide +kernel
theorem dX11_readsCar_1 : decode cX11_readsCar 1 = .ok (.iconst 0, 1) := by decide +kernel
theorem dX11_readsCar_2 : decode cX11_readsCar 2 = .ok (.iload_n 2, 1) := by decide +kernel
theorem dX11_readsCar_3 : decode cX11_readsCar 3 = .ok (.invokevirtual 144, 3) := by decide +kernel
theorem dX11_readsCar_6 : decode cX11_readsCar 6 = .ok (.invokestatic 148, 3) := by decide +kernel
theorem dX11_readsCar_9 : decode cX11_readsCar 9 = .ok (.istore_n 3, 1) := by decide +kernel
theorem dX11_readsCar_10 : decode cX11_readsCar 10 = .ok (.aload_n 0, 1) := by decide +kernel
theorem dX11_readsCar_11 : decode cX11_readsCar 11 = .ok (.iconst 0, 1) := by decide +kernel
theorem dX11_readsCar_12 : decode cX11_readsCar 12 = .ok (.iload_n 2, 1) := by decide +kernel
theorem dX11_readsCar_13 : decode cX11_readsCar 13 = .ok (.iconst 1, 1) := by decide +kernel
theorem dX11_readsCar_14 : decode cX11_readsCar 14 = .ok (.iadd, 1) := by decide +kernel
theorem dX11_readsCar_15 : decode cX11_readsCar 15 = .ok (.invokevirtual 144, 3) := by decide +kernel
theorem dX11_readsCar_18 : decode cX11_readsCar 18 = .ok (.bipush 48, 2) := by decide +kernel
theorem dX11_readsCar_20 : decode cX11_readsCar 20 = .ok (.isub, 1) := by decide +kernel
theorem dX11_readsCar_21 : decode cX11_readsCar 21 = .ok (.istore 4, 2) := by decide +kernel
theorem dX11_readsCar_23 : decode cX11_readsCar 23 = .ok (.aload_n 0, 1) := by decide +kernel
theorem dX11_readsCar_24 : decode cX11_readsCar 24 = .ok (.iconst 0, 1) := by decide +kernel
theorem dX11_readsCar_25 : decode cX11_readsCar 25 = .ok (.iload_n 2, 1) := by decide +kernel
theorem dX11_readsCar_26 : decode cX11_readsCar 26 = .ok (.iconst 2, 1) := by decide +kernel
theorem dX11_readsCar_27 : decode cX11_readsCar 27 = .ok (.iadd, 1) := by decide +kernel
theorem dX11_readsCar_28 : decode cX11_readsCar 28 = .ok (.invokevirtual 144, 3) := by decide +kernel
theorem dX11_readsCar_31 : decode cX11_readsCar 31 = .ok (.bipush 48, 2) := by decide +kernel
theorem dX11_readsCar_33 : decode cX11_readsCar 33 = .ok (.isub, 1) := by decide +kernel
theorem dX11_readsCar_34 : decode cX11_readsCar 34 = .ok (.istore 5, 2) := by decide +kernel
theorem dX11_readsCar_36 : decode cX11_readsCar 36 = .ok (.aload_n 0, 1) := by decide +kernel
theorem dX11_readsCar_37 : decode cX11_readsCar 37 = .ok (.iconst 0, 1) := by decide +kernel
theorem dX11_readsCar_38 : decode cX11_readsCar 38 = .ok (.iload_n 2, 1) := by decide +kernel
theorem dX11_readsCar_39 : decode cX11_readsCar 39 = .ok (.iconst 3, 1) := by decide +kernel
theorem dX11_readsCar_40 : decode cX11_readsCar 40 = .ok (.iadd, 1) := by decide +kernel
theorem dX11_readsCar_41 : decode cX11_readsCar 41 = .ok (.invokevirtual 144, 3) := by decide +kernel
theorem dX11_readsCar_44 : decode cX11_readsCar 44 = .ok (.invokestatic 152, 3) := by decide +kernel
theorem dX11_readsCar_47 : decode cX11_readsCar 47 = .ok (.istore 6, 2) := by decide +kernel
theorem dX11_readsCar_49 : decode cX11_readsCar 49 = .ok (.aload_n 0, 1) := by decide +kernel
theorem dX11_readsCar_50 : decode cX11_readsCar 50 = .ok (.iconst 0, 1) := by decide +kernel
theorem dX11_readsCar_51 : decode cX11_readsCar 51 = .ok (.iload_n 2, 1) := by decide +kernel
theorem dX11_readsCar_52 : decode cX11_readsCar 52 = .ok (.iconst 4, 1) := by decide +kernel
theorem dX11_readsCar_53 : decode cX11_readsCar 53 = .ok (.iadd, 1) := by decide +kernel
theorem dX11_readsCar_54 : decode cX11_readsCar 54 = .ok (.invokevirtual 144, 3) := by decide +kernel
theorem dX11_readsCar_57 : decode cX11_readsCar 57 = .ok (.bipush 48, 2) := by decide +kernel
theorem dX11_readsCar_59 : decode cX11_readsCar 59 = .ok (.isub, 1) := by decide +kernel
theorem dX11_readsCar_60 : decode cX11_readsCar 60 = .ok (.istore 7, 2) := by decide +kernel
theorem dX11_readsCar_62 : decode cX11_readsCar 62 = .ok (.iload_n 1, 1) := by decide +kernel
theorem dX11_readsCar_63 : decode cX11_readsCar 63 = .ok (.bipush 8, 2) := by decide +kernel
theorem dX11_readsCar_65 : decode cX11_readsCar 65 = .ok (.if_icmp .eq 8, 3) := by decide +kernel
theorem dX11_readsCar_68 : decode cX11_readsCar 68 = .ok (.iload_n 3, 1) := by decide +kernel
theorem dX11_readsCar_69 : decode cX11_readsCar 69 = .ok (.iconst (-1), 1) := by decide +kernel
theorem dX11_readsCar_70 : decode cX11_readsCar 70 = .ok (.if_icmp .ne 5, 3) := by decide +kernel
theorem dX11_readsCar_73 : decode cX11_readsCar 73 = .ok (.iconst 0, 1) := by decide +kernel
theorem dX11_readsCar_74 : decode cX11_readsCar 74 = .ok (.ireturn, 1) := by decide +kernel
theorem dX11_readsCar_75 : decode cX11_readsCar 75 = .ok (.iload 4, 2) := by decide +kernel
theorem dX11_readsCar_77 : decode cX11_readsCar 77 = .ok (.invokestatic 155, 3) := by decide +kernel
theorem dX11_readsCar_80 : decode cX11_readsCar 80 = .ok (.ifCond .ne 5, 3) := by decide +kernel
theorem dX11_readsCar_83 : decode cX11_readsCar 83 = .ok (.iconst 1, 1) := by decide +kernel
theorem dX11_readsCar_84 : decode cX11_readsCar 84 = .ok (.ireturn, 1) := by decide +kernel
theorem dX11_readsCar_85 : decode cX11_readsCar 85 = .ok (.iload 5, 2) := by decide +kernel
theorem dX11_readsCar_87 : decode cX11_readsCar 87 = .ok (.invokestatic 155, 3) := by decide +kernel
theorem dX11_readsCar_90 : decode cX11_readsCar 90 = .ok (.ifCond .eq 15, 3) := by decide +kernel
theorem dX11_readsCar_93 : decode cX11_readsCar 93 = .ok (.aload_n 0, 1) := by decide +kernel
theorem dX11_readsCar_94 : decode cX11_readsCar 94 = .ok (.iload_n 1, 1) := by decide +kernel
theorem dX11_readsCar_95 : decode cX11_readsCar 95 = .ok (.iload 4, 2) := by decide +kernel
theorem dX11_readsCar_97 : decode cX11_readsCar 97 = .ok (.iload 5, 2) := by decide +kernel
theorem dX11_readsCar_99 : decode cX11_readsCar 99 = .ok (.invokevirtual 158, 3) := by decide +kernel
theorem dX11_readsCar_102 : decode cX11_readsCar 102 = .ok (.ifCond .eq 5, 3) := by decide +kernel
theorem dX11_readsCar_105 : decode cX11_readsCar 105 = .ok (.iconst 2, 1) := by decide +kernel
theorem dX11_readsCar_106 : decode cX11_readsCar 106 = .ok (.ireturn, 1) := by decide +kernel
theorem dX11_readsCar_107 : decode cX11_readsCar 107 = .ok (.iload 6, 2) := by decide +kernel
theorem dX11_readsCar_109 : decode cX11_readsCar 109 = .ok (.iconst (-1), 1) := by decide +kernel
theorem dX11_readsCar_110 : decode cX11_readsCar 110 = .ok (.if_icmp .ne 5, 3) := by decide +kernel
theorem dX11_readsCar_113 : decode cX11_readsCar 113 = .ok (.iconst 3, 1) := by decide +kernel
theorem dX11_readsCar_114 : decode cX11_readsCar 114 = .ok (.ireturn, 1) := by decide +kernel
theorem dX11_readsCar_115 : decode cX11_readsCar 115 = .ok (.iload 7, 2) := by decide +kernel
theorem dX11_readsCar_117 : decode cX11_readsCar 117 = .ok (.iconst 1, 1) := by decide +kernel
theorem dX11_readsCar_118 : decode cX11_readsCar 118 = .ok (.bipush 9, 2) := by decide +kernel
theorem dX11_readsCar_120 : decode cX11_readsCar 120 = .ok (.invokestatic 136, 3) := by decide +kernel
theorem dX11_readsCar_123 : decode cX11_readsCar 123 = .ok (.ifCond .ne 5, 3) := by decide +kernel
theorem dX11_readsCar_126 : decode cX11_readsCar 126 = .ok (.iconst 4, 1) := by decide +kernel
theorem dX11_readsCar_127 : decode cX11_readsCar 127 = .ok (.ireturn, 1) := by decide +kernel
theorem dX11_readsCar_128 : decode cX11_readsCar 128 = .ok (.aload_n 0, 1) := by decide +kernel
theorem dX11_readsCar_129 : decode cX11_readsCar 129 = .ok (.getfield 16, 3) := by decide +kernel
theorem dX11_readsCar_132 : decode cX11_readsCar 132 = .ok (.iload_n 1, 1) := by decide +kernel
theorem dX11_readsCar_133 : decode cX11_readsCar 133 = .ok (.iload_n 3, 1) := by decide +kernel
theorem dX11_readsCar_134 : decode cX11_readsCar 134 = .ok (.iastore, 1) := by decide +kernel
theorem dX11_readsCar_135 : decode cX11_readsCar 135 = .ok (.aload_n 0, 1) := by decide +kernel
theorem dX11_readsCar_136 : decode cX11_readsCar 136 = .ok (.getfield 19, 3) := by decide +kernel
theorem dX11_readsCar_139 : decode cX11_readsCar 139 = .ok (.iload_n 1, 1) := by decide +kernel
theorem dX11_readsCar_140 : decode cX11_readsCar 140 = .ok (.iload 4, 2) := by decide +kernel
theorem dX11_readsCar_142 : decode cX11_readsCar 142 = .ok (.iastore, 1) := by decide +kernel
theorem dX11_readsCar_143 : decode cX11_readsCar 143 = .ok (.aload_n 0, 1) := by decide +kernel
theorem dX11_readsCar_144 : decode cX11_readsCar 144 = .ok (.getfield 22, 3) := by decide +kernel
theorem dX11_readsCar_147 : decode cX11_readsCar 147 = .ok (.iload_n 1, 1) := by decide +kernel
theorem dX11_readsCar_148 : decode cX11_readsCar 148 = .ok (.iload 5, 2) := by decide +kernel
theorem dX11_readsCar_150 : decode cX11_readsCar 150 = .ok (.iastore, 1) := by decide +kernel
theorem dX11_readsCar_151 : decode cX11_readsCar 151 = .ok (.aload_n 0, 1) := by decide +kernel
theorem dX11_readsCar_152 : decode cX11_readsCar 152 = .ok (.getfield 25, 3) := by decide +kernel
theorem dX11_readsCar_155 : decode cX11_readsCar 155 = .ok (.iload_n 1, 1) := by decide +kernel
theorem dX11_readsCar_156 : decode cX11_readsCar 156 = .ok (.iload 6, 2) := by decide +kernel
theorem dX11_readsCar_158 : decode cX11_readsCar 158 = .ok (.iastore, 1) := by decide +kernel
theorem dX11_readsCar_159 : decode cX11_readsCar 159 = .ok (.aload_n 0, 1) := by decide +kernel
theorem dX11_readsCar_160 : decode cX11_readsCar 160 = .ok (.getfield 28, 3) := by decide +kernel
theorem dX11_readsCar_163 : decode cX11_readsCar 163 = .ok (.iload_n 1, 1) := by decide +kernel
theorem dX11_readsCar_164 : decode cX11_readsCar 164 = .ok (.iload 7, 2) := by decide +kernel
theorem dX11_readsCar_166 : decode cX11_readsCar 166 = .ok (.iastore, 1) := by decide +kernel
theorem dX11_readsCar_167 : decode cX11_readsCar 167 = .ok (.iconst 5, 1) := by decide +kernel
theorem dX11_readsCar_168 : decode cX11_readsCar 168 = .ok (.ireturn, 1) := by decide +kernel
theorem c_byteAt (t L k : Nat) (ht : t ≤ 1) (hL : σ.1 112 t = nI L) (hL47 : L ≤ 47) (hk : k < 1000) : mMet G l d kX11_byteAt [.ref 111, .int (nI t), .int (nI k)] σ (qI (btE L (tx σ t) k) σ) := by
  refine mMet.of cm_X11_byteAt rfl (Nat.le_of_ble_eq_true rfl) rfl (fun v1 σ1 h => by rw [h.1]; rfl) ?_
  refine m_iload_n dX11_byteAt_0 2 rfl ?_
  refine m_aload_n dX11_byteAt_1 0 rfl ?_
  refine m_getR 0 112 dX11_byteAt_2 fl_X11_7_10 rfl (by decide) rfl (by first | assumption | rfl) ?_
  refine m_iload_n dX11_byteAt_5 1 rfl ?_
  refine m_iald dX11_byteAt_6 (by first | assumption | rfl) t rfl (by first | assumption | omega | decide) ?_
  refine mW.top hL ?_
  refine m_icmp_ge dX11_byteAt_7 24 (by decide) (fun h => ?_) (fun h => ?_)
  · refine m_iconst (v := -1) dX11_byteAt_24 (by decide) ?_
    refine m_ireturn dX11_byteAt_25 ?_
    exact qI_of (by unfold btE; rw [if_neg (Nat.not_lt.mpr ((nle (by omega) (by omega)).mp h))])
  · have hk2 : k < L := Nat.lt_of_not_le (fun q => h ((nle (by omega) (by omega)).mpr q))
    refine m_aload_n dX11_byteAt_10 0 rfl ?_
    refine m_getR 1 113 dX11_byteAt_11 fl_X11_13_10 rfl (by decide) rfl (by first | assumption | rfl) ?_
    refine m_bipush (v := 47) dX11_byteAt_14 (by decide) ?_
    refine m_iload_n dX11_byteAt_16 1 rfl ?_
    refine m_imul dX11_byteAt_17 ?_
    refine m_iload_n dX11_byteAt_18 2 rfl ?_
    refine m_iadd dX11_byteAt_19 ?_
    refine mW.top (w := nI (47 * t + k)) (by rw [show (47 : Int32) = nI 47 from rfl, pk_mul, nI_add]) ?_
    refine m_iald dX11_byteAt_20 (by first | assumption | rfl) (47 * t + k) rfl (by first | assumption | omega | decide) ?_
    refine m_goto dX11_byteAt_21 25 (by decide) ?_
    refine m_ireturn dX11_byteAt_25 ?_
    exact qI_of (by unfold btE; rw [if_pos hk2])
theorem c_sortOf (b : Int32) : mMet G l d kX11_sortOf [.int b] σ (qI (sortB b) σ) := by
  refine mMet.of cm_X11_sortOf rfl (Nat.le_of_ble_eq_true rfl) rfl (fun v1 σ1 h => by rw [h.1]; rfl) ?_
  refine m_iload_n dX11_sortOf_0 0 rfl ?_
  refine m_bipush (v := 98) dX11_sortOf_1 (by decide) ?_
  refine m_sel (pcJ := 31) ?_ (fun kt0 kf0 => m_icmp_ne dX11_sortOf_3 10 (by decide) (fun h => (m_iload_n dX11_sortOf_10 0 rfl (m_bipush (v := 109) dX11_sortOf_11 (by decide) (m_sel (pcJ := 31) (kf0 h) (fun kt1 kf1 => m_icmp_ne dX11_sortOf_13 20 (by decide) (fun h => (m_iload_n dX11_sortOf_20 0 rfl (m_bipush (v := 104) dX11_sortOf_21 (by decide) (m_sel (pcJ := 31) (kf1 h) (fun kt2 kf2 => m_icmp_ne dX11_sortOf_23 30 (by decide) (fun h => (m_iconst (v := -1) dX11_sortOf_30 (by decide) (kf2 h))) (fun h => (m_iconst (v := 2) dX11_sortOf_26 (by decide) (m_goto dX11_sortOf_27 31 (by decide) (kt2 h))))))))) (fun h => (m_iconst (v := 1) dX11_sortOf_16 (by decide) (m_goto dX11_sortOf_17 31 (by decide) (kt1 h))))))))) (fun h => (m_iconst (v := 0) dX11_sortOf_6 (by decide) (m_goto dX11_sortOf_7 31 (by decide) (kt0 h)))))
  refine m_ireturn dX11_sortOf_31 ?_
  exact ⟨rfl, rfl⟩
theorem c_wayOf (b : Int32) : mMet G l d kX11_wayOf [.int b] σ (qI (wayB b) σ) := by
  refine mMet.of cm_X11_wayOf rfl (Nat.le_of_ble_eq_true rfl) rfl (fun v1 σ1 h => by rw [h.1]; rfl) ?_
  refine m_iload_n dX11_wayOf_0 0 rfl ?_
  refine m_bipush (v := 101) dX11_wayOf_1 (by decide) ?_
  refine m_sel (pcJ := 41) ?_ (fun kt0 kf0 => m_icmp_ne dX11_wayOf_3 10 (by decide) (fun h => (m_iload_n dX11_wayOf_10 0 rfl (m_bipush (v := 110) dX11_wayOf_11 (by decide) (m_sel (pcJ := 41) (kf0 h) (fun kt1 kf1 => m_icmp_ne dX11_wayOf_13 20 (by decide) (fun h => (m_iload_n dX11_wayOf_20 0 rfl (m_bipush (v := 119) dX11_wayOf_21 (by decide) (m_sel (pcJ := 41) (kf1 h) (fun kt2 kf2 => m_icmp_ne dX11_wayOf_23 30 (by decide) (fun h => (m_iload_n dX11_wayOf_30 0 rfl (m_bipush (v := 115) dX11_wayOf_31 (by decide) (m_sel (pcJ := 41) (kf2 h) (fun kt3 kf3 => m_icmp_ne dX11_wayOf_33 40 (by decide) (fun h => (m_iconst (v := -1) dX11_wayOf_40 (by decide) (kf3 h))) (fun h => (m_iconst (v := 3) dX11_wayOf_36 (by decide) (m_goto dX11_wayOf_37 41 (by decide) (kt3 h))))))))) (fun h => (m_iconst (v := 2) dX11_wayOf_26 (by decide) (m_goto dX11_wayOf_27 41 (by decide) (kt2 h))))))))) (fun h => (m_iconst (v := 1) dX11_wayOf_16 (by decide) (m_goto dX11_wayOf_17 41 (by decide) (kt1 h))))))))) (fun h => (m_iconst (v := 0) dX11_wayOf_6 (by decide) (m_goto dX11_wayOf_7 41 (by decide) (kt0 h)))))
  refine m_ireturn dX11_wayOf_41 ?_
  exact ⟨rfl, rfl⟩
theorem c_isTold (n : Nat) (hn : n ≤ 8) (x y : Int32) : mMet G l d kX11_isTold [.ref 111, .int (nI n), .int x, .int y] σ (qI (bI (takB (σ.1 115) (σ.1 116) x y n)) σ) := by
  refine mMet.of cm_X11_isTold rfl (Nat.le_of_ble_eq_true rfl) rfl (fun v1 σ1 h => by rw [h.1]; exact bI_nar _) ?_
  refine m_iconst (v := 0) dX11_isTold_0 (by decide) ?_
  refine m_istore (ls1 := [(4, _), (0, _), (1, _), (2, _), (3, _)]) dX11_isTold_1 (by decide) rfl ?_
  refine m_iconst (v := 0) dX11_isTold_3 (by decide) ?_
  refine m_istore (ls1 := [(5, _), (4, _), (0, _), (1, _), (2, _), (3, _)]) dX11_isTold_4 (by decide) rfl ?_
  refine down (N := n) (fun k (f : Int32) => f = bI (takB (σ.1 115) (σ.1 116) x y k)) (fun k f => mW G l d kX11_isTold 6 [(5, .int (nI k)), (4, .int f), (0, .ref 111), (1, .int (nI n)), (2, .int x), (3, .int y)] [] σ _) ?_ ?_ 0 0 (Nat.zero_le _) rfl
  · intro f hf
    refine m_iload dX11_isTold_6 0 rfl ?_
    refine m_iload_n dX11_isTold_8 3 rfl ?_
    refine m_icmp_ge dX11_isTold_9 52 (by decide) (fun h => ?_) (fun h => ?_)
    · refine m_iload dX11_isTold_52 1 rfl ?_
      refine m_ireturn dX11_isTold_54 ?_
      exact ⟨by rw [hf], rfl⟩
    · exact absurd (Int32.le_refl _) h
  · intro k f hk hf ih
    have hk9 : k < 9 := by omega
    refine m_iload dX11_isTold_6 0 rfl ?_
    refine m_iload_n dX11_isTold_8 3 rfl ?_
    refine m_icmp_ge dX11_isTold_9 52 (by decide) (fun h => ?_) (fun h => ?_)
    · exact absurd ((nle (by omega) (by omega)).mp h) (by omega)
    · clear h
      refine m_iload dX11_isTold_12 1 rfl ?_
      refine m_if_ne dX11_isTold_14 39 (by decide) (fun h14 => ?_) (fun h14 => ?_)
      · refine m_iconst (v := 1) dX11_isTold_39 (by decide) ?_
        refine m_goto dX11_isTold_40 44 (by decide) ?_
        refine m_istore (ls1 := [(4, _), (5, _), (0, _), (1, _), (2, _), (3, _)]) dX11_isTold_44 (by decide) rfl ?_
        refine m_iinc (v := nI (k + 1)) (ls1 := [(5, _), (4, _), (0, _), (1, _), (2, _), (3, _)]) dX11_isTold_46 1 rfl (nI_1 k) (by decide) rfl ?_
        refine m_goto dX11_isTold_49 6 (by decide) ?_
        refine ih _ ?_
        rw [hf] at h14
        rw [takB]
        first | (rw [bI_ne.mp h14]; rfl) | (rw [bI_eq.mp h14, decide_eq_true (⟨h25, h36⟩ : σ.1 115 k = x ∧ σ.1 116 k = y)]; rfl) | (rw [bI_eq.mp h14, decide_eq_false (fun q : σ.1 115 k = x ∧ σ.1 116 k = y => h25 q.1)]; rfl) | (rw [bI_eq.mp h14, decide_eq_false (fun q : σ.1 115 k = x ∧ σ.1 116 k = y => h36 q.2)]; rfl)
      · refine m_aload_n dX11_isTold_17 2 rfl ?_
        refine m_getR 4 115 dX11_isTold_18 fl_X11_19_10 rfl (by decide) rfl (by first | assumption | rfl) ?_
        refine m_iload dX11_isTold_21 0 rfl ?_
        refine m_iald dX11_isTold_23 (by first | assumption | rfl) k rfl (by first | assumption | omega | decide) ?_
        refine m_iload_n dX11_isTold_24 4 rfl ?_
        refine m_icmp_ne dX11_isTold_25 43 (by decide) (fun h25 => ?_) (fun h25 => ?_)
        · refine m_iconst (v := 0) dX11_isTold_43 (by decide) ?_
          refine m_istore (ls1 := [(4, _), (5, _), (0, _), (1, _), (2, _), (3, _)]) dX11_isTold_44 (by decide) rfl ?_
          refine m_iinc (v := nI (k + 1)) (ls1 := [(5, _), (4, _), (0, _), (1, _), (2, _), (3, _)]) dX11_isTold_46 1 rfl (nI_1 k) (by decide) rfl ?_
          refine m_goto dX11_isTold_49 6 (by decide) ?_
          refine ih _ ?_
          rw [hf] at h14
          rw [takB]
          first | (rw [bI_ne.mp h14]; rfl) | (rw [bI_eq.mp h14, decide_eq_true (⟨h25, h36⟩ : σ.1 115 k = x ∧ σ.1 116 k = y)]; rfl) | (rw [bI_eq.mp h14, decide_eq_false (fun q : σ.1 115 k = x ∧ σ.1 116 k = y => h25 q.1)]; rfl) | (rw [bI_eq.mp h14, decide_eq_false (fun q : σ.1 115 k = x ∧ σ.1 116 k = y => h36 q.2)]; rfl)
        · refine m_aload_n dX11_isTold_28 2 rfl ?_
          refine m_getR 5 116 dX11_isTold_29 fl_X11_22_10 rfl (by decide) rfl (by first | assumption | rfl) ?_
          refine m_iload dX11_isTold_32 0 rfl ?_
          refine m_iald dX11_isTold_34 (by first | assumption | rfl) k rfl (by first | assumption | omega | decide) ?_
          refine m_iload_n dX11_isTold_35 5 rfl ?_
          refine m_icmp_ne dX11_isTold_36 43 (by decide) (fun h36 => ?_) (fun h36 => ?_)
          · refine m_iconst (v := 0) dX11_isTold_43 (by decide) ?_
            refine m_istore (ls1 := [(4, _), (5, _), (0, _), (1, _), (2, _), (3, _)]) dX11_isTold_44 (by decide) rfl ?_
            refine m_iinc (v := nI (k + 1)) (ls1 := [(5, _), (4, _), (0, _), (1, _), (2, _), (3, _)]) dX11_isTold_46 1 rfl (nI_1 k) (by decide) rfl ?_
            refine m_goto dX11_isTold_49 6 (by decide) ?_
            refine ih _ ?_
            rw [hf] at h14
            rw [takB]
            first | (rw [bI_ne.mp h14]; rfl) | (rw [bI_eq.mp h14, decide_eq_true (⟨h25, h36⟩ : σ.1 115 k = x ∧ σ.1 116 k = y)]; rfl) | (rw [bI_eq.mp h14, decide_eq_false (fun q : σ.1 115 k = x ∧ σ.1 116 k = y => h25 q.1)]; rfl) | (rw [bI_eq.mp h14, decide_eq_false (fun q : σ.1 115 k = x ∧ σ.1 116 k = y => h36 q.2)]; rfl)
          · refine m_iconst (v := 1) dX11_isTold_39 (by decide) ?_
            refine m_goto dX11_isTold_40 44 (by decide) ?_
            refine m_istore (ls1 := [(4, _), (5, _), (0, _), (1, _), (2, _), (3, _)]) dX11_isTold_44 (by decide) rfl ?_
            refine m_iinc (v := nI (k + 1)) (ls1 := [(5, _), (4, _), (0, _), (1, _), (2, _), (3, _)]) dX11_isTold_46 1 rfl (nI_1 k) (by decide) rfl ?_
            refine m_goto dX11_isTold_49 6 (by decide) ?_
            refine ih _ ?_
            rw [hf] at h14
            rw [takB]
            first | (rw [bI_ne.mp h14]; rfl) | (rw [bI_eq.mp h14, decide_eq_true (⟨h25, h36⟩ : σ.1 115 k = x ∧ σ.1 116 k = y)]; rfl) | (rw [bI_eq.mp h14, decide_eq_false (fun q : σ.1 115 k = x ∧ σ.1 116 k = y => h25 q.1)]; rfl) | (rw [bI_eq.mp h14, decide_eq_false (fun q : σ.1 115 k = x ∧ σ.1 116 k = y => h36 q.2)]; rfl)
theorem takB_cong {X Y X1 Y1 : Nat → Int32} {x y : Int32} : ∀ n, (∀ k, k < n → X k = X1 k ∧ Y k = Y1 k) → takB X Y x y n = takB X1 Y1 x y n
  | 0, _ => rfl
  | n + 1, h => by
    unfold takB
    rw [takB_cong n (fun k hk => h k (by omega)), (h n (by omega)).1, (h n (by omega)).2]
theorem c_readsCar (hd : 2 ≤ d) (L k : Nat) (hL : σ.1 112 0 = nI L) (hL47 : L ≤ 47) (hk : k ≤ 8) (hold : ∀ i, i < k → σ.1 115 i = carB L (tx σ 0) i 1 ∧ σ.1 116 i = carB L (tx σ 0) i 2) : mMet G l d kX11_readsCar [.ref 111, .int (nI k), .int (nI (6 * k))] σ (qIP (fun r s => r = nI (goodC L (tx σ 0) k) ∧ (goodC L (tx σ 0) k = 5 → s.1 114 k = carB L (tx σ 0) k 0 ∧ s.1 115 k = carB L (tx σ 0) k 1 ∧ s.1 116 k = carB L (tx σ 0) k 2 ∧ s.1 117 k = carB L (tx σ 0) k 3 ∧ s.1 118 k = carB L (tx σ 0) k 4) ∧ fW (fun y z => 114 ≤ y ∧ y ≤ 118 ∧ z = k ∧ k < 8) σ s)) := by
  refine mMet.of cm_X11_readsCar rfl (Nat.le_of_ble_eq_true rfl) rfl (fun v1 σ1 h => by obtain ⟨r, h1, -⟩ := h; rw [h1]; rfl) ?_
  generalize hb : tx σ 0 = b at hold ⊢
  have ht : takB (σ.1 115) (σ.1 116) (carB L b k 1) (carB L b k 2) k = takB (fun i => carB L b i 1) (fun i => carB L b i 2) (carB L b k 1) (carB L b k 2) k := takB_cong k hold
  have hB : ∀ i, i < 1000 → mMet G l (d - 1) kX11_byteAt [.ref 111, .int 0, .int (nI i)] σ (qI (btE L b i) σ) := fun i hi => by rw [← hb]; exact c_byteAt 0 L i (by decide) hL hL47 hi
  refine m_aload_n dX11_readsCar_0 0 rfl ?_
  refine m_iconst (v := 0) dX11_readsCar_1 (by decide) ?_
  refine m_iload_n dX11_readsCar_2 2 rfl ?_
  refine m_callV (As := [_, _]) dX11_readsCar_3 cv_X11_144 (by first | assumption | rfl) (by decide) (by omega) rfl rfl (Nat.le_of_ble_eq_true rfl) (hB (6 * k) (by omega)) (fun v1 σ1 hv1 => ?_)
  refine m_qI hv1 ?_
  clear hv1 v1 σ1
  refine m_callS (As := [_]) dX11_readsCar_6 cs_X11_148 (by omega) rfl rfl (Nat.le_of_ble_eq_true rfl) (c_sortOf (d := d - 1) _) (fun v1 σ1 hv1 => ?_)
  refine m_qI hv1 ?_
  clear hv1 v1 σ1
  refine mW.top (w := carB L b k 0) rfl ?_
  refine m_istore_n (ls1 := [(3, _), (0, _), (1, _), (2, _)]) dX11_readsCar_9 (by decide) rfl ?_
  refine m_aload_n dX11_readsCar_10 1 rfl ?_
  refine m_iconst (v := 0) dX11_readsCar_11 (by decide) ?_
  refine m_iload_n dX11_readsCar_12 3 rfl ?_
  refine m_iconst (v := 1) dX11_readsCar_13 (by decide) ?_
  refine m_iadd dX11_readsCar_14 ?_
  refine mW.top (w := nI (6 * k + 1)) (naddL 1 rfl rfl) ?_
  refine m_callV (As := [_, _]) dX11_readsCar_15 cv_X11_144 (by first | assumption | rfl) (by decide) (by omega) rfl rfl (Nat.le_of_ble_eq_true rfl) (hB (6 * k + 1) (by omega)) (fun v1 σ1 hv1 => ?_)
  refine m_qI hv1 ?_
  clear hv1 v1 σ1
  refine m_bipush (v := 48) dX11_readsCar_18 (by decide) ?_
  refine m_isub dX11_readsCar_20 ?_
  refine mW.top (w := carB L b k 1) rfl ?_
  refine m_istore (ls1 := [(4, _), (3, _), (0, _), (1, _), (2, _)]) dX11_readsCar_21 (by decide) rfl ?_
  refine m_aload_n dX11_readsCar_23 2 rfl ?_
  refine m_iconst (v := 0) dX11_readsCar_24 (by decide) ?_
  refine m_iload_n dX11_readsCar_25 4 rfl ?_
  refine m_iconst (v := 2) dX11_readsCar_26 (by decide) ?_
  refine m_iadd dX11_readsCar_27 ?_
  refine mW.top (w := nI (6 * k + 2)) (naddL 2 rfl rfl) ?_
  refine m_callV (As := [_, _]) dX11_readsCar_28 cv_X11_144 (by first | assumption | rfl) (by decide) (by omega) rfl rfl (Nat.le_of_ble_eq_true rfl) (hB (6 * k + 2) (by omega)) (fun v1 σ1 hv1 => ?_)
  refine m_qI hv1 ?_
  clear hv1 v1 σ1
  refine m_bipush (v := 48) dX11_readsCar_31 (by decide) ?_
  refine m_isub dX11_readsCar_33 ?_
  refine mW.top (w := carB L b k 2) rfl ?_
  refine m_istore (ls1 := [(5, _), (4, _), (3, _), (0, _), (1, _), (2, _)]) dX11_readsCar_34 (by decide) rfl ?_
  refine m_aload_n dX11_readsCar_36 3 rfl ?_
  refine m_iconst (v := 0) dX11_readsCar_37 (by decide) ?_
  refine m_iload_n dX11_readsCar_38 5 rfl ?_
  refine m_iconst (v := 3) dX11_readsCar_39 (by decide) ?_
  refine m_iadd dX11_readsCar_40 ?_
  refine mW.top (w := nI (6 * k + 3)) (naddL 3 rfl rfl) ?_
  refine m_callV (As := [_, _]) dX11_readsCar_41 cv_X11_144 (by first | assumption | rfl) (by decide) (by omega) rfl rfl (Nat.le_of_ble_eq_true rfl) (hB (6 * k + 3) (by omega)) (fun v1 σ1 hv1 => ?_)
  refine m_qI hv1 ?_
  clear hv1 v1 σ1
  refine m_callS (As := [_]) dX11_readsCar_44 cs_X11_152 (by omega) rfl rfl (Nat.le_of_ble_eq_true rfl) (c_wayOf (d := d - 1) _) (fun v1 σ1 hv1 => ?_)
  refine m_qI hv1 ?_
  clear hv1 v1 σ1
  refine mW.top (w := carB L b k 3) rfl ?_
  refine m_istore (ls1 := [(6, _), (5, _), (4, _), (3, _), (0, _), (1, _), (2, _)]) dX11_readsCar_47 (by decide) rfl ?_
  refine m_aload_n dX11_readsCar_49 4 rfl ?_
  refine m_iconst (v := 0) dX11_readsCar_50 (by decide) ?_
  refine m_iload_n dX11_readsCar_51 6 rfl ?_
  refine m_iconst (v := 4) dX11_readsCar_52 (by decide) ?_
  refine m_iadd dX11_readsCar_53 ?_
  refine mW.top (w := nI (6 * k + 4)) (naddL 4 rfl rfl) ?_
  refine m_callV (As := [_, _]) dX11_readsCar_54 cv_X11_144 (by first | assumption | rfl) (by decide) (by omega) rfl rfl (Nat.le_of_ble_eq_true rfl) (hB (6 * k + 4) (by omega)) (fun v1 σ1 hv1 => ?_)
  refine m_qI hv1 ?_
  clear hv1 v1 σ1
  refine m_bipush (v := 48) dX11_readsCar_57 (by decide) ?_
  refine m_isub dX11_readsCar_59 ?_
  refine mW.top (w := carB L b k 4) rfl ?_
  refine m_istore (ls1 := [(7, _), (6, _), (5, _), (4, _), (3, _), (0, _), (1, _), (2, _)]) dX11_readsCar_60 (by decide) rfl ?_
  refine m_iload_n dX11_readsCar_62 6 rfl ?_
  refine m_bipush (v := 8) dX11_readsCar_63 (by decide) ?_
  have h8 : ∀ a : Nat, a ≤ 8 → (nI a = 8 ↔ a = 8) := fun a ha => neq (b := 8) (by omega) (by omega)
  refine m_icmp_eq dX11_readsCar_65 73 (by decide) (fun h65 => ?_) (fun h65 => ?_)
  · refine m_iconst (v := 0) dX11_readsCar_73 (by decide) ?_
    refine m_ireturn dX11_readsCar_74 ⟨_, rfl, ?_, ?_, fW.rf⟩
    all_goals (have hg : goodC L b k = 0 := by unfold goodC; first | exact if_pos (Or.inl ((h8 k hk).mp h65)) | exact if_pos (Or.inr h70))
    · rw [hg]; rfl
    · rw [hg]; intro q; exact absurd q (by decide)
  · refine m_iload_n dX11_readsCar_68 4 rfl ?_
    refine m_iconst (v := -1) dX11_readsCar_69 (by decide) ?_
    refine m_icmp_ne dX11_readsCar_70 75 (by decide) (fun h70 => ?_) (fun h70 => ?_)
    · refine m_iload dX11_readsCar_75 3 rfl ?_
      refine m_callS (As := [_]) dX11_readsCar_77 cs_X11_155 (by omega) rfl rfl (Nat.le_of_ble_eq_true rfl) (c_isSix (d := d - 1) (by omega) _) (fun v1 σ1 hv1 => ?_)
      refine m_qI hv1 ?_
      clear hv1 v1 σ1
      refine m_if_ne dX11_readsCar_80 85 (by decide) (fun h80 => ?_) (fun h80 => ?_)
      · refine m_iload dX11_readsCar_85 2 rfl ?_
        refine m_callS (As := [_]) dX11_readsCar_87 cs_X11_155 (by omega) rfl rfl (Nat.le_of_ble_eq_true rfl) (c_isSix (d := d - 1) (by omega) _) (fun v1 σ1 hv1 => ?_)
        refine m_qI hv1 ?_
        clear hv1 v1 σ1
        refine m_if_eq dX11_readsCar_90 105 (by decide) (fun h90 => ?_) (fun h90 => ?_)
        · refine m_iconst (v := 2) dX11_readsCar_105 (by decide) ?_
          refine m_ireturn dX11_readsCar_106 ⟨_, rfl, ?_, ?_, fW.rf⟩
          all_goals (have hg : goodC L b k = 2 := by unfold goodC; rw [if_neg (by rintro (q | q); exact h65 ((h8 k hk).mpr q); exact h70 q), if_neg (fun q => q (bI1 h80))]; first | exact if_pos (Or.inl (bI0 h90)) | exact if_pos (Or.inr (by rw [← ht]; exact bI_ne.mp h102)))
          · rw [hg]; rfl
          · rw [hg]; intro q; exact absurd q (by decide)
        · refine m_aload_n dX11_readsCar_93 5 rfl ?_
          refine m_iload_n dX11_readsCar_94 6 rfl ?_
          refine m_iload dX11_readsCar_95 3 rfl ?_
          refine m_iload dX11_readsCar_97 2 rfl ?_
          refine m_callV (As := [_, _, _]) dX11_readsCar_99 cv_X11_158 (by first | assumption | rfl) (by decide) (by omega) rfl rfl (Nat.le_of_ble_eq_true rfl) (c_isTold (d := d - 1) k hk _ _) (fun v1 σ1 hv1 => ?_)
          refine m_qI hv1 ?_
          clear hv1 v1 σ1
          refine m_if_eq dX11_readsCar_102 107 (by decide) (fun h102 => ?_) (fun h102 => ?_)
          · refine m_iload dX11_readsCar_107 1 rfl ?_
            refine m_iconst (v := -1) dX11_readsCar_109 (by decide) ?_
            refine m_icmp_ne dX11_readsCar_110 115 (by decide) (fun h110 => ?_) (fun h110 => ?_)
            · refine m_iload dX11_readsCar_115 0 rfl ?_
              refine m_iconst (v := 1) dX11_readsCar_117 (by decide) ?_
              refine m_bipush (v := 9) dX11_readsCar_118 (by decide) ?_
              refine m_callS (As := [_, _, _]) dX11_readsCar_120 cs_X11_136 (by omega) rfl rfl (Nat.le_of_ble_eq_true rfl) (c_in (d := d - 1) _ 1 9) (fun v1 σ1 hv1 => ?_)
              refine m_qI hv1 ?_
              clear hv1 v1 σ1
              refine m_if_ne dX11_readsCar_123 128 (by decide) (fun h123 => ?_) (fun h123 => ?_)
              · refine m_aload_n dX11_readsCar_128 5 rfl ?_
                refine m_getR 3 114 dX11_readsCar_129 fl_X11_16_10 rfl (by decide) rfl (by first | assumption | rfl) ?_
                refine m_iload_n dX11_readsCar_132 6 rfl ?_
                refine m_iload_n dX11_readsCar_133 4 rfl ?_
                refine m_iast dX11_readsCar_134 (by first | assumption | rfl) k rfl (by have hne : k ≠ 8 := fun e => h65 ((h8 k hk).mpr e); omega) ?_
                refine m_aload_n dX11_readsCar_135 5 rfl ?_
                refine m_getR 4 115 dX11_readsCar_136 fl_X11_19_10 rfl (by decide) rfl (by first | assumption | rfl) ?_
                refine m_iload_n dX11_readsCar_139 6 rfl ?_
                refine m_iload dX11_readsCar_140 3 rfl ?_
                refine m_iast dX11_readsCar_142 (by first | assumption | rfl) k rfl (by have hne : k ≠ 8 := fun e => h65 ((h8 k hk).mpr e); omega) ?_
                refine m_aload_n dX11_readsCar_143 5 rfl ?_
                refine m_getR 5 116 dX11_readsCar_144 fl_X11_22_10 rfl (by decide) rfl (by first | assumption | rfl) ?_
                refine m_iload_n dX11_readsCar_147 6 rfl ?_
                refine m_iload dX11_readsCar_148 2 rfl ?_
                refine m_iast dX11_readsCar_150 (by first | assumption | rfl) k rfl (by have hne : k ≠ 8 := fun e => h65 ((h8 k hk).mpr e); omega) ?_
                refine m_aload_n dX11_readsCar_151 5 rfl ?_
                refine m_getR 6 117 dX11_readsCar_152 fl_X11_25_10 rfl (by decide) rfl (by first | assumption | rfl) ?_
                refine m_iload_n dX11_readsCar_155 6 rfl ?_
                refine m_iload dX11_readsCar_156 1 rfl ?_
                refine m_iast dX11_readsCar_158 (by first | assumption | rfl) k rfl (by have hne : k ≠ 8 := fun e => h65 ((h8 k hk).mpr e); omega) ?_
                refine m_aload_n dX11_readsCar_159 5 rfl ?_
                refine m_getR 7 118 dX11_readsCar_160 fl_X11_28_10 rfl (by decide) rfl (by first | assumption | rfl) ?_
                refine m_iload_n dX11_readsCar_163 6 rfl ?_
                refine m_iload dX11_readsCar_164 0 rfl ?_
                refine m_iast dX11_readsCar_166 (by first | assumption | rfl) k rfl (by have hne : k ≠ 8 := fun e => h65 ((h8 k hk).mpr e); omega) ?_
                refine m_iconst (v := 5) dX11_readsCar_167 (by decide) ?_
                have hk8 : k < 8 := by have hne : k ≠ 8 := fun e => h65 ((h8 k hk).mpr e); omega
                have hg : goodC L b k = 5 := by unfold goodC; rw [if_neg (by rintro (q | q); exact h65 ((h8 k hk).mpr q); exact h70 q), if_neg (fun q => q (bI1 h80)), if_neg (by rintro (q | q); exact q (bI1 h90); rw [← ht, bI_eq.mp h102] at q; exact absurd q (by decide)), if_neg h110]; exact if_neg (fun q => q (bI1 h123))
                refine m_ireturn dX11_readsCar_168 ⟨_, rfl, by rw [hg]; rfl, fun _ => ?_, fW.us ⟨by omega, by omega, rfl, hk8⟩ (fW.us ⟨by omega, by omega, rfl, hk8⟩ (fW.us ⟨by omega, by omega, rfl, hk8⟩ (fW.us ⟨by omega, by omega, rfl, hk8⟩ (fW.us ⟨by omega, by omega, rfl, hk8⟩ fW.rf))))⟩
                simp [us_at]
              · refine m_iconst (v := 4) dX11_readsCar_126 (by decide) ?_
                refine m_ireturn dX11_readsCar_127 ⟨_, rfl, ?_, ?_, fW.rf⟩
                all_goals (have hg : goodC L b k = 4 := by unfold goodC; rw [if_neg (by rintro (q | q); exact h65 ((h8 k hk).mpr q); exact h70 q), if_neg (fun q => q (bI1 h80)), if_neg (by rintro (q | q); exact q (bI1 h90); rw [← ht, bI_eq.mp h102] at q; exact absurd q (by decide)), if_neg h110]; exact if_pos (bI0 h123))
                · rw [hg]; rfl
                · rw [hg]; intro q; exact absurd q (by decide)
            · refine m_iconst (v := 3) dX11_readsCar_113 (by decide) ?_
              refine m_ireturn dX11_readsCar_114 ⟨_, rfl, ?_, ?_, fW.rf⟩
              all_goals (have hg : goodC L b k = 3 := by unfold goodC; rw [if_neg (by rintro (q | q); exact h65 ((h8 k hk).mpr q); exact h70 q), if_neg (fun q => q (bI1 h80)), if_neg (by rintro (q | q); exact q (bI1 h90); rw [← ht, bI_eq.mp h102] at q; exact absurd q (by decide))]; exact if_pos h110)
              · rw [hg]; rfl
              · rw [hg]; intro q; exact absurd q (by decide)
          · refine m_iconst (v := 2) dX11_readsCar_105 (by decide) ?_
            refine m_ireturn dX11_readsCar_106 ⟨_, rfl, ?_, ?_, fW.rf⟩
            all_goals (have hg : goodC L b k = 2 := by unfold goodC; rw [if_neg (by rintro (q | q); exact h65 ((h8 k hk).mpr q); exact h70 q), if_neg (fun q => q (bI1 h80))]; first | exact if_pos (Or.inl (bI0 h90)) | exact if_pos (Or.inr (by rw [← ht]; exact bI_ne.mp h102)))
            · rw [hg]; rfl
            · rw [hg]; intro q; exact absurd q (by decide)
      · refine m_iconst (v := 1) dX11_readsCar_83 (by decide) ?_
        refine m_ireturn dX11_readsCar_84 ⟨_, rfl, ?_, ?_, fW.rf⟩
        all_goals (have hg : goodC L b k = 1 := by unfold goodC; rw [if_neg (by rintro (q | q); exact h65 ((h8 k hk).mpr q); exact h70 q)]; exact if_pos (bI0 h80))
        · rw [hg]; rfl
        · rw [hg]; intro q; exact absurd q (by decide)
    · refine m_iconst (v := 0) dX11_readsCar_73 (by decide) ?_
      refine m_ireturn dX11_readsCar_74 ⟨_, rfl, ?_, ?_, fW.rf⟩
      all_goals (have hg : goodC L b k = 0 := by unfold goodC; first | exact if_pos (Or.inl ((h8 k hk).mp h65)) | exact if_pos (Or.inr h70))
      · rw [hg]; rfl
      · rw [hg]; intro q; exact absurd q (by decide)
end RT
end
section
/-! ===== the reference reads both texts ===== -/
section RP
variable {G : mG} {l : Launch} {d : Nat} {σ : mS}
theorem dX11_readsSteer_0 : decode cX11_readsSteer 0 = .ok (.aload_n 0, 1) := by decide +kernel
theorem dX11_readsSteer_1 : decode cX11_readsSteer 1 = .ok (.iconst 1, 1) := by decide +kernel
theorem dX11_readsSteer_2 : decode cX11_readsSteer 2 = .ok (.iload_n 2, 1) := by decide +kernel
theorem dX11_readsSteer_3 : decode cX11_readsSteer 3 = .ok (.invokevirtual 144, 3) := by decide +kernel
theorem dX11_readsSteer_6 : decode cX11_readsSteer 6 = .ok (.istore_n 3, 1) := by decide +kernel
theorem dX11_readsSteer_7 : decode cX11_readsSteer 7 = .ok (.aload_n 0, 1) := by decide +kernel
theorem dX11_readsSteer_8 : decode cX11_readsSteer 8 = .ok (.iconst 1, 1) := by decide +kernel
theorem dX11_readsSteer_9 : decode cX11_readsSteer 9 = .ok (.iload_n 2, 1) := by decide +kernel
theorem dX11_readsSteer_10 : decode cX11_readsSteer 10 = .ok (.iconst 1, 1) := by decide +kernel
theorem dX11_readsSteer_11 : decode cX11_readsSteer 11 = .ok (.iadd, 1) := by decide +kernel
theorem dX11_readsSteer_12 : decode cX11_readsSteer 12 = .ok (.invokevirtual 144, 3) := by decide +kernel
theorem dX11_readsSteer_15 : decode cX11_readsSteer 15 = .ok (.istore 4, 2) := by decide +kernel
theorem dX11_readsSteer_17 : decode cX11_readsSteer 17 = .ok (.aload_n 0, 1) := by decide +kernel
theorem dX11_readsSteer_18 : decode cX11_readsSteer 18 = .ok (.iconst 1, 1) := by decide +kernel
theorem dX11_readsSteer_19 : decode cX11_readsSteer 19 = .ok (.iload_n 2, 1) := by decide +kernel
theorem dX11_readsSteer_20 : decode cX11_readsSteer 20 = .ok (.iconst 2, 1) := by decide +kernel
theorem dX11_readsSteer_21 : decode cX11_readsSteer 21 = .ok (.iadd, 1) := by decide +kernel
theorem dX11_readsSteer_22 : decode cX11_readsSteer 22 = .ok (.invokevirtual 144, 3) := by decide +kernel
theorem dX11_readsSteer_25 : decode cX11_readsSteer 25 = .ok (.istore 5, 2) := by decide +kernel
theorem dX11_readsSteer_27 : decode cX11_readsSteer 27 = .ok (.iload_n 1, 1) := by decide +kernel
theorem dX11_readsSteer_28 : decode cX11_readsSteer 28 = .ok (.bipush 12, 2) := by decide +kernel
theorem dX11_readsSteer_30 : decode cX11_readsSteer 30 = .ok (.if_icmp .eq 14, 3) := by decide +kernel
theorem dX11_readsSteer_33 : decode cX11_readsSteer 33 = .ok (.iload_n 3, 1) := by decide +kernel
theorem dX11_readsSteer_34 : decode cX11_readsSteer 34 = .ok (.bipush 97, 2) := by decide +kernel
theorem dX11_readsSteer_36 : decode cX11_readsSteer 36 = .ok (.bipush 120, 2) := by decide +kernel
theorem dX11_readsSteer_38 : decode cX11_readsSteer 38 = .ok (.invokestatic 136, 3) := by decide +kernel
theorem dX11_readsSteer_41 : decode cX11_readsSteer 41 = .ok (.ifCond .ne 5, 3) := by decide +kernel
theorem dX11_readsSteer_44 : decode cX11_readsSteer 44 = .ok (.iconst 0, 1) := by decide +kernel
theorem dX11_readsSteer_45 : decode cX11_readsSteer 45 = .ok (.ireturn, 1) := by decide +kernel
theorem dX11_readsSteer_46 : decode cX11_readsSteer 46 = .ok (.iload 4, 2) := by decide +kernel
theorem dX11_readsSteer_48 : decode cX11_readsSteer 48 = .ok (.bipush 48, 2) := by decide +kernel
theorem dX11_readsSteer_50 : decode cX11_readsSteer 50 = .ok (.bipush 55, 2) := by decide +kernel
theorem dX11_readsSteer_52 : decode cX11_readsSteer 52 = .ok (.invokestatic 136, 3) := by decide +kernel
theorem dX11_readsSteer_55 : decode cX11_readsSteer 55 = .ok (.ifCond .ne 5, 3) := by decide +kernel
theorem dX11_readsSteer_58 : decode cX11_readsSteer 58 = .ok (.iconst 1, 1) := by decide +kernel
theorem dX11_readsSteer_59 : decode cX11_readsSteer 59 = .ok (.ireturn, 1) := by decide +kernel
theorem dX11_readsSteer_60 : decode cX11_readsSteer 60 = .ok (.iload 5, 2) := by decide +kernel
theorem dX11_readsSteer_62 : decode cX11_readsSteer 62 = .ok (.bipush 108, 2) := by decide +kernel
theorem dX11_readsSteer_64 : decode cX11_readsSteer 64 = .ok (.if_icmp .eq 12, 3) := by decide +kernel
theorem dX11_readsSteer_67 : decode cX11_readsSteer 67 = .ok (.iload 5, 2) := by decide +kernel
theorem dX11_readsSteer_69 : decode cX11_readsSteer 69 = .ok (.bipush 114, 2) := by decide +kernel
theorem dX11_readsSteer_71 : decode cX11_readsSteer 71 = .ok (.if_icmp .eq 5, 3) := by decide +kernel
theorem dX11_readsSteer_74 : decode cX11_readsSteer 74 = .ok (.iconst 2, 1) := by decide +kernel
theorem dX11_readsSteer_75 : decode cX11_readsSteer 75 = .ok (.ireturn, 1) := by decide +kernel
theorem dX11_readsSteer_76 : decode cX11_readsSteer 76 = .ok (.aload_n 0, 1) := by decide +kernel
theorem dX11_readsSteer_77 : decode cX11_readsSteer 77 = .ok (.getfield 31, 3) := by decide +kernel
theorem dX11_readsSteer_80 : decode cX11_readsSteer 80 = .ok (.iload_n 1, 1) := by decide +kernel
theorem dX11_readsSteer_81 : decode cX11_readsSteer 81 = .ok (.iload_n 3, 1) := by decide +kernel
theorem dX11_readsSteer_82 : decode cX11_readsSteer 82 = .ok (.bipush 97, 2) := by decide +kernel
theorem dX11_readsSteer_84 : decode cX11_readsSteer 84 = .ok (.isub, 1) := by decide +kernel
theorem dX11_readsSteer_85 : decode cX11_readsSteer 85 = .ok (.iastore, 1) := by decide +kernel
theorem dX11_readsSteer_86 : decode cX11_readsSteer 86 = .ok (.aload_n 0, 1) := by decide +kernel
theorem dX11_readsSteer_87 : decode cX11_readsSteer 87 = .ok (.getfield 34, 3) := by decide +kernel
theorem dX11_readsSteer_90 : decode cX11_readsSteer 90 = .ok (.iload_n 1, 1) := by decide +kernel
theorem dX11_readsSteer_91 : decode cX11_readsSteer 91 = .ok (.iload 4, 2) := by decide +kernel
theorem dX11_readsSteer_93 : decode cX11_readsSteer 93 = .ok (.bipush 48, 2) := by decide +kernel
theorem dX11_readsSteer_95 : decode cX11_readsSteer 95 = .ok (.isub, 1) := by decide +kernel
theorem dX11_readsSteer_96 : decode cX11_readsSteer 96 = .ok (.iastore, 1) := by decide +kernel
theorem dX11_readsSteer_97 : decode cX11_readsSteer 97 = .ok (.aload_n 0, 1) := by decide +kernel
theorem dX11_readsSteer_98 : decode cX11_readsSteer 98 = .ok (.getfield 37, 3) := by decide +kernel
theorem dX11_readsSteer_101 : decode cX11_readsSteer 101 = .ok (.iload_n 1, 1) := by decide +kernel
theorem dX11_readsSteer_102 : decode cX11_readsSteer 102 = .ok (.iload 5, 2) := by decide +kernel
theorem dX11_readsSteer_104 : decode cX11_readsSteer 104 = .ok (.bipush 108, 2) := by decide +kernel
theorem dX11_readsSteer_106 : decode cX11_readsSteer 106 = .ok (.if_icmp .ne 7, 3) := by decide +kernel
theorem dX11_readsSteer_109 : decode cX11_readsSteer 109 = .ok (.iconst 1, 1) := by decide +kernel
theorem dX11_readsSteer_110 : decode cX11_readsSteer 110 = .ok (.goto 4, 3) := by decide +kernel
theorem dX11_readsSteer_113 : decode cX11_readsSteer 113 = .ok (.iconst 2, 1) := by decide +kernel
theorem dX11_readsSteer_114 : decode cX11_readsSteer 114 = .ok (.iastore, 1) := by decide +kernel
theorem dX11_readsSteer_115 : decode cX11_readsSteer 115 = .ok (.iconst 3, 1) := by decide +kernel
theorem dX11_readsSteer_116 : decode cX11_readsSteer 116 = .ok (.ireturn, 1) := by decide +kernel
theorem dX11_readsParts_0 : decode cX11_readsParts 0 = .ok (.iload_n 1, 1) := by decide +kernel
theorem dX11_readsParts_1 : decode cX11_readsParts 1 = .ok (.ifCond .ne 7, 3) := by decide +kernel
theorem dX11_readsParts_4 : decode cX11_readsParts 4 = .ok (.iconst 5, 1) := by decide +kernel
theorem dX11_readsParts_5 : decode cX11_readsParts 5 = .ok (.goto 4, 3) := by decide +kernel
theorem dX11_readsParts_8 : decode cX11_readsParts 8 = .ok (.iconst 3, 1) := by decide +kernel
theorem dX11_readsParts_9 : decode cX11_readsParts 9 = .ok (.istore_n 2, 1) := by decide +kernel
theorem dX11_readsParts_10 : decode cX11_readsParts 10 = .ok (.iconst 0, 1) := by decide +kernel
theorem dX11_readsParts_11 : decode cX11_readsParts 11 = .ok (.istore_n 3, 1) := by decide +kernel
theorem dX11_readsParts_12 : decode cX11_readsParts 12 = .ok (.iconst 0, 1) := by decide +kernel
theorem dX11_readsParts_13 : decode cX11_readsParts 13 = .ok (.istore 4, 2) := by decide +kernel
theorem dX11_readsParts_15 : decode cX11_readsParts 15 = .ok (.aload_n 0, 1) := by decide +kernel
theorem dX11_readsParts_16 : decode cX11_readsParts 16 = .ok (.iload_n 1, 1) := by decide +kernel
theorem dX11_readsParts_17 : decode cX11_readsParts 17 = .ok (.ifCond .ne 7, 3) := by decide +kernel
theorem dX11_readsParts_20 : decode cX11_readsParts 20 = .ok (.iconst 0, 1) := by decide +kernel
theorem dX11_readsParts_21 : decode cX11_readsParts 21 = .ok (.goto 7, 3) := by decide +kernel
theorem dX11_readsParts_24 : decode cX11_readsParts 24 = .ok (.aload_n 0, 1) := by decide +kernel
theorem dX11_readsParts_25 : decode cX11_readsParts 25 = .ok (.getfield 161, 3) := by decide +kernel
theorem dX11_readsParts_28 : decode cX11_readsParts 28 = .ok (.putfield 161, 3) := by decide +kernel
theorem dX11_readsParts_31 : decode cX11_readsParts 31 = .ok (.aload_n 0, 1) := by decide +kernel
theorem dX11_readsParts_32 : decode cX11_readsParts 32 = .ok (.iload_n 1, 1) := by decide +kernel
theorem dX11_readsParts_33 : decode cX11_readsParts 33 = .ok (.iconst 1, 1) := by decide +kernel
theorem dX11_readsParts_34 : decode cX11_readsParts 34 = .ok (.if_icmp .ne 7, 3) := by decide +kernel
theorem dX11_readsParts_37 : decode cX11_readsParts 37 = .ok (.iconst 0, 1) := by decide +kernel
theorem dX11_readsParts_38 : decode cX11_readsParts 38 = .ok (.goto 7, 3) := by decide +kernel
theorem dX11_readsParts_41 : decode cX11_readsParts 41 = .ok (.aload_n 0, 1) := by decide +kernel
theorem dX11_readsParts_42 : decode cX11_readsParts 42 = .ok (.getfield 165, 3) := by decide +kernel
theorem dX11_readsParts_45 : decode cX11_readsParts 45 = .ok (.putfield 165, 3) := by decide +kernel
theorem dX11_readsParts_48 : decode cX11_readsParts 48 = .ok (.iload 4, 2) := by decide +kernel
theorem dX11_readsParts_50 : decode cX11_readsParts 50 = .ok (.aload_n 0, 1) := by decide +kernel
theorem dX11_readsParts_51 : decode cX11_readsParts 51 = .ok (.getfield 7, 3) := by decide +kernel
theorem dX11_readsParts_54 : decode cX11_readsParts 54 = .ok (.iload_n 1, 1) := by decide +kernel
theorem dX11_readsParts_55 : decode cX11_readsParts 55 = .ok (.iaload, 1) := by decide +kernel
theorem dX11_readsParts_56 : decode cX11_readsParts 56 = .ok (.if_icmp .lt 8, 3) := by decide +kernel
theorem dX11_readsParts_59 : decode cX11_readsParts 59 = .ok (.iload 4, 2) := by decide +kernel
theorem dX11_readsParts_61 : decode cX11_readsParts 61 = .ok (.ifCond .le 114, 3) := by decide +kernel
theorem dX11_readsParts_64 : decode cX11_readsParts 64 = .ok (.iload_n 1, 1) := by decide +kernel
theorem dX11_readsParts_65 : decode cX11_readsParts 65 = .ok (.ifCond .ne 13, 3) := by decide +kernel
theorem dX11_readsParts_68 : decode cX11_readsParts 68 = .ok (.aload_n 0, 1) := by decide +kernel
theorem dX11_readsParts_69 : decode cX11_readsParts 69 = .ok (.iload_n 3, 1) := by decide +kernel
theorem dX11_readsParts_70 : decode cX11_readsParts 70 = .ok (.iload 4, 2) := by decide +kernel
theorem dX11_readsParts_72 : decode cX11_readsParts 72 = .ok (.invokevirtual 168, 3) := by decide +kernel
theorem dX11_readsParts_75 : decode cX11_readsParts 75 = .ok (.goto 10, 3) := by decide +kernel
theorem dX11_readsParts_78 : decode cX11_readsParts 78 = .ok (.aload_n 0, 1) := by decide +kernel
theorem dX11_readsParts_79 : decode cX11_readsParts 79 = .ok (.iload_n 3, 1) := by decide +kernel
theorem dX11_readsParts_80 : decode cX11_readsParts 80 = .ok (.iload 4, 2) := by decide +kernel
theorem dX11_readsParts_82 : decode cX11_readsParts 82 = .ok (.invokevirtual 171, 3) := by decide +kernel
theorem dX11_readsParts_85 : decode cX11_readsParts 85 = .ok (.istore 5, 2) := by decide +kernel
theorem dX11_readsParts_87 : decode cX11_readsParts 87 = .ok (.iload 5, 2) := by decide +kernel
theorem dX11_readsParts_89 : decode cX11_readsParts 89 = .ok (.iload_n 2, 1) := by decide +kernel
theorem dX11_readsParts_90 : decode cX11_readsParts 90 = .ok (.if_icmp .ge 9, 3) := by decide +kernel
theorem dX11_readsParts_93 : decode cX11_readsParts 93 = .ok (.iload 4, 2) := by decide +kernel
theorem dX11_readsParts_95 : decode cX11_readsParts 95 = .ok (.iload 5, 2) := by decide +kernel
theorem dX11_readsParts_97 : decode cX11_readsParts 97 = .ok (.iadd, 1) := by decide +kernel
theorem dX11_readsParts_98 : decode cX11_readsParts 98 = .ok (.ireturn, 1) := by decide +kernel
theorem dX11_readsParts_99 : decode cX11_readsParts 99 = .ok (.iinc 3 1, 3) := by decide +kernel
theorem dX11_readsParts_102 : decode cX11_readsParts 102 = .ok (.iload 4, 2) := by decide +kernel
theorem dX11_readsParts_104 : decode cX11_readsParts 104 = .ok (.iload_n 2, 1) := by decide +kernel
theorem dX11_readsParts_105 : decode cX11_readsParts 105 = .ok (.iadd, 1) := by decide +kernel
theorem dX11_readsParts_106 : decode cX11_readsParts 106 = .ok (.istore 4, 2) := by decide +kernel
theorem dX11_readsParts_108 : decode cX11_readsParts 108 = .ok (.iload 4, 2) := by decide +kernel
theorem dX11_readsParts_110 : decode cX11_readsParts 110 = .ok (.aload_n 0, 1) := by decide +kernel
theorem dX11_readsParts_111 : decode cX11_readsParts 111 = .ok (.getfield 7, 3) := by decide +kernel
theorem dX11_readsParts_114 : decode cX11_readsParts 114 = .ok (.iload_n 1, 1) := by decide +kernel
theorem dX11_readsParts_115 : decode cX11_readsParts 115 = .ok (.iaload, 1) := by decide +kernel
theorem dX11_readsParts_116 : decode cX11_readsParts 116 = .ok (.if_icmp .ne 38, 3) := by decide +kernel
theorem dX11_readsParts_119 : decode cX11_readsParts 119 = .ok (.aload_n 0, 1) := by decide +kernel
theorem dX11_readsParts_120 : decode cX11_readsParts 120 = .ok (.iload_n 1, 1) := by decide +kernel
theorem dX11_readsParts_121 : decode cX11_readsParts 121 = .ok (.ifCond .ne 7, 3) := by decide +kernel
theorem dX11_readsParts_124 : decode cX11_readsParts 124 = .ok (.iload_n 3, 1) := by decide +kernel
theorem dX11_readsParts_125 : decode cX11_readsParts 125 = .ok (.goto 7, 3) := by decide +kernel
theorem dX11_readsParts_128 : decode cX11_readsParts 128 = .ok (.aload_n 0, 1) := by decide +kernel
theorem dX11_readsParts_129 : decode cX11_readsParts 129 = .ok (.getfield 161, 3) := by decide +kernel
theorem dX11_readsParts_132 : decode cX11_readsParts 132 = .ok (.putfield 161, 3) := by decide +kernel
theorem dX11_readsParts_135 : decode cX11_readsParts 135 = .ok (.aload_n 0, 1) := by decide +kernel
theorem dX11_readsParts_136 : decode cX11_readsParts 136 = .ok (.iload_n 1, 1) := by decide +kernel
theorem dX11_readsParts_137 : decode cX11_readsParts 137 = .ok (.iconst 1, 1) := by decide +kernel
theorem dX11_readsParts_138 : decode cX11_readsParts 138 = .ok (.if_icmp .ne 7, 3) := by decide +kernel
theorem dX11_readsParts_141 : decode cX11_readsParts 141 = .ok (.iload_n 3, 1) := by decide +kernel
theorem dX11_readsParts_142 : decode cX11_readsParts 142 = .ok (.goto 7, 3) := by decide +kernel
theorem dX11_readsParts_145 : decode cX11_readsParts 145 = .ok (.aload_n 0, 1) := by decide +kernel
theorem dX11_readsParts_146 : decode cX11_readsParts 146 = .ok (.getfield 165, 3) := by decide +kernel
theorem dX11_readsParts_149 : decode cX11_readsParts 149 = .ok (.putfield 165, 3) := by decide +kernel
theorem dX11_readsParts_152 : decode cX11_readsParts 152 = .ok (.iconst (-1), 1) := by decide +kernel
theorem dX11_readsParts_153 : decode cX11_readsParts 153 = .ok (.ireturn, 1) := by decide +kernel
theorem dX11_readsParts_154 : decode cX11_readsParts 154 = .ok (.aload_n 0, 1) := by decide +kernel
theorem dX11_readsParts_155 : decode cX11_readsParts 155 = .ok (.iload_n 1, 1) := by decide +kernel
theorem dX11_readsParts_156 : decode cX11_readsParts 156 = .ok (.iload 4, 2) := by decide +kernel
theorem dX11_readsParts_158 : decode cX11_readsParts 158 = .ok (.invokevirtual 144, 3) := by decide +kernel
theorem dX11_readsParts_161 : decode cX11_readsParts 161 = .ok (.bipush 59, 2) := by decide +kernel
theorem dX11_readsParts_163 : decode cX11_readsParts 163 = .ok (.if_icmp .eq 6, 3) := by decide +kernel
theorem dX11_readsParts_166 : decode cX11_readsParts 166 = .ok (.iload 4, 2) := by decide +kernel
theorem dX11_readsParts_168 : decode cX11_readsParts 168 = .ok (.ireturn, 1) := by decide +kernel
theorem dX11_readsParts_169 : decode cX11_readsParts 169 = .ok (.iinc 4 1, 3) := by decide +kernel
theorem dX11_readsParts_172 : decode cX11_readsParts 172 = .ok (.goto (-124), 3) := by decide +kernel
theorem dX11_readsParts_175 : decode cX11_readsParts 175 = .ok (.iconst (-1), 1) := by decide +kernel
theorem dX11_readsParts_176 : decode cX11_readsParts 176 = .ok (.ireturn, 1) := by decide +kernel
theorem dX11_faultOf_0 : decode cX11_faultOf 0 = .ok (.aload_n 0, 1) := by decide +kernel
theorem dX11_faultOf_1 : decode cX11_faultOf 1 = .ok (.iconst 0, 1) := by decide +kernel
theorem dX11_faultOf_2 : decode cX11_faultOf 2 = .ok (.invokevirtual 174, 3) := by decide +kernel
theorem dX11_faultOf_5 : decode cX11_faultOf 5 = .ok (.istore_n 2, 1) := by decide +kernel
theorem dX11_faultOf_6 : decode cX11_faultOf 6 = .ok (.aload_n 0, 1) := by decide +kernel
theorem dX11_faultOf_7 : decode cX11_faultOf 7 = .ok (.iconst 1, 1) := by decide +kernel
theorem dX11_faultOf_8 : decode cX11_faultOf 8 = .ok (.invokevirtual 174, 3) := by decide +kernel
theorem dX11_faultOf_11 : decode cX11_faultOf 11 = .ok (.istore_n 3, 1) := by decide +kernel
theorem dX11_faultOf_12 : decode cX11_faultOf 12 = .ok (.iload_n 1, 1) := by decide +kernel
theorem dX11_faultOf_13 : decode cX11_faultOf 13 = .ok (.ifCond .ne 7, 3) := by decide +kernel
theorem dX11_faultOf_16 : decode cX11_faultOf 16 = .ok (.iload_n 2, 1) := by decide +kernel
theorem dX11_faultOf_17 : decode cX11_faultOf 17 = .ok (.goto 4, 3) := by decide +kernel
theorem dX11_faultOf_20 : decode cX11_faultOf 20 = .ok (.iload_n 3, 1) := by decide +kernel
theorem dX11_faultOf_21 : decode cX11_faultOf 21 = .ok (.ireturn, 1) := by decide +kernel
theorem dX11_reads_0 : decode cX11_reads 0 = .ok (.aload_n 0, 1) := by decide +kernel
theorem dX11_reads_1 : decode cX11_reads 1 = .ok (.iconst 0, 1) := by decide +kernel
theorem dX11_reads_2 : decode cX11_reads 2 = .ok (.invokevirtual 177, 3) := by decide +kernel
theorem dX11_reads_5 : decode cX11_reads 5 = .ok (.istore_n 1, 1) := by decide +kernel
theorem dX11_reads_6 : decode cX11_reads 6 = .ok (.return_, 1) := by decide +kernel
theorem f_ref8 {W : Nat → Nat → Prop} {s : mS} {v : Int32} (h : W 111 2) (k : fW W σ s) : fW W σ (us (us s 111 2 v) 111 8 ((us s 111 2 v).1 111 8)) := by
  refine ⟨k.1, fun y z => ?_⟩
  rw [us_at, us_at, us_at]
  by_cases h2 : y = 111 ∧ z = 8
  · obtain ⟨rfl, rfl⟩ := h2; rw [if_pos ⟨rfl, rfl⟩, if_neg (by omega)]; exact k.2 _ _
  · rw [if_neg h2]
    by_cases h3 : y = 111 ∧ z = 2
    · obtain ⟨rfl, rfl⟩ := h3; exact Or.inl h
    · rw [if_neg h3]; exact k.2 y z
theorem f_ref2 {W : Nat → Nat → Prop} {s : mS} {v : Int32} (h : W 111 8) (k : fW W σ s) : fW W σ (us (us s 111 2 (s.1 111 2)) 111 8 v) := by
  refine ⟨k.1, fun y z => ?_⟩
  rw [us_at, us_at]
  by_cases h2 : y = 111 ∧ z = 8
  · obtain ⟨rfl, rfl⟩ := h2; exact Or.inl h
  · rw [if_neg h2]
    by_cases h3 : y = 111 ∧ z = 2
    · obtain ⟨rfl, rfl⟩ := h3; rw [if_pos ⟨rfl, rfl⟩]; exact k.2 _ _
    · rw [if_neg h3]; exact k.2 y z

theorem c_readsCars (hd : 3 ≤ d) (L : Nat) (hL : σ.1 112 0 = nI L) (hL47 : L ≤ 47) : mMet G l d kX11_readsParts [.ref 111, .int 0] σ (qIP (fun r s => r = (parC L (tx σ 0)).1 ∧ s.1 111 2 = nI (parC L (tx σ 0)).2 ∧ (∀ k, k < (parC L (tx σ 0)).2 → s.1 114 k = carB L (tx σ 0) k 0 ∧ s.1 115 k = carB L (tx σ 0) k 1 ∧ s.1 116 k = carB L (tx σ 0) k 2 ∧ s.1 117 k = carB L (tx σ 0) k 3 ∧ s.1 118 k = carB L (tx σ 0) k 4) ∧ fW (fun y z => (y = 111 ∧ z = 2) ∨ (114 ≤ y ∧ y ≤ 118 ∧ z < 8)) σ s)) := by
  refine mMet.of cm_X11_readsParts rfl (Nat.le_of_ble_eq_true rfl) rfl (fun v1 σ1 h => by obtain ⟨r, h1, -⟩ := h; rw [h1]; rfl) ?_
  generalize hb : (tx σ 0) = b
  have key : ∀ f k (s : mS), f + k = 9 → k ≤ 8 → ((∀ i, i < k → s.1 114 i = carB L b i 0 ∧ s.1 115 i = carB L b i 1 ∧ s.1 116 i = carB L b i 2 ∧ s.1 117 i = carB L b i 3 ∧ s.1 118 i = carB L b i 4) ∧ s.1 111 2 = 0 ∧ fW (fun y z => (y = 111 ∧ z = 2) ∨ (114 ≤ y ∧ y ≤ 118 ∧ z < 8)) σ s) → L ≠ 0 → parC L b = parT 5 (goodC L b) L b f k → mW G l d kX11_readsParts 64 [(4, .int (nI (6 * k))), (3, .int (nI k)), (2, .int 5), (0, .ref 111), (1, .int 0)] [] s (qIP (fun r s => r = (parC L b).1 ∧ s.1 111 2 = nI (parC L b).2 ∧ (∀ k, k < (parC L b).2 → s.1 114 k = carB L b k 0 ∧ s.1 115 k = carB L b k 1 ∧ s.1 116 k = carB L b k 2 ∧ s.1 117 k = carB L b k 3 ∧ s.1 118 k = carB L b k 4) ∧ fW (fun y z => (y = 111 ∧ z = 2) ∨ (114 ≤ y ∧ y ≤ 118 ∧ z < 8)) σ s)) := by
    intro f
    induction f with
    | zero => intro k s h1 h2; omega
    | succ f ih =>
      rintro k s hf hk ⟨i1, i2, i3⟩ hL0 hpar
      have hL1 : s.1 112 0 = nI L := (i3.at (by omega)).trans hL
      have hb1 : tx s 0 = b := by rw [← hb]; funext i; exact i3.at (by omega)
      have hgl := goodC_le L b k
      refine m_iload_n dX11_readsParts_64 4 rfl ?_
      refine m_if_ne dX11_readsParts_65 78 (by decide) (fun h65 => ?_) (fun h65 => ?_)
      · exact absurd rfl h65
      refine m_aload_n dX11_readsParts_68 3 rfl ?_
      refine m_iload_n dX11_readsParts_69 1 rfl ?_
      refine m_iload dX11_readsParts_70 0 rfl ?_
      refine m_callV (As := [_, _]) dX11_readsParts_72 cv_X11_168 (by first | assumption | rfl) (by decide) (by omega) rfl rfl (Nat.le_of_ble_eq_true rfl) (c_readsCar (d := d - 1) (σ := s) (by omega) L k hL1 hL47 hk (by rw [hb1]; exact fun i hi => ⟨(i1 i hi).2.1, (i1 i hi).2.2.1⟩)) (fun v1 σ1 hv1 => ?_)
      refine m_qIP hv1 (fun rg hp => ?_)
      clear hv1 v1
      refine m_goto dX11_readsParts_75 85 (by decide) ?_
      skip
      rename mS => s1
      rw [hb1] at hp
      obtain ⟨rfl, p2, p3⟩ := hp
      have hL2 : s1.1 112 0 = nI L := (p3.at (by omega)).trans hL1
      have hb2 : tx s1 0 = b := by rw [← hb1]; funext i; exact p3.at (by omega)
      refine m_istore (ls1 := [(5, _), (4, _), (3, _), (2, _), (0, _), (1, _)]) dX11_readsParts_85 (by decide) rfl ?_
      refine m_iload dX11_readsParts_87 0 rfl ?_
      refine m_iload_n dX11_readsParts_89 3 rfl ?_
      refine m_icmp_ge dX11_readsParts_90 99 (by decide) (fun h90 => ?_) (fun h90 => ?_)
      · have hg : goodC L b k = 5 := by have := (nle (a := 5) (by omega) (by omega)).mp h90; omega
        have hkN : k < 8 := by
          have : k ≠ 8 := fun e => by rw [e] at hg; unfold goodC at hg; rw [if_pos (Or.inl rfl)] at hg; exact absurd hg (by decide)
          omega
        have hp2 := p2 hg
        have i1' : ∀ i, i < k + 1 → s1.1 114 i = carB L b i 0 ∧ s1.1 115 i = carB L b i 1 ∧ s1.1 116 i = carB L b i 2 ∧ s1.1 117 i = carB L b i 3 ∧ s1.1 118 i = carB L b i 4 := by
          intro i hi
          rcases Nat.lt_succ_iff_lt_or_eq.mp hi with h | rfl
          · rw [p3.at (y := 114) (z := i) (by omega), p3.at (y := 115) (z := i) (by omega), p3.at (y := 116) (z := i) (by omega), p3.at (y := 117) (z := i) (by omega), p3.at (y := 118) (z := i) (by omega)]
            exact i1 i h
          · exact hp2
        have i3' : fW (fun y z => (y = 111 ∧ z = 2) ∨ (114 ≤ y ∧ y ≤ 118 ∧ z < 8)) σ s1 := i3.tr (p3.mono (fun y z h => by omega))
        have i2' : s1.1 111 2 = 0 := (p3.at (by omega)).trans i2
        refine m_iinc (v := nI (k + 1)) (ls1 := [(3, _), (5, _), (4, _), (2, _), (0, _), (1, _)]) dX11_readsParts_99 2 rfl (nI_1 k) (by decide) rfl ?_
        refine m_iload dX11_readsParts_102 2 rfl ?_
        refine m_iload_n dX11_readsParts_104 3 rfl ?_
        refine m_iadd dX11_readsParts_105 ?_
        refine mW.top (w := nI (6 * k + 5)) (naddL 5 rfl rfl) ?_
        refine m_istore (ls1 := [(4, _), (3, _), (5, _), (2, _), (0, _), (1, _)]) dX11_readsParts_106 (by decide) rfl ?_
        refine m_iload dX11_readsParts_108 0 rfl ?_
        refine m_aload_n dX11_readsParts_110 4 rfl ?_
        refine m_getR 0 112 dX11_readsParts_111 fl_X11_7_10 rfl (by decide) rfl (by first | assumption | rfl) ?_
        refine m_iload_n dX11_readsParts_114 5 rfl ?_
        refine m_iald dX11_readsParts_115 (by first | assumption | rfl) 0 rfl (by first | assumption | omega | decide) ?_
        refine mW.top hL2 ?_
        refine m_icmp_ne dX11_readsParts_116 154 (by decide) (fun h116 => ?_) (fun h116 => ?_)
        · have hB : mMet G l (d - 1) kX11_byteAt [.ref 111, .int 0, .int (nI (6 * k + 5))] s1 (qI (btE L b (6 * k + 5)) s1) := by
            have hB0 := c_byteAt (G := G) (l := l) (d := d - 1) (σ := s1) 0 L (6 * k + 5) (by decide) hL2 hL47 (by omega)
            rw [hb2] at hB0
            exact hB0
          refine m_aload_n dX11_readsParts_154 4 rfl ?_
          refine m_iload_n dX11_readsParts_155 5 rfl ?_
          refine m_iload dX11_readsParts_156 0 rfl ?_
          refine m_callV (As := [_, _]) dX11_readsParts_158 cv_X11_144 (by first | assumption | rfl) (by decide) (by omega) rfl rfl (Nat.le_of_ble_eq_true rfl) hB (fun v1 σ1 hv1 => ?_)
          refine m_qI hv1 ?_
          clear hv1 v1 σ1
          refine m_bipush (v := 59) dX11_readsParts_161 (by decide) ?_
          have hne : (6 * k + 5) ≠ L := fun e => h116 (by rw [e])
          refine m_icmp_eq dX11_readsParts_163 169 (by decide) (fun h163 => ?_) (fun h163 => ?_)
          · refine m_iinc (v := nI (6 * (k + 1))) (ls1 := [(4, _), (3, _), (5, _), (2, _), (0, _), (1, _)]) dX11_readsParts_169 0 rfl (naddL 1 rfl (by omega)) (by decide) rfl ?_
            refine m_goto dX11_readsParts_172 48 (by decide) ?_
            have hpar2 : parC L b = parT 5 (goodC L b) L b f (k + 1) := by
              rw [hpar]
              show (if goodC L b k < 5 then _ else if 6 * k + 5 = L then _ else if btE L b (6 * k + 5) ≠ 59 then _ else parT 5 (goodC L b) L b f (k + 1)) = _
              rw [if_neg (by omega), if_neg hne, if_neg (fun q => q h163)]
            have K := ih (k + 1) s1 (by omega) (by omega) ⟨i1', i2', i3'⟩ hL0 hpar2
            refine m_iload dX11_readsParts_48 0 rfl ?_
            refine m_aload_n dX11_readsParts_50 4 rfl ?_
            refine m_getR 0 112 dX11_readsParts_51 fl_X11_7_10 rfl (by decide) rfl (by first | assumption | rfl) ?_
            refine m_iload_n dX11_readsParts_54 5 rfl ?_
            refine m_iald dX11_readsParts_55 (by first | assumption | rfl) 0 rfl (by first | assumption | omega | decide) ?_
            refine mW.top hL2 ?_
            refine m_icmp_lt dX11_readsParts_56 64 (by decide) (fun h56 => ?_) (fun h56 => ?_)
            · refine mW.sub (ls1 := [(4, _), (3, _), (2, _), (0, _), (1, _)]) [0, 1, 3, 4, 5] rfl ?_
              exact K
            · refine m_iload dX11_readsParts_59 0 rfl ?_
              refine m_if_le dX11_readsParts_61 175 (by decide) (fun h61 => ?_) (fun h61 => ?_)
              · exact absurd ((nle (b := 0) (by omega) (by omega)).mp h61) (by omega)
              · refine mW.sub (ls1 := [(4, _), (3, _), (2, _), (0, _), (1, _)]) [0, 1, 3, 4, 5] rfl ?_
                exact K
          · refine m_iload dX11_readsParts_166 0 rfl ?_
            refine m_ireturn dX11_readsParts_168 ⟨_, rfl, ?_⟩
            have e : parC L b = (nI (6 * k + 5), 0) := by
              rw [hpar]
              show (if goodC L b k < 5 then _ else if 6 * k + 5 = L then _ else if btE L b (6 * k + 5) ≠ 59 then (nI (6 * k + 5), 0) else _) = _
              rw [if_neg (by omega), if_neg hne, if_pos h163]
            rw [e]
            exact ⟨rfl, i2', fun k hk => absurd hk (Nat.not_lt_zero _), i3'⟩
        · have hLk : 6 * k + 5 = L := (neq (by omega) (by omega)).mp h116
          refine m_aload_n dX11_readsParts_119 4 rfl ?_
          refine m_iload_n dX11_readsParts_120 5 rfl ?_
          refine m_if_ne dX11_readsParts_121 128 (by decide) (fun h121 => ?_) (fun h121 => ?_)
          · exact absurd rfl h121
          refine m_iload_n dX11_readsParts_124 1 rfl ?_
          refine m_goto dX11_readsParts_125 132 (by decide) ?_
          refine m_putI 2 dX11_readsParts_132 fw_X11_161_10 rfl (by decide) rfl rfl (by first | assumption | rfl) ?_
          refine m_aload_n dX11_readsParts_135 4 rfl ?_
          refine m_iload_n dX11_readsParts_136 5 rfl ?_
          refine m_iconst (v := 1) dX11_readsParts_137 (by decide) ?_
          refine m_icmp_ne dX11_readsParts_138 145 (by decide) (fun h138 => ?_) (fun h138 => ?_)
          rotate_left
          · exact absurd h138 (by decide)
          refine m_aload_n dX11_readsParts_145 4 rfl ?_
          refine m_getI 8 dX11_readsParts_146 fl_X11_165_10 rfl (by decide) (by first | assumption | rfl) ?_
          refine m_putI 8 dX11_readsParts_149 fw_X11_165_10 rfl (by decide) rfl rfl (by first | assumption | rfl) ?_
          refine m_iconst (v := -1) dX11_readsParts_152 (by decide) ?_
          refine m_ireturn dX11_readsParts_153 ?_
          refine ⟨_, rfl, ?_⟩
          have e : parC L b = (-1, k + 1) := by rw [hpar]; show (if goodC L b k < 5 then _ else if 6 * k + 5 = L then (-1, k + 1) else _) = _; rw [if_neg (by omega), if_pos hLk]
          rw [e]
          exact ⟨rfl, by simp [us_at], fun i hi => by simp only [us_at]; simp; exact i1' i hi, f_ref8 (by omega) i3'⟩
      · have hg : goodC L b k < 5 := by
          by_cases q : goodC L b k < 5
          · exact q
          · exact absurd ((nle (a := 5) (by omega) (by omega)).mpr (by omega)) h90
        refine m_iload dX11_readsParts_93 1 rfl ?_
        refine m_iload dX11_readsParts_95 0 rfl ?_
        refine m_iadd dX11_readsParts_97 ?_
        refine mW.top (w := nI (6 * k + goodC L b k)) (nadd rfl) ?_
        refine m_ireturn dX11_readsParts_98 ⟨_, rfl, ?_⟩
        have e : parC L b = (nI (6 * k + goodC L b k), 0) := by
          rw [hpar]
          show (if goodC L b k < 5 then (nI (6 * k + goodC L b k), 0) else _) = _
          rw [if_pos hg]
        rw [e]
        exact ⟨rfl, (p3.at (by omega)).trans i2, fun k hk => absurd hk (Nat.not_lt_zero _), i3.tr (p3.mono (fun y z h => by omega))⟩
  refine m_iload_n dX11_readsParts_0 1 rfl ?_
  refine m_if_ne dX11_readsParts_1 8 (by decide) (fun h1 => ?_) (fun h1 => ?_)
  · exact absurd rfl h1
  refine m_iconst (v := 5) dX11_readsParts_4 (by decide) ?_
  refine m_goto dX11_readsParts_5 9 (by decide) ?_
  refine m_istore_n (ls1 := [(2, _), (0, _), (1, _)]) dX11_readsParts_9 (by decide) rfl ?_
  refine m_iconst (v := 0) dX11_readsParts_10 (by decide) ?_
  refine m_istore_n (ls1 := [(3, _), (2, _), (0, _), (1, _)]) dX11_readsParts_11 (by decide) rfl ?_
  refine m_iconst (v := 0) dX11_readsParts_12 (by decide) ?_
  refine m_istore (ls1 := [(4, _), (3, _), (2, _), (0, _), (1, _)]) dX11_readsParts_13 (by decide) rfl ?_
  refine m_aload_n dX11_readsParts_15 3 rfl ?_
  refine m_iload_n dX11_readsParts_16 4 rfl ?_
  refine m_if_ne dX11_readsParts_17 24 (by decide) (fun h17 => ?_) (fun h17 => ?_)
  · exact absurd rfl h17
  refine m_iconst (v := 0) dX11_readsParts_20 (by decide) ?_
  refine m_goto dX11_readsParts_21 28 (by decide) ?_
  refine m_putI 2 dX11_readsParts_28 fw_X11_161_10 rfl (by decide) rfl rfl (by first | assumption | rfl) ?_
  refine m_aload_n dX11_readsParts_31 3 rfl ?_
  refine m_iload_n dX11_readsParts_32 4 rfl ?_
  refine m_iconst (v := 1) dX11_readsParts_33 (by decide) ?_
  refine m_icmp_ne dX11_readsParts_34 41 (by decide) (fun h34 => ?_) (fun h34 => ?_)
  rotate_left
  · exact absurd h34 (by decide)
  refine m_aload_n dX11_readsParts_41 3 rfl ?_
  refine m_getI 8 dX11_readsParts_42 fl_X11_165_10 rfl (by decide) (by first | assumption | rfl) ?_
  refine m_putI 8 dX11_readsParts_45 fw_X11_165_10 rfl (by decide) rfl rfl (by first | assumption | rfl) ?_
  skip
  have i3 : fW (fun y z => (y = 111 ∧ z = 2) ∨ (114 ≤ y ∧ y ≤ 118 ∧ z < 8)) σ (us (us σ 111 2 0) 111 8 ((us σ 111 2 0).1 111 8)) := f_ref8 (by omega) fW.rf
  have i2 : (us (us σ 111 2 0) 111 8 ((us σ 111 2 0).1 111 8)).1 111 2 = 0 := by simp [us_at]
  generalize (us (us σ 111 2 0) 111 8 ((us σ 111 2 0).1 111 8)) = s at i3 i2 ⊢
  have hL1 : s.1 112 0 = nI L := (i3.at (by omega)).trans hL
  refine m_iload dX11_readsParts_48 0 rfl ?_
  refine m_aload_n dX11_readsParts_50 3 rfl ?_
  refine m_getR 0 112 dX11_readsParts_51 fl_X11_7_10 rfl (by decide) rfl (by first | assumption | rfl) ?_
  refine m_iload_n dX11_readsParts_54 4 rfl ?_
  refine m_iald dX11_readsParts_55 (by first | assumption | rfl) 0 rfl (by first | assumption | omega | decide) ?_
  refine mW.top hL1 ?_
  refine m_icmp_lt dX11_readsParts_56 64 (by decide) (fun h56 => ?_) (fun h56 => ?_)
  · have hL0 : L ≠ 0 := by
      have := (nlt (a := 0) (by omega) (by omega)).mp h56
      omega
    exact key 9 0 s rfl (by omega) ⟨fun i hi => absurd hi (Nat.not_lt_zero _), i2, i3⟩ hL0 (by unfold parC; rw [if_neg hL0])
  · have hL0 : L = 0 := by
      by_cases q : L = 0
      · exact q
      · exact absurd ((nlt (a := 0) (by omega) (by omega)).mpr (by omega)) h56
    refine m_iload dX11_readsParts_59 0 rfl ?_
    refine m_if_le dX11_readsParts_61 175 (by decide) (fun h61 => ?_) (fun h61 => ?_)
    · refine m_iconst (v := -1) dX11_readsParts_175 (by decide) ?_
      refine m_ireturn dX11_readsParts_176 ⟨_, rfl, ?_⟩
      have e : parC L b = (-1, 0) := by unfold parC; rw [if_pos hL0]
      rw [e]
      exact ⟨rfl, i2, fun k hk => absurd hk (Nat.not_lt_zero _), i3⟩
    · exact absurd (Int32.le_refl _) h61

theorem c_readsSteer (hd : 2 ≤ d) (L k : Nat) (hL : σ.1 112 1 = nI L) (hL47 : L ≤ 47) (hk : k ≤ 12) : mMet G l d kX11_readsSteer [.ref 111, .int (nI k), .int (nI (4 * k))] σ (qIP (fun r s => r = nI (goodS L (tx σ 1) k) ∧ (goodS L (tx σ 1) k = 3 → s.1 119 k = steB L (tx σ 1) k 0 ∧ s.1 120 k = steB L (tx σ 1) k 1 ∧ s.1 121 k = steB L (tx σ 1) k 2) ∧ fW (fun y z => 119 ≤ y ∧ y ≤ 121 ∧ z = k ∧ k < 12) σ s)) := by
  refine mMet.of cm_X11_readsSteer rfl (Nat.le_of_ble_eq_true rfl) rfl (fun v1 σ1 h => by obtain ⟨r, h1, -⟩ := h; rw [h1]; rfl) ?_
  generalize hb : tx σ 1 = b
  have hB : ∀ i, i < 1000 → mMet G l (d - 1) kX11_byteAt [.ref 111, .int 1, .int (nI i)] σ (qI (btE L b i) σ) := fun i hi => by rw [← hb]; exact c_byteAt 1 L i (by decide) hL hL47 hi
  refine m_aload_n dX11_readsSteer_0 0 rfl ?_
  refine m_iconst (v := 1) dX11_readsSteer_1 (by decide) ?_
  refine m_iload_n dX11_readsSteer_2 2 rfl ?_
  refine m_callV (As := [_, _]) dX11_readsSteer_3 cv_X11_144 (by first | assumption | rfl) (by decide) (by omega) rfl rfl (Nat.le_of_ble_eq_true rfl) (hB (4 * k) (by omega)) (fun v1 σ1 hv1 => ?_)
  refine m_qI hv1 ?_
  clear hv1 v1 σ1
  refine m_istore_n (ls1 := [(3, _), (0, _), (1, _), (2, _)]) dX11_readsSteer_6 (by decide) rfl ?_
  refine m_aload_n dX11_readsSteer_7 1 rfl ?_
  refine m_iconst (v := 1) dX11_readsSteer_8 (by decide) ?_
  refine m_iload_n dX11_readsSteer_9 3 rfl ?_
  refine m_iconst (v := 1) dX11_readsSteer_10 (by decide) ?_
  refine m_iadd dX11_readsSteer_11 ?_
  refine mW.top (w := nI (4 * k + 1)) (naddL 1 rfl rfl) ?_
  refine m_callV (As := [_, _]) dX11_readsSteer_12 cv_X11_144 (by first | assumption | rfl) (by decide) (by omega) rfl rfl (Nat.le_of_ble_eq_true rfl) (hB (4 * k + 1) (by omega)) (fun v1 σ1 hv1 => ?_)
  refine m_qI hv1 ?_
  clear hv1 v1 σ1
  refine m_istore (ls1 := [(4, _), (3, _), (0, _), (1, _), (2, _)]) dX11_readsSteer_15 (by decide) rfl ?_
  refine m_aload_n dX11_readsSteer_17 2 rfl ?_
  refine m_iconst (v := 1) dX11_readsSteer_18 (by decide) ?_
  refine m_iload_n dX11_readsSteer_19 4 rfl ?_
  refine m_iconst (v := 2) dX11_readsSteer_20 (by decide) ?_
  refine m_iadd dX11_readsSteer_21 ?_
  refine mW.top (w := nI (4 * k + 2)) (naddL 2 rfl rfl) ?_
  refine m_callV (As := [_, _]) dX11_readsSteer_22 cv_X11_144 (by first | assumption | rfl) (by decide) (by omega) rfl rfl (Nat.le_of_ble_eq_true rfl) (hB (4 * k + 2) (by omega)) (fun v1 σ1 hv1 => ?_)
  refine m_qI hv1 ?_
  clear hv1 v1 σ1
  refine m_istore (ls1 := [(5, _), (4, _), (3, _), (0, _), (1, _), (2, _)]) dX11_readsSteer_25 (by decide) rfl ?_
  refine m_iload_n dX11_readsSteer_27 4 rfl ?_
  refine m_bipush (v := 12) dX11_readsSteer_28 (by decide) ?_
  have h12 : nI k = 12 ↔ k = 12 := neq (b := 12) (by omega) (by omega)
  refine m_icmp_eq dX11_readsSteer_30 44 (by decide) (fun h30 => ?_) (fun h30 => ?_)
  · refine m_iconst (v := 0) dX11_readsSteer_44 (by decide) ?_
    refine m_ireturn dX11_readsSteer_45 ⟨_, rfl, ?_, ?_, fW.rf⟩
    all_goals (have hg : goodS L b k = 0 := by unfold goodS; first | exact if_pos (Or.inl (h12.mp h30)) | exact if_pos (Or.inr (bI0 h41)))
    · rw [hg]; rfl
    · rw [hg]; intro q; exact absurd q (by decide)
  · refine m_iload_n dX11_readsSteer_33 2 rfl ?_
    refine m_bipush (v := 97) dX11_readsSteer_34 (by decide) ?_
    refine m_bipush (v := 120) dX11_readsSteer_36 (by decide) ?_
    refine m_callS (As := [_, _, _]) dX11_readsSteer_38 cs_X11_136 (by omega) rfl rfl (Nat.le_of_ble_eq_true rfl) (c_in (d := d - 1) _ 97 120) (fun v1 σ1 hv1 => ?_)
    refine m_qI hv1 ?_
    clear hv1 v1 σ1
    refine m_if_ne dX11_readsSteer_41 46 (by decide) (fun h41 => ?_) (fun h41 => ?_)
    · refine m_iload dX11_readsSteer_46 1 rfl ?_
      refine m_bipush (v := 48) dX11_readsSteer_48 (by decide) ?_
      refine m_bipush (v := 55) dX11_readsSteer_50 (by decide) ?_
      refine m_callS (As := [_, _, _]) dX11_readsSteer_52 cs_X11_136 (by omega) rfl rfl (Nat.le_of_ble_eq_true rfl) (c_in (d := d - 1) _ 48 55) (fun v1 σ1 hv1 => ?_)
      refine m_qI hv1 ?_
      clear hv1 v1 σ1
      refine m_if_ne dX11_readsSteer_55 60 (by decide) (fun h55 => ?_) (fun h55 => ?_)
      · refine m_iload dX11_readsSteer_60 0 rfl ?_
        refine m_bipush (v := 108) dX11_readsSteer_62 (by decide) ?_
        refine m_icmp_eq dX11_readsSteer_64 76 (by decide) (fun h64 => ?_) (fun h64 => ?_)
        · refine m_aload_n dX11_readsSteer_76 3 rfl ?_
          refine m_getR 9 119 dX11_readsSteer_77 fl_X11_31_10 rfl (by decide) rfl (by first | assumption | rfl) ?_
          refine m_iload_n dX11_readsSteer_80 4 rfl ?_
          refine m_iload_n dX11_readsSteer_81 2 rfl ?_
          refine m_bipush (v := 97) dX11_readsSteer_82 (by decide) ?_
          refine m_isub dX11_readsSteer_84 ?_
          refine m_iast dX11_readsSteer_85 (by first | assumption | rfl) k rfl (by have hne : k ≠ 12 := fun e => h30 (h12.mpr e); omega) ?_
          refine m_aload_n dX11_readsSteer_86 3 rfl ?_
          refine m_getR 10 120 dX11_readsSteer_87 fl_X11_34_10 rfl (by decide) rfl (by first | assumption | rfl) ?_
          refine m_iload_n dX11_readsSteer_90 4 rfl ?_
          refine m_iload dX11_readsSteer_91 1 rfl ?_
          refine m_bipush (v := 48) dX11_readsSteer_93 (by decide) ?_
          refine m_isub dX11_readsSteer_95 ?_
          refine m_iast dX11_readsSteer_96 (by first | assumption | rfl) k rfl (by have hne : k ≠ 12 := fun e => h30 (h12.mpr e); omega) ?_
          refine m_aload_n dX11_readsSteer_97 3 rfl ?_
          refine m_getR 11 121 dX11_readsSteer_98 fl_X11_37_10 rfl (by decide) rfl (by first | assumption | rfl) ?_
          refine m_iload_n dX11_readsSteer_101 4 rfl ?_
          refine m_iload dX11_readsSteer_102 0 rfl ?_
          refine m_bipush (v := 108) dX11_readsSteer_104 (by decide) ?_
          refine m_icmp_ne dX11_readsSteer_106 113 (by decide) (fun h106 => ?_) (fun h106 => ?_)
          · refine m_iconst (v := 2) dX11_readsSteer_113 (by decide) ?_
            refine m_iast dX11_readsSteer_114 (by first | assumption | rfl) k rfl (by have hne : k ≠ 12 := fun e => h30 (h12.mpr e); omega) ?_
            refine m_iconst (v := 3) dX11_readsSteer_115 (by decide) ?_
            have hk12 : k < 12 := by have hne : k ≠ 12 := fun e => h30 (h12.mpr e); omega
            have hg : goodS L b k = 3 := by unfold goodS; rw [if_neg (by rintro (q | q); exact h30 (h12.mpr q); exact q (bI1 h41)), if_neg (fun q => q (bI1 h55))]; exact if_neg (fun q => by first | exact absurd h64 q.1 | exact absurd h71 q.2)
            refine m_ireturn dX11_readsSteer_116 ⟨_, rfl, by rw [hg]; rfl, fun _ => ?_, fW.us ⟨by omega, by omega, rfl, hk12⟩ (fW.us ⟨by omega, by omega, rfl, hk12⟩ (fW.us ⟨by omega, by omega, rfl, hk12⟩ fW.rf))⟩
            simp only [us_at]
            simp [steB]
            first | exact fun q => absurd h106 q | exact fun q => absurd q h106 | (rw [if_pos h106]) | (rw [if_neg h106]) | trivial
          · refine m_iconst (v := 1) dX11_readsSteer_109 (by decide) ?_
            refine m_goto dX11_readsSteer_110 114 (by decide) ?_
            refine m_iast dX11_readsSteer_114 (by first | assumption | rfl) k rfl (by have hne : k ≠ 12 := fun e => h30 (h12.mpr e); omega) ?_
            refine m_iconst (v := 3) dX11_readsSteer_115 (by decide) ?_
            have hk12 : k < 12 := by have hne : k ≠ 12 := fun e => h30 (h12.mpr e); omega
            have hg : goodS L b k = 3 := by unfold goodS; rw [if_neg (by rintro (q | q); exact h30 (h12.mpr q); exact q (bI1 h41)), if_neg (fun q => q (bI1 h55))]; exact if_neg (fun q => by first | exact absurd h64 q.1 | exact absurd h71 q.2)
            refine m_ireturn dX11_readsSteer_116 ⟨_, rfl, by rw [hg]; rfl, fun _ => ?_, fW.us ⟨by omega, by omega, rfl, hk12⟩ (fW.us ⟨by omega, by omega, rfl, hk12⟩ (fW.us ⟨by omega, by omega, rfl, hk12⟩ fW.rf))⟩
            simp only [us_at]
            simp [steB]
            first | exact fun q => absurd h106 q | exact fun q => absurd q h106 | (rw [if_pos h106]) | (rw [if_neg h106]) | trivial
        · refine m_iload dX11_readsSteer_67 0 rfl ?_
          refine m_bipush (v := 114) dX11_readsSteer_69 (by decide) ?_
          refine m_icmp_eq dX11_readsSteer_71 76 (by decide) (fun h71 => ?_) (fun h71 => ?_)
          · refine m_aload_n dX11_readsSteer_76 3 rfl ?_
            refine m_getR 9 119 dX11_readsSteer_77 fl_X11_31_10 rfl (by decide) rfl (by first | assumption | rfl) ?_
            refine m_iload_n dX11_readsSteer_80 4 rfl ?_
            refine m_iload_n dX11_readsSteer_81 2 rfl ?_
            refine m_bipush (v := 97) dX11_readsSteer_82 (by decide) ?_
            refine m_isub dX11_readsSteer_84 ?_
            refine m_iast dX11_readsSteer_85 (by first | assumption | rfl) k rfl (by have hne : k ≠ 12 := fun e => h30 (h12.mpr e); omega) ?_
            refine m_aload_n dX11_readsSteer_86 3 rfl ?_
            refine m_getR 10 120 dX11_readsSteer_87 fl_X11_34_10 rfl (by decide) rfl (by first | assumption | rfl) ?_
            refine m_iload_n dX11_readsSteer_90 4 rfl ?_
            refine m_iload dX11_readsSteer_91 1 rfl ?_
            refine m_bipush (v := 48) dX11_readsSteer_93 (by decide) ?_
            refine m_isub dX11_readsSteer_95 ?_
            refine m_iast dX11_readsSteer_96 (by first | assumption | rfl) k rfl (by have hne : k ≠ 12 := fun e => h30 (h12.mpr e); omega) ?_
            refine m_aload_n dX11_readsSteer_97 3 rfl ?_
            refine m_getR 11 121 dX11_readsSteer_98 fl_X11_37_10 rfl (by decide) rfl (by first | assumption | rfl) ?_
            refine m_iload_n dX11_readsSteer_101 4 rfl ?_
            refine m_iload dX11_readsSteer_102 0 rfl ?_
            refine m_bipush (v := 108) dX11_readsSteer_104 (by decide) ?_
            refine m_icmp_ne dX11_readsSteer_106 113 (by decide) (fun h106 => ?_) (fun h106 => ?_)
            · refine m_iconst (v := 2) dX11_readsSteer_113 (by decide) ?_
              refine m_iast dX11_readsSteer_114 (by first | assumption | rfl) k rfl (by have hne : k ≠ 12 := fun e => h30 (h12.mpr e); omega) ?_
              refine m_iconst (v := 3) dX11_readsSteer_115 (by decide) ?_
              have hk12 : k < 12 := by have hne : k ≠ 12 := fun e => h30 (h12.mpr e); omega
              have hg : goodS L b k = 3 := by unfold goodS; rw [if_neg (by rintro (q | q); exact h30 (h12.mpr q); exact q (bI1 h41)), if_neg (fun q => q (bI1 h55))]; exact if_neg (fun q => by first | exact absurd h64 q.1 | exact absurd h71 q.2)
              refine m_ireturn dX11_readsSteer_116 ⟨_, rfl, by rw [hg]; rfl, fun _ => ?_, fW.us ⟨by omega, by omega, rfl, hk12⟩ (fW.us ⟨by omega, by omega, rfl, hk12⟩ (fW.us ⟨by omega, by omega, rfl, hk12⟩ fW.rf))⟩
              simp only [us_at]
              simp [steB]
              first | exact fun q => absurd h106 q | exact fun q => absurd q h106 | (rw [if_pos h106]) | (rw [if_neg h106]) | trivial
            · refine m_iconst (v := 1) dX11_readsSteer_109 (by decide) ?_
              refine m_goto dX11_readsSteer_110 114 (by decide) ?_
              refine m_iast dX11_readsSteer_114 (by first | assumption | rfl) k rfl (by have hne : k ≠ 12 := fun e => h30 (h12.mpr e); omega) ?_
              refine m_iconst (v := 3) dX11_readsSteer_115 (by decide) ?_
              have hk12 : k < 12 := by have hne : k ≠ 12 := fun e => h30 (h12.mpr e); omega
              have hg : goodS L b k = 3 := by unfold goodS; rw [if_neg (by rintro (q | q); exact h30 (h12.mpr q); exact q (bI1 h41)), if_neg (fun q => q (bI1 h55))]; exact if_neg (fun q => by first | exact absurd h64 q.1 | exact absurd h71 q.2)
              refine m_ireturn dX11_readsSteer_116 ⟨_, rfl, by rw [hg]; rfl, fun _ => ?_, fW.us ⟨by omega, by omega, rfl, hk12⟩ (fW.us ⟨by omega, by omega, rfl, hk12⟩ (fW.us ⟨by omega, by omega, rfl, hk12⟩ fW.rf))⟩
              simp only [us_at]
              simp [steB]
              first | exact fun q => absurd h106 q | exact fun q => absurd q h106 | (rw [if_pos h106]) | (rw [if_neg h106]) | trivial
          · refine m_iconst (v := 2) dX11_readsSteer_74 (by decide) ?_
            refine m_ireturn dX11_readsSteer_75 ⟨_, rfl, ?_, ?_, fW.rf⟩
            all_goals (have hg : goodS L b k = 2 := by unfold goodS; rw [if_neg (by rintro (q | q); exact h30 (h12.mpr q); exact q (bI1 h41)), if_neg (fun q => q (bI1 h55))]; exact if_pos ⟨h64, h71⟩)
            · rw [hg]; rfl
            · rw [hg]; intro q; exact absurd q (by decide)
      · refine m_iconst (v := 1) dX11_readsSteer_58 (by decide) ?_
        refine m_ireturn dX11_readsSteer_59 ⟨_, rfl, ?_, ?_, fW.rf⟩
        all_goals (have hg : goodS L b k = 1 := by unfold goodS; rw [if_neg (by rintro (q | q); exact h30 (h12.mpr q); exact q (bI1 h41))]; exact if_pos (bI0 h55))
        · rw [hg]; rfl
        · rw [hg]; intro q; exact absurd q (by decide)
    · refine m_iconst (v := 0) dX11_readsSteer_44 (by decide) ?_
      refine m_ireturn dX11_readsSteer_45 ⟨_, rfl, ?_, ?_, fW.rf⟩
      all_goals (have hg : goodS L b k = 0 := by unfold goodS; first | exact if_pos (Or.inl (h12.mp h30)) | exact if_pos (Or.inr (bI0 h41)))
      · rw [hg]; rfl
      · rw [hg]; intro q; exact absurd q (by decide)
theorem c_readsSteers (hd : 3 ≤ d) (L : Nat) (hL : σ.1 112 1 = nI L) (hL47 : L ≤ 47) : mMet G l d kX11_readsParts [.ref 111, .int 1] σ (qIP (fun r s => r = (parS L (tx σ 1)).1 ∧ s.1 111 8 = nI (parS L (tx σ 1)).2 ∧ (∀ k, k < (parS L (tx σ 1)).2 → s.1 119 k = steB L (tx σ 1) k 0 ∧ s.1 120 k = steB L (tx σ 1) k 1 ∧ s.1 121 k = steB L (tx σ 1) k 2) ∧ fW (fun y z => (y = 111 ∧ z = 8) ∨ (119 ≤ y ∧ y ≤ 121 ∧ z < 12)) σ s)) := by
  refine mMet.of cm_X11_readsParts rfl (Nat.le_of_ble_eq_true rfl) rfl (fun v1 σ1 h => by obtain ⟨r, h1, -⟩ := h; rw [h1]; rfl) ?_
  generalize hb : (tx σ 1) = b
  have key : ∀ f k (s : mS), f + k = 13 → k ≤ 12 → ((∀ i, i < k → s.1 119 i = steB L b i 0 ∧ s.1 120 i = steB L b i 1 ∧ s.1 121 i = steB L b i 2) ∧ s.1 111 8 = 0 ∧ fW (fun y z => (y = 111 ∧ z = 8) ∨ (119 ≤ y ∧ y ≤ 121 ∧ z < 12)) σ s) → L ≠ 0 → parS L b = parT 3 (goodS L b) L b f k → mW G l d kX11_readsParts 64 [(4, .int (nI (4 * k))), (3, .int (nI k)), (2, .int 3), (0, .ref 111), (1, .int 1)] [] s (qIP (fun r s => r = (parS L b).1 ∧ s.1 111 8 = nI (parS L b).2 ∧ (∀ k, k < (parS L b).2 → s.1 119 k = steB L b k 0 ∧ s.1 120 k = steB L b k 1 ∧ s.1 121 k = steB L b k 2) ∧ fW (fun y z => (y = 111 ∧ z = 8) ∨ (119 ≤ y ∧ y ≤ 121 ∧ z < 12)) σ s)) := by
    intro f
    induction f with
    | zero => intro k s h1 h2; omega
    | succ f ih =>
      rintro k s hf hk ⟨i1, i2, i3⟩ hL0 hpar
      have hL1 : s.1 112 1 = nI L := (i3.at (by omega)).trans hL
      have hb1 : tx s 1 = b := by rw [← hb]; funext i; exact i3.at (by omega)
      have hgl := goodS_le L b k
      refine m_iload_n dX11_readsParts_64 4 rfl ?_
      refine m_if_ne dX11_readsParts_65 78 (by decide) (fun h65 => ?_) (fun h65 => ?_)
      rotate_left
      · exact absurd h65 (by decide)
      refine m_aload_n dX11_readsParts_78 3 rfl ?_
      refine m_iload_n dX11_readsParts_79 1 rfl ?_
      refine m_iload dX11_readsParts_80 0 rfl ?_
      refine m_callV (As := [_, _]) dX11_readsParts_82 cv_X11_171 (by first | assumption | rfl) (by decide) (by omega) rfl rfl (Nat.le_of_ble_eq_true rfl) (c_readsSteer (d := d - 1) (σ := s) (by omega) L k hL1 hL47 hk) (fun v1 σ1 hv1 => ?_)
      refine m_qIP hv1 (fun rg hp => ?_)
      clear hv1 v1
      skip
      rename mS => s1
      rw [hb1] at hp
      obtain ⟨rfl, p2, p3⟩ := hp
      have hL2 : s1.1 112 1 = nI L := (p3.at (by omega)).trans hL1
      have hb2 : tx s1 1 = b := by rw [← hb1]; funext i; exact p3.at (by omega)
      refine m_istore (ls1 := [(5, _), (4, _), (3, _), (2, _), (0, _), (1, _)]) dX11_readsParts_85 (by decide) rfl ?_
      refine m_iload dX11_readsParts_87 0 rfl ?_
      refine m_iload_n dX11_readsParts_89 3 rfl ?_
      refine m_icmp_ge dX11_readsParts_90 99 (by decide) (fun h90 => ?_) (fun h90 => ?_)
      · have hg : goodS L b k = 3 := by have := (nle (a := 3) (by omega) (by omega)).mp h90; omega
        have hkN : k < 12 := by
          have : k ≠ 12 := fun e => by rw [e] at hg; unfold goodS at hg; rw [if_pos (Or.inl rfl)] at hg; exact absurd hg (by decide)
          omega
        have hp2 := p2 hg
        have i1' : ∀ i, i < k + 1 → s1.1 119 i = steB L b i 0 ∧ s1.1 120 i = steB L b i 1 ∧ s1.1 121 i = steB L b i 2 := by
          intro i hi
          rcases Nat.lt_succ_iff_lt_or_eq.mp hi with h | rfl
          · rw [p3.at (y := 119) (z := i) (by omega), p3.at (y := 120) (z := i) (by omega), p3.at (y := 121) (z := i) (by omega)]
            exact i1 i h
          · exact hp2
        have i3' : fW (fun y z => (y = 111 ∧ z = 8) ∨ (119 ≤ y ∧ y ≤ 121 ∧ z < 12)) σ s1 := i3.tr (p3.mono (fun y z h => by omega))
        have i2' : s1.1 111 8 = 0 := (p3.at (by omega)).trans i2
        refine m_iinc (v := nI (k + 1)) (ls1 := [(3, _), (5, _), (4, _), (2, _), (0, _), (1, _)]) dX11_readsParts_99 2 rfl (nI_1 k) (by decide) rfl ?_
        refine m_iload dX11_readsParts_102 2 rfl ?_
        refine m_iload_n dX11_readsParts_104 3 rfl ?_
        refine m_iadd dX11_readsParts_105 ?_
        refine mW.top (w := nI (4 * k + 3)) (naddL 3 rfl rfl) ?_
        refine m_istore (ls1 := [(4, _), (3, _), (5, _), (2, _), (0, _), (1, _)]) dX11_readsParts_106 (by decide) rfl ?_
        refine m_iload dX11_readsParts_108 0 rfl ?_
        refine m_aload_n dX11_readsParts_110 4 rfl ?_
        refine m_getR 0 112 dX11_readsParts_111 fl_X11_7_10 rfl (by decide) rfl (by first | assumption | rfl) ?_
        refine m_iload_n dX11_readsParts_114 5 rfl ?_
        refine m_iald dX11_readsParts_115 (by first | assumption | rfl) 1 rfl (by first | assumption | omega | decide) ?_
        refine mW.top hL2 ?_
        refine m_icmp_ne dX11_readsParts_116 154 (by decide) (fun h116 => ?_) (fun h116 => ?_)
        · have hB : mMet G l (d - 1) kX11_byteAt [.ref 111, .int 1, .int (nI (4 * k + 3))] s1 (qI (btE L b (4 * k + 3)) s1) := by
            have hB0 := c_byteAt (G := G) (l := l) (d := d - 1) (σ := s1) 1 L (4 * k + 3) (by decide) hL2 hL47 (by omega)
            rw [hb2] at hB0
            exact hB0
          refine m_aload_n dX11_readsParts_154 4 rfl ?_
          refine m_iload_n dX11_readsParts_155 5 rfl ?_
          refine m_iload dX11_readsParts_156 0 rfl ?_
          refine m_callV (As := [_, _]) dX11_readsParts_158 cv_X11_144 (by first | assumption | rfl) (by decide) (by omega) rfl rfl (Nat.le_of_ble_eq_true rfl) hB (fun v1 σ1 hv1 => ?_)
          refine m_qI hv1 ?_
          clear hv1 v1 σ1
          refine m_bipush (v := 59) dX11_readsParts_161 (by decide) ?_
          have hne : (4 * k + 3) ≠ L := fun e => h116 (by rw [e])
          refine m_icmp_eq dX11_readsParts_163 169 (by decide) (fun h163 => ?_) (fun h163 => ?_)
          · refine m_iinc (v := nI (4 * (k + 1))) (ls1 := [(4, _), (3, _), (5, _), (2, _), (0, _), (1, _)]) dX11_readsParts_169 0 rfl (naddL 1 rfl (by omega)) (by decide) rfl ?_
            refine m_goto dX11_readsParts_172 48 (by decide) ?_
            have hpar2 : parS L b = parT 3 (goodS L b) L b f (k + 1) := by
              rw [hpar]
              show (if goodS L b k < 3 then _ else if 4 * k + 3 = L then _ else if btE L b (4 * k + 3) ≠ 59 then _ else parT 3 (goodS L b) L b f (k + 1)) = _
              rw [if_neg (by omega), if_neg hne, if_neg (fun q => q h163)]
            have K := ih (k + 1) s1 (by omega) (by omega) ⟨i1', i2', i3'⟩ hL0 hpar2
            refine m_iload dX11_readsParts_48 0 rfl ?_
            refine m_aload_n dX11_readsParts_50 4 rfl ?_
            refine m_getR 0 112 dX11_readsParts_51 fl_X11_7_10 rfl (by decide) rfl (by first | assumption | rfl) ?_
            refine m_iload_n dX11_readsParts_54 5 rfl ?_
            refine m_iald dX11_readsParts_55 (by first | assumption | rfl) 1 rfl (by first | assumption | omega | decide) ?_
            refine mW.top hL2 ?_
            refine m_icmp_lt dX11_readsParts_56 64 (by decide) (fun h56 => ?_) (fun h56 => ?_)
            · refine mW.sub (ls1 := [(4, _), (3, _), (2, _), (0, _), (1, _)]) [0, 1, 3, 4, 5] rfl ?_
              exact K
            · refine m_iload dX11_readsParts_59 0 rfl ?_
              refine m_if_le dX11_readsParts_61 175 (by decide) (fun h61 => ?_) (fun h61 => ?_)
              · exact absurd ((nle (b := 0) (by omega) (by omega)).mp h61) (by omega)
              · refine mW.sub (ls1 := [(4, _), (3, _), (2, _), (0, _), (1, _)]) [0, 1, 3, 4, 5] rfl ?_
                exact K
          · refine m_iload dX11_readsParts_166 0 rfl ?_
            refine m_ireturn dX11_readsParts_168 ⟨_, rfl, ?_⟩
            have e : parS L b = (nI (4 * k + 3), 0) := by
              rw [hpar]
              show (if goodS L b k < 3 then _ else if 4 * k + 3 = L then _ else if btE L b (4 * k + 3) ≠ 59 then (nI (4 * k + 3), 0) else _) = _
              rw [if_neg (by omega), if_neg hne, if_pos h163]
            rw [e]
            exact ⟨rfl, i2', fun k hk => absurd hk (Nat.not_lt_zero _), i3'⟩
        · have hLk : 4 * k + 3 = L := (neq (by omega) (by omega)).mp h116
          refine m_aload_n dX11_readsParts_119 4 rfl ?_
          refine m_iload_n dX11_readsParts_120 5 rfl ?_
          refine m_if_ne dX11_readsParts_121 128 (by decide) (fun h121 => ?_) (fun h121 => ?_)
          rotate_left
          · exact absurd h121 (by decide)
          refine m_aload_n dX11_readsParts_128 4 rfl ?_
          refine m_getI 2 dX11_readsParts_129 fl_X11_161_10 rfl (by decide) (by first | assumption | rfl) ?_
          refine m_putI 2 dX11_readsParts_132 fw_X11_161_10 rfl (by decide) rfl rfl (by first | assumption | rfl) ?_
          refine m_aload_n dX11_readsParts_135 4 rfl ?_
          refine m_iload_n dX11_readsParts_136 5 rfl ?_
          refine m_iconst (v := 1) dX11_readsParts_137 (by decide) ?_
          refine m_icmp_ne dX11_readsParts_138 145 (by decide) (fun h138 => ?_) (fun h138 => ?_)
          · exact absurd rfl h138
          refine m_iload_n dX11_readsParts_141 1 rfl ?_
          refine m_goto dX11_readsParts_142 149 (by decide) ?_
          refine m_putI 8 dX11_readsParts_149 fw_X11_165_10 rfl (by decide) rfl rfl (by first | assumption | rfl) ?_
          refine m_iconst (v := -1) dX11_readsParts_152 (by decide) ?_
          refine m_ireturn dX11_readsParts_153 ?_
          refine ⟨_, rfl, ?_⟩
          have e : parS L b = (-1, k + 1) := by rw [hpar]; show (if goodS L b k < 3 then _ else if 4 * k + 3 = L then (-1, k + 1) else _) = _; rw [if_neg (by omega), if_pos hLk]
          rw [e]
          exact ⟨rfl, by simp [us_at], fun i hi => by simp only [us_at]; simp; exact i1' i hi, f_ref2 (by omega) i3'⟩
      · have hg : goodS L b k < 3 := by
          by_cases q : goodS L b k < 3
          · exact q
          · exact absurd ((nle (a := 3) (by omega) (by omega)).mpr (by omega)) h90
        refine m_iload dX11_readsParts_93 1 rfl ?_
        refine m_iload dX11_readsParts_95 0 rfl ?_
        refine m_iadd dX11_readsParts_97 ?_
        refine mW.top (w := nI (4 * k + goodS L b k)) (nadd rfl) ?_
        refine m_ireturn dX11_readsParts_98 ⟨_, rfl, ?_⟩
        have e : parS L b = (nI (4 * k + goodS L b k), 0) := by
          rw [hpar]
          show (if goodS L b k < 3 then (nI (4 * k + goodS L b k), 0) else _) = _
          rw [if_pos hg]
        rw [e]
        exact ⟨rfl, (p3.at (by omega)).trans i2, fun k hk => absurd hk (Nat.not_lt_zero _), i3.tr (p3.mono (fun y z h => by omega))⟩
  refine m_iload_n dX11_readsParts_0 1 rfl ?_
  refine m_if_ne dX11_readsParts_1 8 (by decide) (fun h1 => ?_) (fun h1 => ?_)
  rotate_left
  · exact absurd h1 (by decide)
  refine m_iconst (v := 3) dX11_readsParts_8 (by decide) ?_
  refine m_istore_n (ls1 := [(2, _), (0, _), (1, _)]) dX11_readsParts_9 (by decide) rfl ?_
  refine m_iconst (v := 0) dX11_readsParts_10 (by decide) ?_
  refine m_istore_n (ls1 := [(3, _), (2, _), (0, _), (1, _)]) dX11_readsParts_11 (by decide) rfl ?_
  refine m_iconst (v := 0) dX11_readsParts_12 (by decide) ?_
  refine m_istore (ls1 := [(4, _), (3, _), (2, _), (0, _), (1, _)]) dX11_readsParts_13 (by decide) rfl ?_
  refine m_aload_n dX11_readsParts_15 3 rfl ?_
  refine m_iload_n dX11_readsParts_16 4 rfl ?_
  refine m_if_ne dX11_readsParts_17 24 (by decide) (fun h17 => ?_) (fun h17 => ?_)
  rotate_left
  · exact absurd h17 (by decide)
  refine m_aload_n dX11_readsParts_24 3 rfl ?_
  refine m_getI 2 dX11_readsParts_25 fl_X11_161_10 rfl (by decide) (by first | assumption | rfl) ?_
  refine m_putI 2 dX11_readsParts_28 fw_X11_161_10 rfl (by decide) rfl rfl (by first | assumption | rfl) ?_
  refine m_aload_n dX11_readsParts_31 3 rfl ?_
  refine m_iload_n dX11_readsParts_32 4 rfl ?_
  refine m_iconst (v := 1) dX11_readsParts_33 (by decide) ?_
  refine m_icmp_ne dX11_readsParts_34 41 (by decide) (fun h34 => ?_) (fun h34 => ?_)
  · exact absurd rfl h34
  refine m_iconst (v := 0) dX11_readsParts_37 (by decide) ?_
  refine m_goto dX11_readsParts_38 45 (by decide) ?_
  refine m_putI 8 dX11_readsParts_45 fw_X11_165_10 rfl (by decide) rfl rfl (by first | assumption | rfl) ?_
  skip
  have i3 : fW (fun y z => (y = 111 ∧ z = 8) ∨ (119 ≤ y ∧ y ≤ 121 ∧ z < 12)) σ (us (us σ 111 2 (σ.1 111 2)) 111 8 0) := f_ref2 (by omega) fW.rf
  have i2 : (us (us σ 111 2 (σ.1 111 2)) 111 8 0).1 111 8 = 0 := by simp [us_at]
  generalize (us (us σ 111 2 (σ.1 111 2)) 111 8 0) = s at i3 i2 ⊢
  have hL1 : s.1 112 1 = nI L := (i3.at (by omega)).trans hL
  refine m_iload dX11_readsParts_48 0 rfl ?_
  refine m_aload_n dX11_readsParts_50 3 rfl ?_
  refine m_getR 0 112 dX11_readsParts_51 fl_X11_7_10 rfl (by decide) rfl (by first | assumption | rfl) ?_
  refine m_iload_n dX11_readsParts_54 4 rfl ?_
  refine m_iald dX11_readsParts_55 (by first | assumption | rfl) 1 rfl (by first | assumption | omega | decide) ?_
  refine mW.top hL1 ?_
  refine m_icmp_lt dX11_readsParts_56 64 (by decide) (fun h56 => ?_) (fun h56 => ?_)
  · have hL0 : L ≠ 0 := by
      have := (nlt (a := 0) (by omega) (by omega)).mp h56
      omega
    exact key 13 0 s rfl (by omega) ⟨fun i hi => absurd hi (Nat.not_lt_zero _), i2, i3⟩ hL0 (by unfold parS; rw [if_neg hL0])
  · have hL0 : L = 0 := by
      by_cases q : L = 0
      · exact q
      · exact absurd ((nlt (a := 0) (by omega) (by omega)).mpr (by omega)) h56
    refine m_iload dX11_readsParts_59 0 rfl ?_
    refine m_if_le dX11_readsParts_61 175 (by decide) (fun h61 => ?_) (fun h61 => ?_)
    · refine m_iconst (v := -1) dX11_readsParts_175 (by decide) ?_
      refine m_ireturn dX11_readsParts_176 ⟨_, rfl, ?_⟩
      have e : parS L b = (-1, 0) := by unfold parS; rw [if_pos hL0]
      rw [e]
      exact ⟨rfl, i2, fun k hk => absurd hk (Nat.not_lt_zero _), i3⟩
    · exact absurd (Int32.le_refl _) h61

/-- the reference's texts: how long, and that they fit -/
abbrev wRead : Nat → Nat → Prop := fun y z => (y = 111 ∧ (z = 2 ∨ z = 8)) ∨ (114 ≤ y ∧ y ≤ 118 ∧ z < 8) ∨ (119 ≤ y ∧ y ≤ 121 ∧ z < 12)
/-- what was read stands in the reference's rows -/
def readR (L0 L1 : Nat) (σ s : mS) : Prop :=
  s.1 111 2 = nI (parC L0 (tx σ 0)).2 ∧ (∀ k, k < (parC L0 (tx σ 0)).2 → s.1 114 k = carB L0 (tx σ 0) k 0 ∧ s.1 115 k = carB L0 (tx σ 0) k 1 ∧ s.1 116 k = carB L0 (tx σ 0) k 2 ∧ s.1 117 k = carB L0 (tx σ 0) k 3 ∧ s.1 118 k = carB L0 (tx σ 0) k 4) ∧
  s.1 111 8 = nI (parS L1 (tx σ 1)).2 ∧ (∀ k, k < (parS L1 (tx σ 1)).2 → s.1 119 k = steB L1 (tx σ 1) k 0 ∧ s.1 120 k = steB L1 (tx σ 1) k 1 ∧ s.1 121 k = steB L1 (tx σ 1) k 2)
theorem c_faultOf (hd : 4 ≤ d) (L0 L1 : Nat) (h0 : σ.1 112 0 = nI L0) (h1 : σ.1 112 1 = nI L1) (l0 : L0 ≤ 47) (l1 : L1 ≤ 47) (t : Int32) : mMet G l d kX11_faultOf [.ref 111, .int t] σ (qIP (fun r s => r = (if t = 0 then (parC L0 (tx σ 0)).1 else (parS L1 (tx σ 1)).1) ∧ readR L0 L1 σ s ∧ fW wRead σ s)) := by
  refine mMet.of cm_X11_faultOf rfl (Nat.le_of_ble_eq_true rfl) rfl (fun v1 σ1 h => by obtain ⟨r, h1, -⟩ := h; rw [h1]; rfl) ?_
  refine m_aload_n dX11_faultOf_0 0 rfl ?_
  refine m_iconst (v := 0) dX11_faultOf_1 (by decide) ?_
  refine m_callV (As := [_]) dX11_faultOf_2 cv_X11_174 (by first | assumption | rfl) (by decide) (by omega) rfl rfl (Nat.le_of_ble_eq_true rfl) (c_readsCars (d := d - 1) (by omega) L0 h0 l0) (fun v1 σ1 hv1 => ?_)
  refine m_qIP hv1 (fun ra ha => ?_)
  clear hv1 v1
  rename mS => s1
  obtain ⟨rfl, a2, a3, a4⟩ := ha
  refine m_istore_n (ls1 := [(2, _), (0, _), (1, _)]) dX11_faultOf_5 (by decide) rfl ?_
  refine m_aload_n dX11_faultOf_6 1 rfl ?_
  refine m_iconst (v := 1) dX11_faultOf_7 (by decide) ?_
  refine m_callV (As := [_]) dX11_faultOf_8 cv_X11_174 (by first | assumption | rfl) (by decide) (by omega) rfl rfl (Nat.le_of_ble_eq_true rfl) (c_readsSteers (d := d - 1) (by omega) L1 ((a4.at (by omega)).trans h1) l1) (fun v1 σ1 hv1 => ?_)
  refine m_qIP hv1 (fun rb hb => ?_)
  clear hv1 v1
  rename mS => s2
  have e : tx s1 1 = tx σ 1 := funext fun i => a4.at (by omega)
  rw [e] at hb
  obtain ⟨rfl, b2, b3, b4⟩ := hb
  refine m_istore_n (ls1 := [(3, _), (2, _), (0, _), (1, _)]) dX11_faultOf_11 (by decide) rfl ?_
  refine m_iload_n dX11_faultOf_12 3 rfl ?_
  refine m_sel (pcJ := 21) ?_ (fun kt0 kf0 => m_if_ne dX11_faultOf_13 20 (by decide) (fun h => (m_iload_n dX11_faultOf_20 0 rfl (kf0 h))) (fun h => (m_iload_n dX11_faultOf_16 1 rfl (m_goto dX11_faultOf_17 21 (by decide) (kt0 h)))))
  refine m_ireturn dX11_faultOf_21 ⟨_, rfl, rfl, ⟨(b4.at (by omega)).trans a2, fun k hk => ?_, b2, b3⟩, (a4.mono (fun y z h => by omega)).tr (b4.mono (fun y z h => by omega))⟩
  rw [b4.at (y := 114) (by omega), b4.at (y := 115) (by omega), b4.at (y := 116) (by omega), b4.at (y := 117) (by omega), b4.at (y := 118) (by omega)]
  exact a3 k hk
theorem c_reads (hd : 5 ≤ d) (L0 L1 : Nat) (h0 : σ.1 112 0 = nI L0) (h1 : σ.1 112 1 = nI L1) (l0 : L0 ≤ 47) (l1 : L1 ≤ 47) : mMet G l d kX11_reads [.ref 111] σ (qVP (fun s => readR L0 L1 σ s ∧ fW wRead σ s)) := by
  refine mMet.of cm_X11_reads rfl (Nat.le_of_ble_eq_true rfl) rfl (fun v1 σ1 h => by rw [h.1]; trivial) ?_
  refine m_aload_n dX11_reads_0 0 rfl ?_
  refine m_iconst (v := 0) dX11_reads_1 (by decide) ?_
  refine m_callV (As := [_]) dX11_reads_2 cv_X11_177 (by first | assumption | rfl) (by decide) (by omega) rfl rfl (Nat.le_of_ble_eq_true rfl) (c_faultOf (d := d - 1) (by omega) L0 L1 h0 h1 l0 l1 0) (fun v1 σ1 hv1 => ?_)
  refine m_qIP hv1 (fun ra ha => ?_)
  clear hv1 v1
  refine m_istore_n (ls1 := [(1, _), (0, _)]) dX11_reads_5 (by decide) rfl ?_
  exact m_return dX11_reads_6 ⟨rfl, ha.2⟩

end RP
end
section
/-! ===== the debate as told ===== -/
theorem parT_good (z : Nat) (good : Nat → Nat) (L : Nat) (b : Nat → Int32) : ∀ f k0 k, k0 ≤ k → k < (parT z good L b f k0).2 → z ≤ good k
  | 0, k0, k, _, h => absurd h (Nat.not_lt_zero _)
  | f + 1, k0, k, hk, h => by
    unfold parT at h
    split at h
    · exact absurd h (Nat.not_lt_zero _)
    · rename_i h1
      split at h
      · have h2 : k < k0 + 1 := h
        have : k = k0 := by omega
        subst this
        omega
      · split at h
        · exact absurd h (Nat.not_lt_zero _)
        · by_cases e : k = k0
          · subst e; omega
          · exact parT_good z good L b f (k0 + 1) k (by omega) h
theorem parC_good {L : Nat} {b : Nat → Int32} {k : Nat} (h : k < (parC L b).2) : goodC L b k = 5 := by
  unfold parC at h
  split at h
  · exact absurd h (Nat.not_lt_zero _)
  · have := parT_good 5 (goodC L b) L b 9 0 k (Nat.zero_le _) h
    have := goodC_le L b k
    omega
theorem parS_good {L : Nat} {b : Nat → Int32} {k : Nat} (h : k < (parS L b).2) : goodS L b k = 3 := by
  unfold parS at h
  split at h
  · exact absurd h (Nat.not_lt_zero _)
  · have := parT_good 3 (goodS L b) L b 13 0 k (Nat.zero_le _) h
    have := goodS_le L b k
    omega
theorem sub_in {x : Int32} (a n : Nat) (h : nI a ≤ x) (h2 : x ≤ nI (a + n)) (ha : a + n < 900000) : ∃ j, j ≤ n ∧ x - nI a = nI j := by
  have h0 : 0 ≤ x := Int32.le_trans (nI_pos' (by omega)) h
  obtain ⟨j, hj, rfl⟩ := nI_ofI (x := x) (n := a + n + 1) h0 (by omega) (Int32.lt_of_le_of_lt h2 ((nlt (by omega) (by omega)).mpr (by omega)))
  have h3 := (nle (by omega) (by omega)).mp h
  exact ⟨j - a, by omega, pk_sub h3⟩
theorem steB_car {L : Nat} {b : Nat → Int32} {k : Nat} (h : k < (parS L b).2) : ∃ j, j < 8 ∧ steB L b k 1 = nI j := by
  have hg := parS_good h
  unfold goodS at hg
  split at hg
  · exact absurd hg (by decide)
  · split at hg
    · exact absurd hg (by decide)
    · rename_i h2
      have h3 := Classical.not_not.mp h2
      obtain ⟨j, hj, e⟩ := sub_in 48 7 h3.1 h3.2 (by decide)
      exact ⟨j, by omega, e⟩
section TD
variable {G : mG} {l : Launch} {d : Nat} {σ : mS}
/-- rows and fields of the reference that it uses for reckoning -/
abbrev wScr : Nat → Nat → Prop := fun y z => (y = 111 ∧ z ≠ 12 ∧ z ≠ 41 ∧ z ≠ 52) ∨ (114 ≤ y ∧ y ≤ 121) ∨ (125 ≤ y ∧ y ≤ 142) ∨ y = 147 ∨ y = 152
def evF (σ : mS) : Nat → Nat → Int32 := fun i j => if j < 3 then σ.1 (122 + j) i else 0
/-- the debate as told to the reference -/
def Dt (σ : mS) (L0 L1 e : Nat) : Deb := (((parC L0 (tx σ 0)).2, carB L0 (tx σ 0)), ((parS L1 (tx σ 1)).2, steB L1 (tx σ 1)), (e, evF σ), 0)
/-- what is told fits -/
def okR (σ : mS) (L0 L1 e : Nat) : Prop := σ.1 112 0 = nI L0 ∧ L0 ≤ 47 ∧ σ.1 112 1 = nI L1 ∧ L1 ≤ 47 ∧ σ.1 111 12 = nI e ∧ e ≤ 8
theorem Dt_st (σ : mS) (L0 L1 e : Nat) : stOK (Dt σ L0 L1 e) := fun _ hi => steB_car hi
theorem Dt_scr {s : mS} (h : fW wScr σ s) (L0 L1 e : Nat) : Dt s L0 L1 e = Dt σ L0 L1 e := by
  have e0 : tx s 0 = tx σ 0 := funext fun i => h.at (by omega)
  have e1 : tx s 1 = tx σ 1 := funext fun i => h.at (by omega)
  have e2 : evF s = evF σ := by
    funext i j
    unfold evF
    by_cases hj : j < 3
    · rw [if_pos hj, if_pos hj]; exact h.at (by omega)
    · rw [if_neg hj, if_neg hj]
  unfold Dt
  rw [e0, e1, e2]
theorem okR.scr {s : mS} {L0 L1 e : Nat} (h : fW wScr σ s) (k : okR σ L0 L1 e) : okR s L0 L1 e := ⟨(h.at (by omega)).trans k.1, k.2.1, (h.at (by omega)).trans k.2.2.1, k.2.2.2.1, (h.at (by omega)).trans k.2.2.2.2.1, k.2.2.2.2.2⟩
theorem dX11_asTold_0 : decode cX11_asTold 0 = .ok (.aload_n 0, 1) := by decide +kernel
theorem dX11_asTold_1 : decode cX11_asTold 1 = .ok (.invokevirtual 180, 3) := by decide +kernel
theorem dX11_asTold_4 : decode cX11_asTold 4 = .ok (.aload_n 0, 1) := by decide +kernel
theorem dX11_asTold_5 : decode cX11_asTold 5 = .ok (.aload_n 0, 1) := by decide +kernel
theorem dX11_asTold_6 : decode cX11_asTold 6 = .ok (.getfield 165, 3) := by decide +kernel
theorem dX11_asTold_9 : decode cX11_asTold 9 = .ok (.putfield 217, 3) := by decide +kernel
theorem dX11_asTold_12 : decode cX11_asTold 12 = .ok (.aload_n 0, 1) := by decide +kernel
theorem dX11_asTold_13 : decode cX11_asTold 13 = .ok (.aload_n 0, 1) := by decide +kernel
theorem dX11_asTold_14 : decode cX11_asTold 14 = .ok (.getfield 204, 3) := by decide +kernel
theorem dX11_asTold_17 : decode cX11_asTold 17 = .ok (.putfield 220, 3) := by decide +kernel
theorem dX11_asTold_20 : decode cX11_asTold 20 = .ok (.iconst 0, 1) := by decide +kernel
theorem dX11_asTold_21 : decode cX11_asTold 21 = .ok (.istore_n 1, 1) := by decide +kernel
theorem dX11_asTold_22 : decode cX11_asTold 22 = .ok (.iload_n 1, 1) := by decide +kernel
theorem dX11_asTold_23 : decode cX11_asTold 23 = .ok (.aload_n 0, 1) := by decide +kernel
theorem dX11_asTold_24 : decode cX11_asTold 24 = .ok (.getfield 204, 3) := by decide +kernel
theorem dX11_asTold_27 : decode cX11_asTold 27 = .ok (.if_icmp .ge 45, 3) := by decide +kernel
theorem dX11_asTold_30 : decode cX11_asTold 30 = .ok (.aload_n 0, 1) := by decide +kernel
theorem dX11_asTold_31 : decode cX11_asTold 31 = .ok (.getfield 49, 3) := by decide +kernel
theorem dX11_asTold_34 : decode cX11_asTold 34 = .ok (.iload_n 1, 1) := by decide +kernel
theorem dX11_asTold_35 : decode cX11_asTold 35 = .ok (.aload_n 0, 1) := by decide +kernel
theorem dX11_asTold_36 : decode cX11_asTold 36 = .ok (.getfield 40, 3) := by decide +kernel
theorem dX11_asTold_39 : decode cX11_asTold 39 = .ok (.iload_n 1, 1) := by decide +kernel
theorem dX11_asTold_40 : decode cX11_asTold 40 = .ok (.iaload, 1) := by decide +kernel
theorem dX11_asTold_41 : decode cX11_asTold 41 = .ok (.iastore, 1) := by decide +kernel
theorem dX11_asTold_42 : decode cX11_asTold 42 = .ok (.aload_n 0, 1) := by decide +kernel
theorem dX11_asTold_43 : decode cX11_asTold 43 = .ok (.getfield 52, 3) := by decide +kernel
theorem dX11_asTold_46 : decode cX11_asTold 46 = .ok (.iload_n 1, 1) := by decide +kernel
theorem dX11_asTold_47 : decode cX11_asTold 47 = .ok (.aload_n 0, 1) := by decide +kernel
theorem dX11_asTold_48 : decode cX11_asTold 48 = .ok (.getfield 43, 3) := by decide +kernel
theorem dX11_asTold_51 : decode cX11_asTold 51 = .ok (.iload_n 1, 1) := by decide +kernel
theorem dX11_asTold_52 : decode cX11_asTold 52 = .ok (.iaload, 1) := by decide +kernel
theorem dX11_asTold_53 : decode cX11_asTold 53 = .ok (.iastore, 1) := by decide +kernel
theorem dX11_asTold_54 : decode cX11_asTold 54 = .ok (.aload_n 0, 1) := by decide +kernel
theorem dX11_asTold_55 : decode cX11_asTold 55 = .ok (.getfield 55, 3) := by decide +kernel
theorem dX11_asTold_58 : decode cX11_asTold 58 = .ok (.iload_n 1, 1) := by decide +kernel
theorem dX11_asTold_59 : decode cX11_asTold 59 = .ok (.aload_n 0, 1) := by decide +kernel
theorem dX11_asTold_60 : decode cX11_asTold 60 = .ok (.getfield 46, 3) := by decide +kernel
theorem dX11_asTold_63 : decode cX11_asTold 63 = .ok (.iload_n 1, 1) := by decide +kernel
theorem dX11_asTold_64 : decode cX11_asTold 64 = .ok (.iaload, 1) := by decide +kernel
theorem dX11_asTold_65 : decode cX11_asTold 65 = .ok (.iastore, 1) := by decide +kernel
theorem dX11_asTold_66 : decode cX11_asTold 66 = .ok (.iinc 1 1, 3) := by decide +kernel
theorem dX11_asTold_69 : decode cX11_asTold 69 = .ok (.goto (-47), 3) := by decide +kernel
theorem dX11_asTold_72 : decode cX11_asTold 72 = .ok (.aload_n 0, 1) := by decide +kernel
theorem dX11_asTold_73 : decode cX11_asTold 73 = .ok (.iconst 0, 1) := by decide +kernel
theorem dX11_asTold_74 : decode cX11_asTold 74 = .ok (.putfield 223, 3) := by decide +kernel
theorem dX11_asTold_77 : decode cX11_asTold 77 = .ok (.return_, 1) := by decide +kernel
theorem dX11_runsTold_0 : decode cX11_runsTold 0 = .ok (.aload_n 0, 1) := by decide +kernel
theorem dX11_runsTold_1 : decode cX11_runsTold 1 = .ok (.invokevirtual 270, 3) := by decide +kernel
theorem dX11_runsTold_4 : decode cX11_runsTold 4 = .ok (.aload_n 0, 1) := by decide +kernel
theorem dX11_runsTold_5 : decode cX11_runsTold 5 = .ok (.invokevirtual 273, 3) := by decide +kernel
theorem dX11_runsTold_8 : decode cX11_runsTold 8 = .ok (.return_, 1) := by decide +kernel
theorem dX11_isCar_0 : decode cX11_isCar 0 = .ok (.aload_n 0, 1) := by decide +kernel
theorem dX11_isCar_1 : decode cX11_isCar 1 = .ok (.invokevirtual 180, 3) := by decide +kernel
theorem dX11_isCar_4 : decode cX11_isCar 4 = .ok (.iload_n 1, 1) := by decide +kernel
theorem dX11_isCar_5 : decode cX11_isCar 5 = .ok (.iconst 0, 1) := by decide +kernel
theorem dX11_isCar_6 : decode cX11_isCar 6 = .ok (.aload_n 0, 1) := by decide +kernel
theorem dX11_isCar_7 : decode cX11_isCar 7 = .ok (.getfield 161, 3) := by decide +kernel
theorem dX11_isCar_10 : decode cX11_isCar 10 = .ok (.iconst 1, 1) := by decide +kernel
theorem dX11_isCar_11 : decode cX11_isCar 11 = .ok (.isub, 1) := by decide +kernel
theorem dX11_isCar_12 : decode cX11_isCar 12 = .ok (.invokestatic 136, 3) := by decide +kernel
theorem dX11_isCar_15 : decode cX11_isCar 15 = .ok (.ireturn, 1) := by decide +kernel
theorem dX11_fault_0 : decode cX11_fault 0 = .ok (.iload_n 1, 1) := by decide +kernel
theorem dX11_fault_1 : decode cX11_fault 1 = .ok (.invokestatic 140, 3) := by decide +kernel
theorem dX11_fault_4 : decode cX11_fault 4 = .ok (.ifCond .eq 11, 3) := by decide +kernel
theorem dX11_fault_7 : decode cX11_fault 7 = .ok (.aload_n 0, 1) := by decide +kernel
theorem dX11_fault_8 : decode cX11_fault 8 = .ok (.iload_n 1, 1) := by decide +kernel
theorem dX11_fault_9 : decode cX11_fault 9 = .ok (.invokevirtual 177, 3) := by decide +kernel
theorem dX11_fault_12 : decode cX11_fault 12 = .ok (.goto 5, 3) := by decide +kernel
theorem dX11_fault_15 : decode cX11_fault 15 = .ok (.bipush (-2), 2) := by decide +kernel
theorem dX11_fault_17 : decode cX11_fault 17 = .ok (.ireturn, 1) := by decide +kernel
theorem c_asTold (hd : 6 ≤ d) (L0 L1 e : Nat) (ok : okR σ L0 L1 e) : mMet G l d kX11_asTold [.ref 111] σ (qVP (fun s => repR s (Dt σ L0 L1 e) ∧ s.1 111 8 = nI (Dt σ L0 L1 e).2.1.1 ∧ fW wScr σ s)) := by
  obtain ⟨h0, l0, h1, l1, he, e8⟩ := ok
  refine mMet.of cm_X11_asTold rfl (Nat.le_of_ble_eq_true rfl) rfl (fun v1 σ1 h => by rw [h.1]; trivial) ?_
  refine m_aload_n dX11_asTold_0 0 rfl ?_
  refine m_callV (As := []) dX11_asTold_1 cv_X11_180 (by first | assumption | rfl) (by decide) (by omega) rfl rfl (Nat.le_of_ble_eq_true rfl) (c_reads (d := d - 1) (by omega) L0 L1 h0 h1 l0 l1) (fun v1 σ1 hv1 => ?_)
  refine m_qVP hv1 (fun ha => ?_)
  clear hv1 v1
  rename mS => s1
  obtain ⟨⟨a1, a2, a3, a4⟩, a5⟩ := ha
  have hn := parC_n L0 (tx σ 0)
  have hm := parS_n L1 (tx σ 1)
  have q1 : s1.1 111 12 = nI e := (a5.at (by omega)).trans he
  refine m_aload_n dX11_asTold_4 0 rfl ?_
  refine m_aload_n dX11_asTold_5 0 rfl ?_
  refine m_getI 8 dX11_asTold_6 fl_X11_165_10 rfl (by decide) (by first | assumption | rfl) ?_
  refine m_putI 16 dX11_asTold_9 fw_X11_217_10 rfl (by decide) rfl rfl (by first | assumption | rfl) ?_
  refine m_aload_n dX11_asTold_12 0 rfl ?_
  refine m_aload_n dX11_asTold_13 0 rfl ?_
  refine m_getI 12 dX11_asTold_14 fl_X11_204_10 rfl (by decide) (by first | assumption | rfl) ?_
  refine m_putI 17 dX11_asTold_17 fw_X11_220_10 rfl (by decide) rfl rfl (by first | assumption | rfl) ?_
  refine m_iconst (v := 0) dX11_asTold_20 (by decide) ?_
  refine m_istore_n (ls1 := [(1, _), (0, _)]) dX11_asTold_21 (by decide) rfl ?_
  refine down (N := e) (fun i (s : mS) => (∀ a, a < i → s.1 125 a = σ.1 122 a ∧ s.1 126 a = σ.1 123 a ∧ s.1 127 a = σ.1 124 a) ∧ s.1 111 16 = nI (parS L1 (tx σ 1)).2 ∧ s.1 111 17 = nI e ∧ fW (fun y z => (y = 111 ∧ (z = 16 ∨ z = 17)) ∨ (125 ≤ y ∧ y ≤ 127)) s1 s) (fun i s => mW G l d kX11_asTold 22 [(1, .int (nI i)), (0, .ref 111)] [] s _) ?_ ?_ 0 _ (Nat.zero_le _) ⟨fun a ha => absurd ha (Nat.not_lt_zero _), ?_, ?_, fW.us (by omega) (fW.us (by omega) fW.rf)⟩
  · rintro s ⟨b1, b2, b3, b4⟩
    refine m_iload_n dX11_asTold_22 0 rfl ?_
    refine m_aload_n dX11_asTold_23 1 rfl ?_
    refine m_getI 12 dX11_asTold_24 fl_X11_204_10 rfl (by decide) (by first | assumption | rfl) ?_
    refine m_icmp_ge dX11_asTold_27 72 (by decide) (fun h => ?_) (fun h => ?_)
    · refine m_aload_n dX11_asTold_72 1 rfl ?_
      refine m_iconst (v := 0) dX11_asTold_73 (by decide) ?_
      refine m_putI 21 dX11_asTold_74 fw_X11_223_10 rfl (by decide) rfl rfl (by first | assumption | rfl) ?_
      have b5 : fW wScr σ (us s 111 21 0) := fW.us (by omega) ((a5.mono (fun y z h => by omega)).tr (b4.mono (fun y z h => by omega)))
      refine m_return dX11_asTold_77 ⟨rfl, ⟨hn, by show (parS L1 (tx σ 1)).2 ≤ 13; omega, by show e ≤ 9; omega, ?_, ?_, ?_, ?_, ?_, ?_, ?_, Dt_st σ L0 L1 e⟩, ?_, b5⟩
      · rw [us_at, if_neg (by omega), b4.at (by omega)]; exact a1
      · rw [us_at, if_neg (by omega)]; exact b2
      · rw [us_at, if_neg (by omega)]; exact b3
      · rw [us_at, if_pos ⟨rfl, rfl⟩]; rfl
      · intro k hk j hj
        rw [us_at, if_neg (by omega), b4.at (by omega)]
        obtain ⟨g0, g1, g2, g3, g4⟩ := a2 k hk
        rcases (show j = 0 ∨ j = 1 ∨ j = 2 ∨ j = 3 ∨ j = 4 by omega) with rfl | rfl | rfl | rfl | rfl
        · exact g0
        · exact g1
        · exact g2
        · exact g3
        · exact g4
      · intro k hk j hj
        rw [us_at, if_neg (by omega), b4.at (by omega)]
        obtain ⟨g0, g1, g2⟩ := a4 k hk
        rcases (show j = 0 ∨ j = 1 ∨ j = 2 by omega) with rfl | rfl | rfl
        · exact g0
        · exact g1
        · exact g2
      · intro k hk j hj
        rw [us_at, if_neg (by omega)]
        obtain ⟨g0, g1, g2⟩ := b1 k hk
        rcases (show j = 0 ∨ j = 1 ∨ j = 2 by omega) with rfl | rfl | rfl
        · exact g0
        · exact g1
        · exact g2
      · rw [us_at, if_neg (by omega), b4.at (by omega)]; exact a3
    · exact (ge_yes h ((b4.at (by omega)).trans q1)).elim
  · rintro i s hi ⟨b1, b2, b3, b4⟩ ih
    have i8 : i < 9 := by omega
    have e0 : s.1 122 i = σ.1 122 i := (b4.at (by omega)).trans (a5.at (by omega))
    have e1 : s.1 123 i = σ.1 123 i := (b4.at (by omega)).trans (a5.at (by omega))
    have e2 : s.1 124 i = σ.1 124 i := (b4.at (by omega)).trans (a5.at (by omega))
    refine m_iload_n dX11_asTold_22 0 rfl ?_
    refine m_aload_n dX11_asTold_23 1 rfl ?_
    refine m_getI 12 dX11_asTold_24 fl_X11_204_10 rfl (by decide) (by first | assumption | rfl) ?_
    refine m_icmp_ge dX11_asTold_27 72 (by decide) (fun h => ?_) (fun h => ?_)
    · exact (ge_no ((b4.at (by omega)).trans q1) h rfl hi (by omega)).elim
    · clear h
      refine m_aload_n dX11_asTold_30 1 rfl ?_
      refine m_getR 18 125 dX11_asTold_31 fl_X11_49_10 rfl (by decide) rfl (by first | assumption | rfl) ?_
      refine m_iload_n dX11_asTold_34 0 rfl ?_
      refine m_aload_n dX11_asTold_35 1 rfl ?_
      refine m_getR 13 122 dX11_asTold_36 fl_X11_40_10 rfl (by decide) rfl (by first | assumption | rfl) ?_
      refine m_iload_n dX11_asTold_39 0 rfl ?_
      refine m_iald dX11_asTold_40 (by first | assumption | rfl) i rfl (by first | assumption | omega | decide) ?_
      refine mW.top e0 ?_
      refine m_iast dX11_asTold_41 (by first | assumption | rfl) i rfl (by first | assumption | omega | decide) ?_
      refine m_aload_n dX11_asTold_42 1 rfl ?_
      refine m_getR 19 126 dX11_asTold_43 fl_X11_52_10 rfl (by decide) rfl (by first | assumption | rfl) ?_
      refine m_iload_n dX11_asTold_46 0 rfl ?_
      refine m_aload_n dX11_asTold_47 1 rfl ?_
      refine m_getR 14 123 dX11_asTold_48 fl_X11_43_10 rfl (by decide) rfl (by first | assumption | rfl) ?_
      refine m_iload_n dX11_asTold_51 0 rfl ?_
      refine m_iald dX11_asTold_52 (by first | assumption | rfl) i rfl (by first | assumption | omega | decide) ?_
      refine mW.top e1 ?_
      refine m_iast dX11_asTold_53 (by first | assumption | rfl) i rfl (by first | assumption | omega | decide) ?_
      refine m_aload_n dX11_asTold_54 1 rfl ?_
      refine m_getR 20 127 dX11_asTold_55 fl_X11_55_10 rfl (by decide) rfl (by first | assumption | rfl) ?_
      refine m_iload_n dX11_asTold_58 0 rfl ?_
      refine m_aload_n dX11_asTold_59 1 rfl ?_
      refine m_getR 15 124 dX11_asTold_60 fl_X11_46_10 rfl (by decide) rfl (by first | assumption | rfl) ?_
      refine m_iload_n dX11_asTold_63 0 rfl ?_
      refine m_iald dX11_asTold_64 (by first | assumption | rfl) i rfl (by first | assumption | omega | decide) ?_
      refine mW.top e2 ?_
      refine m_iast dX11_asTold_65 (by first | assumption | rfl) i rfl (by first | assumption | omega | decide) ?_
      refine m_iinc (v := nI (i + 1)) (ls1 := [(1, _), (0, _)]) dX11_asTold_66 0 rfl (nI_1 i) (by decide) rfl ?_
      refine m_goto dX11_asTold_69 22 (by decide) ?_
      refine ih _ ⟨fun a ha => ?_, ?_, ?_, fW.us (by omega) (fW.us (by omega) (fW.us (by omega) b4))⟩
      · rcases Nat.lt_succ_iff_lt_or_eq.mp ha with h | rfl
        · have hb := b1 a h
          simp [us_at, Nat.ne_of_lt h]
          exact hb
        · simp [us_at]
      · simp [us_at]; exact b2
      · simp [us_at]; exact b3
  · simp [us_at]; exact a3
  · simp [us_at]; exact q1
theorem c_runsTold (hd : 7 ≤ d) (L0 L1 e : Nat) (ok : okR σ L0 L1 e) : mMet G l d kX11_runsTold [.ref 111] σ (qVP (fun s => outR (Dt σ L0 L1 e) s ∧ s.1 111 2 = nI (Dt σ L0 L1 e).1.1 ∧ s.1 111 8 = nI (Dt σ L0 L1 e).2.1.1 ∧ fW wScr σ s)) := by
  refine mMet.of cm_X11_runsTold rfl (Nat.le_of_ble_eq_true rfl) rfl (fun v1 σ1 h => by rw [h.1]; trivial) ?_
  refine m_aload_n dX11_runsTold_0 0 rfl ?_
  refine m_callV (As := []) dX11_runsTold_1 cv_X11_270 (by first | assumption | rfl) (by decide) (by omega) rfl rfl (Nat.le_of_ble_eq_true rfl) (c_asTold (d := d - 1) (by omega) L0 L1 e ok) (fun v1 σ1 hv1 => ?_)
  refine m_qVP hv1 (fun ha => ?_)
  clear hv1 v1
  rename mS => s1
  obtain ⟨a1, a2, a3⟩ := ha
  refine m_aload_n dX11_runsTold_4 0 rfl ?_
  refine m_callV (As := []) dX11_runsTold_5 cv_X11_273 (by first | assumption | rfl) (by decide) (by omega) rfl rfl (Nat.le_of_ble_eq_true rfl) (c_runsD (d := d - 1) (by omega) _ a1) (fun v1 σ1 hv1 => ?_)
  refine m_qVP hv1 (fun hb => ?_)
  clear hv1 v1
  rename mS => s2
  obtain ⟨b1, b2⟩ := hb
  exact m_return dX11_runsTold_8 ⟨rfl, b1, (b2.at (by omega)).trans a1.2.2.2.1, (b2.at (by omega)).trans a2, a3.tr (b2.mono (fun y z h => by omega))⟩
theorem leN1 {v : Int32} {n : Nat} (hn : n ≤ 100) : v ≤ nI n - 1 ↔ v < nI n := by
  have h1 : (nI n - 1).toInt = (n : Int) - 1 := pk_sub_toInt (a := n) (b := 1) (by omega) (by omega)
  have h2 : (nI n).toInt = (n : Int) := nI_toInt (by omega)
  rw [Int32.le_iff_toInt_le, Int32.lt_iff_toInt_lt, h1, h2]
  omega
theorem c_isCar (hd : 6 ≤ d) (L0 L1 : Nat) (h0 : σ.1 112 0 = nI L0) (h1 : σ.1 112 1 = nI L1) (l0 : L0 ≤ 47) (l1 : L1 ≤ 47) (v : Int32) : mMet G l d kX11_isCar [.ref 111, .int v] σ (qIP (fun r s => r = bI (decide (0 ≤ v ∧ v < nI (parC L0 (tx σ 0)).2)) ∧ readR L0 L1 σ s ∧ fW wRead σ s)) := by
  refine mMet.of cm_X11_isCar rfl (Nat.le_of_ble_eq_true rfl) rfl (fun v1 σ1 h => by obtain ⟨r, h1, h2, -⟩ := h; rw [h1, h2]; exact bI_nar _) ?_
  refine m_aload_n dX11_isCar_0 0 rfl ?_
  refine m_callV (As := []) dX11_isCar_1 cv_X11_180 (by first | assumption | rfl) (by decide) (by omega) rfl rfl (Nat.le_of_ble_eq_true rfl) (c_reads (d := d - 1) (by omega) L0 L1 h0 h1 l0 l1) (fun v1 σ1 hv1 => ?_)
  refine m_qVP hv1 (fun ha => ?_)
  clear hv1 v1
  rename mS => s1
  refine m_iload_n dX11_isCar_4 1 rfl ?_
  refine m_iconst (v := 0) dX11_isCar_5 (by decide) ?_
  refine m_aload_n dX11_isCar_6 0 rfl ?_
  refine m_getI 2 dX11_isCar_7 fl_X11_161_10 rfl (by decide) (by first | assumption | rfl) ?_
  refine mW.top ha.1.1 ?_
  refine m_iconst (v := 1) dX11_isCar_10 (by decide) ?_
  refine m_isub dX11_isCar_11 ?_
  refine m_callS (As := [_, _, _]) dX11_isCar_12 cs_X11_136 (by omega) rfl rfl (Nat.le_of_ble_eq_true rfl) (c_in (d := d - 1) v 0 _) (fun v1 σ1 hv1 => ?_)
  refine m_qI hv1 ?_
  clear hv1 v1 σ1
  refine m_ireturn dX11_isCar_15 ⟨_, rfl, ?_, ha⟩
  have := parC_n L0 (tx σ 0)
  exact congrArg bI (decide_eq_decide.mpr (and_congr_right fun _ => leN1 (by omega)))
end TD
end
section
/-! ===== answers of the reference out of one run ===== -/
def aAt (r : RS) (k : Nat) (w : Nat) : Int32 := match w with
  | 0 => r.1 k
  | 1 => r.2.1 k
  | 2 => r.2.2.1 k
  | 3 => r.2.2.2.1 k
  | 4 => r.2.2.2.2.1 k
  | _ => if bitI r.2.2.2.2.2.2.1 (nI k) then 0 else 1
def ayP (x : Nat → Int32) : Nat → Nat
  | 0 => 0
  | k + 1 => ayP x k + (if 3 ≤ x k then 0 else 1)
def bestP (p : Nat → Int32) : Nat → Int32
  | 0 => -1
  | k + 1 => if bestP p k = -1 ∨ p (bestP p k).toNatClampNeg < p k then nI k else bestP p k
def meekP (s b : Nat → Int32) : Nat → Int32
  | 0 => 0
  | k + 1 => meekP s b k ||| (if s k = 0 ∧ b k = 0 then (1 : Int32) <<< (nI k &&& 31) else 0)
/-- the best of 0 .. t -/
def jmP (j : Nat → Int32) : Nat → Nat
  | 0 => 0
  | t + 1 => if j (jmP j t) < j (t + 1) then t + 1 else jmP j t
def sumP (p : Nat → Int32) : Nat → Int32
  | 0 => 0
  | k + 1 => sumP p k + p k
def crP (n : Nat) (rung : Nat → Int32) (ay : Nat → Nat) : Nat → Nat
  | 0 => 0
  | t + 1 => crP n rung ay t + (if rung t = 1 ∧ nI n < 2 * nI (ay t) then 1 else 0)
theorem ayP_le (x : Nat → Int32) : ∀ n, ayP x n ≤ n
  | 0 => Nat.le_refl _
  | n + 1 => by
    unfold ayP
    have := ayP_le x n
    split <;> omega
theorem ayP_cong {x y : Nat → Int32} : ∀ n, (∀ k, k < n → x k = y k) → ayP x n = ayP y n
  | 0, _ => rfl
  | n + 1, h => by unfold ayP; rw [ayP_cong n (fun k hk => h k (by omega)), h n (by omega)]
theorem bestP_of (p : Nat → Int32) : ∀ n, n ≤ 1000 → bestP p n = -1 ∨ ∃ j, j < n ∧ bestP p n = nI j
  | 0, _ => Or.inl rfl
  | n + 1, hn => by
    unfold bestP
    split
    · exact Or.inr ⟨n, by omega, rfl⟩
    · rcases bestP_of p n (by omega) with h | ⟨j, hj, h⟩
      · exact Or.inl h
      · exact Or.inr ⟨j, by omega, h⟩
theorem bestP_cong {p q : Nat → Int32} : ∀ n, n ≤ 1000 → (∀ k, k < n → p k = q k) → bestP p n = bestP q n
  | 0, _, _ => rfl
  | n + 1, hn, h => by
    have ih := bestP_cong n (by omega) (fun k hk => h k (by omega))
    unfold bestP
    rw [ih, h n (by omega)]
    rcases bestP_of q n (by omega) with h1 | ⟨j, hj, h1⟩
    · rw [if_pos (Or.inl h1), if_pos (Or.inl h1)]
    · rw [h1, nI_clamp (by omega), h j (by omega)]
theorem meekP_cong {s b s1 b1 : Nat → Int32} : ∀ n, (∀ k, k < n → s k = s1 k ∧ b k = b1 k) → meekP s b n = meekP s1 b1 n
  | 0, _ => rfl
  | n + 1, h => by unfold meekP; rw [meekP_cong n (fun k hk => h k (by omega)), (h n (by omega)).1, (h n (by omega)).2]
theorem sumP_cong {p q : Nat → Int32} : ∀ n, (∀ k, k < n → p k = q k) → sumP p n = sumP q n
  | 0, _ => rfl
  | n + 1, h => by unfold sumP; rw [sumP_cong n (fun k hk => h k (by omega)), h n (by omega)]
theorem jmP_le (j : Nat → Int32) : ∀ t, jmP j t ≤ t
  | 0 => Nat.le_refl _
  | t + 1 => by
    unfold jmP
    have := jmP_le j t
    split <;> omega
theorem jmP_cong {j q : Nat → Int32} : ∀ t, (∀ u, u ≤ t → j u = q u) → jmP j t = jmP q t
  | 0, _ => rfl
  | t + 1, h => by
    have := jmP_le q t
    unfold jmP
    rw [jmP_cong t (fun u hu => h u (by omega)), h (t + 1) (by omega), h (jmP q t) (by omega)]
theorem crP_cong {n : Nat} {r r1 : Nat → Int32} {a a1 : Nat → Nat} : ∀ t, (∀ u, u < t → r u = r1 u ∧ a u = a1 u) → crP n r a t = crP n r1 a1 t
  | 0, _ => rfl
  | t + 1, h => by unfold crP; rw [crP_cong t (fun u hu => h u (by omega)), (h t (by omega)).1, (h t (by omega)).2]
theorem inN {v : Int32} {m : Nat} (hm : m < 900000) (h : 0 ≤ v ∧ v ≤ nI m) : ∃ j, j ≤ m ∧ v = nI j := by
  obtain ⟨j, hj, e⟩ := nI_ofI (n := m + 1) h.1 (by omega) (Int32.lt_of_le_of_lt h.2 ((nlt (by omega) (by omega)).mpr (by omega)))
  exact ⟨j, by omega, e⟩
section RA
variable {G : mG} {l : Launch} {d : Nat} {σ : mS}
/-- what the ends of the moments were -/
abbrev jmD (D : Deb) : Nat → Int32 := fun t => (RSt D (t + 1)).2.2.2.2.2.2.2.2.2.2
abbrev ayD (D : Deb) : Nat → Nat := fun t => ayP (RSt D (t + 1)).1 D.1.1
theorem dX11_atOf_0 : decode cX11_atOf 0 = .ok (.aload_n 0, 1) := by decide +kernel
theorem dX11_atOf_1 : decode cX11_atOf 1 = .ok (.invokevirtual 276, 3) := by decide +kernel
theorem dX11_atOf_4 : decode cX11_atOf 4 = .ok (.bipush 8, 2) := by decide +kernel
theorem dX11_atOf_6 : decode cX11_atOf 6 = .ok (.iload_n 1, 1) := by decide +kernel
theorem dX11_atOf_7 : decode cX11_atOf 7 = .ok (.imul, 1) := by decide +kernel
theorem dX11_atOf_8 : decode cX11_atOf 8 = .ok (.iload_n 2, 1) := by decide +kernel
theorem dX11_atOf_9 : decode cX11_atOf 9 = .ok (.iadd, 1) := by decide +kernel
theorem dX11_atOf_10 : decode cX11_atOf 10 = .ok (.istore 4, 2) := by decide +kernel
theorem dX11_atOf_12 : decode cX11_atOf 12 = .ok (.iload_n 3, 1) := by decide +kernel
theorem dX11_atOf_13 : decode cX11_atOf 13 = .ok (.tableswitch 75 0 4 #[35, 43, 51, 59, 67], 35) := by decide +kernel
theorem dX11_atOf_48 : decode cX11_atOf 48 = .ok (.aload_n 0, 1) := by decide +kernel
theorem dX11_atOf_49 : decode cX11_atOf 49 = .ok (.getfield 76, 3) := by decide +kernel
theorem dX11_atOf_52 : decode cX11_atOf 52 = .ok (.iload 4, 2) := by decide +kernel
theorem dX11_atOf_54 : decode cX11_atOf 54 = .ok (.iaload, 1) := by decide +kernel
theorem dX11_atOf_55 : decode cX11_atOf 55 = .ok (.ireturn, 1) := by decide +kernel
theorem dX11_atOf_56 : decode cX11_atOf 56 = .ok (.aload_n 0, 1) := by decide +kernel
theorem dX11_atOf_57 : decode cX11_atOf 57 = .ok (.getfield 79, 3) := by decide +kernel
theorem dX11_atOf_60 : decode cX11_atOf 60 = .ok (.iload 4, 2) := by decide +kernel
theorem dX11_atOf_62 : decode cX11_atOf 62 = .ok (.iaload, 1) := by decide +kernel
theorem dX11_atOf_63 : decode cX11_atOf 63 = .ok (.ireturn, 1) := by decide +kernel
theorem dX11_atOf_64 : decode cX11_atOf 64 = .ok (.aload_n 0, 1) := by decide +kernel
theorem dX11_atOf_65 : decode cX11_atOf 65 = .ok (.getfield 82, 3) := by decide +kernel
theorem dX11_atOf_68 : decode cX11_atOf 68 = .ok (.iload 4, 2) := by decide +kernel
theorem dX11_atOf_70 : decode cX11_atOf 70 = .ok (.iaload, 1) := by decide +kernel
theorem dX11_atOf_71 : decode cX11_atOf 71 = .ok (.ireturn, 1) := by decide +kernel
theorem dX11_atOf_72 : decode cX11_atOf 72 = .ok (.aload_n 0, 1) := by decide +kernel
theorem dX11_atOf_73 : decode cX11_atOf 73 = .ok (.getfield 85, 3) := by decide +kernel
theorem dX11_atOf_76 : decode cX11_atOf 76 = .ok (.iload 4, 2) := by decide +kernel
theorem dX11_atOf_78 : decode cX11_atOf 78 = .ok (.iaload, 1) := by decide +kernel
theorem dX11_atOf_79 : decode cX11_atOf 79 = .ok (.ireturn, 1) := by decide +kernel
theorem dX11_atOf_80 : decode cX11_atOf 80 = .ok (.aload_n 0, 1) := by decide +kernel
theorem dX11_atOf_81 : decode cX11_atOf 81 = .ok (.getfield 88, 3) := by decide +kernel
theorem dX11_atOf_84 : decode cX11_atOf 84 = .ok (.iload 4, 2) := by decide +kernel
theorem dX11_atOf_86 : decode cX11_atOf 86 = .ok (.iaload, 1) := by decide +kernel
theorem dX11_atOf_87 : decode cX11_atOf 87 = .ok (.ireturn, 1) := by decide +kernel
theorem dX11_atOf_88 : decode cX11_atOf 88 = .ok (.aload_n 0, 1) := by decide +kernel
theorem dX11_atOf_89 : decode cX11_atOf 89 = .ok (.getfield 91, 3) := by decide +kernel
theorem dX11_atOf_92 : decode cX11_atOf 92 = .ok (.iload_n 1, 1) := by decide +kernel
theorem dX11_atOf_93 : decode cX11_atOf 93 = .ok (.iaload, 1) := by decide +kernel
theorem dX11_atOf_94 : decode cX11_atOf 94 = .ok (.iload_n 2, 1) := by decide +kernel
theorem dX11_atOf_95 : decode cX11_atOf 95 = .ok (.invokestatic 252, 3) := by decide +kernel
theorem dX11_atOf_98 : decode cX11_atOf 98 = .ok (.ifCond .eq 7, 3) := by decide +kernel
theorem dX11_atOf_101 : decode cX11_atOf 101 = .ok (.iconst 0, 1) := by decide +kernel
theorem dX11_atOf_102 : decode cX11_atOf 102 = .ok (.goto 4, 3) := by decide +kernel
theorem dX11_atOf_105 : decode cX11_atOf 105 = .ok (.iconst 1, 1) := by decide +kernel
theorem dX11_atOf_106 : decode cX11_atOf 106 = .ok (.ireturn, 1) := by decide +kernel
theorem dX11_whoOf_0 : decode cX11_whoOf 0 = .ok (.aload_n 0, 1) := by decide +kernel
theorem dX11_whoOf_1 : decode cX11_whoOf 1 = .ok (.invokevirtual 276, 3) := by decide +kernel
theorem dX11_whoOf_4 : decode cX11_whoOf 4 = .ok (.iconst (-1), 1) := by decide +kernel
theorem dX11_whoOf_5 : decode cX11_whoOf 5 = .ok (.istore 4, 2) := by decide +kernel
theorem dX11_whoOf_7 : decode cX11_whoOf 7 = .ok (.iconst 0, 1) := by decide +kernel
theorem dX11_whoOf_8 : decode cX11_whoOf 8 = .ok (.istore 5, 2) := by decide +kernel
theorem dX11_whoOf_10 : decode cX11_whoOf 10 = .ok (.iload 5, 2) := by decide +kernel
theorem dX11_whoOf_12 : decode cX11_whoOf 12 = .ok (.aload_n 0, 1) := by decide +kernel
theorem dX11_whoOf_13 : decode cX11_whoOf 13 = .ok (.getfield 161, 3) := by decide +kernel
theorem dX11_whoOf_16 : decode cX11_whoOf 16 = .ok (.if_icmp .ge 50, 3) := by decide +kernel
theorem dX11_whoOf_19 : decode cX11_whoOf 19 = .ok (.aload_n 0, 1) := by decide +kernel
theorem dX11_whoOf_20 : decode cX11_whoOf 20 = .ok (.getfield 76, 3) := by decide +kernel
theorem dX11_whoOf_23 : decode cX11_whoOf 23 = .ok (.bipush 8, 2) := by decide +kernel
theorem dX11_whoOf_25 : decode cX11_whoOf 25 = .ok (.iload_n 1, 1) := by decide +kernel
theorem dX11_whoOf_26 : decode cX11_whoOf 26 = .ok (.imul, 1) := by decide +kernel
theorem dX11_whoOf_27 : decode cX11_whoOf 27 = .ok (.iload 5, 2) := by decide +kernel
theorem dX11_whoOf_29 : decode cX11_whoOf 29 = .ok (.iadd, 1) := by decide +kernel
theorem dX11_whoOf_30 : decode cX11_whoOf 30 = .ok (.iaload, 1) := by decide +kernel
theorem dX11_whoOf_31 : decode cX11_whoOf 31 = .ok (.iload_n 2, 1) := by decide +kernel
theorem dX11_whoOf_32 : decode cX11_whoOf 32 = .ok (.if_icmp .ne 24, 3) := by decide +kernel
theorem dX11_whoOf_35 : decode cX11_whoOf 35 = .ok (.aload_n 0, 1) := by decide +kernel
theorem dX11_whoOf_36 : decode cX11_whoOf 36 = .ok (.getfield 79, 3) := by decide +kernel
theorem dX11_whoOf_39 : decode cX11_whoOf 39 = .ok (.bipush 8, 2) := by decide +kernel
theorem dX11_whoOf_41 : decode cX11_whoOf 41 = .ok (.iload_n 1, 1) := by decide +kernel
theorem dX11_whoOf_42 : decode cX11_whoOf 42 = .ok (.imul, 1) := by decide +kernel
theorem dX11_whoOf_43 : decode cX11_whoOf 43 = .ok (.iload 5, 2) := by decide +kernel
theorem dX11_whoOf_45 : decode cX11_whoOf 45 = .ok (.iadd, 1) := by decide +kernel
theorem dX11_whoOf_46 : decode cX11_whoOf 46 = .ok (.iaload, 1) := by decide +kernel
theorem dX11_whoOf_47 : decode cX11_whoOf 47 = .ok (.iload_n 3, 1) := by decide +kernel
theorem dX11_whoOf_48 : decode cX11_whoOf 48 = .ok (.if_icmp .ne 8, 3) := by decide +kernel
theorem dX11_whoOf_51 : decode cX11_whoOf 51 = .ok (.iload 5, 2) := by decide +kernel
theorem dX11_whoOf_53 : decode cX11_whoOf 53 = .ok (.goto 5, 3) := by decide +kernel
theorem dX11_whoOf_56 : decode cX11_whoOf 56 = .ok (.iload 4, 2) := by decide +kernel
theorem dX11_whoOf_58 : decode cX11_whoOf 58 = .ok (.istore 4, 2) := by decide +kernel
theorem dX11_whoOf_60 : decode cX11_whoOf 60 = .ok (.iinc 5 1, 3) := by decide +kernel
theorem dX11_whoOf_63 : decode cX11_whoOf 63 = .ok (.goto (-53), 3) := by decide +kernel
theorem dX11_whoOf_66 : decode cX11_whoOf 66 = .ok (.iload 4, 2) := by decide +kernel
theorem dX11_whoOf_68 : decode cX11_whoOf 68 = .ok (.ireturn, 1) := by decide +kernel
theorem dX11_ayesAt_0 : decode cX11_ayesAt 0 = .ok (.iconst 0, 1) := by decide +kernel
theorem dX11_ayesAt_1 : decode cX11_ayesAt 1 = .ok (.istore_n 2, 1) := by decide +kernel
theorem dX11_ayesAt_2 : decode cX11_ayesAt 2 = .ok (.iconst 0, 1) := by decide +kernel
theorem dX11_ayesAt_3 : decode cX11_ayesAt 3 = .ok (.istore_n 3, 1) := by decide +kernel
theorem dX11_ayesAt_4 : decode cX11_ayesAt 4 = .ok (.iload_n 3, 1) := by decide +kernel
theorem dX11_ayesAt_5 : decode cX11_ayesAt 5 = .ok (.aload_n 0, 1) := by decide +kernel
theorem dX11_ayesAt_6 : decode cX11_ayesAt 6 = .ok (.getfield 161, 3) := by decide +kernel
theorem dX11_ayesAt_9 : decode cX11_ayesAt 9 = .ok (.if_icmp .ge 32, 3) := by decide +kernel
theorem dX11_ayesAt_12 : decode cX11_ayesAt 12 = .ok (.iload_n 2, 1) := by decide +kernel
theorem dX11_ayesAt_13 : decode cX11_ayesAt 13 = .ok (.aload_n 0, 1) := by decide +kernel
theorem dX11_ayesAt_14 : decode cX11_ayesAt 14 = .ok (.getfield 76, 3) := by decide +kernel
theorem dX11_ayesAt_17 : decode cX11_ayesAt 17 = .ok (.bipush 8, 2) := by decide +kernel
theorem dX11_ayesAt_19 : decode cX11_ayesAt 19 = .ok (.iload_n 1, 1) := by decide +kernel
theorem dX11_ayesAt_20 : decode cX11_ayesAt 20 = .ok (.imul, 1) := by decide +kernel
theorem dX11_ayesAt_21 : decode cX11_ayesAt 21 = .ok (.iload_n 3, 1) := by decide +kernel
theorem dX11_ayesAt_22 : decode cX11_ayesAt 22 = .ok (.iadd, 1) := by decide +kernel
theorem dX11_ayesAt_23 : decode cX11_ayesAt 23 = .ok (.iaload, 1) := by decide +kernel
theorem dX11_ayesAt_24 : decode cX11_ayesAt 24 = .ok (.iconst 3, 1) := by decide +kernel
theorem dX11_ayesAt_25 : decode cX11_ayesAt 25 = .ok (.if_icmp .ge 7, 3) := by decide +kernel
theorem dX11_ayesAt_28 : decode cX11_ayesAt 28 = .ok (.iconst 1, 1) := by decide +kernel
theorem dX11_ayesAt_29 : decode cX11_ayesAt 29 = .ok (.goto 4, 3) := by decide +kernel
theorem dX11_ayesAt_32 : decode cX11_ayesAt 32 = .ok (.iconst 0, 1) := by decide +kernel
theorem dX11_ayesAt_33 : decode cX11_ayesAt 33 = .ok (.iadd, 1) := by decide +kernel
theorem dX11_ayesAt_34 : decode cX11_ayesAt 34 = .ok (.istore_n 2, 1) := by decide +kernel
theorem dX11_ayesAt_35 : decode cX11_ayesAt 35 = .ok (.iinc 3 1, 3) := by decide +kernel
theorem dX11_ayesAt_38 : decode cX11_ayesAt 38 = .ok (.goto (-34), 3) := by decide +kernel
theorem dX11_ayesAt_41 : decode cX11_ayesAt 41 = .ok (.iload_n 2, 1) := by decide +kernel
theorem dX11_ayesAt_42 : decode cX11_ayesAt 42 = .ok (.ireturn, 1) := by decide +kernel
theorem dX11_houseOf_0 : decode cX11_houseOf 0 = .ok (.aload_n 0, 1) := by decide +kernel
theorem dX11_houseOf_1 : decode cX11_houseOf 1 = .ok (.invokevirtual 276, 3) := by decide +kernel
theorem dX11_houseOf_4 : decode cX11_houseOf 4 = .ok (.aload_n 0, 1) := by decide +kernel
theorem dX11_houseOf_5 : decode cX11_houseOf 5 = .ok (.iload_n 1, 1) := by decide +kernel
theorem dX11_houseOf_6 : decode cX11_houseOf 6 = .ok (.invokevirtual 285, 3) := by decide +kernel
theorem dX11_houseOf_9 : decode cX11_houseOf 9 = .ok (.istore_n 3, 1) := by decide +kernel
theorem dX11_houseOf_10 : decode cX11_houseOf 10 = .ok (.iload_n 2, 1) := by decide +kernel
theorem dX11_houseOf_11 : decode cX11_houseOf 11 = .ok (.ifCond .ne 7, 3) := by decide +kernel
theorem dX11_houseOf_14 : decode cX11_houseOf 14 = .ok (.iload_n 3, 1) := by decide +kernel
theorem dX11_houseOf_15 : decode cX11_houseOf 15 = .ok (.goto 23, 3) := by decide +kernel
theorem dX11_houseOf_18 : decode cX11_houseOf 18 = .ok (.iload_n 2, 1) := by decide +kernel
theorem dX11_houseOf_19 : decode cX11_houseOf 19 = .ok (.iconst 1, 1) := by decide +kernel
theorem dX11_houseOf_20 : decode cX11_houseOf 20 = .ok (.if_icmp .ne 12, 3) := by decide +kernel
theorem dX11_houseOf_23 : decode cX11_houseOf 23 = .ok (.aload_n 0, 1) := by decide +kernel
theorem dX11_houseOf_24 : decode cX11_houseOf 24 = .ok (.getfield 161, 3) := by decide +kernel
theorem dX11_houseOf_27 : decode cX11_houseOf 27 = .ok (.iload_n 3, 1) := by decide +kernel
theorem dX11_houseOf_28 : decode cX11_houseOf 28 = .ok (.isub, 1) := by decide +kernel
theorem dX11_houseOf_29 : decode cX11_houseOf 29 = .ok (.goto 9, 3) := by decide +kernel
theorem dX11_houseOf_32 : decode cX11_houseOf 32 = .ok (.aload_n 0, 1) := by decide +kernel
theorem dX11_houseOf_33 : decode cX11_houseOf 33 = .ok (.getfield 94, 3) := by decide +kernel
theorem dX11_houseOf_36 : decode cX11_houseOf 36 = .ok (.iload_n 1, 1) := by decide +kernel
theorem dX11_houseOf_37 : decode cX11_houseOf 37 = .ok (.iaload, 1) := by decide +kernel
theorem dX11_houseOf_38 : decode cX11_houseOf 38 = .ok (.ireturn, 1) := by decide +kernel
theorem dX11_strikesOf_0 : decode cX11_strikesOf 0 = .ok (.aload_n 0, 1) := by decide +kernel
theorem dX11_strikesOf_1 : decode cX11_strikesOf 1 = .ok (.invokevirtual 276, 3) := by decide +kernel
theorem dX11_strikesOf_4 : decode cX11_strikesOf 4 = .ok (.aload_n 0, 1) := by decide +kernel
theorem dX11_strikesOf_5 : decode cX11_strikesOf 5 = .ok (.getfield 226, 3) := by decide +kernel
theorem dX11_strikesOf_8 : decode cX11_strikesOf 8 = .ok (.ireturn, 1) := by decide +kernel
theorem dX11_firstOf_0 : decode cX11_firstOf 0 = .ok (.aload_n 0, 1) := by decide +kernel
theorem dX11_firstOf_1 : decode cX11_firstOf 1 = .ok (.invokevirtual 276, 3) := by decide +kernel
theorem dX11_firstOf_4 : decode cX11_firstOf 4 = .ok (.iload_n 1, 1) := by decide +kernel
theorem dX11_firstOf_5 : decode cX11_firstOf 5 = .ok (.ifCond .ne 10, 3) := by decide +kernel
theorem dX11_firstOf_8 : decode cX11_firstOf 8 = .ok (.aload_n 0, 1) := by decide +kernel
theorem dX11_firstOf_9 : decode cX11_firstOf 9 = .ok (.getfield 229, 3) := by decide +kernel
theorem dX11_firstOf_12 : decode cX11_firstOf 12 = .ok (.goto 7, 3) := by decide +kernel
theorem dX11_firstOf_15 : decode cX11_firstOf 15 = .ok (.aload_n 0, 1) := by decide +kernel
theorem dX11_firstOf_16 : decode cX11_firstOf 16 = .ok (.getfield 232, 3) := by decide +kernel
theorem dX11_firstOf_19 : decode cX11_firstOf 19 = .ok (.ireturn, 1) := by decide +kernel
theorem dX11_bestOf_0 : decode cX11_bestOf 0 = .ok (.aload_n 0, 1) := by decide +kernel
theorem dX11_bestOf_1 : decode cX11_bestOf 1 = .ok (.invokevirtual 276, 3) := by decide +kernel
theorem dX11_bestOf_4 : decode cX11_bestOf 4 = .ok (.iconst (-1), 1) := by decide +kernel
theorem dX11_bestOf_5 : decode cX11_bestOf 5 = .ok (.istore_n 1, 1) := by decide +kernel
theorem dX11_bestOf_6 : decode cX11_bestOf 6 = .ok (.iconst 0, 1) := by decide +kernel
theorem dX11_bestOf_7 : decode cX11_bestOf 7 = .ok (.istore_n 2, 1) := by decide +kernel
theorem dX11_bestOf_8 : decode cX11_bestOf 8 = .ok (.iload_n 2, 1) := by decide +kernel
theorem dX11_bestOf_9 : decode cX11_bestOf 9 = .ok (.aload_n 0, 1) := by decide +kernel
theorem dX11_bestOf_10 : decode cX11_bestOf 10 = .ok (.getfield 161, 3) := by decide +kernel
theorem dX11_bestOf_13 : decode cX11_bestOf 13 = .ok (.if_icmp .ge 35, 3) := by decide +kernel
theorem dX11_bestOf_16 : decode cX11_bestOf 16 = .ok (.iload_n 1, 1) := by decide +kernel
theorem dX11_bestOf_17 : decode cX11_bestOf 17 = .ok (.iconst (-1), 1) := by decide +kernel
theorem dX11_bestOf_18 : decode cX11_bestOf 18 = .ok (.if_icmp .eq 18, 3) := by decide +kernel
theorem dX11_bestOf_21 : decode cX11_bestOf 21 = .ok (.aload_n 0, 1) := by decide +kernel
theorem dX11_bestOf_22 : decode cX11_bestOf 22 = .ok (.getfield 67, 3) := by decide +kernel
theorem dX11_bestOf_25 : decode cX11_bestOf 25 = .ok (.iload_n 2, 1) := by decide +kernel
theorem dX11_bestOf_26 : decode cX11_bestOf 26 = .ok (.iaload, 1) := by decide +kernel
theorem dX11_bestOf_27 : decode cX11_bestOf 27 = .ok (.aload_n 0, 1) := by decide +kernel
theorem dX11_bestOf_28 : decode cX11_bestOf 28 = .ok (.getfield 67, 3) := by decide +kernel
theorem dX11_bestOf_31 : decode cX11_bestOf 31 = .ok (.iload_n 1, 1) := by decide +kernel
theorem dX11_bestOf_32 : decode cX11_bestOf 32 = .ok (.iaload, 1) := by decide +kernel
theorem dX11_bestOf_33 : decode cX11_bestOf 33 = .ok (.if_icmp .le 7, 3) := by decide +kernel
theorem dX11_bestOf_36 : decode cX11_bestOf 36 = .ok (.iload_n 2, 1) := by decide +kernel
theorem dX11_bestOf_37 : decode cX11_bestOf 37 = .ok (.goto 4, 3) := by decide +kernel
theorem dX11_bestOf_40 : decode cX11_bestOf 40 = .ok (.iload_n 1, 1) := by decide +kernel
theorem dX11_bestOf_41 : decode cX11_bestOf 41 = .ok (.istore_n 1, 1) := by decide +kernel
theorem dX11_bestOf_42 : decode cX11_bestOf 42 = .ok (.iinc 2 1, 3) := by decide +kernel
theorem dX11_bestOf_45 : decode cX11_bestOf 45 = .ok (.goto (-37), 3) := by decide +kernel
theorem dX11_bestOf_48 : decode cX11_bestOf 48 = .ok (.iload_n 1, 1) := by decide +kernel
theorem dX11_bestOf_49 : decode cX11_bestOf 49 = .ok (.ireturn, 1) := by decide +kernel
theorem dX11_meekNow_0 : decode cX11_meekNow 0 = .ok (.iconst 0, 1) := by decide +kernel
theorem dX11_meekNow_1 : decode cX11_meekNow 1 = .ok (.istore_n 1, 1) := by decide +kernel
theorem dX11_meekNow_2 : decode cX11_meekNow 2 = .ok (.iconst 0, 1) := by decide +kernel
theorem dX11_meekNow_3 : decode cX11_meekNow 3 = .ok (.istore_n 2, 1) := by decide +kernel
theorem dX11_meekNow_4 : decode cX11_meekNow 4 = .ok (.iload_n 2, 1) := by decide +kernel
theorem dX11_meekNow_5 : decode cX11_meekNow 5 = .ok (.aload_n 0, 1) := by decide +kernel
theorem dX11_meekNow_6 : decode cX11_meekNow 6 = .ok (.getfield 161, 3) := by decide +kernel
theorem dX11_meekNow_9 : decode cX11_meekNow 9 = .ok (.if_icmp .ge 37, 3) := by decide +kernel
theorem dX11_meekNow_12 : decode cX11_meekNow 12 = .ok (.iload_n 1, 1) := by decide +kernel
theorem dX11_meekNow_13 : decode cX11_meekNow 13 = .ok (.aload_n 0, 1) := by decide +kernel
theorem dX11_meekNow_14 : decode cX11_meekNow 14 = .ok (.getfield 70, 3) := by decide +kernel
theorem dX11_meekNow_17 : decode cX11_meekNow 17 = .ok (.iload_n 2, 1) := by decide +kernel
theorem dX11_meekNow_18 : decode cX11_meekNow 18 = .ok (.iaload, 1) := by decide +kernel
theorem dX11_meekNow_19 : decode cX11_meekNow 19 = .ok (.ifCond .ne 18, 3) := by decide +kernel
theorem dX11_meekNow_22 : decode cX11_meekNow 22 = .ok (.aload_n 0, 1) := by decide +kernel
theorem dX11_meekNow_23 : decode cX11_meekNow 23 = .ok (.getfield 73, 3) := by decide +kernel
theorem dX11_meekNow_26 : decode cX11_meekNow 26 = .ok (.iload_n 2, 1) := by decide +kernel
theorem dX11_meekNow_27 : decode cX11_meekNow 27 = .ok (.iaload, 1) := by decide +kernel
theorem dX11_meekNow_28 : decode cX11_meekNow 28 = .ok (.ifCond .ne 9, 3) := by decide +kernel
theorem dX11_meekNow_31 : decode cX11_meekNow 31 = .ok (.iconst 1, 1) := by decide +kernel
theorem dX11_meekNow_32 : decode cX11_meekNow 32 = .ok (.iload_n 2, 1) := by decide +kernel
theorem dX11_meekNow_33 : decode cX11_meekNow 33 = .ok (.ishl, 1) := by decide +kernel
theorem dX11_meekNow_34 : decode cX11_meekNow 34 = .ok (.goto 4, 3) := by decide +kernel
theorem dX11_meekNow_37 : decode cX11_meekNow 37 = .ok (.iconst 0, 1) := by decide +kernel
theorem dX11_meekNow_38 : decode cX11_meekNow 38 = .ok (.ior, 1) := by decide +kernel
theorem dX11_meekNow_39 : decode cX11_meekNow 39 = .ok (.istore_n 1, 1) := by decide +kernel
theorem dX11_meekNow_40 : decode cX11_meekNow 40 = .ok (.iinc 2 1, 3) := by decide +kernel
theorem dX11_meekNow_43 : decode cX11_meekNow 43 = .ok (.goto (-39), 3) := by decide +kernel
theorem dX11_meekNow_46 : decode cX11_meekNow 46 = .ok (.iload_n 1, 1) := by decide +kernel
theorem dX11_meekNow_47 : decode cX11_meekNow 47 = .ok (.ireturn, 1) := by decide +kernel
theorem dX11_meekOf_0 : decode cX11_meekOf 0 = .ok (.aload_n 0, 1) := by decide +kernel
theorem dX11_meekOf_1 : decode cX11_meekOf 1 = .ok (.invokevirtual 276, 3) := by decide +kernel
theorem dX11_meekOf_4 : decode cX11_meekOf 4 = .ok (.aload_n 0, 1) := by decide +kernel
theorem dX11_meekOf_5 : decode cX11_meekOf 5 = .ok (.invokevirtual 301, 3) := by decide +kernel
theorem dX11_meekOf_8 : decode cX11_meekOf 8 = .ok (.ireturn, 1) := by decide +kernel
theorem dX11_jamOf_0 : decode cX11_jamOf 0 = .ok (.aload_n 0, 1) := by decide +kernel
theorem dX11_jamOf_1 : decode cX11_jamOf 1 = .ok (.invokevirtual 276, 3) := by decide +kernel
theorem dX11_jamOf_4 : decode cX11_jamOf 4 = .ok (.iconst 0, 1) := by decide +kernel
theorem dX11_jamOf_5 : decode cX11_jamOf 5 = .ok (.istore_n 2, 1) := by decide +kernel
theorem dX11_jamOf_6 : decode cX11_jamOf 6 = .ok (.iconst 1, 1) := by decide +kernel
theorem dX11_jamOf_7 : decode cX11_jamOf 7 = .ok (.istore_n 3, 1) := by decide +kernel
theorem dX11_jamOf_8 : decode cX11_jamOf 8 = .ok (.iload_n 3, 1) := by decide +kernel
theorem dX11_jamOf_9 : decode cX11_jamOf 9 = .ok (.bipush 24, 2) := by decide +kernel
theorem dX11_jamOf_11 : decode cX11_jamOf 11 = .ok (.if_icmp .ge 30, 3) := by decide +kernel
theorem dX11_jamOf_14 : decode cX11_jamOf 14 = .ok (.aload_n 0, 1) := by decide +kernel
theorem dX11_jamOf_15 : decode cX11_jamOf 15 = .ok (.getfield 97, 3) := by decide +kernel
theorem dX11_jamOf_18 : decode cX11_jamOf 18 = .ok (.iload_n 3, 1) := by decide +kernel
theorem dX11_jamOf_19 : decode cX11_jamOf 19 = .ok (.iaload, 1) := by decide +kernel
theorem dX11_jamOf_20 : decode cX11_jamOf 20 = .ok (.aload_n 0, 1) := by decide +kernel
theorem dX11_jamOf_21 : decode cX11_jamOf 21 = .ok (.getfield 97, 3) := by decide +kernel
theorem dX11_jamOf_24 : decode cX11_jamOf 24 = .ok (.iload_n 2, 1) := by decide +kernel
theorem dX11_jamOf_25 : decode cX11_jamOf 25 = .ok (.iaload, 1) := by decide +kernel
theorem dX11_jamOf_26 : decode cX11_jamOf 26 = .ok (.if_icmp .le 7, 3) := by decide +kernel
theorem dX11_jamOf_29 : decode cX11_jamOf 29 = .ok (.iload_n 3, 1) := by decide +kernel
theorem dX11_jamOf_30 : decode cX11_jamOf 30 = .ok (.goto 4, 3) := by decide +kernel
theorem dX11_jamOf_33 : decode cX11_jamOf 33 = .ok (.iload_n 2, 1) := by decide +kernel
theorem dX11_jamOf_34 : decode cX11_jamOf 34 = .ok (.istore_n 2, 1) := by decide +kernel
theorem dX11_jamOf_35 : decode cX11_jamOf 35 = .ok (.iinc 3 1, 3) := by decide +kernel
theorem dX11_jamOf_38 : decode cX11_jamOf 38 = .ok (.goto (-30), 3) := by decide +kernel
theorem dX11_jamOf_41 : decode cX11_jamOf 41 = .ok (.iload_n 1, 1) := by decide +kernel
theorem dX11_jamOf_42 : decode cX11_jamOf 42 = .ok (.ifCond .ne 7, 3) := by decide +kernel
theorem dX11_jamOf_45 : decode cX11_jamOf 45 = .ok (.iload_n 2, 1) := by decide +kernel
theorem dX11_jamOf_46 : decode cX11_jamOf 46 = .ok (.goto 9, 3) := by decide +kernel
theorem dX11_jamOf_49 : decode cX11_jamOf 49 = .ok (.aload_n 0, 1) := by decide +kernel
theorem dX11_jamOf_50 : decode cX11_jamOf 50 = .ok (.getfield 97, 3) := by decide +kernel
theorem dX11_jamOf_53 : decode cX11_jamOf 53 = .ok (.iload_n 2, 1) := by decide +kernel
theorem dX11_jamOf_54 : decode cX11_jamOf 54 = .ok (.iaload, 1) := by decide +kernel
theorem dX11_jamOf_55 : decode cX11_jamOf 55 = .ok (.ireturn, 1) := by decide +kernel
theorem dX11_carriedOf_0 : decode cX11_carriedOf 0 = .ok (.aload_n 0, 1) := by decide +kernel
theorem dX11_carriedOf_1 : decode cX11_carriedOf 1 = .ok (.invokevirtual 276, 3) := by decide +kernel
theorem dX11_carriedOf_4 : decode cX11_carriedOf 4 = .ok (.iconst 0, 1) := by decide +kernel
theorem dX11_carriedOf_5 : decode cX11_carriedOf 5 = .ok (.istore_n 1, 1) := by decide +kernel
theorem dX11_carriedOf_6 : decode cX11_carriedOf 6 = .ok (.iconst 0, 1) := by decide +kernel
theorem dX11_carriedOf_7 : decode cX11_carriedOf 7 = .ok (.istore_n 2, 1) := by decide +kernel
theorem dX11_carriedOf_8 : decode cX11_carriedOf 8 = .ok (.iload_n 2, 1) := by decide +kernel
theorem dX11_carriedOf_9 : decode cX11_carriedOf 9 = .ok (.bipush 24, 2) := by decide +kernel
theorem dX11_carriedOf_11 : decode cX11_carriedOf 11 = .ok (.if_icmp .ge 41, 3) := by decide +kernel
theorem dX11_carriedOf_14 : decode cX11_carriedOf 14 = .ok (.iload_n 1, 1) := by decide +kernel
theorem dX11_carriedOf_15 : decode cX11_carriedOf 15 = .ok (.aload_n 0, 1) := by decide +kernel
theorem dX11_carriedOf_16 : decode cX11_carriedOf 16 = .ok (.getfield 94, 3) := by decide +kernel
theorem dX11_carriedOf_19 : decode cX11_carriedOf 19 = .ok (.iload_n 2, 1) := by decide +kernel
theorem dX11_carriedOf_20 : decode cX11_carriedOf 20 = .ok (.iaload, 1) := by decide +kernel
theorem dX11_carriedOf_21 : decode cX11_carriedOf 21 = .ok (.iconst 1, 1) := by decide +kernel
theorem dX11_carriedOf_22 : decode cX11_carriedOf 22 = .ok (.if_icmp .ne 21, 3) := by decide +kernel
theorem dX11_carriedOf_25 : decode cX11_carriedOf 25 = .ok (.iconst 2, 1) := by decide +kernel
theorem dX11_carriedOf_26 : decode cX11_carriedOf 26 = .ok (.aload_n 0, 1) := by decide +kernel
theorem dX11_carriedOf_27 : decode cX11_carriedOf 27 = .ok (.iload_n 2, 1) := by decide +kernel
theorem dX11_carriedOf_28 : decode cX11_carriedOf 28 = .ok (.invokevirtual 285, 3) := by decide +kernel
theorem dX11_carriedOf_31 : decode cX11_carriedOf 31 = .ok (.imul, 1) := by decide +kernel
theorem dX11_carriedOf_32 : decode cX11_carriedOf 32 = .ok (.aload_n 0, 1) := by decide +kernel
theorem dX11_carriedOf_33 : decode cX11_carriedOf 33 = .ok (.getfield 161, 3) := by decide +kernel
theorem dX11_carriedOf_36 : decode cX11_carriedOf 36 = .ok (.if_icmp .le 7, 3) := by decide +kernel
theorem dX11_carriedOf_39 : decode cX11_carriedOf 39 = .ok (.iconst 1, 1) := by decide +kernel
theorem dX11_carriedOf_40 : decode cX11_carriedOf 40 = .ok (.goto 4, 3) := by decide +kernel
theorem dX11_carriedOf_43 : decode cX11_carriedOf 43 = .ok (.iconst 0, 1) := by decide +kernel
theorem dX11_carriedOf_44 : decode cX11_carriedOf 44 = .ok (.iadd, 1) := by decide +kernel
theorem dX11_carriedOf_45 : decode cX11_carriedOf 45 = .ok (.istore_n 1, 1) := by decide +kernel
theorem dX11_carriedOf_46 : decode cX11_carriedOf 46 = .ok (.iinc 2 1, 3) := by decide +kernel
theorem dX11_carriedOf_49 : decode cX11_carriedOf 49 = .ok (.goto (-41), 3) := by decide +kernel
theorem dX11_carriedOf_52 : decode cX11_carriedOf 52 = .ok (.iload_n 1, 1) := by decide +kernel
theorem dX11_carriedOf_53 : decode cX11_carriedOf 53 = .ok (.ireturn, 1) := by decide +kernel
theorem dX11_pointsAll_0 : decode cX11_pointsAll 0 = .ok (.iconst 0, 1) := by decide +kernel
theorem dX11_pointsAll_1 : decode cX11_pointsAll 1 = .ok (.istore_n 1, 1) := by decide +kernel
theorem dX11_pointsAll_2 : decode cX11_pointsAll 2 = .ok (.iconst 0, 1) := by decide +kernel
theorem dX11_pointsAll_3 : decode cX11_pointsAll 3 = .ok (.istore_n 2, 1) := by decide +kernel
theorem dX11_pointsAll_4 : decode cX11_pointsAll 4 = .ok (.iload_n 2, 1) := by decide +kernel
theorem dX11_pointsAll_5 : decode cX11_pointsAll 5 = .ok (.aload_n 0, 1) := by decide +kernel
theorem dX11_pointsAll_6 : decode cX11_pointsAll 6 = .ok (.getfield 161, 3) := by decide +kernel
theorem dX11_pointsAll_9 : decode cX11_pointsAll 9 = .ok (.if_icmp .ge 18, 3) := by decide +kernel
theorem dX11_pointsAll_12 : decode cX11_pointsAll 12 = .ok (.iload_n 1, 1) := by decide +kernel
theorem dX11_pointsAll_13 : decode cX11_pointsAll 13 = .ok (.aload_n 0, 1) := by decide +kernel
theorem dX11_pointsAll_14 : decode cX11_pointsAll 14 = .ok (.getfield 67, 3) := by decide +kernel
theorem dX11_pointsAll_17 : decode cX11_pointsAll 17 = .ok (.iload_n 2, 1) := by decide +kernel
theorem dX11_pointsAll_18 : decode cX11_pointsAll 18 = .ok (.iaload, 1) := by decide +kernel
theorem dX11_pointsAll_19 : decode cX11_pointsAll 19 = .ok (.iadd, 1) := by decide +kernel
theorem dX11_pointsAll_20 : decode cX11_pointsAll 20 = .ok (.istore_n 1, 1) := by decide +kernel
theorem dX11_pointsAll_21 : decode cX11_pointsAll 21 = .ok (.iinc 2 1, 3) := by decide +kernel
theorem dX11_pointsAll_24 : decode cX11_pointsAll 24 = .ok (.goto (-20), 3) := by decide +kernel
theorem dX11_pointsAll_27 : decode cX11_pointsAll 27 = .ok (.iload_n 1, 1) := by decide +kernel
theorem dX11_pointsAll_28 : decode cX11_pointsAll 28 = .ok (.ireturn, 1) := by decide +kernel
theorem c_isMoment (hd : 1 ≤ d) (v : Int32) : mMet G l d kX11_isMoment [.int v] σ (qI (bI (decide (0 ≤ v ∧ v ≤ 23))) σ) := by
  refine mMet.of cm_X11_isMoment rfl (Nat.le_of_ble_eq_true rfl) rfl (fun v1 σ1 h => by rw [h.1]; exact bI_nar _) ?_
  refine m_iload_n dX11_isMoment_0 0 rfl ?_
  refine m_iconst (v := 0) dX11_isMoment_1 (by decide) ?_
  refine m_bipush (v := 23) dX11_isMoment_2 (by decide) ?_
  refine m_callS (As := [_, _, _]) dX11_isMoment_4 cs_X11_136 (by omega) rfl rfl (Nat.le_of_ble_eq_true rfl) (c_in (d := d - 1) v 0 23) (fun v1 σ1 hv1 => ?_)
  refine m_qI hv1 ?_
  clear hv1 v1 σ1
  refine m_ireturn dX11_isMoment_7 ?_
  exact ⟨rfl, rfl⟩
theorem c_isTwo (hd : 1 ≤ d) (v : Int32) : mMet G l d kX11_isTwo [.int v] σ (qI (bI (decide (0 ≤ v ∧ v ≤ 1))) σ) := by
  refine mMet.of cm_X11_isTwo rfl (Nat.le_of_ble_eq_true rfl) rfl (fun v1 σ1 h => by rw [h.1]; exact bI_nar _) ?_
  refine m_iload_n dX11_isTwo_0 0 rfl ?_
  refine m_iconst (v := 0) dX11_isTwo_1 (by decide) ?_
  refine m_iconst (v := 1) dX11_isTwo_2 (by decide) ?_
  refine m_callS (As := [_, _, _]) dX11_isTwo_3 cs_X11_136 (by omega) rfl rfl (Nat.le_of_ble_eq_true rfl) (c_in (d := d - 1) v 0 1) (fun v1 σ1 hv1 => ?_)
  refine m_qI hv1 ?_
  clear hv1 v1 σ1
  refine m_ireturn dX11_isTwo_6 ?_
  exact ⟨rfl, rfl⟩
theorem c_isThree (hd : 1 ≤ d) (v : Int32) : mMet G l d kX11_isThree [.int v] σ (qI (bI (decide (0 ≤ v ∧ v ≤ 2))) σ) := by
  refine mMet.of cm_X11_isThree rfl (Nat.le_of_ble_eq_true rfl) rfl (fun v1 σ1 h => by rw [h.1]; exact bI_nar _) ?_
  refine m_iload_n dX11_isThree_0 0 rfl ?_
  refine m_iconst (v := 0) dX11_isThree_1 (by decide) ?_
  refine m_iconst (v := 2) dX11_isThree_2 (by decide) ?_
  refine m_callS (As := [_, _, _]) dX11_isThree_3 cs_X11_136 (by omega) rfl rfl (Nat.le_of_ble_eq_true rfl) (c_in (d := d - 1) v 0 2) (fun v1 σ1 hv1 => ?_)
  refine m_qI hv1 ?_
  clear hv1 v1 σ1
  refine m_ireturn dX11_isThree_6 ?_
  exact ⟨rfl, rfl⟩
theorem c_isEight (hd : 1 ≤ d) (v : Int32) : mMet G l d kX11_isEight [.int v] σ (qI (bI (decide (0 ≤ v ∧ v ≤ 7))) σ) := by
  refine mMet.of cm_X11_isEight rfl (Nat.le_of_ble_eq_true rfl) rfl (fun v1 σ1 h => by rw [h.1]; exact bI_nar _) ?_
  refine m_iload_n dX11_isEight_0 0 rfl ?_
  refine m_iconst (v := 0) dX11_isEight_1 (by decide) ?_
  refine m_bipush (v := 7) dX11_isEight_2 (by decide) ?_
  refine m_callS (As := [_, _, _]) dX11_isEight_4 cs_X11_136 (by omega) rfl rfl (Nat.le_of_ble_eq_true rfl) (c_in (d := d - 1) v 0 7) (fun v1 σ1 hv1 => ?_)
  refine m_qI hv1 ?_
  clear hv1 v1 σ1
  refine m_ireturn dX11_isEight_7 ?_
  exact ⟨rfl, rfl⟩
theorem c_isSheet (hd : 1 ≤ d) (v : Int32) : mMet G l d kX11_isSheet [.int v] σ (qI (bI (decide (0 ≤ v ∧ v ≤ 3))) σ) := by
  refine mMet.of cm_X11_isSheet rfl (Nat.le_of_ble_eq_true rfl) rfl (fun v1 σ1 h => by rw [h.1]; exact bI_nar _) ?_
  refine m_iload_n dX11_isSheet_0 0 rfl ?_
  refine m_iconst (v := 0) dX11_isSheet_1 (by decide) ?_
  refine m_iconst (v := 3) dX11_isSheet_2 (by decide) ?_
  refine m_callS (As := [_, _, _]) dX11_isSheet_3 cs_X11_136 (by omega) rfl rfl (Nat.le_of_ble_eq_true rfl) (c_in (d := d - 1) v 0 3) (fun v1 σ1 hv1 => ?_)
  refine m_qI hv1 ?_
  clear hv1 v1 σ1
  refine m_ireturn dX11_isSheet_6 ?_
  exact ⟨rfl, rfl⟩
theorem c_ayesAt (D : Deb) (hn : D.1.1 ≤ 8) (ho : outR D σ) (hc : σ.1 111 2 = nI D.1.1) (t : Nat) (ht : t < 24) : mMet G l d kX11_ayesAt [.ref 111, .int (nI t)] σ (qI (nI (ayD D t)) σ) := by
  refine mMet.of cm_X11_ayesAt rfl (Nat.le_of_ble_eq_true rfl) rfl (fun v1 σ1 h => by rw [h.1]; rfl) ?_
  refine m_iconst (v := 0) dX11_ayesAt_0 (by decide) ?_
  refine m_istore_n (ls1 := [(2, _), (0, _), (1, _)]) dX11_ayesAt_1 (by decide) rfl ?_
  refine m_iconst (v := 0) dX11_ayesAt_2 (by decide) ?_
  refine m_istore_n (ls1 := [(3, _), (2, _), (0, _), (1, _)]) dX11_ayesAt_3 (by decide) rfl ?_
  refine down (N := D.1.1) (fun k (f : Int32) => f = nI (ayP (RSt D (t + 1)).1 k)) (fun k f => mW G l d kX11_ayesAt 4 [(3, .int (nI k)), (2, .int f), (0, .ref 111), (1, .int (nI t))] [] σ _) ?_ ?_ 0 0 (Nat.zero_le _) rfl
  · intro f hf
    refine m_iload_n dX11_ayesAt_4 0 rfl ?_
    refine m_aload_n dX11_ayesAt_5 2 rfl ?_
    refine m_getI 2 dX11_ayesAt_6 fl_X11_161_10 rfl (by decide) (by first | assumption | rfl) ?_
    refine m_icmp_ge dX11_ayesAt_9 41 (by decide) (fun h => ?_) (fun h => ?_)
    · refine m_iload_n dX11_ayesAt_41 1 rfl ?_
      exact m_ireturn dX11_ayesAt_42 ⟨by rw [hf], rfl⟩
    · exact (ge_yes h hc).elim
  · intro k f hk hf ih
    have hx := ((ho.1 t ht).2.2.2 k hk).1
    refine m_iload_n dX11_ayesAt_4 0 rfl ?_
    refine m_aload_n dX11_ayesAt_5 2 rfl ?_
    refine m_getI 2 dX11_ayesAt_6 fl_X11_161_10 rfl (by decide) (by first | assumption | rfl) ?_
    refine m_icmp_ge dX11_ayesAt_9 41 (by decide) (fun h => ?_) (fun h => ?_)
    · exact (ge_no hc h rfl hk (by omega)).elim
    · clear h
      refine m_iload_n dX11_ayesAt_12 1 rfl ?_
      refine m_aload_n dX11_ayesAt_13 2 rfl ?_
      refine m_getR 32 134 dX11_ayesAt_14 fl_X11_76_10 rfl (by decide) rfl (by first | assumption | rfl) ?_
      refine m_bipush (v := 8) dX11_ayesAt_17 (by decide) ?_
      refine m_iload_n dX11_ayesAt_19 3 rfl ?_
      refine m_imul dX11_ayesAt_20 ?_
      refine m_iload_n dX11_ayesAt_21 0 rfl ?_
      refine m_iadd dX11_ayesAt_22 ?_
      refine mW.top (w := nI (8 * t + k)) (ix8 t k) ?_
      refine m_iald dX11_ayesAt_23 (by first | assumption | rfl) (8 * t + k) rfl (by first | assumption | omega | decide) ?_
      refine mW.top hx ?_
      refine m_iconst (v := 3) dX11_ayesAt_24 (by decide) ?_
      refine m_sel (pcJ := 33) ?_ (fun kt0 kf0 => m_icmp_ge dX11_ayesAt_25 32 (by decide) (fun h => (m_iconst (v := 0) dX11_ayesAt_32 (by decide) (kt0 h))) (fun h => (m_iconst (v := 1) dX11_ayesAt_28 (by decide) (m_goto dX11_ayesAt_29 33 (by decide) (kf0 h)))))
      refine m_iadd dX11_ayesAt_33 ?_
      refine m_istore_n (ls1 := [(2, _), (3, _), (0, _), (1, _)]) dX11_ayesAt_34 (by decide) rfl ?_
      refine m_iinc (v := nI (k + 1)) (ls1 := [(3, _), (2, _), (0, _), (1, _)]) dX11_ayesAt_35 1 rfl (nI_1 k) (by decide) rfl ?_
      refine m_goto dX11_ayesAt_38 4 (by decide) ?_
      refine mW.sub (ls1 := [(3, _), (2, _), (0, _), (1, _)]) [0, 1, 2, 3] rfl ?_
      refine ih _ ?_
      rw [hf, ayP]
      split <;> exact nI_add _ _
theorem c_meekNow (n : Nat) (hn : n ≤ 8) (hc : σ.1 111 2 = nI n) : mMet G l d kX11_meekNow [.ref 111] σ (qI (meekP (σ.1 132) (σ.1 133) n) σ) := by
  refine mMet.of cm_X11_meekNow rfl (Nat.le_of_ble_eq_true rfl) rfl (fun v1 σ1 h => by rw [h.1]; rfl) ?_
  refine m_iconst (v := 0) dX11_meekNow_0 (by decide) ?_
  refine m_istore_n (ls1 := [(1, _), (0, _)]) dX11_meekNow_1 (by decide) rfl ?_
  refine m_iconst (v := 0) dX11_meekNow_2 (by decide) ?_
  refine m_istore_n (ls1 := [(2, _), (1, _), (0, _)]) dX11_meekNow_3 (by decide) rfl ?_
  refine down (N := n) (fun k (f : Int32) => f = meekP (σ.1 132) (σ.1 133) k) (fun k f => mW G l d kX11_meekNow 4 [(2, .int (nI k)), (1, .int f), (0, .ref 111)] [] σ _) ?_ ?_ 0 0 (Nat.zero_le _) rfl
  · intro f hf
    refine m_iload_n dX11_meekNow_4 0 rfl ?_
    refine m_aload_n dX11_meekNow_5 2 rfl ?_
    refine m_getI 2 dX11_meekNow_6 fl_X11_161_10 rfl (by decide) (by first | assumption | rfl) ?_
    refine m_icmp_ge dX11_meekNow_9 46 (by decide) (fun h => ?_) (fun h => ?_)
    · refine m_iload_n dX11_meekNow_46 1 rfl ?_
      exact m_ireturn dX11_meekNow_47 ⟨by rw [hf], rfl⟩
    · exact (ge_yes h hc).elim
  · intro k f hk hf ih
    have hk8 : k < 8 := by omega
    refine m_iload_n dX11_meekNow_4 0 rfl ?_
    refine m_aload_n dX11_meekNow_5 2 rfl ?_
    refine m_getI 2 dX11_meekNow_6 fl_X11_161_10 rfl (by decide) (by first | assumption | rfl) ?_
    refine m_icmp_ge dX11_meekNow_9 46 (by decide) (fun h => ?_) (fun h => ?_)
    · exact (ge_no hc h rfl hk (by omega)).elim
    · clear h
      refine m_iload_n dX11_meekNow_12 1 rfl ?_
      refine m_aload_n dX11_meekNow_13 2 rfl ?_
      refine m_getR 26 132 dX11_meekNow_14 fl_X11_70_10 rfl (by decide) rfl (by first | assumption | rfl) ?_
      refine m_iload_n dX11_meekNow_17 0 rfl ?_
      refine m_iald dX11_meekNow_18 (by first | assumption | rfl) k rfl (by first | assumption | omega | decide) ?_
      refine m_if_ne dX11_meekNow_19 37 (by decide) (fun h19 => ?_) (fun h19 => ?_)
      · refine m_iconst (v := 0) dX11_meekNow_37 (by decide) ?_
        refine m_ior dX11_meekNow_38 ?_
        refine m_istore_n (ls1 := [(1, _), (2, _), (0, _)]) dX11_meekNow_39 (by decide) rfl ?_
        refine m_iinc (v := nI (k + 1)) (ls1 := [(2, _), (1, _), (0, _)]) dX11_meekNow_40 1 rfl (nI_1 k) (by decide) rfl ?_
        refine m_goto dX11_meekNow_43 4 (by decide) ?_
        refine ih _ ?_
        rw [hf, meekP]
        split <;> rename_i q <;> first | rfl | exact absurd q.1 h19 | exact absurd q.2 h28 | exact absurd (And.intro h19 h28) q
      · refine m_aload_n dX11_meekNow_22 2 rfl ?_
        refine m_getR 27 133 dX11_meekNow_23 fl_X11_73_10 rfl (by decide) rfl (by first | assumption | rfl) ?_
        refine m_iload_n dX11_meekNow_26 0 rfl ?_
        refine m_iald dX11_meekNow_27 (by first | assumption | rfl) k rfl (by first | assumption | omega | decide) ?_
        refine m_if_ne dX11_meekNow_28 37 (by decide) (fun h28 => ?_) (fun h28 => ?_)
        · refine m_iconst (v := 0) dX11_meekNow_37 (by decide) ?_
          refine m_ior dX11_meekNow_38 ?_
          refine m_istore_n (ls1 := [(1, _), (2, _), (0, _)]) dX11_meekNow_39 (by decide) rfl ?_
          refine m_iinc (v := nI (k + 1)) (ls1 := [(2, _), (1, _), (0, _)]) dX11_meekNow_40 1 rfl (nI_1 k) (by decide) rfl ?_
          refine m_goto dX11_meekNow_43 4 (by decide) ?_
          refine ih _ ?_
          rw [hf, meekP]
          split <;> rename_i q <;> first | rfl | exact absurd q.1 h19 | exact absurd q.2 h28 | exact absurd (And.intro h19 h28) q
        · refine m_iconst (v := 1) dX11_meekNow_31 (by decide) ?_
          refine m_iload_n dX11_meekNow_32 0 rfl ?_
          refine m_ishl dX11_meekNow_33 ?_
          refine m_goto dX11_meekNow_34 38 (by decide) ?_
          refine m_ior dX11_meekNow_38 ?_
          refine m_istore_n (ls1 := [(1, _), (2, _), (0, _)]) dX11_meekNow_39 (by decide) rfl ?_
          refine m_iinc (v := nI (k + 1)) (ls1 := [(2, _), (1, _), (0, _)]) dX11_meekNow_40 1 rfl (nI_1 k) (by decide) rfl ?_
          refine m_goto dX11_meekNow_43 4 (by decide) ?_
          refine ih _ ?_
          rw [hf, meekP]
          split <;> rename_i q <;> first | rfl | exact absurd q.1 h19 | exact absurd q.2 h28 | exact absurd (And.intro h19 h28) q
theorem c_pointsAll (n : Nat) (hn : n ≤ 8) (hc : σ.1 111 2 = nI n) : mMet G l d kX11_pointsAll [.ref 111] σ (qI (sumP (σ.1 131) n) σ) := by
  refine mMet.of cm_X11_pointsAll rfl (Nat.le_of_ble_eq_true rfl) rfl (fun v1 σ1 h => by rw [h.1]; rfl) ?_
  refine m_iconst (v := 0) dX11_pointsAll_0 (by decide) ?_
  refine m_istore_n (ls1 := [(1, _), (0, _)]) dX11_pointsAll_1 (by decide) rfl ?_
  refine m_iconst (v := 0) dX11_pointsAll_2 (by decide) ?_
  refine m_istore_n (ls1 := [(2, _), (1, _), (0, _)]) dX11_pointsAll_3 (by decide) rfl ?_
  refine down (N := n) (fun k (f : Int32) => f = sumP (σ.1 131) k) (fun k f => mW G l d kX11_pointsAll 4 [(2, .int (nI k)), (1, .int f), (0, .ref 111)] [] σ _) ?_ ?_ 0 0 (Nat.zero_le _) rfl
  · intro f hf
    refine m_iload_n dX11_pointsAll_4 0 rfl ?_
    refine m_aload_n dX11_pointsAll_5 2 rfl ?_
    refine m_getI 2 dX11_pointsAll_6 fl_X11_161_10 rfl (by decide) (by first | assumption | rfl) ?_
    refine m_icmp_ge dX11_pointsAll_9 27 (by decide) (fun h => ?_) (fun h => ?_)
    · refine m_iload_n dX11_pointsAll_27 1 rfl ?_
      exact m_ireturn dX11_pointsAll_28 ⟨by rw [hf], rfl⟩
    · exact (ge_yes h hc).elim
  · intro k f hk hf ih
    have hk8 : k < 8 := by omega
    refine m_iload_n dX11_pointsAll_4 0 rfl ?_
    refine m_aload_n dX11_pointsAll_5 2 rfl ?_
    refine m_getI 2 dX11_pointsAll_6 fl_X11_161_10 rfl (by decide) (by first | assumption | rfl) ?_
    refine m_icmp_ge dX11_pointsAll_9 27 (by decide) (fun h => ?_) (fun h => ?_)
    · exact (ge_no hc h rfl hk (by omega)).elim
    · clear h
      refine m_iload_n dX11_pointsAll_12 1 rfl ?_
      refine m_aload_n dX11_pointsAll_13 2 rfl ?_
      refine m_getR 25 131 dX11_pointsAll_14 fl_X11_67_10 rfl (by decide) rfl (by first | assumption | rfl) ?_
      refine m_iload_n dX11_pointsAll_17 0 rfl ?_
      refine m_iald dX11_pointsAll_18 (by first | assumption | rfl) k rfl (by first | assumption | omega | decide) ?_
      refine m_iadd dX11_pointsAll_19 ?_
      refine m_istore_n (ls1 := [(1, _), (2, _), (0, _)]) dX11_pointsAll_20 (by decide) rfl ?_
      refine m_iinc (v := nI (k + 1)) (ls1 := [(2, _), (1, _), (0, _)]) dX11_pointsAll_21 1 rfl (nI_1 k) (by decide) rfl ?_
      refine m_goto dX11_pointsAll_24 4 (by decide) ?_
      refine mW.sub (ls1 := [(2, _), (1, _), (0, _)]) [0, 1, 2] rfl ?_
      exact ih _ (by rw [hf, sumP])
theorem c_atOf (hd : 8 ≤ d) (L0 L1 e : Nat) (ok : okR σ L0 L1 e) (t k w : Nat) (ht : t < 24) (hk : k < (Dt σ L0 L1 e).1.1) (hw : w ≤ 5) : mMet G l d kX11_atOf [.ref 111, .int (nI t), .int (nI k), .int (nI w)] σ (qIP (fun r s => r = aAt (RSt (Dt σ L0 L1 e) (t + 1)) k w ∧ fW wScr σ s)) := by
  have hn := parC_n L0 (tx σ 0)
  have hk8 : k < 8 := Nat.lt_of_lt_of_le hk hn
  refine mMet.of cm_X11_atOf rfl (Nat.le_of_ble_eq_true rfl) rfl (fun v1 σ1 h => by obtain ⟨r, h1, -⟩ := h; rw [h1]; rfl) ?_
  refine m_aload_n dX11_atOf_0 0 rfl ?_
  refine m_callV (As := []) dX11_atOf_1 cv_X11_276 (by first | assumption | rfl) (by decide) (by omega) rfl rfl (Nat.le_of_ble_eq_true rfl) (c_runsTold (d := d - 1) (by omega) L0 L1 e ok) (fun v1 σ1 hv1 => ?_)
  refine m_qVP hv1 (fun ha => ?_)
  clear hv1 v1
  rename mS => s
  obtain ⟨o, a2, a3, a4⟩ := ha
  obtain ⟨g1, g2, g3, g4⟩ := o.1 t ht
  obtain ⟨q0, q1, q2, q3, q4⟩ := g4 k hk
  refine m_bipush (v := 8) dX11_atOf_4 (by decide) ?_
  refine m_iload_n dX11_atOf_6 1 rfl ?_
  refine m_imul dX11_atOf_7 ?_
  refine m_iload_n dX11_atOf_8 2 rfl ?_
  refine m_iadd dX11_atOf_9 ?_
  refine mW.top (w := nI (8 * t + k)) (ix8 t k) ?_
  refine m_istore (ls1 := [(4, _), (0, _), (1, _), (2, _), (3, _)]) dX11_atOf_10 (by decide) rfl ?_
  refine m_iload_n dX11_atOf_12 4 rfl ?_
  rcases (show w = 0 ∨ w = 1 ∨ w = 2 ∨ w = 3 ∨ w = 4 ∨ w = 5 by omega) with rfl | rfl | rfl | rfl | rfl | rfl
  · refine m_tableIn dX11_atOf_13 (by decide) (by decide) (off := 35) (by decide) 48 (by decide) ?_
    refine m_aload_n dX11_atOf_48 1 rfl ?_
    refine m_getR 32 134 dX11_atOf_49 fl_X11_76_10 rfl (by decide) rfl (by first | assumption | rfl) ?_
    refine m_iload dX11_atOf_52 0 rfl ?_
    refine m_iald dX11_atOf_54 (by first | assumption | rfl) (8 * t + k) rfl (by first | assumption | omega | decide) ?_
    refine mW.top q0 ?_
    refine m_ireturn dX11_atOf_55 ?_
    exact ⟨_, rfl, rfl, a4⟩
  · refine m_tableIn dX11_atOf_13 (by decide) (by decide) (off := 43) (by decide) 56 (by decide) ?_
    refine m_aload_n dX11_atOf_56 1 rfl ?_
    refine m_getR 33 135 dX11_atOf_57 fl_X11_79_10 rfl (by decide) rfl (by first | assumption | rfl) ?_
    refine m_iload dX11_atOf_60 0 rfl ?_
    refine m_iald dX11_atOf_62 (by first | assumption | rfl) (8 * t + k) rfl (by first | assumption | omega | decide) ?_
    refine mW.top q1 ?_
    refine m_ireturn dX11_atOf_63 ?_
    exact ⟨_, rfl, rfl, a4⟩
  · refine m_tableIn dX11_atOf_13 (by decide) (by decide) (off := 51) (by decide) 64 (by decide) ?_
    refine m_aload_n dX11_atOf_64 1 rfl ?_
    refine m_getR 34 136 dX11_atOf_65 fl_X11_82_10 rfl (by decide) rfl (by first | assumption | rfl) ?_
    refine m_iload dX11_atOf_68 0 rfl ?_
    refine m_iald dX11_atOf_70 (by first | assumption | rfl) (8 * t + k) rfl (by first | assumption | omega | decide) ?_
    refine mW.top q2 ?_
    refine m_ireturn dX11_atOf_71 ?_
    exact ⟨_, rfl, rfl, a4⟩
  · refine m_tableIn dX11_atOf_13 (by decide) (by decide) (off := 59) (by decide) 72 (by decide) ?_
    refine m_aload_n dX11_atOf_72 1 rfl ?_
    refine m_getR 35 137 dX11_atOf_73 fl_X11_85_10 rfl (by decide) rfl (by first | assumption | rfl) ?_
    refine m_iload dX11_atOf_76 0 rfl ?_
    refine m_iald dX11_atOf_78 (by first | assumption | rfl) (8 * t + k) rfl (by first | assumption | omega | decide) ?_
    refine mW.top q3 ?_
    refine m_ireturn dX11_atOf_79 ?_
    exact ⟨_, rfl, rfl, a4⟩
  · refine m_tableIn dX11_atOf_13 (by decide) (by decide) (off := 67) (by decide) 80 (by decide) ?_
    refine m_aload_n dX11_atOf_80 1 rfl ?_
    refine m_getR 36 138 dX11_atOf_81 fl_X11_88_10 rfl (by decide) rfl (by first | assumption | rfl) ?_
    refine m_iload dX11_atOf_84 0 rfl ?_
    refine m_iald dX11_atOf_86 (by first | assumption | rfl) (8 * t + k) rfl (by first | assumption | omega | decide) ?_
    refine mW.top q4 ?_
    refine m_ireturn dX11_atOf_87 ?_
    exact ⟨_, rfl, rfl, a4⟩
  · refine m_tableOut dX11_atOf_13 (by decide) 88 (by decide) ?_
    refine m_aload_n dX11_atOf_88 1 rfl ?_
    refine m_getR 37 139 dX11_atOf_89 fl_X11_91_10 rfl (by decide) rfl (by first | assumption | rfl) ?_
    refine m_iload_n dX11_atOf_92 2 rfl ?_
    refine m_iald dX11_atOf_93 (by first | assumption | rfl) t rfl (by first | assumption | omega | decide) ?_
    refine mW.top g2 ?_
    refine m_iload_n dX11_atOf_94 3 rfl ?_
    refine m_callS (As := [_, _]) dX11_atOf_95 cs_X11_252 (by omega) rfl rfl (Nat.le_of_ble_eq_true rfl) (c_isIn (d := d - 1) _ (nI k)) (fun v1 σ1 hv1 => ?_)
    refine m_qI hv1 ?_
    clear hv1 v1 σ1
    refine m_sel (pcJ := 106) ?_ (fun kt0 kf0 => m_if_eq dX11_atOf_98 105 (by decide) (fun h => (m_iconst (v := 1) dX11_atOf_105 (by decide) (kt0 h))) (fun h => (m_iconst (v := 0) dX11_atOf_101 (by decide) (m_goto dX11_atOf_102 106 (by decide) (kf0 h)))))
    refine m_ireturn dX11_atOf_106 ⟨_, rfl, ?_, a4⟩
    show _ = (if bitI _ _ then (0 : Int32) else 1)
    by_cases hb : bitI (RSt (Dt σ L0 L1 e) (t + 1)).2.2.2.2.2.2.1 (nI k)
    · rw [if_pos hb, decide_eq_true hb]; rfl
    · rw [if_neg hb, decide_eq_false hb]; rfl
theorem c_whoOf (hd : 8 ≤ d) (L0 L1 e : Nat) (ok : okR σ L0 L1 e) (t : Nat) (ht : t < 24) (x y : Int32) : mMet G l d kX11_whoOf [.ref 111, .int (nI t), .int x, .int y] σ (qIP (fun r s => r = whoIn (RSt (Dt σ L0 L1 e) (t + 1)).1 (RSt (Dt σ L0 L1 e) (t + 1)).2.1 x y (Dt σ L0 L1 e).1.1 ∧ fW wScr σ s)) := by
  have hn : (Dt σ L0 L1 e).1.1 ≤ 8 := parC_n L0 (tx σ 0)
  refine mMet.of cm_X11_whoOf rfl (Nat.le_of_ble_eq_true rfl) rfl (fun v1 σ1 h => by obtain ⟨r, h1, -⟩ := h; rw [h1]; rfl) ?_
  refine m_aload_n dX11_whoOf_0 0 rfl ?_
  refine m_callV (As := []) dX11_whoOf_1 cv_X11_276 (by first | assumption | rfl) (by decide) (by omega) rfl rfl (Nat.le_of_ble_eq_true rfl) (c_runsTold (d := d - 1) (by omega) L0 L1 e ok) (fun v1 σ1 hv1 => ?_)
  refine m_qVP hv1 (fun ha => ?_)
  clear hv1 v1
  rename mS => s
  obtain ⟨o, a2, a3, a4⟩ := ha
  generalize Dt σ L0 L1 e = D at *
  obtain ⟨g1, g2, g3, g4⟩ := o.1 t ht
  refine m_iconst (v := -1) dX11_whoOf_4 (by decide) ?_
  refine m_istore (ls1 := [(4, _), (0, _), (1, _), (2, _), (3, _)]) dX11_whoOf_5 (by decide) rfl ?_
  refine m_iconst (v := 0) dX11_whoOf_7 (by decide) ?_
  refine m_istore (ls1 := [(5, _), (4, _), (0, _), (1, _), (2, _), (3, _)]) dX11_whoOf_8 (by decide) rfl ?_
  refine down (N := D.1.1) (fun k (f : Int32) => f = whoIn (RSt D (t + 1)).1 (RSt D (t + 1)).2.1 x y k) (fun k f => mW G l d kX11_whoOf 10 [(5, .int (nI k)), (4, .int f), (0, .ref 111), (1, .int (nI t)), (2, .int x), (3, .int y)] [] s _) ?_ ?_ 0 (-1) (Nat.zero_le _) rfl
  · intro f hf
    refine m_iload dX11_whoOf_10 0 rfl ?_
    refine m_aload_n dX11_whoOf_12 2 rfl ?_
    refine m_getI 2 dX11_whoOf_13 fl_X11_161_10 rfl (by decide) (by first | assumption | rfl) ?_
    refine m_icmp_ge dX11_whoOf_16 66 (by decide) (fun h => ?_) (fun h => ?_)
    · refine m_iload dX11_whoOf_66 1 rfl ?_
      exact m_ireturn dX11_whoOf_68 ⟨_, rfl, hf, a4⟩
    · exact (ge_yes h a2).elim
  · intro k f hk hf ih
    obtain ⟨q0, q1, -⟩ := g4 k hk
    refine m_iload dX11_whoOf_10 0 rfl ?_
    refine m_aload_n dX11_whoOf_12 2 rfl ?_
    refine m_getI 2 dX11_whoOf_13 fl_X11_161_10 rfl (by decide) (by first | assumption | rfl) ?_
    refine m_icmp_ge dX11_whoOf_16 66 (by decide) (fun h => ?_) (fun h => ?_)
    · exact (ge_no a2 h rfl hk (by omega)).elim
    · clear h
      refine m_aload_n dX11_whoOf_19 2 rfl ?_
      refine m_getR 32 134 dX11_whoOf_20 fl_X11_76_10 rfl (by decide) rfl (by first | assumption | rfl) ?_
      refine m_bipush (v := 8) dX11_whoOf_23 (by decide) ?_
      refine m_iload_n dX11_whoOf_25 3 rfl ?_
      refine m_imul dX11_whoOf_26 ?_
      refine m_iload dX11_whoOf_27 0 rfl ?_
      refine m_iadd dX11_whoOf_29 ?_
      refine mW.top (w := nI (8 * t + k)) (ix8 t k) ?_
      refine m_iald dX11_whoOf_30 (by first | assumption | rfl) (8 * t + k) rfl (by first | assumption | omega | decide) ?_
      refine mW.top q0 ?_
      refine m_iload_n dX11_whoOf_31 4 rfl ?_
      refine m_icmp_ne dX11_whoOf_32 56 (by decide) (fun h32 => ?_) (fun h32 => ?_)
      · refine m_iload dX11_whoOf_56 1 rfl ?_
        refine m_istore (ls1 := [(4, _), (5, _), (0, _), (1, _), (2, _), (3, _)]) dX11_whoOf_58 (by decide) rfl ?_
        refine m_iinc (v := nI (k + 1)) (ls1 := [(5, _), (4, _), (0, _), (1, _), (2, _), (3, _)]) dX11_whoOf_60 1 rfl (nI_1 k) (by decide) rfl ?_
        refine m_goto dX11_whoOf_63 10 (by decide) ?_
        refine ih _ ?_
        rw [whoIn]
        split <;> rename_i q <;> first | rfl | exact hf | exact absurd q.1 h32 | exact absurd q.2 h48 | exact absurd (And.intro h32 h48) q
      · refine m_aload_n dX11_whoOf_35 2 rfl ?_
        refine m_getR 33 135 dX11_whoOf_36 fl_X11_79_10 rfl (by decide) rfl (by first | assumption | rfl) ?_
        refine m_bipush (v := 8) dX11_whoOf_39 (by decide) ?_
        refine m_iload_n dX11_whoOf_41 3 rfl ?_
        refine m_imul dX11_whoOf_42 ?_
        refine m_iload dX11_whoOf_43 0 rfl ?_
        refine m_iadd dX11_whoOf_45 ?_
        refine mW.top (w := nI (8 * t + k)) (ix8 t k) ?_
        refine m_iald dX11_whoOf_46 (by first | assumption | rfl) (8 * t + k) rfl (by first | assumption | omega | decide) ?_
        refine mW.top q1 ?_
        refine m_iload_n dX11_whoOf_47 5 rfl ?_
        refine m_icmp_ne dX11_whoOf_48 56 (by decide) (fun h48 => ?_) (fun h48 => ?_)
        · refine m_iload dX11_whoOf_56 1 rfl ?_
          refine m_istore (ls1 := [(4, _), (5, _), (0, _), (1, _), (2, _), (3, _)]) dX11_whoOf_58 (by decide) rfl ?_
          refine m_iinc (v := nI (k + 1)) (ls1 := [(5, _), (4, _), (0, _), (1, _), (2, _), (3, _)]) dX11_whoOf_60 1 rfl (nI_1 k) (by decide) rfl ?_
          refine m_goto dX11_whoOf_63 10 (by decide) ?_
          refine ih _ ?_
          rw [whoIn]
          split <;> rename_i q <;> first | rfl | exact hf | exact absurd q.1 h32 | exact absurd q.2 h48 | exact absurd (And.intro h32 h48) q
        · refine m_iload dX11_whoOf_51 0 rfl ?_
          refine m_goto dX11_whoOf_53 58 (by decide) ?_
          refine m_istore (ls1 := [(4, _), (5, _), (0, _), (1, _), (2, _), (3, _)]) dX11_whoOf_58 (by decide) rfl ?_
          refine m_iinc (v := nI (k + 1)) (ls1 := [(5, _), (4, _), (0, _), (1, _), (2, _), (3, _)]) dX11_whoOf_60 1 rfl (nI_1 k) (by decide) rfl ?_
          refine m_goto dX11_whoOf_63 10 (by decide) ?_
          refine ih _ ?_
          rw [whoIn]
          split <;> rename_i q <;> first | rfl | exact hf | exact absurd q.1 h32 | exact absurd q.2 h48 | exact absurd (And.intro h32 h48) q
theorem c_houseOf (hd : 8 ≤ d) (L0 L1 e : Nat) (ok : okR σ L0 L1 e) (t : Nat) (ht : t < 24) (w : Int32) : mMet G l d kX11_houseOf [.ref 111, .int (nI t), .int w] σ (qIP (fun r s => r = (if w = 0 then nI (ayD (Dt σ L0 L1 e) t) else if w = 1 then nI (Dt σ L0 L1 e).1.1 - nI (ayD (Dt σ L0 L1 e) t) else rungD (Dt σ L0 L1 e) (nI t)) ∧ fW wScr σ s)) := by
  have hn : (Dt σ L0 L1 e).1.1 ≤ 8 := parC_n L0 (tx σ 0)
  refine mMet.of cm_X11_houseOf rfl (Nat.le_of_ble_eq_true rfl) rfl (fun v1 σ1 h => by obtain ⟨r, h1, -⟩ := h; rw [h1]; rfl) ?_
  refine m_aload_n dX11_houseOf_0 0 rfl ?_
  refine m_callV (As := []) dX11_houseOf_1 cv_X11_276 (by first | assumption | rfl) (by decide) (by omega) rfl rfl (Nat.le_of_ble_eq_true rfl) (c_runsTold (d := d - 1) (by omega) L0 L1 e ok) (fun v1 σ1 hv1 => ?_)
  refine m_qVP hv1 (fun ha => ?_)
  clear hv1 v1
  rename mS => s
  obtain ⟨o, a2, a3, a4⟩ := ha
  refine m_aload_n dX11_houseOf_4 0 rfl ?_
  refine m_iload_n dX11_houseOf_5 1 rfl ?_
  refine m_callV (As := [_]) dX11_houseOf_6 cv_X11_285 (by first | assumption | rfl) (by decide) (by omega) rfl rfl (Nat.le_of_ble_eq_true rfl) (c_ayesAt (d := d - 1) _ hn o a2 t ht) (fun v1 σ1 hv1 => ?_)
  refine m_qI hv1 ?_
  clear hv1 v1 σ1
  refine m_istore_n (ls1 := [(3, _), (0, _), (1, _), (2, _)]) dX11_houseOf_9 (by decide) rfl ?_
  refine m_iload_n dX11_houseOf_10 3 rfl ?_
  refine m_sel (pcJ := 38) ?_ (fun kt0 kf0 => m_if_ne dX11_houseOf_11 18 (by decide) (fun h => (m_iload_n dX11_houseOf_18 3 rfl (m_iconst (v := 1) dX11_houseOf_19 (by decide) (m_sel (pcJ := 38) (kf0 h) (fun kt1 kf1 => m_icmp_ne dX11_houseOf_20 32 (by decide) (fun h => (m_aload_n dX11_houseOf_32 1 rfl (m_getR 38 140 dX11_houseOf_33 fl_X11_94_10 rfl (by decide) rfl (by first | assumption | rfl) (m_iload_n dX11_houseOf_36 2 rfl (m_iald dX11_houseOf_37 (by first | assumption | rfl) t rfl (by first | assumption | omega | decide) (mW.top (o.1 t ht).1 (kf1 h))))))) (fun h => (m_aload_n dX11_houseOf_23 1 rfl (m_getI 2 dX11_houseOf_24 fl_X11_161_10 rfl (by decide) (by first | assumption | rfl) (mW.top a2 (m_iload_n dX11_houseOf_27 0 rfl (m_isub dX11_houseOf_28 (m_goto dX11_houseOf_29 38 (by decide) (kt1 h))))))))))))) (fun h => (m_iload_n dX11_houseOf_14 0 rfl (m_goto dX11_houseOf_15 38 (by decide) (kt0 h)))))
  exact m_ireturn dX11_houseOf_38 ⟨_, rfl, rfl, a4⟩
theorem c_strikesOf (hd : 8 ≤ d) (L0 L1 e : Nat) (ok : okR σ L0 L1 e) : mMet G l d kX11_strikesOf [.ref 111] σ (qIP (fun r s => r = (RSt (Dt σ L0 L1 e) 24).2.2.2.2.2.2.2.1 ∧ fW wScr σ s)) := by
  refine mMet.of cm_X11_strikesOf rfl (Nat.le_of_ble_eq_true rfl) rfl (fun v1 σ1 h => by obtain ⟨r, h1, -⟩ := h; rw [h1]; rfl) ?_
  refine m_aload_n dX11_strikesOf_0 0 rfl ?_
  refine m_callV (As := []) dX11_strikesOf_1 cv_X11_276 (by first | assumption | rfl) (by decide) (by omega) rfl rfl (Nat.le_of_ble_eq_true rfl) (c_runsTold (d := d - 1) (by omega) L0 L1 e ok) (fun v1 σ1 hv1 => ?_)
  refine m_qVP hv1 (fun ha => ?_)
  clear hv1 v1
  rename mS => s
  obtain ⟨o, a2, a3, a4⟩ := ha
  refine m_aload_n dX11_strikesOf_4 0 rfl ?_
  refine m_getI 29 dX11_strikesOf_5 fl_X11_226_10 rfl (by decide) (by first | assumption | rfl) ?_
  exact m_ireturn dX11_strikesOf_8 ⟨_, rfl, o.2.2.2.1, a4⟩
theorem c_firstOf (hd : 8 ≤ d) (L0 L1 e : Nat) (ok : okR σ L0 L1 e) (w : Int32) : mMet G l d kX11_firstOf [.ref 111, .int w] σ (qIP (fun r s => r = (if w = 0 then (RSt (Dt σ L0 L1 e) 24).2.2.2.2.2.2.2.2.1 else (RSt (Dt σ L0 L1 e) 24).2.2.2.2.2.2.2.2.2.1) ∧ fW wScr σ s)) := by
  refine mMet.of cm_X11_firstOf rfl (Nat.le_of_ble_eq_true rfl) rfl (fun v1 σ1 h => by obtain ⟨r, h1, -⟩ := h; rw [h1]; rfl) ?_
  refine m_aload_n dX11_firstOf_0 0 rfl ?_
  refine m_callV (As := []) dX11_firstOf_1 cv_X11_276 (by first | assumption | rfl) (by decide) (by omega) rfl rfl (Nat.le_of_ble_eq_true rfl) (c_runsTold (d := d - 1) (by omega) L0 L1 e ok) (fun v1 σ1 hv1 => ?_)
  refine m_qVP hv1 (fun ha => ?_)
  clear hv1 v1
  rename mS => s
  obtain ⟨o, a2, a3, a4⟩ := ha
  refine m_iload_n dX11_firstOf_4 1 rfl ?_
  refine m_sel (pcJ := 19) ?_ (fun kt0 kf0 => m_if_ne dX11_firstOf_5 15 (by decide) (fun h => (m_aload_n dX11_firstOf_15 0 rfl (m_getI 31 dX11_firstOf_16 fl_X11_232_10 rfl (by decide) (by first | assumption | rfl) (mW.top o.2.2.2.2.2 (kf0 h))))) (fun h => (m_aload_n dX11_firstOf_8 0 rfl (m_getI 30 dX11_firstOf_9 fl_X11_229_10 rfl (by decide) (by first | assumption | rfl) (mW.top o.2.2.2.2.1 (m_goto dX11_firstOf_12 19 (by decide) (kt0 h)))))))
  exact m_ireturn dX11_firstOf_19 ⟨_, rfl, rfl, a4⟩
theorem c_meekOf (hd : 8 ≤ d) (L0 L1 e : Nat) (ok : okR σ L0 L1 e) : mMet G l d kX11_meekOf [.ref 111] σ (qIP (fun r s => r = meekP (RSt (Dt σ L0 L1 e) 24).2.2.2.2.1 (RSt (Dt σ L0 L1 e) 24).2.2.2.2.2.1 (Dt σ L0 L1 e).1.1 ∧ fW wScr σ s)) := by
  have hn : (Dt σ L0 L1 e).1.1 ≤ 8 := parC_n L0 (tx σ 0)
  refine mMet.of cm_X11_meekOf rfl (Nat.le_of_ble_eq_true rfl) rfl (fun v1 σ1 h => by obtain ⟨r, h1, -⟩ := h; rw [h1]; rfl) ?_
  refine m_aload_n dX11_meekOf_0 0 rfl ?_
  refine m_callV (As := []) dX11_meekOf_1 cv_X11_276 (by first | assumption | rfl) (by decide) (by omega) rfl rfl (Nat.le_of_ble_eq_true rfl) (c_runsTold (d := d - 1) (by omega) L0 L1 e ok) (fun v1 σ1 hv1 => ?_)
  refine m_qVP hv1 (fun ha => ?_)
  clear hv1 v1
  rename mS => s
  obtain ⟨o, a2, a3, a4⟩ := ha
  refine m_aload_n dX11_meekOf_4 0 rfl ?_
  refine m_callV (As := []) dX11_meekOf_5 cv_X11_301 (by first | assumption | rfl) (by decide) (by omega) rfl rfl (Nat.le_of_ble_eq_true rfl) (c_meekNow (d := d - 1) _ hn a2) (fun v1 σ1 hv1 => ?_)
  refine m_qI hv1 ?_
  clear hv1 v1 σ1
  exact m_ireturn dX11_meekOf_8 ⟨_, rfl, meekP_cong _ (fun k hk => ⟨(o.2.1 k hk).2.2.2.2.1, (o.2.1 k hk).2.2.2.2.2⟩), a4⟩
end RA
end
section
/-! ===== the reference's plans ===== -/
def othP (X Y : Nat → Int32) (k : Nat) (x y : Int32) : Nat → Bool
  | 0 => false
  | i + 1 => othP X Y k x y i || decide (i ≠ k ∧ X i = x ∧ Y i = y)
theorem othP_cong {X Y X1 Y1 : Nat → Int32} {k : Nat} {x y : Int32} : ∀ n, (∀ i, i < n → i ≠ k → X i = X1 i ∧ Y i = Y1 i) → othP X Y k x y n = othP X1 Y1 k x y n
  | 0, _ => rfl
  | n + 1, h => by
    unfold othP
    rw [othP_cong n (fun i hi => h i (by omega))]
    by_cases e : n = k
    · rw [decide_eq_false (fun q => q.1 e), decide_eq_false (fun q => q.1 e)]
    · rw [(h n (by omega) e).1, (h n (by omega) e).2]
/-- the debate with car k told elsewhere -/
def setXY (D : Deb) (k : Nat) (x y : Int32) : Deb := ((D.1.1, fun i j => if i = k ∧ j = 1 then x else if i = k ∧ j = 2 then y else D.1.2 i j), D.2)
/-- with another sort (0) or weight (4) -/
def setJ (D : Deb) (k q : Nat) (v : Int32) : Deb := ((D.1.1, fun i j => if i = k ∧ j = q then v else D.1.2 i j), D.2)
/-- with one steer more -/
def addS (D : Deb) (mo k v : Int32) : Deb := (D.1, (D.2.1.1 + 1, fun i j => if i = D.2.1.1 then (if j = 0 then mo else if j = 1 then k else v) else D.2.1.2 i j), D.2.2)
/-- with one bell more -/
def addE (D : Deb) (t : Int32) : Deb := (D.1, D.2.1, (D.2.2.1.1 + 1, fun i j => if i = D.2.2.1.1 then (if j = 1 then t else 0) else D.2.2.1.2 i j), D.2.2.2)
def maskD (D : Deb) (m : Int32) : Deb := (D.1, D.2.1, D.2.2.1, m)
def ptsD (D : Deb) (k : Nat) : Int32 := (RSt D 24).2.2.2.1 k
/-- the best and the most of the first c cells -/
def stP (D : Deb) (k : Nat) : Nat → Int32 × Int32
  | 0 => (-1, -1)
  | c + 1 => if othP (fun i => D.1.2 i 1) (fun i => D.1.2 i 2) k (nI (c / 6)) (nI (c % 6)) D.1.1 = true then stP D k c else if ptsD (setXY D k (nI (c / 6)) (nI (c % 6))) k ≤ (stP D k c).2 then stP D k c else (nI c, ptsD (setXY D k (nI (c / 6)) (nI (c % 6))) k)
def btD (D : Deb) (k mo : Nat) (v : Nat) : Deb := if v = 0 then D else addS D (nI mo) (nI k) (nI v)
def btP (D : Deb) (k mo : Nat) : Nat → Int32 × Int32
  | 0 => (-1, -1)
  | v + 1 => if ptsD (btD D k mo v) k ≤ (btP D k mo v).2 then btP D k mo v else (nI v, ptsD (btD D k mo v) k)
def rgP (D : Deb) : Nat → Int32 × Int32
  | 0 => (-1, -1)
  | t + 1 => if nI (ayD (addE D (nI t)) t) ≤ (rgP D t).2 then rgP D t else (nI t, nI (ayD (addE D (nI t)) t))
section PL
variable {G : mG} {l : Launch} {d : Nat} {σ : mS}
theorem repR.run {s s1 : mS} {D : Deb} (h : repR s D) (f : fW wRun s s1) : repR s1 D := by
  obtain ⟨h1, h2, h3, h4, h5, h6, h7, h8, h9, h10, h11⟩ := h
  refine ⟨h1, h2, h3, (f.at (by omega)).trans h4, (f.at (by omega)).trans h5, (f.at (by omega)).trans h6, (f.at (by omega)).trans h7, fun k hk j hj => (f.at (by omega)).trans (h8 k hk j hj), fun k hk j hj => (f.at (by omega)).trans (h9 k hk j hj), fun k hk j hj => (f.at (by omega)).trans (h10 k hk j hj), h11⟩
theorem dX11_isOther_0 : decode cX11_isOther 0 = .ok (.iconst 0, 1) := by decide +kernel
theorem dX11_isOther_1 : decode cX11_isOther 1 = .ok (.istore 4, 2) := by decide +kernel
theorem dX11_isOther_3 : decode cX11_isOther 3 = .ok (.iconst 0, 1) := by decide +kernel
theorem dX11_isOther_4 : decode cX11_isOther 4 = .ok (.istore 5, 2) := by decide +kernel
theorem dX11_isOther_6 : decode cX11_isOther 6 = .ok (.iload 5, 2) := by decide +kernel
theorem dX11_isOther_8 : decode cX11_isOther 8 = .ok (.aload_n 0, 1) := by decide +kernel
theorem dX11_isOther_9 : decode cX11_isOther 9 = .ok (.getfield 161, 3) := by decide +kernel
theorem dX11_isOther_12 : decode cX11_isOther 12 = .ok (.if_icmp .ge 49, 3) := by decide +kernel
theorem dX11_isOther_15 : decode cX11_isOther 15 = .ok (.iload 4, 2) := by decide +kernel
theorem dX11_isOther_17 : decode cX11_isOther 17 = .ok (.ifCond .ne 31, 3) := by decide +kernel
theorem dX11_isOther_20 : decode cX11_isOther 20 = .ok (.iload 5, 2) := by decide +kernel
theorem dX11_isOther_22 : decode cX11_isOther 22 = .ok (.iload_n 1, 1) := by decide +kernel
theorem dX11_isOther_23 : decode cX11_isOther 23 = .ok (.if_icmp .eq 29, 3) := by decide +kernel
theorem dX11_isOther_26 : decode cX11_isOther 26 = .ok (.aload_n 0, 1) := by decide +kernel
theorem dX11_isOther_27 : decode cX11_isOther 27 = .ok (.getfield 19, 3) := by decide +kernel
theorem dX11_isOther_30 : decode cX11_isOther 30 = .ok (.iload 5, 2) := by decide +kernel
theorem dX11_isOther_32 : decode cX11_isOther 32 = .ok (.iaload, 1) := by decide +kernel
theorem dX11_isOther_33 : decode cX11_isOther 33 = .ok (.iload_n 2, 1) := by decide +kernel
theorem dX11_isOther_34 : decode cX11_isOther 34 = .ok (.if_icmp .ne 18, 3) := by decide +kernel
theorem dX11_isOther_37 : decode cX11_isOther 37 = .ok (.aload_n 0, 1) := by decide +kernel
theorem dX11_isOther_38 : decode cX11_isOther 38 = .ok (.getfield 22, 3) := by decide +kernel
theorem dX11_isOther_41 : decode cX11_isOther 41 = .ok (.iload 5, 2) := by decide +kernel
theorem dX11_isOther_43 : decode cX11_isOther 43 = .ok (.iaload, 1) := by decide +kernel
theorem dX11_isOther_44 : decode cX11_isOther 44 = .ok (.iload_n 3, 1) := by decide +kernel
theorem dX11_isOther_45 : decode cX11_isOther 45 = .ok (.if_icmp .ne 7, 3) := by decide +kernel
theorem dX11_isOther_48 : decode cX11_isOther 48 = .ok (.iconst 1, 1) := by decide +kernel
theorem dX11_isOther_49 : decode cX11_isOther 49 = .ok (.goto 4, 3) := by decide +kernel
theorem dX11_isOther_52 : decode cX11_isOther 52 = .ok (.iconst 0, 1) := by decide +kernel
theorem dX11_isOther_53 : decode cX11_isOther 53 = .ok (.istore 4, 2) := by decide +kernel
theorem dX11_isOther_55 : decode cX11_isOther 55 = .ok (.iinc 5 1, 3) := by decide +kernel
theorem dX11_isOther_58 : decode cX11_isOther 58 = .ok (.goto (-52), 3) := by decide +kernel
theorem dX11_isOther_61 : decode cX11_isOther 61 = .ok (.iload 4, 2) := by decide +kernel
theorem dX11_isOther_63 : decode cX11_isOther 63 = .ok (.ireturn, 1) := by decide +kernel
theorem c_bestOf (hd : 8 ≤ d) (L0 L1 e : Nat) (ok : okR σ L0 L1 e) : mMet G l d kX11_bestOf [.ref 111] σ (qIP (fun r s => r = bestP (RSt (Dt σ L0 L1 e) 24).2.2.2.1 (Dt σ L0 L1 e).1.1 ∧ fW wScr σ s)) := by
  have hn : (Dt σ L0 L1 e).1.1 ≤ 8 := parC_n L0 (tx σ 0)
  refine mMet.of cm_X11_bestOf rfl (Nat.le_of_ble_eq_true rfl) rfl (fun v1 σ1 h => by obtain ⟨r, h1, -⟩ := h; rw [h1]; rfl) ?_
  refine m_aload_n dX11_bestOf_0 0 rfl ?_
  refine m_callV (As := []) dX11_bestOf_1 cv_X11_276 (by first | assumption | rfl) (by decide) (by omega) rfl rfl (Nat.le_of_ble_eq_true rfl) (c_runsTold (d := d - 1) (by omega) L0 L1 e ok) (fun v1 σ1 hv1 => ?_)
  refine m_qVP hv1 (fun ha => ?_)
  clear hv1 v1
  rename mS => s
  obtain ⟨o, a2, a3, a4⟩ := ha
  generalize Dt σ L0 L1 e = D at *
  refine m_iconst (v := -1) dX11_bestOf_4 (by decide) ?_
  refine m_istore_n (ls1 := [(1, _), (0, _)]) dX11_bestOf_5 (by decide) rfl ?_
  refine m_iconst (v := 0) dX11_bestOf_6 (by decide) ?_
  refine m_istore_n (ls1 := [(2, _), (1, _), (0, _)]) dX11_bestOf_7 (by decide) rfl ?_
  refine down (N := D.1.1) (fun k (f : Int32) => f = bestP (s.1 131) k) (fun k f => mW G l d kX11_bestOf 8 [(2, .int (nI k)), (1, .int f), (0, .ref 111)] [] s _) ?_ ?_ 0 (-1) (Nat.zero_le _) rfl
  · intro f hf
    refine m_iload_n dX11_bestOf_8 0 rfl ?_
    refine m_aload_n dX11_bestOf_9 2 rfl ?_
    refine m_getI 2 dX11_bestOf_10 fl_X11_161_10 rfl (by decide) (by first | assumption | rfl) ?_
    refine m_icmp_ge dX11_bestOf_13 48 (by decide) (fun h => ?_) (fun h => ?_)
    · refine m_iload_n dX11_bestOf_48 1 rfl ?_
      exact m_ireturn dX11_bestOf_49 ⟨_, rfl, hf.trans (bestP_cong _ (by omega) (fun k hk => (o.2.1 k hk).2.2.2.1)), a4⟩
    · exact (ge_yes h a2).elim
  · intro k f hk hf ih
    have hk8 : k < 8 := by omega
    refine m_iload_n dX11_bestOf_8 0 rfl ?_
    refine m_aload_n dX11_bestOf_9 2 rfl ?_
    refine m_getI 2 dX11_bestOf_10 fl_X11_161_10 rfl (by decide) (by first | assumption | rfl) ?_
    refine m_icmp_ge dX11_bestOf_13 48 (by decide) (fun h => ?_) (fun h => ?_)
    · exact (ge_no a2 h rfl hk (by omega)).elim
    · clear h
      refine m_iload_n dX11_bestOf_16 1 rfl ?_
      refine m_iconst (v := -1) dX11_bestOf_17 (by decide) ?_
      refine m_icmp_eq dX11_bestOf_18 36 (by decide) (fun h18 => ?_) (fun h18 => ?_)
      · refine m_iload_n dX11_bestOf_36 0 rfl ?_
        refine m_goto dX11_bestOf_37 41 (by decide) ?_
        refine m_istore_n (ls1 := [(1, _), (2, _), (0, _)]) dX11_bestOf_41 (by decide) rfl ?_
        refine m_iinc (v := nI (k + 1)) (ls1 := [(2, _), (1, _), (0, _)]) dX11_bestOf_42 1 rfl (nI_1 k) (by decide) rfl ?_
        refine m_goto dX11_bestOf_45 8 (by decide) ?_
        exact ih _ (by rw [bestP]; split <;> rename_i q <;> first | rfl | exact absurd (Or.inl (hf ▸ h18)) q)
      · rcases bestP_of (s.1 131) k (by omega) with h1 | ⟨j, hj, h1⟩
        · exact absurd (hf.trans h1) h18
        · have hj8 : j < 8 := by omega
          rw [h1] at hf
          subst hf
          have hb : bestP (s.1 131) (k + 1) = if s.1 131 j < s.1 131 k then nI k else nI j := by
            rw [bestP, h1, nI_clamp (by omega)]
            split <;> rename_i q
            · rcases q with q | q
              · exact absurd q h18
              · rw [if_pos q]
            · rw [if_neg (fun z => q (Or.inr z))]
          refine m_aload_n dX11_bestOf_21 2 rfl ?_
          refine m_getR 25 131 dX11_bestOf_22 fl_X11_67_10 rfl (by decide) rfl (by first | assumption | rfl) ?_
          refine m_iload_n dX11_bestOf_25 0 rfl ?_
          refine m_iald dX11_bestOf_26 (by first | assumption | rfl) k rfl (by first | assumption | omega | decide) ?_
          refine m_aload_n dX11_bestOf_27 2 rfl ?_
          refine m_getR 25 131 dX11_bestOf_28 fl_X11_67_10 rfl (by decide) rfl (by first | assumption | rfl) ?_
          refine m_iload_n dX11_bestOf_31 1 rfl ?_
          refine m_iald dX11_bestOf_32 (by first | assumption | rfl) j rfl (by first | assumption | omega | decide) ?_
          refine m_icmp_le dX11_bestOf_33 40 (by decide) (fun h33 => ?_) (fun h33 => ?_)
          · refine m_iload_n dX11_bestOf_40 1 rfl ?_
            refine m_istore_n (ls1 := [(1, _), (2, _), (0, _)]) dX11_bestOf_41 (by decide) rfl ?_
            refine m_iinc (v := nI (k + 1)) (ls1 := [(2, _), (1, _), (0, _)]) dX11_bestOf_42 1 rfl (nI_1 k) (by decide) rfl ?_
            refine m_goto dX11_bestOf_45 8 (by decide) ?_
            refine ih _ ?_
            rw [hb]
            split <;> rename_i q <;> first | rfl | exact absurd q (Int32.not_lt.mpr h33) | exact absurd (Int32.not_le.mp h33) q
          · refine m_iload_n dX11_bestOf_36 0 rfl ?_
            refine m_goto dX11_bestOf_37 41 (by decide) ?_
            refine m_istore_n (ls1 := [(1, _), (2, _), (0, _)]) dX11_bestOf_41 (by decide) rfl ?_
            refine m_iinc (v := nI (k + 1)) (ls1 := [(2, _), (1, _), (0, _)]) dX11_bestOf_42 1 rfl (nI_1 k) (by decide) rfl ?_
            refine m_goto dX11_bestOf_45 8 (by decide) ?_
            refine ih _ ?_
            rw [hb]
            split <;> rename_i q <;> first | rfl | exact absurd q (Int32.not_lt.mpr h33) | exact absurd (Int32.not_le.mp h33) q
theorem c_jamOf (hd : 8 ≤ d) (L0 L1 e : Nat) (ok : okR σ L0 L1 e) (w : Int32) : mMet G l d kX11_jamOf [.ref 111, .int w] σ (qIP (fun r s => r = (if w = 0 then nI (jmP (jmD (Dt σ L0 L1 e)) 23) else jmD (Dt σ L0 L1 e) (jmP (jmD (Dt σ L0 L1 e)) 23)) ∧ fW wScr σ s)) := by
  refine mMet.of cm_X11_jamOf rfl (Nat.le_of_ble_eq_true rfl) rfl (fun v1 σ1 h => by obtain ⟨r, h1, -⟩ := h; rw [h1]; rfl) ?_
  refine m_aload_n dX11_jamOf_0 0 rfl ?_
  refine m_callV (As := []) dX11_jamOf_1 cv_X11_276 (by first | assumption | rfl) (by decide) (by omega) rfl rfl (Nat.le_of_ble_eq_true rfl) (c_runsTold (d := d - 1) (by omega) L0 L1 e ok) (fun v1 σ1 hv1 => ?_)
  refine m_qVP hv1 (fun ha => ?_)
  clear hv1 v1
  rename mS => s
  obtain ⟨o, a2, a3, a4⟩ := ha
  generalize Dt σ L0 L1 e = D at *
  refine m_iconst (v := 0) dX11_jamOf_4 (by decide) ?_
  refine m_istore_n (ls1 := [(2, _), (0, _), (1, _)]) dX11_jamOf_5 (by decide) rfl ?_
  refine m_iconst (v := 1) dX11_jamOf_6 (by decide) ?_
  refine m_istore_n (ls1 := [(3, _), (2, _), (0, _), (1, _)]) dX11_jamOf_7 (by decide) rfl ?_
  refine down (N := 24) (fun t (f : Nat) => 1 ≤ t ∧ f = jmP (jmD D) (t - 1)) (fun t f => mW G l d kX11_jamOf 8 [(3, .int (nI t)), (2, .int (nI f)), (0, .ref 111), (1, .int w)] [] s _) ?_ ?_ 1 0 (by decide) ⟨Nat.le_refl _, rfl⟩
  · rintro f ⟨-, hf⟩
    have hf24 : f < 24 := by have := jmP_le (jmD D) (24 - 1); omega
    subst hf
    refine m_iload_n dX11_jamOf_8 0 rfl ?_
    refine m_bipush (v := 24) dX11_jamOf_9 (by decide) ?_
    refine m_icmp_ge dX11_jamOf_11 41 (by decide) (fun h => ?_) (fun h => ?_)
    · refine m_iload_n dX11_jamOf_41 3 rfl ?_
      refine m_sel (pcJ := 55) ?_ (fun kt0 kf0 => m_if_ne dX11_jamOf_42 49 (by decide) (fun h => (m_aload_n dX11_jamOf_49 2 rfl (m_getR 39 141 dX11_jamOf_50 fl_X11_97_10 rfl (by decide) rfl (by first | assumption | rfl) (m_iload_n dX11_jamOf_53 1 rfl (m_iald dX11_jamOf_54 (by first | assumption | rfl) (jmP (jmD D) 23) rfl (by first | assumption | omega | decide) (mW.top (o.1 _ hf24).2.2.1 (kf0 h))))))) (fun h => (m_iload_n dX11_jamOf_45 1 rfl (m_goto dX11_jamOf_46 55 (by decide) (kt0 h)))))
      exact m_ireturn dX11_jamOf_55 ⟨_, rfl, rfl, a4⟩
    · exact absurd (Int32.le_refl _) h
  · rintro t f ht ⟨ht1, hf⟩ ih
    have hf24 : f < 24 := by have := jmP_le (jmD D) (t - 1); omega
    obtain ⟨u, rfl⟩ : ∃ u, t = u + 1 := ⟨t - 1, by omega⟩
    have hf' : f = jmP (jmD D) u := hf
    refine m_iload_n dX11_jamOf_8 0 rfl ?_
    refine m_bipush (v := 24) dX11_jamOf_9 (by decide) ?_
    refine m_icmp_ge dX11_jamOf_11 41 (by decide) (fun h => ?_) (fun h => ?_)
    · exact absurd ((nle (a := 24) (by omega) (by omega)).mp h) (by omega)
    · clear h
      have e1 := (o.1 (u + 1) ht).2.2.1
      have e2 := (o.1 f hf24).2.2.1
      refine m_aload_n dX11_jamOf_14 2 rfl ?_
      refine m_getR 39 141 dX11_jamOf_15 fl_X11_97_10 rfl (by decide) rfl (by first | assumption | rfl) ?_
      refine m_iload_n dX11_jamOf_18 0 rfl ?_
      refine m_iald dX11_jamOf_19 (by first | assumption | rfl) (u + 1) rfl (by first | assumption | omega | decide) ?_
      refine mW.top e1 ?_
      refine m_aload_n dX11_jamOf_20 2 rfl ?_
      refine m_getR 39 141 dX11_jamOf_21 fl_X11_97_10 rfl (by decide) rfl (by first | assumption | rfl) ?_
      refine m_iload_n dX11_jamOf_24 1 rfl ?_
      refine m_iald dX11_jamOf_25 (by first | assumption | rfl) f rfl (by first | assumption | omega | decide) ?_
      refine mW.top e2 ?_
      refine m_icmp_le dX11_jamOf_26 33 (by decide) (fun h26 => ?_) (fun h26 => ?_)
      · refine m_iload_n dX11_jamOf_33 1 rfl ?_
        refine m_istore_n (ls1 := [(2, _), (3, _), (0, _), (1, _)]) dX11_jamOf_34 (by decide) rfl ?_
        refine m_iinc (v := nI (u + 1 + 1)) (ls1 := [(3, _), (2, _), (0, _), (1, _)]) dX11_jamOf_35 1 rfl (nI_1 (u + 1)) (by decide) rfl ?_
        refine m_goto dX11_jamOf_38 8 (by decide) ?_
        refine ih _ ⟨by omega, ?_⟩
        show _ = jmP (jmD D) (u + 1)
        rw [jmP, ← hf']
        split <;> rename_i q <;> first | rfl | exact absurd q (Int32.not_lt.mpr h26) | exact absurd (Int32.not_le.mp h26) q
      · refine m_iload_n dX11_jamOf_29 0 rfl ?_
        refine m_goto dX11_jamOf_30 34 (by decide) ?_
        refine m_istore_n (ls1 := [(2, _), (3, _), (0, _), (1, _)]) dX11_jamOf_34 (by decide) rfl ?_
        refine m_iinc (v := nI (u + 1 + 1)) (ls1 := [(3, _), (2, _), (0, _), (1, _)]) dX11_jamOf_35 1 rfl (nI_1 (u + 1)) (by decide) rfl ?_
        refine m_goto dX11_jamOf_38 8 (by decide) ?_
        refine ih _ ⟨by omega, ?_⟩
        show _ = jmP (jmD D) (u + 1)
        rw [jmP, ← hf']
        split <;> rename_i q <;> first | rfl | exact absurd q (Int32.not_lt.mpr h26) | exact absurd (Int32.not_le.mp h26) q
theorem c_carriedOf (hd : 8 ≤ d) (L0 L1 e : Nat) (ok : okR σ L0 L1 e) : mMet G l d kX11_carriedOf [.ref 111] σ (qIP (fun r s => r = nI (crP (Dt σ L0 L1 e).1.1 (fun t => rungD (Dt σ L0 L1 e) (nI t)) (ayD (Dt σ L0 L1 e)) 24) ∧ fW wScr σ s)) := by
  have hn : (Dt σ L0 L1 e).1.1 ≤ 8 := parC_n L0 (tx σ 0)
  refine mMet.of cm_X11_carriedOf rfl (Nat.le_of_ble_eq_true rfl) rfl (fun v1 σ1 h => by obtain ⟨r, h1, -⟩ := h; rw [h1]; rfl) ?_
  refine m_aload_n dX11_carriedOf_0 0 rfl ?_
  refine m_callV (As := []) dX11_carriedOf_1 cv_X11_276 (by first | assumption | rfl) (by decide) (by omega) rfl rfl (Nat.le_of_ble_eq_true rfl) (c_runsTold (d := d - 1) (by omega) L0 L1 e ok) (fun v1 σ1 hv1 => ?_)
  refine m_qVP hv1 (fun ha => ?_)
  clear hv1 v1
  rename mS => s
  obtain ⟨o, a2, a3, a4⟩ := ha
  generalize Dt σ L0 L1 e = D at *
  refine m_iconst (v := 0) dX11_carriedOf_4 (by decide) ?_
  refine m_istore_n (ls1 := [(1, _), (0, _)]) dX11_carriedOf_5 (by decide) rfl ?_
  refine m_iconst (v := 0) dX11_carriedOf_6 (by decide) ?_
  refine m_istore_n (ls1 := [(2, _), (1, _), (0, _)]) dX11_carriedOf_7 (by decide) rfl ?_
  refine down (N := 24) (fun t (f : Int32) => f = nI (crP D.1.1 (fun t => rungD D (nI t)) (ayD D) t)) (fun t f => mW G l d kX11_carriedOf 8 [(2, .int (nI t)), (1, .int f), (0, .ref 111)] [] s _) ?_ ?_ 0 0 (Nat.zero_le _) rfl
  · intro f hf
    refine m_iload_n dX11_carriedOf_8 0 rfl ?_
    refine m_bipush (v := 24) dX11_carriedOf_9 (by decide) ?_
    refine m_icmp_ge dX11_carriedOf_11 52 (by decide) (fun h => ?_) (fun h => ?_)
    · refine m_iload_n dX11_carriedOf_52 1 rfl ?_
      exact m_ireturn dX11_carriedOf_53 ⟨_, rfl, hf, a4⟩
    · exact absurd (Int32.le_refl _) h
  · intro t f ht hf ih
    have e1 := (o.1 t ht).1
    refine m_iload_n dX11_carriedOf_8 0 rfl ?_
    refine m_bipush (v := 24) dX11_carriedOf_9 (by decide) ?_
    refine m_icmp_ge dX11_carriedOf_11 52 (by decide) (fun h => ?_) (fun h => ?_)
    · exact absurd ((nle (a := 24) (by omega) (by omega)).mp h) (by omega)
    · clear h
      refine m_iload_n dX11_carriedOf_14 1 rfl ?_
      refine m_aload_n dX11_carriedOf_15 2 rfl ?_
      refine m_getR 38 140 dX11_carriedOf_16 fl_X11_94_10 rfl (by decide) rfl (by first | assumption | rfl) ?_
      refine m_iload_n dX11_carriedOf_19 0 rfl ?_
      refine m_iald dX11_carriedOf_20 (by first | assumption | rfl) t rfl (by first | assumption | omega | decide) ?_
      refine mW.top e1 ?_
      refine m_iconst (v := 1) dX11_carriedOf_21 (by decide) ?_
      refine m_icmp_ne dX11_carriedOf_22 43 (by decide) (fun h22 => ?_) (fun h22 => ?_)
      · refine m_iconst (v := 0) dX11_carriedOf_43 (by decide) ?_
        refine m_iadd dX11_carriedOf_44 ?_
        refine m_istore_n (ls1 := [(1, _), (2, _), (0, _)]) dX11_carriedOf_45 (by decide) rfl ?_
        refine m_iinc (v := nI (t + 1)) (ls1 := [(2, _), (1, _), (0, _)]) dX11_carriedOf_46 1 rfl (nI_1 t) (by decide) rfl ?_
        refine m_goto dX11_carriedOf_49 8 (by decide) ?_
        refine ih _ ?_
        rw [hf, crP]
        split <;> rename_i q <;> first | exact nI_add _ _ | exact absurd q.1 h22 | exact absurd q.2 (Int32.not_lt.mpr h36) | exact absurd (And.intro h22 (Int32.not_le.mp h36)) q
      · refine m_iconst (v := 2) dX11_carriedOf_25 (by decide) ?_
        refine m_aload_n dX11_carriedOf_26 2 rfl ?_
        refine m_iload_n dX11_carriedOf_27 0 rfl ?_
        refine m_callV (As := [_]) dX11_carriedOf_28 cv_X11_285 (by first | assumption | rfl) (by decide) (by omega) rfl rfl (Nat.le_of_ble_eq_true rfl) (c_ayesAt (d := d - 1) _ hn o a2 t ht) (fun v1 σ1 hv1 => ?_)
        refine m_qI hv1 ?_
        clear hv1 v1 σ1
        refine m_imul dX11_carriedOf_31 ?_
        refine m_aload_n dX11_carriedOf_32 2 rfl ?_
        refine m_getI 2 dX11_carriedOf_33 fl_X11_161_10 rfl (by decide) (by first | assumption | rfl) ?_
        refine mW.top a2 ?_
        refine m_icmp_le dX11_carriedOf_36 43 (by decide) (fun h36 => ?_) (fun h36 => ?_)
        · refine m_iconst (v := 0) dX11_carriedOf_43 (by decide) ?_
          refine m_iadd dX11_carriedOf_44 ?_
          refine m_istore_n (ls1 := [(1, _), (2, _), (0, _)]) dX11_carriedOf_45 (by decide) rfl ?_
          refine m_iinc (v := nI (t + 1)) (ls1 := [(2, _), (1, _), (0, _)]) dX11_carriedOf_46 1 rfl (nI_1 t) (by decide) rfl ?_
          refine m_goto dX11_carriedOf_49 8 (by decide) ?_
          refine ih _ ?_
          rw [hf, crP]
          split <;> rename_i q <;> first | exact nI_add _ _ | exact absurd q.1 h22 | exact absurd q.2 (Int32.not_lt.mpr h36) | exact absurd (And.intro h22 (Int32.not_le.mp h36)) q
        · refine m_iconst (v := 1) dX11_carriedOf_39 (by decide) ?_
          refine m_goto dX11_carriedOf_40 44 (by decide) ?_
          refine m_iadd dX11_carriedOf_44 ?_
          refine m_istore_n (ls1 := [(1, _), (2, _), (0, _)]) dX11_carriedOf_45 (by decide) rfl ?_
          refine m_iinc (v := nI (t + 1)) (ls1 := [(2, _), (1, _), (0, _)]) dX11_carriedOf_46 1 rfl (nI_1 t) (by decide) rfl ?_
          refine m_goto dX11_carriedOf_49 8 (by decide) ?_
          refine ih _ ?_
          rw [hf, crP]
          split <;> rename_i q <;> first | exact nI_add _ _ | exact absurd q.1 h22 | exact absurd q.2 (Int32.not_lt.mpr h36) | exact absurd (And.intro h22 (Int32.not_le.mp h36)) q
theorem c_isOther (n : Nat) (hn : n ≤ 8) (hc : σ.1 111 2 = nI n) (k : Nat) (hk : k < 8) (x y : Int32) : mMet G l d kX11_isOther [.ref 111, .int (nI k), .int x, .int y] σ (qI (bI (othP (σ.1 115) (σ.1 116) k x y n)) σ) := by
  refine mMet.of cm_X11_isOther rfl (Nat.le_of_ble_eq_true rfl) rfl (fun v1 σ1 h => by rw [h.1]; exact bI_nar _) ?_
  refine m_iconst (v := 0) dX11_isOther_0 (by decide) ?_
  refine m_istore (ls1 := [(4, _), (0, _), (1, _), (2, _), (3, _)]) dX11_isOther_1 (by decide) rfl ?_
  refine m_iconst (v := 0) dX11_isOther_3 (by decide) ?_
  refine m_istore (ls1 := [(5, _), (4, _), (0, _), (1, _), (2, _), (3, _)]) dX11_isOther_4 (by decide) rfl ?_
  refine down (N := n) (fun i (f : Int32) => f = bI (othP (σ.1 115) (σ.1 116) k x y i)) (fun i f => mW G l d kX11_isOther 6 [(5, .int (nI i)), (4, .int f), (0, .ref 111), (1, .int (nI k)), (2, .int x), (3, .int y)] [] σ _) ?_ ?_ 0 0 (Nat.zero_le _) rfl
  · intro f hf
    refine m_iload dX11_isOther_6 0 rfl ?_
    refine m_aload_n dX11_isOther_8 2 rfl ?_
    refine m_getI 2 dX11_isOther_9 fl_X11_161_10 rfl (by decide) (by first | assumption | rfl) ?_
    refine m_icmp_ge dX11_isOther_12 61 (by decide) (fun h => ?_) (fun h => ?_)
    · refine m_iload dX11_isOther_61 1 rfl ?_
      exact m_ireturn dX11_isOther_63 ⟨by rw [hf], rfl⟩
    · exact (ge_yes h hc).elim
  · intro i f hi hf ih
    have hi9 : i < 9 := by omega
    refine m_iload dX11_isOther_6 0 rfl ?_
    refine m_aload_n dX11_isOther_8 2 rfl ?_
    refine m_getI 2 dX11_isOther_9 fl_X11_161_10 rfl (by decide) (by first | assumption | rfl) ?_
    refine m_icmp_ge dX11_isOther_12 61 (by decide) (fun h => ?_) (fun h => ?_)
    · exact (ge_no hc h rfl hi (by omega)).elim
    · clear h
      have hik : ∀ {P : Prop}, nI i = nI k → i ≠ k → P := fun e q => absurd ((neq (by omega) (by omega)).mp e) q
      refine m_iload dX11_isOther_15 1 rfl ?_
      refine m_if_ne dX11_isOther_17 48 (by decide) (fun h17 => ?_) (fun h17 => ?_)
      · refine m_iconst (v := 1) dX11_isOther_48 (by decide) ?_
        refine m_goto dX11_isOther_49 53 (by decide) ?_
        refine m_istore (ls1 := [(4, _), (5, _), (0, _), (1, _), (2, _), (3, _)]) dX11_isOther_53 (by decide) rfl ?_
        refine m_iinc (v := nI (i + 1)) (ls1 := [(5, _), (4, _), (0, _), (1, _), (2, _), (3, _)]) dX11_isOther_55 1 rfl (nI_1 i) (by decide) rfl ?_
        refine m_goto dX11_isOther_58 6 (by decide) ?_
        refine ih _ ?_
        rw [hf] at h17
        rw [othP]
        first | (rw [bI_ne.mp h17]; rfl) | (rw [bI_eq.mp h17, Bool.false_or]; first | exact bI_pos (And.intro (fun z => h23 (by rw [z])) (And.intro h34 h45)) | exact bI_neg (fun q => by first | exact hik h23 q.1 | exact absurd q.2.1 h34 | exact absurd q.2.2 h45))
      · refine m_iload dX11_isOther_20 0 rfl ?_
        refine m_iload_n dX11_isOther_22 3 rfl ?_
        refine m_icmp_eq dX11_isOther_23 52 (by decide) (fun h23 => ?_) (fun h23 => ?_)
        · refine m_iconst (v := 0) dX11_isOther_52 (by decide) ?_
          refine m_istore (ls1 := [(4, _), (5, _), (0, _), (1, _), (2, _), (3, _)]) dX11_isOther_53 (by decide) rfl ?_
          refine m_iinc (v := nI (i + 1)) (ls1 := [(5, _), (4, _), (0, _), (1, _), (2, _), (3, _)]) dX11_isOther_55 1 rfl (nI_1 i) (by decide) rfl ?_
          refine m_goto dX11_isOther_58 6 (by decide) ?_
          refine ih _ ?_
          rw [hf] at h17
          rw [othP]
          first | (rw [bI_ne.mp h17]; rfl) | (rw [bI_eq.mp h17, Bool.false_or]; first | exact bI_pos (And.intro (fun z => h23 (by rw [z])) (And.intro h34 h45)) | exact bI_neg (fun q => by first | exact hik h23 q.1 | exact absurd q.2.1 h34 | exact absurd q.2.2 h45))
        · refine m_aload_n dX11_isOther_26 2 rfl ?_
          refine m_getR 4 115 dX11_isOther_27 fl_X11_19_10 rfl (by decide) rfl (by first | assumption | rfl) ?_
          refine m_iload dX11_isOther_30 0 rfl ?_
          refine m_iald dX11_isOther_32 (by first | assumption | rfl) i rfl (by first | assumption | omega | decide) ?_
          refine m_iload_n dX11_isOther_33 4 rfl ?_
          refine m_icmp_ne dX11_isOther_34 52 (by decide) (fun h34 => ?_) (fun h34 => ?_)
          · refine m_iconst (v := 0) dX11_isOther_52 (by decide) ?_
            refine m_istore (ls1 := [(4, _), (5, _), (0, _), (1, _), (2, _), (3, _)]) dX11_isOther_53 (by decide) rfl ?_
            refine m_iinc (v := nI (i + 1)) (ls1 := [(5, _), (4, _), (0, _), (1, _), (2, _), (3, _)]) dX11_isOther_55 1 rfl (nI_1 i) (by decide) rfl ?_
            refine m_goto dX11_isOther_58 6 (by decide) ?_
            refine ih _ ?_
            rw [hf] at h17
            rw [othP]
            first | (rw [bI_ne.mp h17]; rfl) | (rw [bI_eq.mp h17, Bool.false_or]; first | exact bI_pos (And.intro (fun z => h23 (by rw [z])) (And.intro h34 h45)) | exact bI_neg (fun q => by first | exact hik h23 q.1 | exact absurd q.2.1 h34 | exact absurd q.2.2 h45))
          · refine m_aload_n dX11_isOther_37 2 rfl ?_
            refine m_getR 5 116 dX11_isOther_38 fl_X11_22_10 rfl (by decide) rfl (by first | assumption | rfl) ?_
            refine m_iload dX11_isOther_41 0 rfl ?_
            refine m_iald dX11_isOther_43 (by first | assumption | rfl) i rfl (by first | assumption | omega | decide) ?_
            refine m_iload_n dX11_isOther_44 5 rfl ?_
            refine m_icmp_ne dX11_isOther_45 52 (by decide) (fun h45 => ?_) (fun h45 => ?_)
            · refine m_iconst (v := 0) dX11_isOther_52 (by decide) ?_
              refine m_istore (ls1 := [(4, _), (5, _), (0, _), (1, _), (2, _), (3, _)]) dX11_isOther_53 (by decide) rfl ?_
              refine m_iinc (v := nI (i + 1)) (ls1 := [(5, _), (4, _), (0, _), (1, _), (2, _), (3, _)]) dX11_isOther_55 1 rfl (nI_1 i) (by decide) rfl ?_
              refine m_goto dX11_isOther_58 6 (by decide) ?_
              refine ih _ ?_
              rw [hf] at h17
              rw [othP]
              first | (rw [bI_ne.mp h17]; rfl) | (rw [bI_eq.mp h17, Bool.false_or]; first | exact bI_pos (And.intro (fun z => h23 (by rw [z])) (And.intro h34 h45)) | exact bI_neg (fun q => by first | exact hik h23 q.1 | exact absurd q.2.1 h34 | exact absurd q.2.2 h45))
            · refine m_iconst (v := 1) dX11_isOther_48 (by decide) ?_
              refine m_goto dX11_isOther_49 53 (by decide) ?_
              refine m_istore (ls1 := [(4, _), (5, _), (0, _), (1, _), (2, _), (3, _)]) dX11_isOther_53 (by decide) rfl ?_
              refine m_iinc (v := nI (i + 1)) (ls1 := [(5, _), (4, _), (0, _), (1, _), (2, _), (3, _)]) dX11_isOther_55 1 rfl (nI_1 i) (by decide) rfl ?_
              refine m_goto dX11_isOther_58 6 (by decide) ?_
              refine ih _ ?_
              rw [hf] at h17
              rw [othP]
              first | (rw [bI_ne.mp h17]; rfl) | (rw [bI_eq.mp h17, Bool.false_or]; first | exact bI_pos (And.intro (fun z => h23 (by rw [z])) (And.intro h34 h45)) | exact bI_neg (fun q => by first | exact hik h23 q.1 | exact absurd q.2.1 h34 | exact absurd q.2.2 h45))
theorem rep_XY {s : mS} {D : Deb} {k : Nat} {x y x1 y1 : Int32} (hk : k < D.1.1) (h : repR s (setXY D k x y)) : repR (us (us s 115 k x1) 116 k y1) (setXY D k x1 y1) := by
  obtain ⟨h1, h2, h3, h4, h5, h6, h7, h8, h9, h10, h11⟩ := h
  refine ⟨h1, h2, h3, ?_, ?_, ?_, ?_, fun i hi j hj => ?_, fun i hi j hj => ?_, fun i hi j hj => ?_, h11⟩
  · simp [us_at]; exact h4
  · simp [us_at]; exact h5
  · simp [us_at]; exact h6
  · simp [us_at]; exact h7
  · have h8' := h8 i hi j hj
    unfold setXY at h8' ⊢
    simp only [us_at] at h8' ⊢
    by_cases e : i = k
    · subst e
      rcases (show j = 0 ∨ j = 1 ∨ j = 2 ∨ j = 3 ∨ j = 4 by omega) with rfl | rfl | rfl | rfl | rfl <;> simp at h8' ⊢ <;> exact h8'
    · simp [e] at h8' ⊢
      exact h8'
  · simp [us_at]
    rw [if_neg (by omega), if_neg (by omega)]
    exact h9 i hi j hj
  · simp [us_at]
    rw [if_neg (by omega), if_neg (by omega)]
    exact h10 i hi j hj
end PL
end
section
/-! ===== the reference: stand, better, ring ===== -/
section SB
variable {G : mG} {l : Launch} {d : Nat} {σ : mS}
theorem dX11_standOf_0 : decode cX11_standOf 0 = .ok (.aload_n 0, 1) := by decide +kernel
theorem dX11_standOf_1 : decode cX11_standOf 1 = .ok (.invokevirtual 270, 3) := by decide +kernel
theorem dX11_standOf_4 : decode cX11_standOf 4 = .ok (.aload_n 0, 1) := by decide +kernel
theorem dX11_standOf_5 : decode cX11_standOf 5 = .ok (.getfield 19, 3) := by decide +kernel
theorem dX11_standOf_8 : decode cX11_standOf 8 = .ok (.iload_n 1, 1) := by decide +kernel
theorem dX11_standOf_9 : decode cX11_standOf 9 = .ok (.iaload, 1) := by decide +kernel
theorem dX11_standOf_10 : decode cX11_standOf 10 = .ok (.istore_n 3, 1) := by decide +kernel
theorem dX11_standOf_11 : decode cX11_standOf 11 = .ok (.aload_n 0, 1) := by decide +kernel
theorem dX11_standOf_12 : decode cX11_standOf 12 = .ok (.getfield 22, 3) := by decide +kernel
theorem dX11_standOf_15 : decode cX11_standOf 15 = .ok (.iload_n 1, 1) := by decide +kernel
theorem dX11_standOf_16 : decode cX11_standOf 16 = .ok (.iaload, 1) := by decide +kernel
theorem dX11_standOf_17 : decode cX11_standOf 17 = .ok (.istore 4, 2) := by decide +kernel
theorem dX11_standOf_19 : decode cX11_standOf 19 = .ok (.iconst (-1), 1) := by decide +kernel
theorem dX11_standOf_20 : decode cX11_standOf 20 = .ok (.istore 5, 2) := by decide +kernel
theorem dX11_standOf_22 : decode cX11_standOf 22 = .ok (.iconst (-1), 1) := by decide +kernel
theorem dX11_standOf_23 : decode cX11_standOf 23 = .ok (.istore 6, 2) := by decide +kernel
theorem dX11_standOf_25 : decode cX11_standOf 25 = .ok (.iconst 0, 1) := by decide +kernel
theorem dX11_standOf_26 : decode cX11_standOf 26 = .ok (.istore 7, 2) := by decide +kernel
theorem dX11_standOf_28 : decode cX11_standOf 28 = .ok (.iload 7, 2) := by decide +kernel
theorem dX11_standOf_30 : decode cX11_standOf 30 = .ok (.bipush 36, 2) := by decide +kernel
theorem dX11_standOf_32 : decode cX11_standOf 32 = .ok (.if_icmp .ge 97, 3) := by decide +kernel
theorem dX11_standOf_35 : decode cX11_standOf 35 = .ok (.aload_n 0, 1) := by decide +kernel
theorem dX11_standOf_36 : decode cX11_standOf 36 = .ok (.iload_n 1, 1) := by decide +kernel
theorem dX11_standOf_37 : decode cX11_standOf 37 = .ok (.iload 7, 2) := by decide +kernel
theorem dX11_standOf_39 : decode cX11_standOf 39 = .ok (.bipush 6, 2) := by decide +kernel
theorem dX11_standOf_41 : decode cX11_standOf 41 = .ok (.idiv, 1) := by decide +kernel
theorem dX11_standOf_42 : decode cX11_standOf 42 = .ok (.iload 7, 2) := by decide +kernel
theorem dX11_standOf_44 : decode cX11_standOf 44 = .ok (.bipush 6, 2) := by decide +kernel
theorem dX11_standOf_46 : decode cX11_standOf 46 = .ok (.irem, 1) := by decide +kernel
theorem dX11_standOf_47 : decode cX11_standOf 47 = .ok (.invokevirtual 313, 3) := by decide +kernel
theorem dX11_standOf_50 : decode cX11_standOf 50 = .ok (.ifCond .ne 73, 3) := by decide +kernel
theorem dX11_standOf_53 : decode cX11_standOf 53 = .ok (.aload_n 0, 1) := by decide +kernel
theorem dX11_standOf_54 : decode cX11_standOf 54 = .ok (.getfield 19, 3) := by decide +kernel
theorem dX11_standOf_57 : decode cX11_standOf 57 = .ok (.iload_n 1, 1) := by decide +kernel
theorem dX11_standOf_58 : decode cX11_standOf 58 = .ok (.iload 7, 2) := by decide +kernel
theorem dX11_standOf_60 : decode cX11_standOf 60 = .ok (.bipush 6, 2) := by decide +kernel
theorem dX11_standOf_62 : decode cX11_standOf 62 = .ok (.idiv, 1) := by decide +kernel
theorem dX11_standOf_63 : decode cX11_standOf 63 = .ok (.iastore, 1) := by decide +kernel
theorem dX11_standOf_64 : decode cX11_standOf 64 = .ok (.aload_n 0, 1) := by decide +kernel
theorem dX11_standOf_65 : decode cX11_standOf 65 = .ok (.getfield 22, 3) := by decide +kernel
theorem dX11_standOf_68 : decode cX11_standOf 68 = .ok (.iload_n 1, 1) := by decide +kernel
theorem dX11_standOf_69 : decode cX11_standOf 69 = .ok (.iload 7, 2) := by decide +kernel
theorem dX11_standOf_71 : decode cX11_standOf 71 = .ok (.bipush 6, 2) := by decide +kernel
theorem dX11_standOf_73 : decode cX11_standOf 73 = .ok (.irem, 1) := by decide +kernel
theorem dX11_standOf_74 : decode cX11_standOf 74 = .ok (.iastore, 1) := by decide +kernel
theorem dX11_standOf_75 : decode cX11_standOf 75 = .ok (.aload_n 0, 1) := by decide +kernel
theorem dX11_standOf_76 : decode cX11_standOf 76 = .ok (.invokevirtual 273, 3) := by decide +kernel
theorem dX11_standOf_79 : decode cX11_standOf 79 = .ok (.aload_n 0, 1) := by decide +kernel
theorem dX11_standOf_80 : decode cX11_standOf 80 = .ok (.getfield 67, 3) := by decide +kernel
theorem dX11_standOf_83 : decode cX11_standOf 83 = .ok (.iload_n 1, 1) := by decide +kernel
theorem dX11_standOf_84 : decode cX11_standOf 84 = .ok (.iaload, 1) := by decide +kernel
theorem dX11_standOf_85 : decode cX11_standOf 85 = .ok (.iload 6, 2) := by decide +kernel
theorem dX11_standOf_87 : decode cX11_standOf 87 = .ok (.if_icmp .le 8, 3) := by decide +kernel
theorem dX11_standOf_90 : decode cX11_standOf 90 = .ok (.iload 7, 2) := by decide +kernel
theorem dX11_standOf_92 : decode cX11_standOf 92 = .ok (.goto 5, 3) := by decide +kernel
theorem dX11_standOf_95 : decode cX11_standOf 95 = .ok (.iload 5, 2) := by decide +kernel
theorem dX11_standOf_97 : decode cX11_standOf 97 = .ok (.istore 5, 2) := by decide +kernel
theorem dX11_standOf_99 : decode cX11_standOf 99 = .ok (.aload_n 0, 1) := by decide +kernel
theorem dX11_standOf_100 : decode cX11_standOf 100 = .ok (.getfield 67, 3) := by decide +kernel
theorem dX11_standOf_103 : decode cX11_standOf 103 = .ok (.iload_n 1, 1) := by decide +kernel
theorem dX11_standOf_104 : decode cX11_standOf 104 = .ok (.iaload, 1) := by decide +kernel
theorem dX11_standOf_105 : decode cX11_standOf 105 = .ok (.iload 6, 2) := by decide +kernel
theorem dX11_standOf_107 : decode cX11_standOf 107 = .ok (.if_icmp .le 12, 3) := by decide +kernel
theorem dX11_standOf_110 : decode cX11_standOf 110 = .ok (.aload_n 0, 1) := by decide +kernel
theorem dX11_standOf_111 : decode cX11_standOf 111 = .ok (.getfield 67, 3) := by decide +kernel
theorem dX11_standOf_114 : decode cX11_standOf 114 = .ok (.iload_n 1, 1) := by decide +kernel
theorem dX11_standOf_115 : decode cX11_standOf 115 = .ok (.iaload, 1) := by decide +kernel
theorem dX11_standOf_116 : decode cX11_standOf 116 = .ok (.goto 5, 3) := by decide +kernel
theorem dX11_standOf_119 : decode cX11_standOf 119 = .ok (.iload 6, 2) := by decide +kernel
theorem dX11_standOf_121 : decode cX11_standOf 121 = .ok (.istore 6, 2) := by decide +kernel
theorem dX11_standOf_123 : decode cX11_standOf 123 = .ok (.iinc 7 1, 3) := by decide +kernel
theorem dX11_standOf_126 : decode cX11_standOf 126 = .ok (.goto (-98), 3) := by decide +kernel
theorem dX11_standOf_129 : decode cX11_standOf 129 = .ok (.aload_n 0, 1) := by decide +kernel
theorem dX11_standOf_130 : decode cX11_standOf 130 = .ok (.getfield 19, 3) := by decide +kernel
theorem dX11_standOf_133 : decode cX11_standOf 133 = .ok (.iload_n 1, 1) := by decide +kernel
theorem dX11_standOf_134 : decode cX11_standOf 134 = .ok (.iload_n 3, 1) := by decide +kernel
theorem dX11_standOf_135 : decode cX11_standOf 135 = .ok (.iastore, 1) := by decide +kernel
theorem dX11_standOf_136 : decode cX11_standOf 136 = .ok (.aload_n 0, 1) := by decide +kernel
theorem dX11_standOf_137 : decode cX11_standOf 137 = .ok (.getfield 22, 3) := by decide +kernel
theorem dX11_standOf_140 : decode cX11_standOf 140 = .ok (.iload_n 1, 1) := by decide +kernel
theorem dX11_standOf_141 : decode cX11_standOf 141 = .ok (.iload 4, 2) := by decide +kernel
theorem dX11_standOf_143 : decode cX11_standOf 143 = .ok (.iastore, 1) := by decide +kernel
theorem dX11_standOf_144 : decode cX11_standOf 144 = .ok (.iload_n 2, 1) := by decide +kernel
theorem dX11_standOf_145 : decode cX11_standOf 145 = .ok (.ifCond .ne 11, 3) := by decide +kernel
theorem dX11_standOf_148 : decode cX11_standOf 148 = .ok (.iload 5, 2) := by decide +kernel
theorem dX11_standOf_150 : decode cX11_standOf 150 = .ok (.bipush 6, 2) := by decide +kernel
theorem dX11_standOf_152 : decode cX11_standOf 152 = .ok (.idiv, 1) := by decide +kernel
theorem dX11_standOf_153 : decode cX11_standOf 153 = .ok (.goto 18, 3) := by decide +kernel
theorem dX11_standOf_156 : decode cX11_standOf 156 = .ok (.iload_n 2, 1) := by decide +kernel
theorem dX11_standOf_157 : decode cX11_standOf 157 = .ok (.iconst 1, 1) := by decide +kernel
theorem dX11_standOf_158 : decode cX11_standOf 158 = .ok (.if_icmp .ne 11, 3) := by decide +kernel
theorem dX11_standOf_161 : decode cX11_standOf 161 = .ok (.iload 5, 2) := by decide +kernel
theorem dX11_standOf_163 : decode cX11_standOf 163 = .ok (.bipush 6, 2) := by decide +kernel
theorem dX11_standOf_165 : decode cX11_standOf 165 = .ok (.irem, 1) := by decide +kernel
theorem dX11_standOf_166 : decode cX11_standOf 166 = .ok (.goto 5, 3) := by decide +kernel
theorem dX11_standOf_169 : decode cX11_standOf 169 = .ok (.iload 6, 2) := by decide +kernel
theorem dX11_standOf_171 : decode cX11_standOf 171 = .ok (.ireturn, 1) := by decide +kernel
theorem dX11_betterOf_0 : decode cX11_betterOf 0 = .ok (.aload_n 0, 1) := by decide +kernel
theorem dX11_betterOf_1 : decode cX11_betterOf 1 = .ok (.invokevirtual 270, 3) := by decide +kernel
theorem dX11_betterOf_4 : decode cX11_betterOf 4 = .ok (.iconst (-1), 1) := by decide +kernel
theorem dX11_betterOf_5 : decode cX11_betterOf 5 = .ok (.istore 4, 2) := by decide +kernel
theorem dX11_betterOf_7 : decode cX11_betterOf 7 = .ok (.iconst (-1), 1) := by decide +kernel
theorem dX11_betterOf_8 : decode cX11_betterOf 8 = .ok (.istore 5, 2) := by decide +kernel
theorem dX11_betterOf_10 : decode cX11_betterOf 10 = .ok (.aload_n 0, 1) := by decide +kernel
theorem dX11_betterOf_11 : decode cX11_betterOf 11 = .ok (.getfield 31, 3) := by decide +kernel
theorem dX11_betterOf_14 : decode cX11_betterOf 14 = .ok (.aload_n 0, 1) := by decide +kernel
theorem dX11_betterOf_15 : decode cX11_betterOf 15 = .ok (.getfield 165, 3) := by decide +kernel
theorem dX11_betterOf_18 : decode cX11_betterOf 18 = .ok (.iload_n 2, 1) := by decide +kernel
theorem dX11_betterOf_19 : decode cX11_betterOf 19 = .ok (.iastore, 1) := by decide +kernel
theorem dX11_betterOf_20 : decode cX11_betterOf 20 = .ok (.aload_n 0, 1) := by decide +kernel
theorem dX11_betterOf_21 : decode cX11_betterOf 21 = .ok (.getfield 34, 3) := by decide +kernel
theorem dX11_betterOf_24 : decode cX11_betterOf 24 = .ok (.aload_n 0, 1) := by decide +kernel
theorem dX11_betterOf_25 : decode cX11_betterOf 25 = .ok (.getfield 165, 3) := by decide +kernel
theorem dX11_betterOf_28 : decode cX11_betterOf 28 = .ok (.iload_n 1, 1) := by decide +kernel
theorem dX11_betterOf_29 : decode cX11_betterOf 29 = .ok (.iastore, 1) := by decide +kernel
theorem dX11_betterOf_30 : decode cX11_betterOf 30 = .ok (.iconst 0, 1) := by decide +kernel
theorem dX11_betterOf_31 : decode cX11_betterOf 31 = .ok (.istore 6, 2) := by decide +kernel
theorem dX11_betterOf_33 : decode cX11_betterOf 33 = .ok (.iload 6, 2) := by decide +kernel
theorem dX11_betterOf_35 : decode cX11_betterOf 35 = .ok (.iconst 3, 1) := by decide +kernel
theorem dX11_betterOf_36 : decode cX11_betterOf 36 = .ok (.if_icmp .ge 90, 3) := by decide +kernel
theorem dX11_betterOf_39 : decode cX11_betterOf 39 = .ok (.aload_n 0, 1) := by decide +kernel
theorem dX11_betterOf_40 : decode cX11_betterOf 40 = .ok (.getfield 37, 3) := by decide +kernel
theorem dX11_betterOf_43 : decode cX11_betterOf 43 = .ok (.aload_n 0, 1) := by decide +kernel
theorem dX11_betterOf_44 : decode cX11_betterOf 44 = .ok (.getfield 165, 3) := by decide +kernel
theorem dX11_betterOf_47 : decode cX11_betterOf 47 = .ok (.iload 6, 2) := by decide +kernel
theorem dX11_betterOf_49 : decode cX11_betterOf 49 = .ok (.iastore, 1) := by decide +kernel
theorem dX11_betterOf_50 : decode cX11_betterOf 50 = .ok (.aload_n 0, 1) := by decide +kernel
theorem dX11_betterOf_51 : decode cX11_betterOf 51 = .ok (.iload 6, 2) := by decide +kernel
theorem dX11_betterOf_53 : decode cX11_betterOf 53 = .ok (.ifCond .ne 10, 3) := by decide +kernel
theorem dX11_betterOf_56 : decode cX11_betterOf 56 = .ok (.aload_n 0, 1) := by decide +kernel
theorem dX11_betterOf_57 : decode cX11_betterOf 57 = .ok (.getfield 165, 3) := by decide +kernel
theorem dX11_betterOf_60 : decode cX11_betterOf 60 = .ok (.goto 9, 3) := by decide +kernel
theorem dX11_betterOf_63 : decode cX11_betterOf 63 = .ok (.aload_n 0, 1) := by decide +kernel
theorem dX11_betterOf_64 : decode cX11_betterOf 64 = .ok (.getfield 165, 3) := by decide +kernel
theorem dX11_betterOf_67 : decode cX11_betterOf 67 = .ok (.iconst 1, 1) := by decide +kernel
theorem dX11_betterOf_68 : decode cX11_betterOf 68 = .ok (.iadd, 1) := by decide +kernel
theorem dX11_betterOf_69 : decode cX11_betterOf 69 = .ok (.putfield 217, 3) := by decide +kernel
theorem dX11_betterOf_72 : decode cX11_betterOf 72 = .ok (.aload_n 0, 1) := by decide +kernel
theorem dX11_betterOf_73 : decode cX11_betterOf 73 = .ok (.invokevirtual 273, 3) := by decide +kernel
theorem dX11_betterOf_76 : decode cX11_betterOf 76 = .ok (.aload_n 0, 1) := by decide +kernel
theorem dX11_betterOf_77 : decode cX11_betterOf 77 = .ok (.getfield 67, 3) := by decide +kernel
theorem dX11_betterOf_80 : decode cX11_betterOf 80 = .ok (.iload_n 1, 1) := by decide +kernel
theorem dX11_betterOf_81 : decode cX11_betterOf 81 = .ok (.iaload, 1) := by decide +kernel
theorem dX11_betterOf_82 : decode cX11_betterOf 82 = .ok (.iload 5, 2) := by decide +kernel
theorem dX11_betterOf_84 : decode cX11_betterOf 84 = .ok (.if_icmp .le 8, 3) := by decide +kernel
theorem dX11_betterOf_87 : decode cX11_betterOf 87 = .ok (.iload 6, 2) := by decide +kernel
theorem dX11_betterOf_89 : decode cX11_betterOf 89 = .ok (.goto 5, 3) := by decide +kernel
theorem dX11_betterOf_92 : decode cX11_betterOf 92 = .ok (.iload 4, 2) := by decide +kernel
theorem dX11_betterOf_94 : decode cX11_betterOf 94 = .ok (.istore 4, 2) := by decide +kernel
theorem dX11_betterOf_96 : decode cX11_betterOf 96 = .ok (.aload_n 0, 1) := by decide +kernel
theorem dX11_betterOf_97 : decode cX11_betterOf 97 = .ok (.getfield 67, 3) := by decide +kernel
theorem dX11_betterOf_100 : decode cX11_betterOf 100 = .ok (.iload_n 1, 1) := by decide +kernel
theorem dX11_betterOf_101 : decode cX11_betterOf 101 = .ok (.iaload, 1) := by decide +kernel
theorem dX11_betterOf_102 : decode cX11_betterOf 102 = .ok (.iload 5, 2) := by decide +kernel
theorem dX11_betterOf_104 : decode cX11_betterOf 104 = .ok (.if_icmp .le 12, 3) := by decide +kernel
theorem dX11_betterOf_107 : decode cX11_betterOf 107 = .ok (.aload_n 0, 1) := by decide +kernel
theorem dX11_betterOf_108 : decode cX11_betterOf 108 = .ok (.getfield 67, 3) := by decide +kernel
theorem dX11_betterOf_111 : decode cX11_betterOf 111 = .ok (.iload_n 1, 1) := by decide +kernel
theorem dX11_betterOf_112 : decode cX11_betterOf 112 = .ok (.iaload, 1) := by decide +kernel
theorem dX11_betterOf_113 : decode cX11_betterOf 113 = .ok (.goto 5, 3) := by decide +kernel
theorem dX11_betterOf_116 : decode cX11_betterOf 116 = .ok (.iload 5, 2) := by decide +kernel
theorem dX11_betterOf_118 : decode cX11_betterOf 118 = .ok (.istore 5, 2) := by decide +kernel
theorem dX11_betterOf_120 : decode cX11_betterOf 120 = .ok (.iinc 6 1, 3) := by decide +kernel
theorem dX11_betterOf_123 : decode cX11_betterOf 123 = .ok (.goto (-90), 3) := by decide +kernel
theorem dX11_betterOf_126 : decode cX11_betterOf 126 = .ok (.iload_n 3, 1) := by decide +kernel
theorem dX11_betterOf_127 : decode cX11_betterOf 127 = .ok (.ifCond .ne 8, 3) := by decide +kernel
theorem dX11_betterOf_130 : decode cX11_betterOf 130 = .ok (.iload 4, 2) := by decide +kernel
theorem dX11_betterOf_132 : decode cX11_betterOf 132 = .ok (.goto 5, 3) := by decide +kernel
theorem dX11_betterOf_135 : decode cX11_betterOf 135 = .ok (.iload 5, 2) := by decide +kernel
theorem dX11_betterOf_137 : decode cX11_betterOf 137 = .ok (.ireturn, 1) := by decide +kernel
theorem dX11_ringOf_0 : decode cX11_ringOf 0 = .ok (.aload_n 0, 1) := by decide +kernel
theorem dX11_ringOf_1 : decode cX11_ringOf 1 = .ok (.invokevirtual 270, 3) := by decide +kernel
theorem dX11_ringOf_4 : decode cX11_ringOf 4 = .ok (.iconst (-1), 1) := by decide +kernel
theorem dX11_ringOf_5 : decode cX11_ringOf 5 = .ok (.istore_n 2, 1) := by decide +kernel
theorem dX11_ringOf_6 : decode cX11_ringOf 6 = .ok (.iconst (-1), 1) := by decide +kernel
theorem dX11_ringOf_7 : decode cX11_ringOf 7 = .ok (.istore_n 3, 1) := by decide +kernel
theorem dX11_ringOf_8 : decode cX11_ringOf 8 = .ok (.aload_n 0, 1) := by decide +kernel
theorem dX11_ringOf_9 : decode cX11_ringOf 9 = .ok (.aload_n 0, 1) := by decide +kernel
theorem dX11_ringOf_10 : decode cX11_ringOf 10 = .ok (.getfield 204, 3) := by decide +kernel
theorem dX11_ringOf_13 : decode cX11_ringOf 13 = .ok (.iconst 1, 1) := by decide +kernel
theorem dX11_ringOf_14 : decode cX11_ringOf 14 = .ok (.iadd, 1) := by decide +kernel
theorem dX11_ringOf_15 : decode cX11_ringOf 15 = .ok (.putfield 220, 3) := by decide +kernel
theorem dX11_ringOf_18 : decode cX11_ringOf 18 = .ok (.aload_n 0, 1) := by decide +kernel
theorem dX11_ringOf_19 : decode cX11_ringOf 19 = .ok (.getfield 49, 3) := by decide +kernel
theorem dX11_ringOf_22 : decode cX11_ringOf 22 = .ok (.aload_n 0, 1) := by decide +kernel
theorem dX11_ringOf_23 : decode cX11_ringOf 23 = .ok (.getfield 204, 3) := by decide +kernel
theorem dX11_ringOf_26 : decode cX11_ringOf 26 = .ok (.iconst 0, 1) := by decide +kernel
theorem dX11_ringOf_27 : decode cX11_ringOf 27 = .ok (.iastore, 1) := by decide +kernel
theorem dX11_ringOf_28 : decode cX11_ringOf 28 = .ok (.aload_n 0, 1) := by decide +kernel
theorem dX11_ringOf_29 : decode cX11_ringOf 29 = .ok (.getfield 55, 3) := by decide +kernel
theorem dX11_ringOf_32 : decode cX11_ringOf 32 = .ok (.aload_n 0, 1) := by decide +kernel
theorem dX11_ringOf_33 : decode cX11_ringOf 33 = .ok (.getfield 204, 3) := by decide +kernel
theorem dX11_ringOf_36 : decode cX11_ringOf 36 = .ok (.iconst 0, 1) := by decide +kernel
theorem dX11_ringOf_37 : decode cX11_ringOf 37 = .ok (.iastore, 1) := by decide +kernel
theorem dX11_ringOf_38 : decode cX11_ringOf 38 = .ok (.iconst 0, 1) := by decide +kernel
theorem dX11_ringOf_39 : decode cX11_ringOf 39 = .ok (.istore 4, 2) := by decide +kernel
theorem dX11_ringOf_41 : decode cX11_ringOf 41 = .ok (.iload 4, 2) := by decide +kernel
theorem dX11_ringOf_43 : decode cX11_ringOf 43 = .ok (.bipush 24, 2) := by decide +kernel
theorem dX11_ringOf_45 : decode cX11_ringOf 45 = .ok (.if_icmp .ge 58, 3) := by decide +kernel
theorem dX11_ringOf_48 : decode cX11_ringOf 48 = .ok (.aload_n 0, 1) := by decide +kernel
theorem dX11_ringOf_49 : decode cX11_ringOf 49 = .ok (.getfield 52, 3) := by decide +kernel
theorem dX11_ringOf_52 : decode cX11_ringOf 52 = .ok (.aload_n 0, 1) := by decide +kernel
theorem dX11_ringOf_53 : decode cX11_ringOf 53 = .ok (.getfield 204, 3) := by decide +kernel
theorem dX11_ringOf_56 : decode cX11_ringOf 56 = .ok (.iload 4, 2) := by decide +kernel
theorem dX11_ringOf_58 : decode cX11_ringOf 58 = .ok (.iastore, 1) := by decide +kernel
theorem dX11_ringOf_59 : decode cX11_ringOf 59 = .ok (.aload_n 0, 1) := by decide +kernel
theorem dX11_ringOf_60 : decode cX11_ringOf 60 = .ok (.invokevirtual 273, 3) := by decide +kernel
theorem dX11_ringOf_63 : decode cX11_ringOf 63 = .ok (.aload_n 0, 1) := by decide +kernel
theorem dX11_ringOf_64 : decode cX11_ringOf 64 = .ok (.iload 4, 2) := by decide +kernel
theorem dX11_ringOf_66 : decode cX11_ringOf 66 = .ok (.invokevirtual 285, 3) := by decide +kernel
theorem dX11_ringOf_69 : decode cX11_ringOf 69 = .ok (.istore 5, 2) := by decide +kernel
theorem dX11_ringOf_71 : decode cX11_ringOf 71 = .ok (.iload 5, 2) := by decide +kernel
theorem dX11_ringOf_73 : decode cX11_ringOf 73 = .ok (.iload_n 3, 1) := by decide +kernel
theorem dX11_ringOf_74 : decode cX11_ringOf 74 = .ok (.if_icmp .le 8, 3) := by decide +kernel
theorem dX11_ringOf_77 : decode cX11_ringOf 77 = .ok (.iload 4, 2) := by decide +kernel
theorem dX11_ringOf_79 : decode cX11_ringOf 79 = .ok (.goto 4, 3) := by decide +kernel
theorem dX11_ringOf_82 : decode cX11_ringOf 82 = .ok (.iload_n 2, 1) := by decide +kernel
theorem dX11_ringOf_83 : decode cX11_ringOf 83 = .ok (.istore_n 2, 1) := by decide +kernel
theorem dX11_ringOf_84 : decode cX11_ringOf 84 = .ok (.iload 5, 2) := by decide +kernel
theorem dX11_ringOf_86 : decode cX11_ringOf 86 = .ok (.iload_n 3, 1) := by decide +kernel
theorem dX11_ringOf_87 : decode cX11_ringOf 87 = .ok (.if_icmp .le 8, 3) := by decide +kernel
theorem dX11_ringOf_90 : decode cX11_ringOf 90 = .ok (.iload 5, 2) := by decide +kernel
theorem dX11_ringOf_92 : decode cX11_ringOf 92 = .ok (.goto 4, 3) := by decide +kernel
theorem dX11_ringOf_95 : decode cX11_ringOf 95 = .ok (.iload_n 3, 1) := by decide +kernel
theorem dX11_ringOf_96 : decode cX11_ringOf 96 = .ok (.istore_n 3, 1) := by decide +kernel
theorem dX11_ringOf_97 : decode cX11_ringOf 97 = .ok (.iinc 4 1, 3) := by decide +kernel
theorem dX11_ringOf_100 : decode cX11_ringOf 100 = .ok (.goto (-59), 3) := by decide +kernel
theorem dX11_ringOf_103 : decode cX11_ringOf 103 = .ok (.iload_n 1, 1) := by decide +kernel
theorem dX11_ringOf_104 : decode cX11_ringOf 104 = .ok (.ifCond .ne 7, 3) := by decide +kernel
theorem dX11_ringOf_107 : decode cX11_ringOf 107 = .ok (.iload_n 2, 1) := by decide +kernel
theorem dX11_ringOf_108 : decode cX11_ringOf 108 = .ok (.goto 4, 3) := by decide +kernel
theorem dX11_ringOf_111 : decode cX11_ringOf 111 = .ok (.iload_n 3, 1) := by decide +kernel
theorem dX11_ringOf_112 : decode cX11_ringOf 112 = .ok (.ireturn, 1) := by decide +kernel
theorem nd6 (c : Nat) (hc : c < 1000) : nI c / 6 = nI (c / 6) := pk_div (d := 6) (by omega) (by decide) (by decide)
theorem nr6 (c : Nat) (hc : c < 1000) : nI c - nI c / 6 * 6 = nI (c % 6) := pk_rem (d := 6) (by omega) (by decide) (by decide)
theorem rep_XY0 {s : mS} {D : Deb} {k : Nat} (h : repR s D) : repR s (setXY D k (D.1.2 k 1) (D.1.2 k 2)) := by
  obtain ⟨h1, h2, h3, h4, h5, h6, h7, h8, h9, h10, h11⟩ := h
  refine ⟨h1, h2, h3, h4, h5, h6, h7, fun i hi j hj => ?_, h9, h10, h11⟩
  have h8' := h8 i hi j hj
  unfold setXY
  show _ = (if i = k ∧ j = 1 then _ else if i = k ∧ j = 2 then _ else _)
  by_cases e1 : i = k ∧ j = 1
  · rw [if_pos e1]; obtain ⟨rfl, rfl⟩ := e1; exact h8'
  · rw [if_neg e1]
    by_cases e2 : i = k ∧ j = 2
    · rw [if_pos e2]; obtain ⟨rfl, rfl⟩ := e2; exact h8'
    · rw [if_neg e2]; exact h8'
def stA (D : Deb) (k : Nat) (w : Int32) : Int32 := if w = 0 then (stP D k 36).1 / 6 else if w = 1 then (stP D k 36).1 - (stP D k 36).1 / 6 * 6 else (stP D k 36).2
theorem c_standOf (hd : 8 ≤ d) (L0 L1 e : Nat) (ok : okR σ L0 L1 e) (k : Nat) (hk : k < (Dt σ L0 L1 e).1.1) (w : Int32) : mMet G l d kX11_standOf [.ref 111, .int (nI k), .int w] σ (qIP (fun r s => r = stA (Dt σ L0 L1 e) k w ∧ s.1 111 2 = nI (Dt σ L0 L1 e).1.1 ∧ fW wScr σ s)) := by
  have hn : (Dt σ L0 L1 e).1.1 ≤ 8 := parC_n L0 (tx σ 0)
  refine mMet.of cm_X11_standOf rfl (Nat.le_of_ble_eq_true rfl) rfl (fun v1 σ1 h => by obtain ⟨r, h1, -⟩ := h; rw [h1]; rfl) ?_
  refine m_aload_n dX11_standOf_0 0 rfl ?_
  refine m_callV (As := []) dX11_standOf_1 cv_X11_270 (by first | assumption | rfl) (by decide) (by omega) rfl rfl (Nat.le_of_ble_eq_true rfl) (c_asTold (d := d - 1) (by omega) L0 L1 e ok) (fun v1 σ1 hv1 => ?_)
  refine m_qVP hv1 (fun ha => ?_)
  clear hv1 v1
  rename mS => s0
  obtain ⟨a1, a2, a3⟩ := ha
  generalize Dt σ L0 L1 e = D at *
  have hk8 : k < 8 := by omega
  refine m_aload_n dX11_standOf_4 0 rfl ?_
  refine m_getR 4 115 dX11_standOf_5 fl_X11_19_10 rfl (by decide) rfl (by first | assumption | rfl) ?_
  refine m_iload_n dX11_standOf_8 1 rfl ?_
  refine m_iald dX11_standOf_9 (by first | assumption | rfl) k rfl (by first | assumption | omega | decide) ?_
  refine m_istore_n (ls1 := [(3, _), (0, _), (1, _), (2, _)]) dX11_standOf_10 (by decide) rfl ?_
  refine m_aload_n dX11_standOf_11 1 rfl ?_
  refine m_getR 5 116 dX11_standOf_12 fl_X11_22_10 rfl (by decide) rfl (by first | assumption | rfl) ?_
  refine m_iload_n dX11_standOf_15 2 rfl ?_
  refine m_iald dX11_standOf_16 (by first | assumption | rfl) k rfl (by first | assumption | omega | decide) ?_
  refine m_istore (ls1 := [(4, _), (3, _), (0, _), (1, _), (2, _)]) dX11_standOf_17 (by decide) rfl ?_
  refine m_iconst (v := -1) dX11_standOf_19 (by decide) ?_
  refine m_istore (ls1 := [(5, _), (4, _), (3, _), (0, _), (1, _), (2, _)]) dX11_standOf_20 (by decide) rfl ?_
  refine m_iconst (v := -1) dX11_standOf_22 (by decide) ?_
  refine m_istore (ls1 := [(6, _), (5, _), (4, _), (3, _), (0, _), (1, _), (2, _)]) dX11_standOf_23 (by decide) rfl ?_
  refine m_iconst (v := 0) dX11_standOf_25 (by decide) ?_
  refine m_istore (ls1 := [(7, _), (6, _), (5, _), (4, _), (3, _), (0, _), (1, _), (2, _)]) dX11_standOf_26 (by decide) rfl ?_
  refine down (N := 36) (fun c (q : mS × Int32 × Int32) => (∃ x y, repR q.1 (setXY D k x y)) ∧ q.2 = stP D k c ∧ fW wScr σ q.1) (fun c q => mW G l d kX11_standOf 28 [(7, .int (nI c)), (6, .int q.2.2), (5, .int q.2.1), (4, .int (s0.1 116 k)), (3, .int (s0.1 115 k)), (0, .ref 111), (1, .int (nI k)), (2, .int w)] [] q.1 _) ?_ ?_ 0 (s0, -1, -1) (Nat.zero_le _) ⟨⟨_, _, rep_XY0 a1⟩, rfl, a3⟩
  · rintro ⟨s, b, m⟩ ⟨⟨x, y, r⟩, hq, f⟩
    have hb : b = (stP D k 36).1 := congrArg Prod.fst hq
    have hm : m = (stP D k 36).2 := congrArg Prod.snd hq
    show mW G l d kX11_standOf 28 [(7, .int (nI 36)), (6, .int m), (5, .int b), (4, .int (s0.1 116 k)), (3, .int (s0.1 115 k)), (0, .ref 111), (1, .int (nI k)), (2, .int w)] [] s _
    refine m_iload dX11_standOf_28 0 rfl ?_
    refine m_bipush (v := 36) dX11_standOf_30 (by decide) ?_
    refine m_icmp_ge dX11_standOf_32 129 (by decide) (fun h => ?_) (fun h => ?_)
    · refine m_aload_n dX11_standOf_129 5 rfl ?_
      refine m_getR 4 115 dX11_standOf_130 fl_X11_19_10 rfl (by decide) rfl (by first | assumption | rfl) ?_
      refine m_iload_n dX11_standOf_133 6 rfl ?_
      refine m_iload_n dX11_standOf_134 4 rfl ?_
      refine m_iast dX11_standOf_135 (by first | assumption | rfl) k rfl (by first | assumption | omega | decide) ?_
      refine m_aload_n dX11_standOf_136 5 rfl ?_
      refine m_getR 5 116 dX11_standOf_137 fl_X11_22_10 rfl (by decide) rfl (by first | assumption | rfl) ?_
      refine m_iload_n dX11_standOf_140 6 rfl ?_
      refine m_iload dX11_standOf_141 3 rfl ?_
      refine m_iast dX11_standOf_143 (by first | assumption | rfl) k rfl (by first | assumption | omega | decide) ?_
      refine m_iload_n dX11_standOf_144 7 rfl ?_
      refine m_sel (pcJ := 171) ?_ (fun kt0 kf0 => m_if_ne dX11_standOf_145 156 (by decide) (fun h => (m_iload_n dX11_standOf_156 7 rfl (m_iconst (v := 1) dX11_standOf_157 (by decide) (m_sel (pcJ := 171) (kf0 h) (fun kt1 kf1 => m_icmp_ne dX11_standOf_158 169 (by decide) (fun h => (m_iload dX11_standOf_169 1 rfl (kf1 h))) (fun h => (m_iload dX11_standOf_161 2 rfl (m_bipush (v := 6) dX11_standOf_163 (by decide) (m_irem dX11_standOf_165 (by decide) (m_goto dX11_standOf_166 171 (by decide) (kt1 h))))))))))) (fun h => (m_iload dX11_standOf_148 2 rfl (m_bipush (v := 6) dX11_standOf_150 (by decide) (m_idiv dX11_standOf_152 (by decide) (m_goto dX11_standOf_153 171 (by decide) (kt0 h)))))))
      refine m_ireturn dX11_standOf_171 ⟨_, rfl, ?_, ?_, fW.us (by omega) (fW.us (by omega) f)⟩
      · rw [hb, hm]; rfl
      · simp [us_at]; exact r.2.2.2.1
    · exact absurd (Int32.le_refl _) h
  · rintro c ⟨s, b, m⟩ hc ⟨⟨x, y, r⟩, hq, f⟩ ih
    have hb : b = (stP D k c).1 := congrArg Prod.fst hq
    have hm : m = (stP D k c).2 := congrArg Prod.snd hq
    show mW G l d kX11_standOf 28 [(7, .int (nI c)), (6, .int m), (5, .int b), (4, .int (s0.1 116 k)), (3, .int (s0.1 115 k)), (0, .ref 111), (1, .int (nI k)), (2, .int w)] [] s _
    have hoth : othP (s.1 115) (s.1 116) k (nI (c / 6)) (nI (c % 6)) D.1.1 = othP (fun i => D.1.2 i 1) (fun i => D.1.2 i 2) k (nI (c / 6)) (nI (c % 6)) D.1.1 := othP_cong _ (fun i hi hik => by
      have g1 := r.2.2.2.2.2.2.2.1 i hi 1 (by decide)
      have g2 := r.2.2.2.2.2.2.2.1 i hi 2 (by decide)
      unfold setXY at g1 g2
      simp [hik] at g1 g2
      exact ⟨g1, g2⟩)
    refine m_iload dX11_standOf_28 0 rfl ?_
    refine m_bipush (v := 36) dX11_standOf_30 (by decide) ?_
    refine m_icmp_ge dX11_standOf_32 129 (by decide) (fun h => ?_) (fun h => ?_)
    · exact absurd ((nle (a := 36) (by omega) (by omega)).mp h) (by omega)
    · clear h
      refine m_aload_n dX11_standOf_35 5 rfl ?_
      refine m_iload_n dX11_standOf_36 6 rfl ?_
      refine m_iload dX11_standOf_37 0 rfl ?_
      refine m_bipush (v := 6) dX11_standOf_39 (by decide) ?_
      refine m_idiv dX11_standOf_41 (by decide) ?_
      refine mW.top (nd6 c (by omega)) ?_
      refine m_iload dX11_standOf_42 0 rfl ?_
      refine m_bipush (v := 6) dX11_standOf_44 (by decide) ?_
      refine m_irem dX11_standOf_46 (by decide) ?_
      refine mW.top (nr6 c (by omega)) ?_
      refine m_callV (As := [_, _, _]) dX11_standOf_47 cv_X11_313 (by first | assumption | rfl) (by decide) (by omega) rfl rfl (Nat.le_of_ble_eq_true rfl) (c_isOther (d := d - 1) D.1.1 hn r.2.2.2.1 k hk8 _ _) (fun v1 σ1 hv1 => ?_)
      refine m_qI hv1 ?_
      clear hv1 v1 σ1
      rw [hoth]
      refine m_if_ne dX11_standOf_50 123 (by decide) (fun h50 => ?_) (fun h50 => ?_)
      · refine m_iinc (v := nI (c + 1)) (ls1 := [(7, _), (6, _), (5, _), (4, _), (3, _), (0, _), (1, _), (2, _)]) dX11_standOf_123 0 rfl (nI_1 c) (by decide) rfl ?_
        refine m_goto dX11_standOf_126 28 (by decide) ?_
        exact ih (s, b, m) ⟨⟨x, y, r⟩, by rw [hq, stP, if_pos (bI_ne.mp h50)], f⟩
      · refine m_aload_n dX11_standOf_53 5 rfl ?_
        refine m_getR 4 115 dX11_standOf_54 fl_X11_19_10 rfl (by decide) rfl (by first | assumption | rfl) ?_
        refine m_iload_n dX11_standOf_57 6 rfl ?_
        refine m_iload dX11_standOf_58 0 rfl ?_
        refine m_bipush (v := 6) dX11_standOf_60 (by decide) ?_
        refine m_idiv dX11_standOf_62 (by decide) ?_
        refine mW.top (nd6 c (by omega)) ?_
        refine m_iast dX11_standOf_63 (by first | assumption | rfl) k rfl (by first | assumption | omega | decide) ?_
        refine m_aload_n dX11_standOf_64 5 rfl ?_
        refine m_getR 5 116 dX11_standOf_65 fl_X11_22_10 rfl (by decide) rfl (by first | assumption | rfl) ?_
        refine m_iload_n dX11_standOf_68 6 rfl ?_
        refine m_iload dX11_standOf_69 0 rfl ?_
        refine m_bipush (v := 6) dX11_standOf_71 (by decide) ?_
        refine m_irem dX11_standOf_73 (by decide) ?_
        refine mW.top (nr6 c (by omega)) ?_
        refine m_iast dX11_standOf_74 (by first | assumption | rfl) k rfl (by first | assumption | omega | decide) ?_
        have r1 := rep_XY (x1 := nI (c / 6)) (y1 := nI (c % 6)) hk r
        have f1 : fW wScr σ (us (us s 115 k (nI (c / 6))) 116 k (nI (c % 6))) := fW.us (by omega) (fW.us (by omega) f)
        refine m_aload_n dX11_standOf_75 5 rfl ?_
        refine m_callV (As := []) dX11_standOf_76 cv_X11_273 (by first | assumption | rfl) (by decide) (by omega) rfl rfl (Nat.le_of_ble_eq_true rfl) (c_runsD (d := d - 1) (by omega) _ r1) (fun v1 σ1 hv1 => ?_)
        refine m_qVP hv1 (fun hz => ?_)
        clear hv1 v1
        rename mS => s2
        obtain ⟨z1, z2⟩ := hz
        have hp : s2.1 131 k = ptsD (setXY D k (nI (c / 6)) (nI (c % 6))) k := (z1.2.1 k hk).2.2.2.1
        generalize hP : ptsD (setXY D k (nI (c / 6)) (nI (c % 6))) k = P at hp
        have r2 := r1.run z2
        have f2 : fW wScr σ s2 := f1.tr (z2.mono (fun y z h => by omega))
        refine m_aload_n dX11_standOf_79 5 rfl ?_
        refine m_getR 25 131 dX11_standOf_80 fl_X11_67_10 rfl (by decide) rfl (by first | assumption | rfl) ?_
        refine m_iload_n dX11_standOf_83 6 rfl ?_
        refine m_iald dX11_standOf_84 (by first | assumption | rfl) k rfl (by first | assumption | omega | decide) ?_
        refine mW.top hp ?_
        refine m_iload dX11_standOf_85 1 rfl ?_
        refine m_sel (pcJ := 97) ?_ (fun kt0 kf0 => m_icmp_le dX11_standOf_87 95 (by decide) (fun h => (m_iload dX11_standOf_95 2 rfl (kt0 h))) (fun h => (m_iload dX11_standOf_90 0 rfl (m_goto dX11_standOf_92 97 (by decide) (kf0 h)))))
        refine m_istore (ls1 := [(5, _), (7, _), (6, _), (4, _), (3, _), (0, _), (1, _), (2, _)]) dX11_standOf_97 (by decide) rfl ?_
        refine m_aload_n dX11_standOf_99 5 rfl ?_
        refine m_getR 25 131 dX11_standOf_100 fl_X11_67_10 rfl (by decide) rfl (by first | assumption | rfl) ?_
        refine m_iload_n dX11_standOf_103 6 rfl ?_
        refine m_iald dX11_standOf_104 (by first | assumption | rfl) k rfl (by first | assumption | omega | decide) ?_
        refine mW.top hp ?_
        refine m_iload dX11_standOf_105 2 rfl ?_
        refine m_sel (pcJ := 121) ?_ (fun kt0 kf0 => m_icmp_le dX11_standOf_107 119 (by decide) (fun h => (m_iload dX11_standOf_119 2 rfl (kt0 h))) (fun h => (m_aload_n dX11_standOf_110 5 rfl (m_getR 25 131 dX11_standOf_111 fl_X11_67_10 rfl (by decide) rfl (by first | assumption | rfl) (m_iload_n dX11_standOf_114 6 rfl (m_iald dX11_standOf_115 (by first | assumption | rfl) k rfl (by first | assumption | omega | decide) (mW.top hp (m_goto dX11_standOf_116 121 (by decide) (kf0 h)))))))))
        refine m_istore (ls1 := [(6, _), (5, _), (7, _), (4, _), (3, _), (0, _), (1, _), (2, _)]) dX11_standOf_121 (by decide) rfl ?_
        refine m_iinc (v := nI (c + 1)) (ls1 := [(7, _), (6, _), (5, _), (4, _), (3, _), (0, _), (1, _), (2, _)]) dX11_standOf_123 2 rfl (nI_1 c) (by decide) rfl ?_
        refine m_goto dX11_standOf_126 28 (by decide) ?_
        refine ih (s2, (if P ≤ m then b else nI c), (if P ≤ m then m else P)) ⟨⟨_, _, r2⟩, ?_, f2⟩
        have hst : stP D k (c + 1) = if P ≤ m then (b, m) else (nI c, P) := by
          rw [stP, if_neg (fun q => by rw [q] at h50; exact absurd h50 (by decide)), hP, hm]
          rw [show (b, (stP D k c).2) = stP D k c by rw [← hm]; exact hq]
        rw [hst]
        show ((if P ≤ m then b else nI c), (if P ≤ m then m else P)) = _
        by_cases hle : P ≤ m
        · rw [if_pos hle, if_pos hle, if_pos hle]
        · rw [if_neg hle, if_neg hle, if_neg hle]
/-- what the trials change: the counts, the places behind the told, the run -/
abbrev wTry (ns e : Nat) : Nat → Nat → Prop := fun y z => (y = 111 ∧ (z = 16 ∨ z = 17 ∨ z = 21 ∨ (28 ≤ z ∧ z ≤ 31))) ∨ (119 ≤ y ∧ y ≤ 121 ∧ z = ns) ∨ (125 ≤ y ∧ y ≤ 127 ∧ z = e) ∨ (128 ≤ y ∧ y ≤ 142)
theorem rep_try {s0 s : mS} {D : Deb} (h : repR s0 D) (f : fW (wTry D.2.1.1 D.2.2.1.1) s0 s) {m : Int32} (h16 : s.1 111 16 = nI D.2.1.1) (h17 : s.1 111 17 = nI D.2.2.1.1) (h21 : s.1 111 21 = m) : repR s (maskD D m) := by
  obtain ⟨h1, h2, h3, h4, h5, h6, h7, h8, h9, h10, h11⟩ := h
  exact ⟨h1, h2, h3, (f.at (by omega)).trans h4, h16, h17, h21, fun i hi j hj => (f.at (by omega)).trans (h8 i hi j hj), fun i (hi : i < D.2.1.1) j hj => (f.at (by omega)).trans (h9 i hi j hj), fun i (hi : i < D.2.2.1.1) j hj => (f.at (by omega)).trans (h10 i hi j hj), h11⟩
theorem rep_tryS {s0 s : mS} {D : Deb} (h : repR s0 D) (f : fW (wTry D.2.1.1 D.2.2.1.1) s0 s) {mo k v : Nat} (hs : D.2.1.1 ≤ 12) (hk : k < 8) (h16 : s.1 111 16 = nI (D.2.1.1 + 1)) (h17 : s.1 111 17 = nI D.2.2.1.1) (h21 : s.1 111 21 = D.2.2.2) (h119 : s.1 119 D.2.1.1 = nI mo) (h120 : s.1 120 D.2.1.1 = nI k) (h121 : s.1 121 D.2.1.1 = nI v) : repR s (addS D (nI mo) (nI k) (nI v)) := by
  obtain ⟨h1, h2, h3, h4, h5, h6, h7, h8, h9, h10, h11⟩ := h
  refine ⟨h1, by show D.2.1.1 + 1 ≤ 13; omega, h3, (f.at (by omega)).trans h4, h16, h17, h21, fun i hi j hj => (f.at (by omega)).trans (h8 i hi j hj), fun i hi j hj => ?_, fun i (hi : i < D.2.2.1.1) j hj => (f.at (by omega)).trans (h10 i hi j hj), fun i hi => ?_⟩
  · have hi' : i < D.2.1.1 + 1 := hi
    show _ = if i = D.2.1.1 then (if j = 0 then nI mo else if j = 1 then nI k else nI v) else D.2.1.2 i j
    by_cases e : i = D.2.1.1
    · subst e
      rw [if_pos rfl]
      rcases (show j = 0 ∨ j = 1 ∨ j = 2 by omega) with rfl | rfl | rfl
      · exact h119
      · exact h120
      · exact h121
    · rw [if_neg e]
      exact (f.at (by omega)).trans (h9 i (by omega) j hj)
  · have hi' : i < D.2.1.1 + 1 := hi
    show ∃ j, j < 8 ∧ (if i = D.2.1.1 then (if (1 : Nat) = 0 then nI mo else if (1 : Nat) = 1 then nI k else nI v) else D.2.1.2 i 1) = nI j
    by_cases e : i = D.2.1.1
    · rw [if_pos e]; exact ⟨k, hk, rfl⟩
    · rw [if_neg e]; exact h11 i (by omega)
theorem rep_tryE {s0 s : mS} {D : Deb} (h : repR s0 D) (f : fW (wTry D.2.1.1 D.2.2.1.1) s0 s) {t : Nat} (he : D.2.2.1.1 ≤ 8) (h16 : s.1 111 16 = nI D.2.1.1) (h17 : s.1 111 17 = nI (D.2.2.1.1 + 1)) (h21 : s.1 111 21 = D.2.2.2) (h125 : s.1 125 D.2.2.1.1 = 0) (h126 : s.1 126 D.2.2.1.1 = nI t) (h127 : s.1 127 D.2.2.1.1 = 0) : repR s (addE D (nI t)) := by
  obtain ⟨h1, h2, h3, h4, h5, h6, h7, h8, h9, h10, h11⟩ := h
  refine ⟨h1, h2, by show D.2.2.1.1 + 1 ≤ 9; omega, (f.at (by omega)).trans h4, h16, h17, h21, fun i hi j hj => (f.at (by omega)).trans (h8 i hi j hj), fun i (hi : i < D.2.1.1) j hj => (f.at (by omega)).trans (h9 i hi j hj), fun i hi j hj => ?_, h11⟩
  have hi' : i < D.2.2.1.1 + 1 := hi
  show _ = if i = D.2.2.1.1 then (if j = 1 then nI t else 0) else D.2.2.1.2 i j
  by_cases e : i = D.2.2.1.1
  · subst e
    rw [if_pos rfl]
    rcases (show j = 0 ∨ j = 1 ∨ j = 2 by omega) with rfl | rfl | rfl
    · exact h125
    · exact h126
    · exact h127
  · rw [if_neg e]
    exact (f.at (by omega)).trans (h10 i (by omega) j hj)
theorem maskD_id (D : Deb) : maskD D D.2.2.2 = D := rfl
def btA (D : Deb) (k mo : Nat) (w : Int32) : Int32 := if w = 0 then (btP D k mo 3).1 else (btP D k mo 3).2
theorem c_betterOf (hd : 8 ≤ d) (L0 L1 e : Nat) (ok : okR σ L0 L1 e) (k mo : Nat) (hk : k < (Dt σ L0 L1 e).1.1) (hmo : mo < 24) (w : Int32) : mMet G l d kX11_betterOf [.ref 111, .int (nI k), .int (nI mo), .int w] σ (qIP (fun r s => r = btA (Dt σ L0 L1 e) k mo w ∧ s.1 111 2 = nI (Dt σ L0 L1 e).1.1 ∧ fW wScr σ s)) := by
  have hn : (Dt σ L0 L1 e).1.1 ≤ 8 := parC_n L0 (tx σ 0)
  have hs12 : (Dt σ L0 L1 e).2.1.1 ≤ 12 := parS_n L1 (tx σ 1)
  refine mMet.of cm_X11_betterOf rfl (Nat.le_of_ble_eq_true rfl) rfl (fun v1 σ1 h => by obtain ⟨r, h1, -⟩ := h; rw [h1]; rfl) ?_
  refine m_aload_n dX11_betterOf_0 0 rfl ?_
  refine m_callV (As := []) dX11_betterOf_1 cv_X11_270 (by first | assumption | rfl) (by decide) (by omega) rfl rfl (Nat.le_of_ble_eq_true rfl) (c_asTold (d := d - 1) (by omega) L0 L1 e ok) (fun v1 σ1 hv1 => ?_)
  refine m_qVP hv1 (fun ha => ?_)
  clear hv1 v1
  rename mS => s0
  obtain ⟨a1, a2, a3⟩ := ha
  generalize Dt σ L0 L1 e = D at *
  have hk8 : k < 8 := by omega
  have hs13 : D.2.1.1 < 13 := by omega
  refine m_iconst (v := -1) dX11_betterOf_4 (by decide) ?_
  refine m_istore (ls1 := [(4, _), (0, _), (1, _), (2, _), (3, _)]) dX11_betterOf_5 (by decide) rfl ?_
  refine m_iconst (v := -1) dX11_betterOf_7 (by decide) ?_
  refine m_istore (ls1 := [(5, _), (4, _), (0, _), (1, _), (2, _), (3, _)]) dX11_betterOf_8 (by decide) rfl ?_
  refine m_aload_n dX11_betterOf_10 2 rfl ?_
  refine m_getR 9 119 dX11_betterOf_11 fl_X11_31_10 rfl (by decide) rfl (by first | assumption | rfl) ?_
  refine m_aload_n dX11_betterOf_14 2 rfl ?_
  refine m_getI 8 dX11_betterOf_15 fl_X11_165_10 rfl (by decide) (by first | assumption | rfl) ?_
  refine mW.top a2 ?_
  refine m_iload_n dX11_betterOf_18 4 rfl ?_
  refine m_iast dX11_betterOf_19 (by first | assumption | rfl) D.2.1.1 rfl (by first | assumption | omega | decide) ?_
  refine m_aload_n dX11_betterOf_20 2 rfl ?_
  refine m_getR 10 120 dX11_betterOf_21 fl_X11_34_10 rfl (by decide) rfl (by first | assumption | rfl) ?_
  refine m_aload_n dX11_betterOf_24 2 rfl ?_
  refine m_getI 8 dX11_betterOf_25 fl_X11_165_10 rfl (by decide) (by first | assumption | rfl) ?_
  refine mW.top a2 ?_
  refine m_iload_n dX11_betterOf_28 3 rfl ?_
  refine m_iast dX11_betterOf_29 (by first | assumption | rfl) D.2.1.1 rfl (by first | assumption | omega | decide) ?_
  refine m_iconst (v := 0) dX11_betterOf_30 (by decide) ?_
  refine m_istore (ls1 := [(6, _), (5, _), (4, _), (0, _), (1, _), (2, _), (3, _)]) dX11_betterOf_31 (by decide) rfl ?_
  refine down (N := 3) (fun v (q : mS × Int32 × Int32) => fW (wTry D.2.1.1 D.2.2.1.1) s0 q.1 ∧ q.1.1 111 17 = nI D.2.2.1.1 ∧ q.1.1 111 21 = D.2.2.2 ∧ q.1.1 119 D.2.1.1 = nI mo ∧ q.1.1 120 D.2.1.1 = nI k ∧ q.2 = btP D k mo v) (fun v q => mW G l d kX11_betterOf 33 [(6, .int (nI v)), (5, .int q.2.2), (4, .int q.2.1), (0, .ref 111), (1, .int (nI k)), (2, .int (nI mo)), (3, .int w)] [] q.1 _) ?_ ?_ 0 (us (us s0 119 D.2.1.1 (nI mo)) 120 D.2.1.1 (nI k), -1, -1) (Nat.zero_le _) ⟨fW.us (by omega) (fW.us (by omega) fW.rf), ?_, ?_, ?_, ?_, rfl⟩
  · rintro ⟨s, b, m⟩ ⟨f, q17, q21, q9, q10, hq⟩
    have hb : b = (btP D k mo 3).1 := congrArg Prod.fst hq
    have hm : m = (btP D k mo 3).2 := congrArg Prod.snd hq
    show mW G l d kX11_betterOf 33 [(6, .int (nI 3)), (5, .int m), (4, .int b), (0, .ref 111), (1, .int (nI k)), (2, .int (nI mo)), (3, .int w)] [] s _
    refine m_iload dX11_betterOf_33 0 rfl ?_
    refine m_iconst (v := 3) dX11_betterOf_35 (by decide) ?_
    refine m_icmp_ge dX11_betterOf_36 126 (by decide) (fun h => ?_) (fun h => ?_)
    · refine m_iload_n dX11_betterOf_126 6 rfl ?_
      refine m_sel (pcJ := 137) ?_ (fun kt0 kf0 => m_if_ne dX11_betterOf_127 135 (by decide) (fun h => (m_iload dX11_betterOf_135 1 rfl (kf0 h))) (fun h => (m_iload dX11_betterOf_130 2 rfl (m_goto dX11_betterOf_132 137 (by decide) (kt0 h)))))
      refine m_ireturn dX11_betterOf_137 ⟨_, rfl, ?_, (f.at (by omega)).trans a1.2.2.2.1, a3.tr (f.mono (fun y z h => by omega))⟩
      rw [hb, hm]; rfl
    · exact absurd (Int32.le_refl _) h
  · rintro v ⟨s, b, m⟩ hv ⟨f, q17, q21, q9, q10, hq⟩ ih
    have hb : b = (btP D k mo v).1 := congrArg Prod.fst hq
    have hm : m = (btP D k mo v).2 := congrArg Prod.snd hq
    have q8' : s.1 111 8 = nI D.2.1.1 := (f.at (by omega)).trans a2
    show mW G l d kX11_betterOf 33 [(6, .int (nI v)), (5, .int m), (4, .int b), (0, .ref 111), (1, .int (nI k)), (2, .int (nI mo)), (3, .int w)] [] s _
    refine m_iload dX11_betterOf_33 0 rfl ?_
    refine m_iconst (v := 3) dX11_betterOf_35 (by decide) ?_
    refine m_icmp_ge dX11_betterOf_36 126 (by decide) (fun h => ?_) (fun h => ?_)
    · exact absurd ((nle (a := 3) (by omega) (by omega)).mp h) (by omega)
    · clear h
      refine m_aload_n dX11_betterOf_39 3 rfl ?_
      refine m_getR 11 121 dX11_betterOf_40 fl_X11_37_10 rfl (by decide) rfl (by first | assumption | rfl) ?_
      refine m_aload_n dX11_betterOf_43 3 rfl ?_
      refine m_getI 8 dX11_betterOf_44 fl_X11_165_10 rfl (by decide) (by first | assumption | rfl) ?_
      refine mW.top q8' ?_
      refine m_iload dX11_betterOf_47 0 rfl ?_
      refine m_iast dX11_betterOf_49 (by first | assumption | rfl) D.2.1.1 rfl (by first | assumption | omega | decide) ?_
      refine m_aload_n dX11_betterOf_50 3 rfl ?_
      refine m_iload dX11_betterOf_51 0 rfl ?_
      refine m_sel (pcJ := 69) ?_ (fun kt0 kf0 => m_if_ne dX11_betterOf_53 63 (by decide) (fun h => (m_aload_n dX11_betterOf_63 3 rfl (m_getI 8 dX11_betterOf_64 fl_X11_165_10 rfl (by decide) (by first | assumption | rfl) (mW.top q8' (m_iconst (v := 1) dX11_betterOf_67 (by decide) (m_iadd dX11_betterOf_68 (kf0 h))))))) (fun h => (m_aload_n dX11_betterOf_56 3 rfl (m_getI 8 dX11_betterOf_57 fl_X11_165_10 rfl (by decide) (by first | assumption | rfl) (mW.top q8' (m_goto dX11_betterOf_60 69 (by decide) (kt0 h)))))))
      refine mW.top (w := nI (btD D k mo v).2.1.1) ?_ ?_
      · unfold btD
        by_cases e0 : v = 0
        · subst e0; rw [if_pos rfl]; rfl
        · have e1 : ¬ nI v = 0 := fun z => e0 ((neq (b := 0) (by omega) (by omega)).mp z)
          rw [if_neg e1, if_neg e0]; exact nI_1 _
      refine m_putI 16 dX11_betterOf_69 fw_X11_217_10 rfl (by decide) rfl rfl (by first | assumption | rfl) ?_
      refine mW.cut (fun s1 => repR s1 (btD D k mo v) ∧ s1.1 111 17 = nI D.2.2.1.1 ∧ s1.1 111 21 = D.2.2.2 ∧ s1.1 119 D.2.1.1 = nI mo ∧ s1.1 120 D.2.1.1 = nI k ∧ fW (wTry D.2.1.1 D.2.2.1.1) s0 s1) ⟨?_, ?_, ?_, ?_, ?_, fW.us (by omega) (fW.us (by omega) f)⟩ (fun s1 hs1 => ?_)
      · have f1 : fW (wTry D.2.1.1 D.2.2.1.1) s0 (us (us s 121 D.2.1.1 (nI v)) 111 16 (nI (btD D k mo v).2.1.1)) := fW.us (by omega) (fW.us (by omega) f)
        unfold btD at f1 ⊢
        by_cases e0 : v = 0
        · subst e0
          rw [if_pos rfl] at f1 ⊢
          exact rep_try (m := D.2.2.2) a1 f1 (by simp [us_at]) (by simp [us_at]; exact q17) (by simp [us_at]; exact q21)
        · rw [if_neg e0] at f1 ⊢
          exact rep_tryS a1 f1 (by omega) hk8 (by simp [us_at]; rfl) (by simp [us_at]; exact q17) (by simp [us_at]; exact q21) (by simp [us_at]; exact q9) (by simp [us_at]; exact q10) (by simp [us_at])
      · simp [us_at]; exact q17
      · simp [us_at]; exact q21
      · simp [us_at]; exact q9
      · simp [us_at]; exact q10
      obtain ⟨c1, c2, c3, c4, c5, c6⟩ := hs1
      refine m_aload_n dX11_betterOf_72 3 rfl ?_
      refine m_callV (As := []) dX11_betterOf_73 cv_X11_273 (by first | assumption | rfl) (by decide) (by omega) rfl rfl (Nat.le_of_ble_eq_true rfl) (c_runsD (d := d - 1) (by omega) _ c1) (fun v1 σ1 hv1 => ?_)
      refine m_qVP hv1 (fun hz => ?_)
      clear hv1 v1
      rename mS => s2
      obtain ⟨z1, z2⟩ := hz
      have hkb : k < (btD D k mo v).1.1 := by
        unfold btD; split <;> exact hk
      have hp : s2.1 131 k = ptsD (btD D k mo v) k := (z1.2.1 k hkb).2.2.2.1
      generalize hP : ptsD (btD D k mo v) k = P at hp
      refine m_aload_n dX11_betterOf_76 3 rfl ?_
      refine m_getR 25 131 dX11_betterOf_77 fl_X11_67_10 rfl (by decide) rfl (by first | assumption | rfl) ?_
      refine m_iload_n dX11_betterOf_80 4 rfl ?_
      refine m_iald dX11_betterOf_81 (by first | assumption | rfl) k rfl (by first | assumption | omega | decide) ?_
      refine mW.top hp ?_
      refine m_iload dX11_betterOf_82 1 rfl ?_
      refine m_sel (pcJ := 94) ?_ (fun kt0 kf0 => m_icmp_le dX11_betterOf_84 92 (by decide) (fun h => (m_iload dX11_betterOf_92 2 rfl (kt0 h))) (fun h => (m_iload dX11_betterOf_87 0 rfl (m_goto dX11_betterOf_89 94 (by decide) (kf0 h)))))
      refine m_istore (ls1 := [(4, _), (6, _), (5, _), (0, _), (1, _), (2, _), (3, _)]) dX11_betterOf_94 (by decide) rfl ?_
      refine m_aload_n dX11_betterOf_96 3 rfl ?_
      refine m_getR 25 131 dX11_betterOf_97 fl_X11_67_10 rfl (by decide) rfl (by first | assumption | rfl) ?_
      refine m_iload_n dX11_betterOf_100 4 rfl ?_
      refine m_iald dX11_betterOf_101 (by first | assumption | rfl) k rfl (by first | assumption | omega | decide) ?_
      refine mW.top hp ?_
      refine m_iload dX11_betterOf_102 2 rfl ?_
      refine m_sel (pcJ := 118) ?_ (fun kt0 kf0 => m_icmp_le dX11_betterOf_104 116 (by decide) (fun h => (m_iload dX11_betterOf_116 2 rfl (kt0 h))) (fun h => (m_aload_n dX11_betterOf_107 3 rfl (m_getR 25 131 dX11_betterOf_108 fl_X11_67_10 rfl (by decide) rfl (by first | assumption | rfl) (m_iload_n dX11_betterOf_111 4 rfl (m_iald dX11_betterOf_112 (by first | assumption | rfl) k rfl (by first | assumption | omega | decide) (mW.top hp (m_goto dX11_betterOf_113 118 (by decide) (kf0 h)))))))))
      refine m_istore (ls1 := [(5, _), (4, _), (6, _), (0, _), (1, _), (2, _), (3, _)]) dX11_betterOf_118 (by decide) rfl ?_
      refine m_iinc (v := nI (v + 1)) (ls1 := [(6, _), (5, _), (4, _), (0, _), (1, _), (2, _), (3, _)]) dX11_betterOf_120 2 rfl (nI_1 v) (by decide) rfl ?_
      refine m_goto dX11_betterOf_123 33 (by decide) ?_
      refine ih (s2, (if P ≤ m then b else nI v), (if P ≤ m then m else P)) ⟨c6.tr (z2.mono (fun y z h => by omega)), (z2.at (by omega)).trans c2, (z2.at (by omega)).trans c3, (z2.at (by omega)).trans c4, (z2.at (by omega)).trans c5, ?_⟩
      have hst : btP D k mo (v + 1) = if P ≤ m then (b, m) else (nI v, P) := by
        rw [btP, hP, hm]
        rw [show (b, (btP D k mo v).2) = btP D k mo v by rw [← hm]; exact hq]
      rw [hst]
      show ((if P ≤ m then b else nI v), (if P ≤ m then m else P)) = _
      by_cases hle : P ≤ m
      · rw [if_pos hle, if_pos hle, if_pos hle]
      · rw [if_neg hle, if_neg hle, if_neg hle]
  · simp [us_at]; exact a1.2.2.2.2.2.1
  · simp [us_at]; exact a1.2.2.2.2.2.2.1
  · simp [us_at]
  · simp [us_at]
def rgA (D : Deb) (w : Int32) : Int32 := if w = 0 then (rgP D 24).1 else (rgP D 24).2
theorem c_ringOf (hd : 8 ≤ d) (L0 L1 e : Nat) (ok : okR σ L0 L1 e) (w : Int32) : mMet G l d kX11_ringOf [.ref 111, .int w] σ (qIP (fun r s => r = rgA (Dt σ L0 L1 e) w ∧ fW wScr σ s)) := by
  have hn : (Dt σ L0 L1 e).1.1 ≤ 8 := parC_n L0 (tx σ 0)
  have he8 : (Dt σ L0 L1 e).2.2.1.1 ≤ 8 := ok.2.2.2.2.2
  have hev : σ.1 111 12 = nI (Dt σ L0 L1 e).2.2.1.1 := ok.2.2.2.2.1
  refine mMet.of cm_X11_ringOf rfl (Nat.le_of_ble_eq_true rfl) rfl (fun v1 σ1 h => by obtain ⟨r, h1, -⟩ := h; rw [h1]; rfl) ?_
  refine m_aload_n dX11_ringOf_0 0 rfl ?_
  refine m_callV (As := []) dX11_ringOf_1 cv_X11_270 (by first | assumption | rfl) (by decide) (by omega) rfl rfl (Nat.le_of_ble_eq_true rfl) (c_asTold (d := d - 1) (by omega) L0 L1 e ok) (fun v1 σ1 hv1 => ?_)
  refine m_qVP hv1 (fun ha => ?_)
  clear hv1 v1
  rename mS => s0
  obtain ⟨a1, a2, a3⟩ := ha
  generalize Dt σ L0 L1 e = D at *
  have he9 : D.2.2.1.1 < 9 := by omega
  have q12 : s0.1 111 12 = nI D.2.2.1.1 := (a3.at (by omega)).trans hev
  refine m_iconst (v := -1) dX11_ringOf_4 (by decide) ?_
  refine m_istore_n (ls1 := [(2, _), (0, _), (1, _)]) dX11_ringOf_5 (by decide) rfl ?_
  refine m_iconst (v := -1) dX11_ringOf_6 (by decide) ?_
  refine m_istore_n (ls1 := [(3, _), (2, _), (0, _), (1, _)]) dX11_ringOf_7 (by decide) rfl ?_
  refine m_aload_n dX11_ringOf_8 2 rfl ?_
  refine m_aload_n dX11_ringOf_9 2 rfl ?_
  refine m_getI 12 dX11_ringOf_10 fl_X11_204_10 rfl (by decide) (by first | assumption | rfl) ?_
  refine mW.top q12 ?_
  refine m_iconst (v := 1) dX11_ringOf_13 (by decide) ?_
  refine m_iadd dX11_ringOf_14 ?_
  refine mW.top (w := nI (D.2.2.1.1 + 1)) (nI_1 _) ?_
  refine m_putI 17 dX11_ringOf_15 fw_X11_220_10 rfl (by decide) rfl rfl (by first | assumption | rfl) ?_
  refine m_aload_n dX11_ringOf_18 2 rfl ?_
  refine m_getR 18 125 dX11_ringOf_19 fl_X11_49_10 rfl (by decide) rfl (by first | assumption | rfl) ?_
  refine m_aload_n dX11_ringOf_22 2 rfl ?_
  refine m_getI 12 dX11_ringOf_23 fl_X11_204_10 rfl (by decide) (by first | assumption | rfl) ?_
  refine mW.top q12 ?_
  refine m_iconst (v := 0) dX11_ringOf_26 (by decide) ?_
  refine m_iast dX11_ringOf_27 (by first | assumption | rfl) D.2.2.1.1 rfl (by first | assumption | omega | decide) ?_
  refine m_aload_n dX11_ringOf_28 2 rfl ?_
  refine m_getR 20 127 dX11_ringOf_29 fl_X11_55_10 rfl (by decide) rfl (by first | assumption | rfl) ?_
  refine m_aload_n dX11_ringOf_32 2 rfl ?_
  refine m_getI 12 dX11_ringOf_33 fl_X11_204_10 rfl (by decide) (by first | assumption | rfl) ?_
  refine mW.top q12 ?_
  refine m_iconst (v := 0) dX11_ringOf_36 (by decide) ?_
  refine m_iast dX11_ringOf_37 (by first | assumption | rfl) D.2.2.1.1 rfl (by first | assumption | omega | decide) ?_
  refine m_iconst (v := 0) dX11_ringOf_38 (by decide) ?_
  refine m_istore (ls1 := [(4, _), (3, _), (2, _), (0, _), (1, _)]) dX11_ringOf_39 (by decide) rfl ?_
  refine down (N := 24) (fun t (q : mS × Int32 × Int32) => fW (wTry D.2.1.1 D.2.2.1.1) s0 q.1 ∧ q.1.1 111 16 = nI D.2.1.1 ∧ q.1.1 111 17 = nI (D.2.2.1.1 + 1) ∧ q.1.1 111 21 = D.2.2.2 ∧ q.1.1 125 D.2.2.1.1 = 0 ∧ q.1.1 127 D.2.2.1.1 = 0 ∧ q.2 = rgP D t) (fun t q => mW G l d kX11_ringOf 41 [(4, .int (nI t)), (3, .int q.2.2), (2, .int q.2.1), (0, .ref 111), (1, .int w)] [] q.1 _) ?_ ?_ 0 (_, -1, -1) (Nat.zero_le _) ⟨fW.us (by omega) (fW.us (by omega) (fW.us (by omega) fW.rf)), ?_, ?_, ?_, ?_, ?_, rfl⟩
  · rintro ⟨s, b, m⟩ ⟨f, q16, q17, q21, q25, q27, hq⟩
    have hb : b = (rgP D 24).1 := congrArg Prod.fst hq
    have hm : m = (rgP D 24).2 := congrArg Prod.snd hq
    show mW G l d kX11_ringOf 41 [(4, .int (nI 24)), (3, .int m), (2, .int b), (0, .ref 111), (1, .int w)] [] s _
    refine m_iload dX11_ringOf_41 0 rfl ?_
    refine m_bipush (v := 24) dX11_ringOf_43 (by decide) ?_
    refine m_icmp_ge dX11_ringOf_45 103 (by decide) (fun h => ?_) (fun h => ?_)
    · refine m_iload_n dX11_ringOf_103 4 rfl ?_
      refine m_sel (pcJ := 112) ?_ (fun kt0 kf0 => m_if_ne dX11_ringOf_104 111 (by decide) (fun h => (m_iload_n dX11_ringOf_111 1 rfl (kf0 h))) (fun h => (m_iload_n dX11_ringOf_107 2 rfl (m_goto dX11_ringOf_108 112 (by decide) (kt0 h)))))
      refine m_ireturn dX11_ringOf_112 ⟨_, rfl, ?_, a3.tr (f.mono (fun y z h => by omega))⟩
      rw [hb, hm]; rfl
    · exact absurd (Int32.le_refl _) h
  · rintro t ⟨s, b, m⟩ ht ⟨f, q16, q17, q21, q25, q27, hq⟩ ih
    have hb : b = (rgP D t).1 := congrArg Prod.fst hq
    have hm : m = (rgP D t).2 := congrArg Prod.snd hq
    have q12' : s.1 111 12 = nI D.2.2.1.1 := (f.at (by omega)).trans q12
    show mW G l d kX11_ringOf 41 [(4, .int (nI t)), (3, .int m), (2, .int b), (0, .ref 111), (1, .int w)] [] s _
    refine m_iload dX11_ringOf_41 0 rfl ?_
    refine m_bipush (v := 24) dX11_ringOf_43 (by decide) ?_
    refine m_icmp_ge dX11_ringOf_45 103 (by decide) (fun h => ?_) (fun h => ?_)
    · exact absurd ((nle (a := 24) (by omega) (by omega)).mp h) (by omega)
    · clear h
      refine m_aload_n dX11_ringOf_48 3 rfl ?_
      refine m_getR 19 126 dX11_ringOf_49 fl_X11_52_10 rfl (by decide) rfl (by first | assumption | rfl) ?_
      refine m_aload_n dX11_ringOf_52 3 rfl ?_
      refine m_getI 12 dX11_ringOf_53 fl_X11_204_10 rfl (by decide) (by first | assumption | rfl) ?_
      refine mW.top q12' ?_
      refine m_iload dX11_ringOf_56 0 rfl ?_
      refine m_iast dX11_ringOf_58 (by first | assumption | rfl) D.2.2.1.1 rfl (by first | assumption | omega | decide) ?_
      have f1 : fW (wTry D.2.1.1 D.2.2.1.1) s0 (us s 126 D.2.2.1.1 (nI t)) := fW.us (by omega) f
      have c1 : repR (us s 126 D.2.2.1.1 (nI t)) (addE D (nI t)) := rep_tryE a1 f1 he8 (by simp [us_at]; exact q16) (by simp [us_at]; exact q17) (by simp [us_at]; exact q21) (by simp [us_at]; exact q25) (by simp [us_at]) (by simp [us_at]; exact q27)
      refine m_aload_n dX11_ringOf_59 3 rfl ?_
      refine m_callV (As := []) dX11_ringOf_60 cv_X11_273 (by first | assumption | rfl) (by decide) (by omega) rfl rfl (Nat.le_of_ble_eq_true rfl) (c_runsD (d := d - 1) (by omega) _ c1) (fun v1 σ1 hv1 => ?_)
      refine m_qVP hv1 (fun hz => ?_)
      clear hv1 v1
      rename mS => s2
      obtain ⟨z1, z2⟩ := hz
      have c2 := c1.run z2
      refine m_aload_n dX11_ringOf_63 3 rfl ?_
      refine m_iload dX11_ringOf_64 0 rfl ?_
      refine m_callV (As := [_]) dX11_ringOf_66 cv_X11_285 (by first | assumption | rfl) (by decide) (by omega) rfl rfl (Nat.le_of_ble_eq_true rfl) (c_ayesAt (d := d - 1) _ c2.1 z1 c2.2.2.2.1 t ht) (fun v1 σ1 hv1 => ?_)
      refine m_qI hv1 ?_
      clear hv1 v1 σ1
      refine m_istore (ls1 := [(5, _), (4, _), (3, _), (2, _), (0, _), (1, _)]) dX11_ringOf_69 (by decide) rfl ?_
      refine m_iload dX11_ringOf_71 0 rfl ?_
      refine m_iload_n dX11_ringOf_73 2 rfl ?_
      generalize hP : nI (ayD (addE D (nI t)) t) = P
      refine m_sel (pcJ := 83) ?_ (fun kt0 kf0 => m_icmp_le dX11_ringOf_74 82 (by decide) (fun h => (m_iload_n dX11_ringOf_82 3 rfl (kt0 h))) (fun h => (m_iload dX11_ringOf_77 1 rfl (m_goto dX11_ringOf_79 83 (by decide) (kf0 h)))))
      refine m_istore_n (ls1 := [(2, _), (5, _), (4, _), (3, _), (0, _), (1, _)]) dX11_ringOf_83 (by decide) rfl ?_
      refine m_iload dX11_ringOf_84 1 rfl ?_
      refine m_iload_n dX11_ringOf_86 3 rfl ?_
      refine m_sel (pcJ := 96) ?_ (fun kt0 kf0 => m_icmp_le dX11_ringOf_87 95 (by decide) (fun h => (m_iload_n dX11_ringOf_95 3 rfl (kt0 h))) (fun h => (m_iload dX11_ringOf_90 1 rfl (m_goto dX11_ringOf_92 96 (by decide) (kf0 h)))))
      refine m_istore_n (ls1 := [(3, _), (2, _), (5, _), (4, _), (0, _), (1, _)]) dX11_ringOf_96 (by decide) rfl ?_
      refine m_iinc (v := nI (t + 1)) (ls1 := [(4, _), (3, _), (2, _), (5, _), (0, _), (1, _)]) dX11_ringOf_97 3 rfl (nI_1 t) (by decide) rfl ?_
      refine m_goto dX11_ringOf_100 41 (by decide) ?_
      refine mW.sub (ls1 := [(4, _), (3, _), (2, _), (0, _), (1, _)]) [0, 1, 2, 4, 5] rfl ?_
      refine ih (s2, (if P ≤ m then b else nI t), (if P ≤ m then m else P)) ⟨f1.tr (z2.mono (fun y z h => by omega)), c2.2.2.2.2.1, c2.2.2.2.2.2.1, c2.2.2.2.2.2.2.1, (z2.at (by omega)).trans (by simp [us_at]; exact q25), (z2.at (by omega)).trans (by simp [us_at]; exact q27), ?_⟩
      have hst : rgP D (t + 1) = if P ≤ m then (b, m) else (nI t, P) := by
        rw [rgP, hP, hm]
        rw [show (b, (rgP D t).2) = rgP D t by rw [← hm]; exact hq]
      rw [hst]
      show ((if P ≤ m then b else nI t), (if P ≤ m then m else P)) = _
      by_cases hle : P ≤ m
      · rw [if_pos hle, if_pos hle, if_pos hle]
      · rw [if_neg hle, if_neg hle, if_neg hle]
  · simp [us_at]; exact a1.2.2.2.2.1
  · simp [us_at]
  · simp [us_at]; exact a1.2.2.2.2.2.2.1
  · simp [us_at]
  · first | exact pk_us | simp [us_at, pk_us]
end SB
end
section
/-! ===== the reference: spare, and what was seen ===== -/
def meekD (D : Deb) : Int32 := meekP (RSt D 24).2.2.2.2.1 (RSt D 24).2.2.2.2.2.1 D.1.1
def bit1 (a : Nat) : Int32 := (1 : Int32) <<< (nI a &&& 31)
def spOK (D : Deb) (m : Int32) : Bool := decide (meekD (maskD D m) = 0)
def sp1 (D : Deb) : Nat → Nat → Option Nat
  | 0, _ => none
  | f + 1, a => if spOK D (bit1 a) then some a else sp1 D f (a + 1)
def sp2i (D : Deb) (a : Nat) : Nat → Nat → Option Nat
  | 0, _ => none
  | f + 1, b => if spOK D (bit1 a ||| bit1 b) then some b else sp2i D a f (b + 1)
def sp2 (D : Deb) (e : Nat) : Nat → Nat → Option (Nat × Nat)
  | 0, _ => none
  | f + 1, a => match sp2i D a (e - (a + 1)) (a + 1) with
    | some b => some (a, b)
    | none => sp2 D e f (a + 1)
/-- how many had better not be, and which -/
def spR (D : Deb) : Int32 × Int32 × Int32 :=
  if spOK D 0 then (0, 0, 0) else match sp1 D D.2.2.1.1 0 with
    | some a => (1, nI a, 0)
    | none => match sp2 D D.2.2.1.1 D.2.2.1.1 0 with
      | some (a, b) => (2, nI a, nI b)
      | none => (-1, 0, 0)
/-- whether the first i of what was seen come out -/
def agP (D : Deb) (w : Nat → Nat → Int32) : Nat → Bool
  | 0 => true
  | i + 1 => agP D w i && decide (w i 1 < nI D.1.1 ∧ (RSt D ((w i 0).toNatClampNeg + 1)).1 (w i 1).toNatClampNeg = w i 2 ∧ (RSt D ((w i 0).toNatClampNeg + 1)).2.1 (w i 1).toNatClampNeg = w i 3)
def nvP (D : Deb) (z : Nat) (w : Nat → Nat → Int32) : Nat → Int32
  | 0 => 0
  | i + 1 => nvP D z w i ||| (if agP (maskD D (bit1 i)) w z then bit1 i else 0)
def soP (D : Deb) (k z : Nat) (w : Nat → Nat → Int32) : Nat → Int32
  | 0 => 0
  | v + 1 => soP D k z w v ||| (if agP (setJ D k 0 (nI v)) w z then bit1 v else 0)
/-- weights 1 .. v -/
def hvP (D : Deb) (k z : Nat) (w : Nat → Nat → Int32) : Nat → Int32
  | 0 => 0
  | v + 1 => hvP D k z w v ||| (if agP (setJ D k 4 (nI (v + 1))) w z then bit1 (v + 1) else 0)
section SP
variable {G : mG} {l : Launch} {d : Nat} {σ : mS}
abbrev wSp : Nat → Nat → Prop := fun y z => (y = 111 ∧ (z = 21 ∨ (28 ≤ z ∧ z ≤ 31))) ∨ (128 ≤ y ∧ y ≤ 142)
abbrev wSq : Nat → Nat → Prop := fun y z => (y = 111 ∧ (z = 21 ∨ (28 ≤ z ∧ z ≤ 31))) ∨ (128 ≤ y ∧ y ≤ 141)
theorem sqp {s : mS} (f : fW wSq σ s) : fW wSp σ s := f.mono (fun y z h => by omega)
/-- whatever is spared, the rows tell the debate D -/
def repM (σ : mS) (D : Deb) : Prop := ∀ m, repR (us σ 111 21 m) (maskD D m)
theorem repM.of {D : Deb} (h : repR σ D) : repM σ D := by
  intro m
  obtain ⟨h1, h2, h3, h4, h5, h6, h7, h8, h9, h10, h11⟩ := h
  refine ⟨h1, h2, h3, ?_, ?_, ?_, ?_, fun i hi j hj => ?_, fun i hi j hj => ?_, fun i hi j hj => ?_, h11⟩
  · simp [us_at]; exact h4
  · simp [us_at]; exact h5
  · simp [us_at]; exact h6
  · rw [us_at, if_pos ⟨rfl, rfl⟩]; rfl
  · rw [us_at, if_neg (by omega)]; exact h8 i hi j hj
  · rw [us_at, if_neg (by omega)]; exact h9 i hi j hj
  · rw [us_at, if_neg (by omega)]; exact h10 i hi j hj
theorem repM.tr {D : Deb} {s : mS} (h : repM σ D) (f : fW wSp σ s) : repM s D := by
  intro m
  have f1 : ∀ y z, ¬ ((y = 111 ∧ (28 ≤ z ∧ z ≤ 31)) ∨ (128 ≤ y ∧ y ≤ 142)) → (us s 111 21 m).1 y z = (us σ 111 21 m).1 y z := by
    intro y z hyz
    rw [us_at, us_at]
    by_cases e : y = 111 ∧ z = 21
    · rw [if_pos e, if_pos e]
    · rw [if_neg e, if_neg e]; exact f.at (by omega)
  obtain ⟨h1, h2, h3, h4, h5, h6, h7, h8, h9, h10, h11⟩ := h m
  exact ⟨h1, h2, h3, (f1 _ _ (by omega)).trans h4, (f1 _ _ (by omega)).trans h5, (f1 _ _ (by omega)).trans h6, (f1 _ _ (by omega)).trans h7, fun i hi j hj => (f1 _ _ (by omega)).trans (h8 i hi j hj), fun i hi j hj => (f1 _ _ (by omega)).trans (h9 i hi j hj), fun i hi j hj => (f1 _ _ (by omega)).trans (h10 i hi j hj), h11⟩
theorem dX11_isSpared_0 : decode cX11_isSpared 0 = .ok (.aload_n 0, 1) := by decide +kernel
theorem dX11_isSpared_1 : decode cX11_isSpared 1 = .ok (.iload_n 1, 1) := by decide +kernel
theorem dX11_isSpared_2 : decode cX11_isSpared 2 = .ok (.putfield 223, 3) := by decide +kernel
theorem dX11_isSpared_5 : decode cX11_isSpared 5 = .ok (.aload_n 0, 1) := by decide +kernel
theorem dX11_isSpared_6 : decode cX11_isSpared 6 = .ok (.invokevirtual 273, 3) := by decide +kernel
theorem dX11_isSpared_9 : decode cX11_isSpared 9 = .ok (.aload_n 0, 1) := by decide +kernel
theorem dX11_isSpared_10 : decode cX11_isSpared 10 = .ok (.invokevirtual 301, 3) := by decide +kernel
theorem dX11_isSpared_13 : decode cX11_isSpared 13 = .ok (.ifCond .ne 7, 3) := by decide +kernel
theorem dX11_isSpared_16 : decode cX11_isSpared 16 = .ok (.iconst 1, 1) := by decide +kernel
theorem dX11_isSpared_17 : decode cX11_isSpared 17 = .ok (.goto 4, 3) := by decide +kernel
theorem dX11_isSpared_20 : decode cX11_isSpared 20 = .ok (.iconst 0, 1) := by decide +kernel
theorem dX11_isSpared_21 : decode cX11_isSpared 21 = .ok (.ireturn, 1) := by decide +kernel
theorem dX11_spareBy_0 : decode cX11_spareBy 0 = .ok (.aload_n 0, 1) := by decide +kernel
theorem dX11_spareBy_1 : decode cX11_spareBy 1 = .ok (.invokevirtual 270, 3) := by decide +kernel
theorem dX11_spareBy_4 : decode cX11_spareBy 4 = .ok (.aload_n 0, 1) := by decide +kernel
theorem dX11_spareBy_5 : decode cX11_spareBy 5 = .ok (.iconst 0, 1) := by decide +kernel
theorem dX11_spareBy_6 : decode cX11_spareBy 6 = .ok (.invokevirtual 325, 3) := by decide +kernel
theorem dX11_spareBy_9 : decode cX11_spareBy 9 = .ok (.ifCond .eq 5, 3) := by decide +kernel
theorem dX11_spareBy_12 : decode cX11_spareBy 12 = .ok (.iconst 0, 1) := by decide +kernel
theorem dX11_spareBy_13 : decode cX11_spareBy 13 = .ok (.ireturn, 1) := by decide +kernel
theorem dX11_spareBy_14 : decode cX11_spareBy 14 = .ok (.iconst 0, 1) := by decide +kernel
theorem dX11_spareBy_15 : decode cX11_spareBy 15 = .ok (.istore_n 1, 1) := by decide +kernel
theorem dX11_spareBy_16 : decode cX11_spareBy 16 = .ok (.iload_n 1, 1) := by decide +kernel
theorem dX11_spareBy_17 : decode cX11_spareBy 17 = .ok (.aload_n 0, 1) := by decide +kernel
theorem dX11_spareBy_18 : decode cX11_spareBy 18 = .ok (.getfield 204, 3) := by decide +kernel
theorem dX11_spareBy_21 : decode cX11_spareBy 21 = .ok (.if_icmp .ge 28, 3) := by decide +kernel
theorem dX11_spareBy_24 : decode cX11_spareBy 24 = .ok (.aload_n 0, 1) := by decide +kernel
theorem dX11_spareBy_25 : decode cX11_spareBy 25 = .ok (.getfield 100, 3) := by decide +kernel
theorem dX11_spareBy_28 : decode cX11_spareBy 28 = .ok (.iconst 0, 1) := by decide +kernel
theorem dX11_spareBy_29 : decode cX11_spareBy 29 = .ok (.iload_n 1, 1) := by decide +kernel
theorem dX11_spareBy_30 : decode cX11_spareBy 30 = .ok (.iastore, 1) := by decide +kernel
theorem dX11_spareBy_31 : decode cX11_spareBy 31 = .ok (.aload_n 0, 1) := by decide +kernel
theorem dX11_spareBy_32 : decode cX11_spareBy 32 = .ok (.iconst 1, 1) := by decide +kernel
theorem dX11_spareBy_33 : decode cX11_spareBy 33 = .ok (.iload_n 1, 1) := by decide +kernel
theorem dX11_spareBy_34 : decode cX11_spareBy 34 = .ok (.ishl, 1) := by decide +kernel
theorem dX11_spareBy_35 : decode cX11_spareBy 35 = .ok (.invokevirtual 325, 3) := by decide +kernel
theorem dX11_spareBy_38 : decode cX11_spareBy 38 = .ok (.ifCond .eq 5, 3) := by decide +kernel
theorem dX11_spareBy_41 : decode cX11_spareBy 41 = .ok (.iconst 1, 1) := by decide +kernel
theorem dX11_spareBy_42 : decode cX11_spareBy 42 = .ok (.ireturn, 1) := by decide +kernel
theorem dX11_spareBy_43 : decode cX11_spareBy 43 = .ok (.iinc 1 1, 3) := by decide +kernel
theorem dX11_spareBy_46 : decode cX11_spareBy 46 = .ok (.goto (-30), 3) := by decide +kernel
theorem dX11_spareBy_49 : decode cX11_spareBy 49 = .ok (.iconst 0, 1) := by decide +kernel
theorem dX11_spareBy_50 : decode cX11_spareBy 50 = .ok (.istore_n 1, 1) := by decide +kernel
theorem dX11_spareBy_51 : decode cX11_spareBy 51 = .ok (.iload_n 1, 1) := by decide +kernel
theorem dX11_spareBy_52 : decode cX11_spareBy 52 = .ok (.aload_n 0, 1) := by decide +kernel
theorem dX11_spareBy_53 : decode cX11_spareBy 53 = .ok (.getfield 204, 3) := by decide +kernel
theorem dX11_spareBy_56 : decode cX11_spareBy 56 = .ok (.if_icmp .ge 57, 3) := by decide +kernel
theorem dX11_spareBy_59 : decode cX11_spareBy 59 = .ok (.iload_n 1, 1) := by decide +kernel
theorem dX11_spareBy_60 : decode cX11_spareBy 60 = .ok (.iconst 1, 1) := by decide +kernel
theorem dX11_spareBy_61 : decode cX11_spareBy 61 = .ok (.iadd, 1) := by decide +kernel
theorem dX11_spareBy_62 : decode cX11_spareBy 62 = .ok (.istore_n 2, 1) := by decide +kernel
theorem dX11_spareBy_63 : decode cX11_spareBy 63 = .ok (.iload_n 2, 1) := by decide +kernel
theorem dX11_spareBy_64 : decode cX11_spareBy 64 = .ok (.aload_n 0, 1) := by decide +kernel
theorem dX11_spareBy_65 : decode cX11_spareBy 65 = .ok (.getfield 204, 3) := by decide +kernel
theorem dX11_spareBy_68 : decode cX11_spareBy 68 = .ok (.if_icmp .ge 39, 3) := by decide +kernel
theorem dX11_spareBy_71 : decode cX11_spareBy 71 = .ok (.aload_n 0, 1) := by decide +kernel
theorem dX11_spareBy_72 : decode cX11_spareBy 72 = .ok (.getfield 100, 3) := by decide +kernel
theorem dX11_spareBy_75 : decode cX11_spareBy 75 = .ok (.iconst 0, 1) := by decide +kernel
theorem dX11_spareBy_76 : decode cX11_spareBy 76 = .ok (.iload_n 1, 1) := by decide +kernel
theorem dX11_spareBy_77 : decode cX11_spareBy 77 = .ok (.iastore, 1) := by decide +kernel
theorem dX11_spareBy_78 : decode cX11_spareBy 78 = .ok (.aload_n 0, 1) := by decide +kernel
theorem dX11_spareBy_79 : decode cX11_spareBy 79 = .ok (.getfield 100, 3) := by decide +kernel
theorem dX11_spareBy_82 : decode cX11_spareBy 82 = .ok (.iconst 1, 1) := by decide +kernel
theorem dX11_spareBy_83 : decode cX11_spareBy 83 = .ok (.iload_n 2, 1) := by decide +kernel
theorem dX11_spareBy_84 : decode cX11_spareBy 84 = .ok (.iastore, 1) := by decide +kernel
theorem dX11_spareBy_85 : decode cX11_spareBy 85 = .ok (.aload_n 0, 1) := by decide +kernel
theorem dX11_spareBy_86 : decode cX11_spareBy 86 = .ok (.iconst 1, 1) := by decide +kernel
theorem dX11_spareBy_87 : decode cX11_spareBy 87 = .ok (.iload_n 1, 1) := by decide +kernel
theorem dX11_spareBy_88 : decode cX11_spareBy 88 = .ok (.ishl, 1) := by decide +kernel
theorem dX11_spareBy_89 : decode cX11_spareBy 89 = .ok (.iconst 1, 1) := by decide +kernel
theorem dX11_spareBy_90 : decode cX11_spareBy 90 = .ok (.iload_n 2, 1) := by decide +kernel
theorem dX11_spareBy_91 : decode cX11_spareBy 91 = .ok (.ishl, 1) := by decide +kernel
theorem dX11_spareBy_92 : decode cX11_spareBy 92 = .ok (.ior, 1) := by decide +kernel
theorem dX11_spareBy_93 : decode cX11_spareBy 93 = .ok (.invokevirtual 325, 3) := by decide +kernel
theorem dX11_spareBy_96 : decode cX11_spareBy 96 = .ok (.ifCond .eq 5, 3) := by decide +kernel
theorem dX11_spareBy_99 : decode cX11_spareBy 99 = .ok (.iconst 2, 1) := by decide +kernel
theorem dX11_spareBy_100 : decode cX11_spareBy 100 = .ok (.ireturn, 1) := by decide +kernel
theorem dX11_spareBy_101 : decode cX11_spareBy 101 = .ok (.iinc 2 1, 3) := by decide +kernel
theorem dX11_spareBy_104 : decode cX11_spareBy 104 = .ok (.goto (-41), 3) := by decide +kernel
theorem dX11_spareBy_107 : decode cX11_spareBy 107 = .ok (.iinc 1 1, 3) := by decide +kernel
theorem dX11_spareBy_110 : decode cX11_spareBy 110 = .ok (.goto (-59), 3) := by decide +kernel
theorem dX11_spareBy_113 : decode cX11_spareBy 113 = .ok (.iconst (-1), 1) := by decide +kernel
theorem dX11_spareBy_114 : decode cX11_spareBy 114 = .ok (.ireturn, 1) := by decide +kernel
theorem dX11_ofRow_0 : decode cX11_ofRow 0 = .ok (.iload_n 2, 1) := by decide +kernel
theorem dX11_ofRow_1 : decode cX11_ofRow 1 = .ok (.iconst (-1), 1) := by decide +kernel
theorem dX11_ofRow_2 : decode cX11_ofRow 2 = .ok (.if_icmp .ne 7, 3) := by decide +kernel
theorem dX11_ofRow_5 : decode cX11_ofRow 5 = .ok (.iload_n 1, 1) := by decide +kernel
theorem dX11_ofRow_6 : decode cX11_ofRow 6 = .ok (.goto 18, 3) := by decide +kernel
theorem dX11_ofRow_9 : decode cX11_ofRow 9 = .ok (.iload_n 2, 1) := by decide +kernel
theorem dX11_ofRow_10 : decode cX11_ofRow 10 = .ok (.iload_n 1, 1) := by decide +kernel
theorem dX11_ofRow_11 : decode cX11_ofRow 11 = .ok (.if_icmp .ge 12, 3) := by decide +kernel
theorem dX11_ofRow_14 : decode cX11_ofRow 14 = .ok (.aload_n 0, 1) := by decide +kernel
theorem dX11_ofRow_15 : decode cX11_ofRow 15 = .ok (.getfield 100, 3) := by decide +kernel
theorem dX11_ofRow_18 : decode cX11_ofRow 18 = .ok (.iload_n 2, 1) := by decide +kernel
theorem dX11_ofRow_19 : decode cX11_ofRow 19 = .ok (.iaload, 1) := by decide +kernel
theorem dX11_ofRow_20 : decode cX11_ofRow 20 = .ok (.goto 4, 3) := by decide +kernel
theorem dX11_ofRow_23 : decode cX11_ofRow 23 = .ok (.iconst (-1), 1) := by decide +kernel
theorem dX11_ofRow_24 : decode cX11_ofRow 24 = .ok (.ireturn, 1) := by decide +kernel
theorem dX11_isSeen_0 : decode cX11_isSeen 0 = .ok (.aload_n 0, 1) := by decide +kernel
theorem dX11_isSeen_1 : decode cX11_isSeen 1 = .ok (.invokevirtual 273, 3) := by decide +kernel
theorem dX11_isSeen_4 : decode cX11_isSeen 4 = .ok (.iconst 1, 1) := by decide +kernel
theorem dX11_isSeen_5 : decode cX11_isSeen 5 = .ok (.istore_n 1, 1) := by decide +kernel
theorem dX11_isSeen_6 : decode cX11_isSeen 6 = .ok (.iconst 0, 1) := by decide +kernel
theorem dX11_isSeen_7 : decode cX11_isSeen 7 = .ok (.istore_n 2, 1) := by decide +kernel
theorem dX11_isSeen_8 : decode cX11_isSeen 8 = .ok (.iload_n 2, 1) := by decide +kernel
theorem dX11_isSeen_9 : decode cX11_isSeen 9 = .ok (.aload_n 0, 1) := by decide +kernel
theorem dX11_isSeen_10 : decode cX11_isSeen 10 = .ok (.getfield 334, 3) := by decide +kernel
theorem dX11_isSeen_13 : decode cX11_isSeen 13 = .ok (.if_icmp .ge 79, 3) := by decide +kernel
theorem dX11_isSeen_16 : decode cX11_isSeen 16 = .ok (.iload_n 1, 1) := by decide +kernel
theorem dX11_isSeen_17 : decode cX11_isSeen 17 = .ok (.ifCond .eq 75, 3) := by decide +kernel
theorem dX11_isSeen_20 : decode cX11_isSeen 20 = .ok (.bipush 8, 2) := by decide +kernel
theorem dX11_isSeen_22 : decode cX11_isSeen 22 = .ok (.aload_n 0, 1) := by decide +kernel
theorem dX11_isSeen_23 : decode cX11_isSeen 23 = .ok (.getfield 103, 3) := by decide +kernel
theorem dX11_isSeen_26 : decode cX11_isSeen 26 = .ok (.iload_n 2, 1) := by decide +kernel
theorem dX11_isSeen_27 : decode cX11_isSeen 27 = .ok (.iaload, 1) := by decide +kernel
theorem dX11_isSeen_28 : decode cX11_isSeen 28 = .ok (.imul, 1) := by decide +kernel
theorem dX11_isSeen_29 : decode cX11_isSeen 29 = .ok (.aload_n 0, 1) := by decide +kernel
theorem dX11_isSeen_30 : decode cX11_isSeen 30 = .ok (.getfield 106, 3) := by decide +kernel
theorem dX11_isSeen_33 : decode cX11_isSeen 33 = .ok (.iload_n 2, 1) := by decide +kernel
theorem dX11_isSeen_34 : decode cX11_isSeen 34 = .ok (.iaload, 1) := by decide +kernel
theorem dX11_isSeen_35 : decode cX11_isSeen 35 = .ok (.iadd, 1) := by decide +kernel
theorem dX11_isSeen_36 : decode cX11_isSeen 36 = .ok (.istore_n 3, 1) := by decide +kernel
theorem dX11_isSeen_37 : decode cX11_isSeen 37 = .ok (.aload_n 0, 1) := by decide +kernel
theorem dX11_isSeen_38 : decode cX11_isSeen 38 = .ok (.getfield 106, 3) := by decide +kernel
theorem dX11_isSeen_41 : decode cX11_isSeen 41 = .ok (.iload_n 2, 1) := by decide +kernel
theorem dX11_isSeen_42 : decode cX11_isSeen 42 = .ok (.iaload, 1) := by decide +kernel
theorem dX11_isSeen_43 : decode cX11_isSeen 43 = .ok (.aload_n 0, 1) := by decide +kernel
theorem dX11_isSeen_44 : decode cX11_isSeen 44 = .ok (.getfield 161, 3) := by decide +kernel
theorem dX11_isSeen_47 : decode cX11_isSeen 47 = .ok (.if_icmp .ge 37, 3) := by decide +kernel
theorem dX11_isSeen_50 : decode cX11_isSeen 50 = .ok (.aload_n 0, 1) := by decide +kernel
theorem dX11_isSeen_51 : decode cX11_isSeen 51 = .ok (.getfield 76, 3) := by decide +kernel
theorem dX11_isSeen_54 : decode cX11_isSeen 54 = .ok (.iload_n 3, 1) := by decide +kernel
theorem dX11_isSeen_55 : decode cX11_isSeen 55 = .ok (.iaload, 1) := by decide +kernel
theorem dX11_isSeen_56 : decode cX11_isSeen 56 = .ok (.aload_n 0, 1) := by decide +kernel
theorem dX11_isSeen_57 : decode cX11_isSeen 57 = .ok (.getfield 109, 3) := by decide +kernel
theorem dX11_isSeen_60 : decode cX11_isSeen 60 = .ok (.iload_n 2, 1) := by decide +kernel
theorem dX11_isSeen_61 : decode cX11_isSeen 61 = .ok (.iaload, 1) := by decide +kernel
theorem dX11_isSeen_62 : decode cX11_isSeen 62 = .ok (.if_icmp .ne 22, 3) := by decide +kernel
theorem dX11_isSeen_65 : decode cX11_isSeen 65 = .ok (.aload_n 0, 1) := by decide +kernel
theorem dX11_isSeen_66 : decode cX11_isSeen 66 = .ok (.getfield 79, 3) := by decide +kernel
theorem dX11_isSeen_69 : decode cX11_isSeen 69 = .ok (.iload_n 3, 1) := by decide +kernel
theorem dX11_isSeen_70 : decode cX11_isSeen 70 = .ok (.iaload, 1) := by decide +kernel
theorem dX11_isSeen_71 : decode cX11_isSeen 71 = .ok (.aload_n 0, 1) := by decide +kernel
theorem dX11_isSeen_72 : decode cX11_isSeen 72 = .ok (.getfield 112, 3) := by decide +kernel
theorem dX11_isSeen_75 : decode cX11_isSeen 75 = .ok (.iload_n 2, 1) := by decide +kernel
theorem dX11_isSeen_76 : decode cX11_isSeen 76 = .ok (.iaload, 1) := by decide +kernel
theorem dX11_isSeen_77 : decode cX11_isSeen 77 = .ok (.if_icmp .ne 7, 3) := by decide +kernel
theorem dX11_isSeen_80 : decode cX11_isSeen 80 = .ok (.iconst 1, 1) := by decide +kernel
theorem dX11_isSeen_81 : decode cX11_isSeen 81 = .ok (.goto 4, 3) := by decide +kernel
theorem dX11_isSeen_84 : decode cX11_isSeen 84 = .ok (.iconst 0, 1) := by decide +kernel
theorem dX11_isSeen_85 : decode cX11_isSeen 85 = .ok (.istore_n 1, 1) := by decide +kernel
theorem dX11_isSeen_86 : decode cX11_isSeen 86 = .ok (.iinc 2 1, 3) := by decide +kernel
theorem dX11_isSeen_89 : decode cX11_isSeen 89 = .ok (.goto (-81), 3) := by decide +kernel
theorem dX11_isSeen_92 : decode cX11_isSeen 92 = .ok (.iload_n 1, 1) := by decide +kernel
theorem dX11_isSeen_93 : decode cX11_isSeen 93 = .ok (.ireturn, 1) := by decide +kernel
theorem dX11_neverNow_0 : decode cX11_neverNow 0 = .ok (.aload_n 0, 1) := by decide +kernel
theorem dX11_neverNow_1 : decode cX11_neverNow 1 = .ok (.invokevirtual 270, 3) := by decide +kernel
theorem dX11_neverNow_4 : decode cX11_neverNow 4 = .ok (.iconst 0, 1) := by decide +kernel
theorem dX11_neverNow_5 : decode cX11_neverNow 5 = .ok (.istore_n 1, 1) := by decide +kernel
theorem dX11_neverNow_6 : decode cX11_neverNow 6 = .ok (.iconst 0, 1) := by decide +kernel
theorem dX11_neverNow_7 : decode cX11_neverNow 7 = .ok (.istore_n 2, 1) := by decide +kernel
theorem dX11_neverNow_8 : decode cX11_neverNow 8 = .ok (.iload_n 2, 1) := by decide +kernel
theorem dX11_neverNow_9 : decode cX11_neverNow 9 = .ok (.aload_n 0, 1) := by decide +kernel
theorem dX11_neverNow_10 : decode cX11_neverNow 10 = .ok (.getfield 204, 3) := by decide +kernel
theorem dX11_neverNow_13 : decode cX11_neverNow 13 = .ok (.if_icmp .ge 33, 3) := by decide +kernel
theorem dX11_neverNow_16 : decode cX11_neverNow 16 = .ok (.aload_n 0, 1) := by decide +kernel
theorem dX11_neverNow_17 : decode cX11_neverNow 17 = .ok (.iconst 1, 1) := by decide +kernel
theorem dX11_neverNow_18 : decode cX11_neverNow 18 = .ok (.iload_n 2, 1) := by decide +kernel
theorem dX11_neverNow_19 : decode cX11_neverNow 19 = .ok (.ishl, 1) := by decide +kernel
theorem dX11_neverNow_20 : decode cX11_neverNow 20 = .ok (.putfield 223, 3) := by decide +kernel
theorem dX11_neverNow_23 : decode cX11_neverNow 23 = .ok (.iload_n 1, 1) := by decide +kernel
theorem dX11_neverNow_24 : decode cX11_neverNow 24 = .ok (.aload_n 0, 1) := by decide +kernel
theorem dX11_neverNow_25 : decode cX11_neverNow 25 = .ok (.invokevirtual 337, 3) := by decide +kernel
theorem dX11_neverNow_28 : decode cX11_neverNow 28 = .ok (.ifCond .eq 9, 3) := by decide +kernel
theorem dX11_neverNow_31 : decode cX11_neverNow 31 = .ok (.iconst 1, 1) := by decide +kernel
theorem dX11_neverNow_32 : decode cX11_neverNow 32 = .ok (.iload_n 2, 1) := by decide +kernel
theorem dX11_neverNow_33 : decode cX11_neverNow 33 = .ok (.ishl, 1) := by decide +kernel
theorem dX11_neverNow_34 : decode cX11_neverNow 34 = .ok (.goto 4, 3) := by decide +kernel
theorem dX11_neverNow_37 : decode cX11_neverNow 37 = .ok (.iconst 0, 1) := by decide +kernel
theorem dX11_neverNow_38 : decode cX11_neverNow 38 = .ok (.ior, 1) := by decide +kernel
theorem dX11_neverNow_39 : decode cX11_neverNow 39 = .ok (.istore_n 1, 1) := by decide +kernel
theorem dX11_neverNow_40 : decode cX11_neverNow 40 = .ok (.iinc 2 1, 3) := by decide +kernel
theorem dX11_neverNow_43 : decode cX11_neverNow 43 = .ok (.goto (-35), 3) := by decide +kernel
theorem dX11_neverNow_46 : decode cX11_neverNow 46 = .ok (.iload_n 1, 1) := by decide +kernel
theorem dX11_neverNow_47 : decode cX11_neverNow 47 = .ok (.ireturn, 1) := by decide +kernel
theorem dX11_sortsBy_0 : decode cX11_sortsBy 0 = .ok (.aload_n 0, 1) := by decide +kernel
theorem dX11_sortsBy_1 : decode cX11_sortsBy 1 = .ok (.invokevirtual 270, 3) := by decide +kernel
theorem dX11_sortsBy_4 : decode cX11_sortsBy 4 = .ok (.aload_n 0, 1) := by decide +kernel
theorem dX11_sortsBy_5 : decode cX11_sortsBy 5 = .ok (.getfield 16, 3) := by decide +kernel
theorem dX11_sortsBy_8 : decode cX11_sortsBy 8 = .ok (.iload_n 1, 1) := by decide +kernel
theorem dX11_sortsBy_9 : decode cX11_sortsBy 9 = .ok (.iaload, 1) := by decide +kernel
theorem dX11_sortsBy_10 : decode cX11_sortsBy 10 = .ok (.istore_n 2, 1) := by decide +kernel
theorem dX11_sortsBy_11 : decode cX11_sortsBy 11 = .ok (.iconst 0, 1) := by decide +kernel
theorem dX11_sortsBy_12 : decode cX11_sortsBy 12 = .ok (.istore_n 3, 1) := by decide +kernel
theorem dX11_sortsBy_13 : decode cX11_sortsBy 13 = .ok (.iconst 0, 1) := by decide +kernel
theorem dX11_sortsBy_14 : decode cX11_sortsBy 14 = .ok (.istore 4, 2) := by decide +kernel
theorem dX11_sortsBy_16 : decode cX11_sortsBy 16 = .ok (.iload 4, 2) := by decide +kernel
theorem dX11_sortsBy_18 : decode cX11_sortsBy 18 = .ok (.iconst 3, 1) := by decide +kernel
theorem dX11_sortsBy_19 : decode cX11_sortsBy 19 = .ok (.if_icmp .ge 35, 3) := by decide +kernel
theorem dX11_sortsBy_22 : decode cX11_sortsBy 22 = .ok (.aload_n 0, 1) := by decide +kernel
theorem dX11_sortsBy_23 : decode cX11_sortsBy 23 = .ok (.getfield 16, 3) := by decide +kernel
theorem dX11_sortsBy_26 : decode cX11_sortsBy 26 = .ok (.iload_n 1, 1) := by decide +kernel
theorem dX11_sortsBy_27 : decode cX11_sortsBy 27 = .ok (.iload 4, 2) := by decide +kernel
theorem dX11_sortsBy_29 : decode cX11_sortsBy 29 = .ok (.iastore, 1) := by decide +kernel
theorem dX11_sortsBy_30 : decode cX11_sortsBy 30 = .ok (.iload_n 3, 1) := by decide +kernel
theorem dX11_sortsBy_31 : decode cX11_sortsBy 31 = .ok (.aload_n 0, 1) := by decide +kernel
theorem dX11_sortsBy_32 : decode cX11_sortsBy 32 = .ok (.invokevirtual 337, 3) := by decide +kernel
theorem dX11_sortsBy_35 : decode cX11_sortsBy 35 = .ok (.ifCond .eq 10, 3) := by decide +kernel
theorem dX11_sortsBy_38 : decode cX11_sortsBy 38 = .ok (.iconst 1, 1) := by decide +kernel
theorem dX11_sortsBy_39 : decode cX11_sortsBy 39 = .ok (.iload 4, 2) := by decide +kernel
theorem dX11_sortsBy_41 : decode cX11_sortsBy 41 = .ok (.ishl, 1) := by decide +kernel
theorem dX11_sortsBy_42 : decode cX11_sortsBy 42 = .ok (.goto 4, 3) := by decide +kernel
theorem dX11_sortsBy_45 : decode cX11_sortsBy 45 = .ok (.iconst 0, 1) := by decide +kernel
theorem dX11_sortsBy_46 : decode cX11_sortsBy 46 = .ok (.ior, 1) := by decide +kernel
theorem dX11_sortsBy_47 : decode cX11_sortsBy 47 = .ok (.istore_n 3, 1) := by decide +kernel
theorem dX11_sortsBy_48 : decode cX11_sortsBy 48 = .ok (.iinc 4 1, 3) := by decide +kernel
theorem dX11_sortsBy_51 : decode cX11_sortsBy 51 = .ok (.goto (-35), 3) := by decide +kernel
theorem dX11_sortsBy_54 : decode cX11_sortsBy 54 = .ok (.aload_n 0, 1) := by decide +kernel
theorem dX11_sortsBy_55 : decode cX11_sortsBy 55 = .ok (.getfield 16, 3) := by decide +kernel
theorem dX11_sortsBy_58 : decode cX11_sortsBy 58 = .ok (.iload_n 1, 1) := by decide +kernel
theorem dX11_sortsBy_59 : decode cX11_sortsBy 59 = .ok (.iload_n 2, 1) := by decide +kernel
theorem dX11_sortsBy_60 : decode cX11_sortsBy 60 = .ok (.iastore, 1) := by decide +kernel
theorem dX11_sortsBy_61 : decode cX11_sortsBy 61 = .ok (.iload_n 3, 1) := by decide +kernel
theorem dX11_sortsBy_62 : decode cX11_sortsBy 62 = .ok (.ireturn, 1) := by decide +kernel
theorem c_isSpared (hd : 7 ≤ d) (D : Deb) (h : repM σ D) (m : Int32) : mMet G l d kX11_isSpared [.ref 111, .int m] σ (qIP (fun r s => r = bI (spOK D m) ∧ fW wSq σ s)) := by
  refine mMet.of cm_X11_isSpared rfl (Nat.le_of_ble_eq_true rfl) rfl (fun v1 σ1 h => by obtain ⟨r, h1, h2, -⟩ := h; rw [h1, h2]; exact bI_nar _) ?_
  refine m_aload_n dX11_isSpared_0 0 rfl ?_
  refine m_iload_n dX11_isSpared_1 1 rfl ?_
  refine m_putI 21 dX11_isSpared_2 fw_X11_223_10 rfl (by decide) rfl rfl (by first | assumption | rfl) ?_
  refine m_aload_n dX11_isSpared_5 0 rfl ?_
  refine m_callV (As := []) dX11_isSpared_6 cv_X11_273 (by first | assumption | rfl) (by decide) (by omega) rfl rfl (Nat.le_of_ble_eq_true rfl) (c_runsD (d := d - 1) (by omega) _ (h m)) (fun v1 σ1 hv1 => ?_)
  refine m_qVP hv1 (fun hz => ?_)
  clear hv1 v1
  rename mS => s2
  obtain ⟨z1, z2⟩ := hz
  have r2 := (h m).run z2
  have f2 : fW wSq σ s2 := (fW.us (by omega) fW.rf).tr (z2.mono (fun y z h => by omega))
  refine m_aload_n dX11_isSpared_9 0 rfl ?_
  refine m_callV (As := []) dX11_isSpared_10 cv_X11_301 (by first | assumption | rfl) (by decide) (by omega) rfl rfl (Nat.le_of_ble_eq_true rfl) (c_meekNow (d := d - 1) _ r2.1 r2.2.2.2.1) (fun v1 σ1 hv1 => ?_)
  refine m_qI hv1 ?_
  clear hv1 v1 σ1
  refine m_sel (pcJ := 21) ?_ (fun kt0 kf0 => m_if_ne dX11_isSpared_13 20 (by decide) (fun h => (m_iconst (v := 0) dX11_isSpared_20 (by decide) (kf0 h))) (fun h => (m_iconst (v := 1) dX11_isSpared_16 (by decide) (m_goto dX11_isSpared_17 21 (by decide) (kt0 h)))))
  refine m_ireturn dX11_isSpared_21 ⟨_, rfl, ?_, f2⟩
  have e : meekP (s2.1 132) (s2.1 133) (maskD D m).1.1 = meekD (maskD D m) := meekP_cong _ (fun k hk => ⟨(z1.2.1 k hk).2.2.2.2.1, (z1.2.1 k hk).2.2.2.2.2⟩)
  rw [e]
  unfold spOK
  by_cases q : meekD (maskD D m) = 0
  · rw [if_pos q, decide_eq_true q]; rfl
  · rw [if_neg q, decide_eq_false q]; rfl
theorem c_spareBy (hd : 8 ≤ d) (L0 L1 e : Nat) (ok : okR σ L0 L1 e) : mMet G l d kX11_spareBy [.ref 111] σ (qIP (fun r s => r = (spR (Dt σ L0 L1 e)).1 ∧ (r = 1 → s.1 142 0 = (spR (Dt σ L0 L1 e)).2.1) ∧ (r = 2 → s.1 142 0 = (spR (Dt σ L0 L1 e)).2.1 ∧ s.1 142 1 = (spR (Dt σ L0 L1 e)).2.2) ∧ fW wScr σ s)) := by
  have he8 : (Dt σ L0 L1 e).2.2.1.1 ≤ 8 := ok.2.2.2.2.2
  have hev : σ.1 111 12 = nI (Dt σ L0 L1 e).2.2.1.1 := ok.2.2.2.2.1
  refine mMet.of cm_X11_spareBy rfl (Nat.le_of_ble_eq_true rfl) rfl (fun v1 σ1 h => by obtain ⟨r, h1, -⟩ := h; rw [h1]; rfl) ?_
  refine m_aload_n dX11_spareBy_0 0 rfl ?_
  refine m_callV (As := []) dX11_spareBy_1 cv_X11_270 (by first | assumption | rfl) (by decide) (by omega) rfl rfl (Nat.le_of_ble_eq_true rfl) (c_asTold (d := d - 1) (by omega) L0 L1 e ok) (fun v1 σ1 hv1 => ?_)
  refine m_qVP hv1 (fun ha => ?_)
  clear hv1 v1
  rename mS => s0
  obtain ⟨a1, a2, a3⟩ := ha
  generalize Dt σ L0 L1 e = D at *
  have q12 : s0.1 111 12 = nI D.2.2.1.1 := (a3.at (by omega)).trans hev
  have m0 := repM.of a1
  have fin : ∀ s, fW wSp s0 s → fW wScr σ s := fun s f => a3.tr (f.mono (fun y z h => by omega))
  refine m_aload_n dX11_spareBy_4 0 rfl ?_
  refine m_iconst (v := 0) dX11_spareBy_5 (by decide) ?_
  refine m_callV (As := [_]) dX11_spareBy_6 cv_X11_325 (by first | assumption | rfl) (by decide) (by omega) rfl rfl (Nat.le_of_ble_eq_true rfl) (c_isSpared (d := d - 1) (by omega) D m0 0) (fun v1 σ1 hv1 => ?_)
  refine m_qIP hv1 (fun r1 hb => ?_)
  clear hv1 v1
  rename mS => s1
  obtain ⟨rfl, b1⟩ := hb
  refine m_if_eq dX11_spareBy_9 14 (by decide) (fun h9 => ?_) (fun h9 => ?_)
  · have n0 : ¬ spOK D 0 = true := by rw [bI_eq.mp h9]; decide
    refine m_iconst (v := 0) dX11_spareBy_14 (by decide) ?_
    refine m_istore_n (ls1 := [(1, _), (0, _)]) dX11_spareBy_15 (by decide) rfl ?_
    -- single events
    have K2 : sp1 D D.2.2.1.1 0 = none → ∀ s, fW wSp s0 s → mW G l d kX11_spareBy 49 [(1, .int (nI D.2.2.1.1)), (0, .ref 111)] [] s (qIP (fun r s => r = (spR D).1 ∧ (r = 1 → s.1 142 0 = (spR D).2.1) ∧ (r = 2 → s.1 142 0 = (spR D).2.1 ∧ s.1 142 1 = (spR D).2.2) ∧ fW wScr σ s)) := by
      intro hn1 s f
      refine m_iconst (v := 0) dX11_spareBy_49 (by decide) ?_
      refine m_istore_n (ls1 := [(1, _), (0, _)]) dX11_spareBy_50 (by decide) rfl ?_
      have key : ∀ F a (s : mS), F + a = D.2.2.1.1 → sp2 D D.2.2.1.1 D.2.2.1.1 0 = sp2 D D.2.2.1.1 F a → fW wSp s0 s → mW G l d kX11_spareBy 51 [(1, .int (nI a)), (0, .ref 111)] [] s (qIP (fun r s => r = (spR D).1 ∧ (r = 1 → s.1 142 0 = (spR D).2.1) ∧ (r = 2 → s.1 142 0 = (spR D).2.1 ∧ s.1 142 1 = (spR D).2.2) ∧ fW wScr σ s)) := by
        intro F
        induction F with
        | zero =>
          intro a s hFa hsp f
          have hl : s.1 111 12 = nI D.2.2.1.1 := (f.at (by omega)).trans q12
          refine m_iload_n dX11_spareBy_51 0 rfl ?_
          refine m_aload_n dX11_spareBy_52 1 rfl ?_
          refine m_getI 12 dX11_spareBy_53 fl_X11_204_10 rfl (by decide) (by first | assumption | rfl) ?_
          refine m_icmp_ge dX11_spareBy_56 113 (by decide) (fun h => ?_) (fun h => ?_)
          · refine m_iconst (v := -1) dX11_spareBy_113 (by decide) ?_
            have hR : spR D = (-1, 0, 0) := by unfold spR; rw [if_neg n0, hn1, hsp]; rfl
            refine m_ireturn dX11_spareBy_114 ⟨_, rfl, ?_, fun q => absurd q (by decide), fun q => absurd q (by decide), fin s f⟩
            rw [hR]
          · exact (ge_yes h (by rw [hl]; congr 1; omega)).elim
        | succ F ih =>
          intro a s hFa hsp f
          have hl : s.1 111 12 = nI D.2.2.1.1 := (f.at (by omega)).trans q12
          refine m_iload_n dX11_spareBy_51 0 rfl ?_
          refine m_aload_n dX11_spareBy_52 1 rfl ?_
          refine m_getI 12 dX11_spareBy_53 fl_X11_204_10 rfl (by decide) (by first | assumption | rfl) ?_
          refine m_icmp_ge dX11_spareBy_56 113 (by decide) (fun h => ?_) (fun h => ?_)
          · exact (ge_no hl h rfl (by omega) (by omega)).elim
          · clear h
            refine m_iload_n dX11_spareBy_59 0 rfl ?_
            refine m_iconst (v := 1) dX11_spareBy_60 (by decide) ?_
            refine m_iadd dX11_spareBy_61 ?_
            refine mW.top (w := nI (a + 1)) (nI_1 a) ?_
            refine m_istore_n (ls1 := [(2, _), (1, _), (0, _)]) dX11_spareBy_62 (by decide) rfl ?_
            have inner : ∀ H b (s : mS), H + b = D.2.2.1.1 → a < b → sp2i D a (D.2.2.1.1 - (a + 1)) (a + 1) = sp2i D a H b → fW wSp s0 s → mW G l d kX11_spareBy 63 [(2, .int (nI b)), (1, .int (nI a)), (0, .ref 111)] [] s (qIP (fun r s => r = (spR D).1 ∧ (r = 1 → s.1 142 0 = (spR D).2.1) ∧ (r = 2 → s.1 142 0 = (spR D).2.1 ∧ s.1 142 1 = (spR D).2.2) ∧ fW wScr σ s)) := by
              intro H
              induction H with
              | zero =>
                intro b s hHb hab hi f
                have hl : s.1 111 12 = nI D.2.2.1.1 := (f.at (by omega)).trans q12
                refine m_iload_n dX11_spareBy_63 0 rfl ?_
                refine m_aload_n dX11_spareBy_64 2 rfl ?_
                refine m_getI 12 dX11_spareBy_65 fl_X11_204_10 rfl (by decide) (by first | assumption | rfl) ?_
                refine m_icmp_ge dX11_spareBy_68 107 (by decide) (fun h => ?_) (fun h => ?_)
                · refine m_iinc (v := nI (a + 1)) (ls1 := [(1, _), (2, _), (0, _)]) dX11_spareBy_107 1 rfl (nI_1 a) (by decide) rfl ?_
                  refine m_goto dX11_spareBy_110 51 (by decide) ?_
                  refine mW.sub (ls1 := [(1, _), (0, _)]) [0, 2] rfl ?_
                  refine ih (a + 1) s (by omega) ?_ f
                  rw [hsp, sp2, hi]; rfl
                · exact (ge_yes h (by rw [hl]; congr 1; omega)).elim
              | succ H ihH =>
                intro b s hHb hab hi f
                have hl : s.1 111 12 = nI D.2.2.1.1 := (f.at (by omega)).trans q12
                refine m_iload_n dX11_spareBy_63 0 rfl ?_
                refine m_aload_n dX11_spareBy_64 2 rfl ?_
                refine m_getI 12 dX11_spareBy_65 fl_X11_204_10 rfl (by decide) (by first | assumption | rfl) ?_
                refine m_icmp_ge dX11_spareBy_68 107 (by decide) (fun h => ?_) (fun h => ?_)
                · exact (ge_no hl h rfl (by omega) (by omega)).elim
                · clear h
                  refine m_aload_n dX11_spareBy_71 2 rfl ?_
                  refine m_getR 40 142 dX11_spareBy_72 fl_X11_100_10 rfl (by decide) rfl (by first | assumption | rfl) ?_
                  refine m_iconst (v := 0) dX11_spareBy_75 (by decide) ?_
                  refine m_iload_n dX11_spareBy_76 1 rfl ?_
                  refine m_iast dX11_spareBy_77 (by first | assumption | rfl) 0 rfl (by first | assumption | omega | decide) ?_
                  refine m_aload_n dX11_spareBy_78 2 rfl ?_
                  refine m_getR 40 142 dX11_spareBy_79 fl_X11_100_10 rfl (by decide) rfl (by first | assumption | rfl) ?_
                  refine m_iconst (v := 1) dX11_spareBy_82 (by decide) ?_
                  refine m_iload_n dX11_spareBy_83 0 rfl ?_
                  refine m_iast dX11_spareBy_84 (by first | assumption | rfl) 1 rfl (by first | assumption | omega | decide) ?_
                  refine m_aload_n dX11_spareBy_85 2 rfl ?_
                  refine m_iconst (v := 1) dX11_spareBy_86 (by decide) ?_
                  refine m_iload_n dX11_spareBy_87 1 rfl ?_
                  refine m_ishl dX11_spareBy_88 ?_
                  refine m_iconst (v := 1) dX11_spareBy_89 (by decide) ?_
                  refine m_iload_n dX11_spareBy_90 0 rfl ?_
                  refine m_ishl dX11_spareBy_91 ?_
                  refine m_ior dX11_spareBy_92 ?_
                  have f1 : fW wSp s0 (us (us s 142 0 (nI a)) 142 1 (nI b)) := fW.us (by omega) (fW.us (by omega) f)
                  refine m_callV (As := [_]) dX11_spareBy_93 cv_X11_325 (by first | assumption | rfl) (by decide) (by omega) rfl rfl (Nat.le_of_ble_eq_true rfl) (c_isSpared (d := d - 1) (by omega) D (m0.tr f1) (bit1 a ||| bit1 b)) (fun v1 σ1 hv1 => ?_)
                  refine m_qIP hv1 (fun r1 hc => ?_)
                  clear hv1 v1
                  rename mS => s3
                  obtain ⟨rfl, c1⟩ := hc
                  refine m_if_eq dX11_spareBy_96 101 (by decide) (fun h96 => ?_) (fun h96 => ?_)
                  · refine m_iinc (v := nI (b + 1)) (ls1 := [(2, _), (1, _), (0, _)]) dX11_spareBy_101 0 rfl (nI_1 b) (by decide) rfl ?_
                    refine m_goto dX11_spareBy_104 63 (by decide) ?_
                    refine ihH (b + 1) s3 (by omega) (by omega) ?_ (f1.tr (sqp c1))
                    rw [hi, sp2i, bI_eq.mp h96]; rfl
                  · refine m_iconst (v := 2) dX11_spareBy_99 (by decide) ?_
                    have hR : spR D = (2, nI a, nI b) := by
                      unfold spR
                      rw [if_neg n0, hn1, hsp, sp2, hi, sp2i, bI_ne.mp h96]; rfl
                    refine m_ireturn dX11_spareBy_100 ⟨_, rfl, ?_, fun q => absurd q (by decide), fun _ => ?_, fin s3 (f1.tr (sqp c1))⟩
                    · rw [hR]
                    · rw [hR, c1.at (y := 142) (z := 0) (by omega), c1.at (y := 142) (z := 1) (by omega)]; simp [us_at]
            exact inner (D.2.2.1.1 - (a + 1)) (a + 1) s (by omega) (by omega) rfl f
      exact key D.2.2.1.1 0 s (by omega) rfl f
    have key1 : ∀ F a (s : mS), F + a = D.2.2.1.1 → sp1 D D.2.2.1.1 0 = sp1 D F a → fW wSp s0 s → mW G l d kX11_spareBy 16 [(1, .int (nI a)), (0, .ref 111)] [] s (qIP (fun r s => r = (spR D).1 ∧ (r = 1 → s.1 142 0 = (spR D).2.1) ∧ (r = 2 → s.1 142 0 = (spR D).2.1 ∧ s.1 142 1 = (spR D).2.2) ∧ fW wScr σ s)) := by
      intro F
      induction F with
      | zero =>
        intro a s hFa hsp f
        have hl : s.1 111 12 = nI D.2.2.1.1 := (f.at (by omega)).trans q12
        refine m_iload_n dX11_spareBy_16 0 rfl ?_
        refine m_aload_n dX11_spareBy_17 1 rfl ?_
        refine m_getI 12 dX11_spareBy_18 fl_X11_204_10 rfl (by decide) (by first | assumption | rfl) ?_
        refine m_icmp_ge dX11_spareBy_21 49 (by decide) (fun h => ?_) (fun h => ?_)
        · have ea : a = D.2.2.1.1 := by omega
          subst ea
          exact K2 hsp s f
        · exact (ge_yes h (by rw [hl]; congr 1; omega)).elim
      | succ F ih =>
        intro a s hFa hsp f
        have hl : s.1 111 12 = nI D.2.2.1.1 := (f.at (by omega)).trans q12
        refine m_iload_n dX11_spareBy_16 0 rfl ?_
        refine m_aload_n dX11_spareBy_17 1 rfl ?_
        refine m_getI 12 dX11_spareBy_18 fl_X11_204_10 rfl (by decide) (by first | assumption | rfl) ?_
        refine m_icmp_ge dX11_spareBy_21 49 (by decide) (fun h => ?_) (fun h => ?_)
        · exact (ge_no hl h rfl (by omega) (by omega)).elim
        · clear h
          refine m_aload_n dX11_spareBy_24 1 rfl ?_
          refine m_getR 40 142 dX11_spareBy_25 fl_X11_100_10 rfl (by decide) rfl (by first | assumption | rfl) ?_
          refine m_iconst (v := 0) dX11_spareBy_28 (by decide) ?_
          refine m_iload_n dX11_spareBy_29 0 rfl ?_
          refine m_iast dX11_spareBy_30 (by first | assumption | rfl) 0 rfl (by first | assumption | omega | decide) ?_
          refine m_aload_n dX11_spareBy_31 1 rfl ?_
          refine m_iconst (v := 1) dX11_spareBy_32 (by decide) ?_
          refine m_iload_n dX11_spareBy_33 0 rfl ?_
          refine m_ishl dX11_spareBy_34 ?_
          have f1 : fW wSp s0 (us s 142 0 (nI a)) := fW.us (by omega) f
          refine m_callV (As := [_]) dX11_spareBy_35 cv_X11_325 (by first | assumption | rfl) (by decide) (by omega) rfl rfl (Nat.le_of_ble_eq_true rfl) (c_isSpared (d := d - 1) (by omega) D (m0.tr f1) (bit1 a)) (fun v1 σ1 hv1 => ?_)
          refine m_qIP hv1 (fun r1 hc => ?_)
          clear hv1 v1
          rename mS => s3
          obtain ⟨rfl, c1⟩ := hc
          refine m_if_eq dX11_spareBy_38 43 (by decide) (fun h38 => ?_) (fun h38 => ?_)
          · refine m_iinc (v := nI (a + 1)) (ls1 := [(1, _), (0, _)]) dX11_spareBy_43 0 rfl (nI_1 a) (by decide) rfl ?_
            refine m_goto dX11_spareBy_46 16 (by decide) ?_
            refine ih (a + 1) s3 (by omega) ?_ (f1.tr (sqp c1))
            rw [hsp, sp1, bI_eq.mp h38]; rfl
          · refine m_iconst (v := 1) dX11_spareBy_41 (by decide) ?_
            have hR : spR D = (1, nI a, 0) := by
              unfold spR
              rw [if_neg n0, hsp, sp1, bI_ne.mp h38]; rfl
            refine m_ireturn dX11_spareBy_42 ⟨_, rfl, ?_, fun _ => ?_, fun q => absurd q (by decide), fin s3 (f1.tr (sqp c1))⟩
            · rw [hR]
            · rw [hR, c1.at (y := 142) (z := 0) (by omega)]; simp [us_at]
    exact key1 D.2.2.1.1 0 s1 (by omega) rfl (sqp b1)
  · refine m_iconst (v := 0) dX11_spareBy_12 (by decide) ?_
    have hR : spR D = (0, 0, 0) := by unfold spR; rw [if_pos (bI_ne.mp h9)]
    refine m_ireturn dX11_spareBy_13 ⟨_, rfl, ?_, fun q => absurd q (by decide), fun q => absurd q (by decide), fin s1 (sqp b1)⟩
    rw [hR]
end SP
end
section
/-! ===== the reference: what was seen ===== -/
theorem agP_no (D : Deb) (w : Nat → Nat → Int32) {i : Nat} (h : agP D w i = false) : ∀ z, i ≤ z → agP D w z = false
  | 0, hz => by have : i = 0 := by omega
                subst this; exact h
  | z + 1, hz => by
    by_cases e : i = z + 1
    · subst e; exact h
    · unfold agP
      rw [agP_no D w h z (by omega)]; rfl
def cellD (E : Deb) (k t : Nat) : Int32 := 6 * (RSt E (t + 1)).1 k + (RSt E (t + 1)).2.1 k
section SN
variable {G : mG} {l : Launch} {d : Nat} {σ : mS}
def seF (σ : mS) : Nat → Nat → Int32 := fun i j => if j < 4 then σ.1 (143 + j) i else 0
theorem seF_eq {s : mS} (h : ∀ y, 143 ≤ y → y ≤ 146 → s.1 y = σ.1 y) : seF s = seF σ := by
  funext k j
  unfold seF
  by_cases hj : j < 4
  · rw [if_pos hj, if_pos hj, h _ (by omega) (by omega)]
  · rw [if_neg hj, if_neg hj]
/-- what was seen fits -/
def okS (σ : mS) (z : Nat) : Prop := σ.1 111 41 = nI z ∧ z ≤ 8 ∧ ∀ i, i < z → (∃ t, t < 24 ∧ σ.1 143 i = nI t) ∧ ∃ k, k < 8 ∧ σ.1 144 i = nI k
theorem okS.tr {s : mS} {W : Nat → Nat → Prop} {z : Nat} (f : fW W σ s) (h41 : ¬ W 111 41) (h : ∀ y z, 143 ≤ y → y ≤ 146 → ¬ W y z) (k : okS σ z) : okS s z := by
  refine ⟨(f.at h41).trans k.1, k.2.1, fun i hi => ?_⟩
  rw [f.at (h 143 i (by omega) (by omega)), f.at (h 144 i (by omega) (by omega))]
  exact k.2.2 i hi
theorem dX11_heavyBy_0 : decode cX11_heavyBy 0 = .ok (.aload_n 0, 1) := by decide +kernel
theorem dX11_heavyBy_1 : decode cX11_heavyBy 1 = .ok (.invokevirtual 270, 3) := by decide +kernel
theorem dX11_heavyBy_4 : decode cX11_heavyBy 4 = .ok (.aload_n 0, 1) := by decide +kernel
theorem dX11_heavyBy_5 : decode cX11_heavyBy 5 = .ok (.getfield 28, 3) := by decide +kernel
theorem dX11_heavyBy_8 : decode cX11_heavyBy 8 = .ok (.iload_n 1, 1) := by decide +kernel
theorem dX11_heavyBy_9 : decode cX11_heavyBy 9 = .ok (.iaload, 1) := by decide +kernel
theorem dX11_heavyBy_10 : decode cX11_heavyBy 10 = .ok (.istore_n 2, 1) := by decide +kernel
theorem dX11_heavyBy_11 : decode cX11_heavyBy 11 = .ok (.iconst 0, 1) := by decide +kernel
theorem dX11_heavyBy_12 : decode cX11_heavyBy 12 = .ok (.istore_n 3, 1) := by decide +kernel
theorem dX11_heavyBy_13 : decode cX11_heavyBy 13 = .ok (.iconst 1, 1) := by decide +kernel
theorem dX11_heavyBy_14 : decode cX11_heavyBy 14 = .ok (.istore 4, 2) := by decide +kernel
theorem dX11_heavyBy_16 : decode cX11_heavyBy 16 = .ok (.iload 4, 2) := by decide +kernel
theorem dX11_heavyBy_18 : decode cX11_heavyBy 18 = .ok (.bipush 10, 2) := by decide +kernel
theorem dX11_heavyBy_20 : decode cX11_heavyBy 20 = .ok (.if_icmp .ge 92, 3) := by decide +kernel
theorem dX11_heavyBy_23 : decode cX11_heavyBy 23 = .ok (.aload_n 0, 1) := by decide +kernel
theorem dX11_heavyBy_24 : decode cX11_heavyBy 24 = .ok (.getfield 28, 3) := by decide +kernel
theorem dX11_heavyBy_27 : decode cX11_heavyBy 27 = .ok (.iload_n 1, 1) := by decide +kernel
theorem dX11_heavyBy_28 : decode cX11_heavyBy 28 = .ok (.iload 4, 2) := by decide +kernel
theorem dX11_heavyBy_30 : decode cX11_heavyBy 30 = .ok (.iastore, 1) := by decide +kernel
theorem dX11_heavyBy_31 : decode cX11_heavyBy 31 = .ok (.iload_n 3, 1) := by decide +kernel
theorem dX11_heavyBy_32 : decode cX11_heavyBy 32 = .ok (.aload_n 0, 1) := by decide +kernel
theorem dX11_heavyBy_33 : decode cX11_heavyBy 33 = .ok (.invokevirtual 337, 3) := by decide +kernel
theorem dX11_heavyBy_36 : decode cX11_heavyBy 36 = .ok (.ifCond .eq 10, 3) := by decide +kernel
theorem dX11_heavyBy_39 : decode cX11_heavyBy 39 = .ok (.iconst 1, 1) := by decide +kernel
theorem dX11_heavyBy_40 : decode cX11_heavyBy 40 = .ok (.iload 4, 2) := by decide +kernel
theorem dX11_heavyBy_42 : decode cX11_heavyBy 42 = .ok (.ishl, 1) := by decide +kernel
theorem dX11_heavyBy_43 : decode cX11_heavyBy 43 = .ok (.goto 4, 3) := by decide +kernel
theorem dX11_heavyBy_46 : decode cX11_heavyBy 46 = .ok (.iconst 0, 1) := by decide +kernel
theorem dX11_heavyBy_47 : decode cX11_heavyBy 47 = .ok (.ior, 1) := by decide +kernel
theorem dX11_heavyBy_48 : decode cX11_heavyBy 48 = .ok (.istore_n 3, 1) := by decide +kernel
theorem dX11_heavyBy_49 : decode cX11_heavyBy 49 = .ok (.iconst 0, 1) := by decide +kernel
theorem dX11_heavyBy_50 : decode cX11_heavyBy 50 = .ok (.istore 5, 2) := by decide +kernel
theorem dX11_heavyBy_52 : decode cX11_heavyBy 52 = .ok (.iload 5, 2) := by decide +kernel
theorem dX11_heavyBy_54 : decode cX11_heavyBy 54 = .ok (.bipush 24, 2) := by decide +kernel
theorem dX11_heavyBy_56 : decode cX11_heavyBy 56 = .ok (.if_icmp .ge 50, 3) := by decide +kernel
theorem dX11_heavyBy_59 : decode cX11_heavyBy 59 = .ok (.aload_n 0, 1) := by decide +kernel
theorem dX11_heavyBy_60 : decode cX11_heavyBy 60 = .ok (.getfield 115, 3) := by decide +kernel
theorem dX11_heavyBy_63 : decode cX11_heavyBy 63 = .ok (.bipush 24, 2) := by decide +kernel
theorem dX11_heavyBy_65 : decode cX11_heavyBy 65 = .ok (.iload 4, 2) := by decide +kernel
theorem dX11_heavyBy_67 : decode cX11_heavyBy 67 = .ok (.imul, 1) := by decide +kernel
theorem dX11_heavyBy_68 : decode cX11_heavyBy 68 = .ok (.iload 5, 2) := by decide +kernel
theorem dX11_heavyBy_70 : decode cX11_heavyBy 70 = .ok (.iadd, 1) := by decide +kernel
theorem dX11_heavyBy_71 : decode cX11_heavyBy 71 = .ok (.bipush 6, 2) := by decide +kernel
theorem dX11_heavyBy_73 : decode cX11_heavyBy 73 = .ok (.aload_n 0, 1) := by decide +kernel
theorem dX11_heavyBy_74 : decode cX11_heavyBy 74 = .ok (.getfield 76, 3) := by decide +kernel
theorem dX11_heavyBy_77 : decode cX11_heavyBy 77 = .ok (.bipush 8, 2) := by decide +kernel
theorem dX11_heavyBy_79 : decode cX11_heavyBy 79 = .ok (.iload 5, 2) := by decide +kernel
theorem dX11_heavyBy_81 : decode cX11_heavyBy 81 = .ok (.imul, 1) := by decide +kernel
theorem dX11_heavyBy_82 : decode cX11_heavyBy 82 = .ok (.iload_n 1, 1) := by decide +kernel
theorem dX11_heavyBy_83 : decode cX11_heavyBy 83 = .ok (.iadd, 1) := by decide +kernel
theorem dX11_heavyBy_84 : decode cX11_heavyBy 84 = .ok (.iaload, 1) := by decide +kernel
theorem dX11_heavyBy_85 : decode cX11_heavyBy 85 = .ok (.imul, 1) := by decide +kernel
theorem dX11_heavyBy_86 : decode cX11_heavyBy 86 = .ok (.aload_n 0, 1) := by decide +kernel
theorem dX11_heavyBy_87 : decode cX11_heavyBy 87 = .ok (.getfield 79, 3) := by decide +kernel
theorem dX11_heavyBy_90 : decode cX11_heavyBy 90 = .ok (.bipush 8, 2) := by decide +kernel
theorem dX11_heavyBy_92 : decode cX11_heavyBy 92 = .ok (.iload 5, 2) := by decide +kernel
theorem dX11_heavyBy_94 : decode cX11_heavyBy 94 = .ok (.imul, 1) := by decide +kernel
theorem dX11_heavyBy_95 : decode cX11_heavyBy 95 = .ok (.iload_n 1, 1) := by decide +kernel
theorem dX11_heavyBy_96 : decode cX11_heavyBy 96 = .ok (.iadd, 1) := by decide +kernel
theorem dX11_heavyBy_97 : decode cX11_heavyBy 97 = .ok (.iaload, 1) := by decide +kernel
theorem dX11_heavyBy_98 : decode cX11_heavyBy 98 = .ok (.iadd, 1) := by decide +kernel
theorem dX11_heavyBy_99 : decode cX11_heavyBy 99 = .ok (.iastore, 1) := by decide +kernel
theorem dX11_heavyBy_100 : decode cX11_heavyBy 100 = .ok (.iinc 5 1, 3) := by decide +kernel
theorem dX11_heavyBy_103 : decode cX11_heavyBy 103 = .ok (.goto (-51), 3) := by decide +kernel
theorem dX11_heavyBy_106 : decode cX11_heavyBy 106 = .ok (.iinc 4 1, 3) := by decide +kernel
theorem dX11_heavyBy_109 : decode cX11_heavyBy 109 = .ok (.goto (-93), 3) := by decide +kernel
theorem dX11_heavyBy_112 : decode cX11_heavyBy 112 = .ok (.aload_n 0, 1) := by decide +kernel
theorem dX11_heavyBy_113 : decode cX11_heavyBy 113 = .ok (.getfield 28, 3) := by decide +kernel
theorem dX11_heavyBy_116 : decode cX11_heavyBy 116 = .ok (.iload_n 1, 1) := by decide +kernel
theorem dX11_heavyBy_117 : decode cX11_heavyBy 117 = .ok (.iload_n 2, 1) := by decide +kernel
theorem dX11_heavyBy_118 : decode cX11_heavyBy 118 = .ok (.iastore, 1) := by decide +kernel
theorem dX11_heavyBy_119 : decode cX11_heavyBy 119 = .ok (.iload_n 3, 1) := by decide +kernel
theorem dX11_heavyBy_120 : decode cX11_heavyBy 120 = .ok (.ireturn, 1) := by decide +kernel
theorem dX11_askOf_0 : decode cX11_askOf 0 = .ok (.aload_n 0, 1) := by decide +kernel
theorem dX11_askOf_1 : decode cX11_askOf 1 = .ok (.iload_n 1, 1) := by decide +kernel
theorem dX11_askOf_2 : decode cX11_askOf 2 = .ok (.invokevirtual 347, 3) := by decide +kernel
theorem dX11_askOf_5 : decode cX11_askOf 5 = .ok (.istore_n 2, 1) := by decide +kernel
theorem dX11_askOf_6 : decode cX11_askOf 6 = .ok (.iconst (-1), 1) := by decide +kernel
theorem dX11_askOf_7 : decode cX11_askOf 7 = .ok (.istore_n 3, 1) := by decide +kernel
theorem dX11_askOf_8 : decode cX11_askOf 8 = .ok (.iconst 0, 1) := by decide +kernel
theorem dX11_askOf_9 : decode cX11_askOf 9 = .ok (.istore 4, 2) := by decide +kernel
theorem dX11_askOf_11 : decode cX11_askOf 11 = .ok (.iconst 0, 1) := by decide +kernel
theorem dX11_askOf_12 : decode cX11_askOf 12 = .ok (.istore 5, 2) := by decide +kernel
theorem dX11_askOf_14 : decode cX11_askOf 14 = .ok (.iload 5, 2) := by decide +kernel
theorem dX11_askOf_16 : decode cX11_askOf 16 = .ok (.bipush 24, 2) := by decide +kernel
theorem dX11_askOf_18 : decode cX11_askOf 18 = .ok (.if_icmp .ge 165, 3) := by decide +kernel
theorem dX11_askOf_21 : decode cX11_askOf 21 = .ok (.iconst 0, 1) := by decide +kernel
theorem dX11_askOf_22 : decode cX11_askOf 22 = .ok (.istore 6, 2) := by decide +kernel
theorem dX11_askOf_24 : decode cX11_askOf 24 = .ok (.iconst 1, 1) := by decide +kernel
theorem dX11_askOf_25 : decode cX11_askOf 25 = .ok (.istore 7, 2) := by decide +kernel
theorem dX11_askOf_27 : decode cX11_askOf 27 = .ok (.iload 7, 2) := by decide +kernel
theorem dX11_askOf_29 : decode cX11_askOf 29 = .ok (.bipush 10, 2) := by decide +kernel
theorem dX11_askOf_31 : decode cX11_askOf 31 = .ok (.if_icmp .ge 101, 3) := by decide +kernel
theorem dX11_askOf_34 : decode cX11_askOf 34 = .ok (.iconst 0, 1) := by decide +kernel
theorem dX11_askOf_35 : decode cX11_askOf 35 = .ok (.istore 8, 2) := by decide +kernel
theorem dX11_askOf_37 : decode cX11_askOf 37 = .ok (.iconst 1, 1) := by decide +kernel
theorem dX11_askOf_38 : decode cX11_askOf 38 = .ok (.istore 9, 2) := by decide +kernel
theorem dX11_askOf_40 : decode cX11_askOf 40 = .ok (.iload 9, 2) := by decide +kernel
theorem dX11_askOf_42 : decode cX11_askOf 42 = .ok (.bipush 10, 2) := by decide +kernel
theorem dX11_askOf_44 : decode cX11_askOf 44 = .ok (.if_icmp .ge 66, 3) := by decide +kernel
theorem dX11_askOf_47 : decode cX11_askOf 47 = .ok (.iload 8, 2) := by decide +kernel
theorem dX11_askOf_49 : decode cX11_askOf 49 = .ok (.iload_n 2, 1) := by decide +kernel
theorem dX11_askOf_50 : decode cX11_askOf 50 = .ok (.iload 7, 2) := by decide +kernel
theorem dX11_askOf_52 : decode cX11_askOf 52 = .ok (.invokestatic 252, 3) := by decide +kernel
theorem dX11_askOf_55 : decode cX11_askOf 55 = .ok (.ifCond .eq 45, 3) := by decide +kernel
theorem dX11_askOf_58 : decode cX11_askOf 58 = .ok (.iload_n 2, 1) := by decide +kernel
theorem dX11_askOf_59 : decode cX11_askOf 59 = .ok (.iload 9, 2) := by decide +kernel
theorem dX11_askOf_61 : decode cX11_askOf 61 = .ok (.invokestatic 252, 3) := by decide +kernel
theorem dX11_askOf_64 : decode cX11_askOf 64 = .ok (.ifCond .eq 36, 3) := by decide +kernel
theorem dX11_askOf_67 : decode cX11_askOf 67 = .ok (.aload_n 0, 1) := by decide +kernel
theorem dX11_askOf_68 : decode cX11_askOf 68 = .ok (.getfield 115, 3) := by decide +kernel
theorem dX11_askOf_71 : decode cX11_askOf 71 = .ok (.bipush 24, 2) := by decide +kernel
theorem dX11_askOf_73 : decode cX11_askOf 73 = .ok (.iload 7, 2) := by decide +kernel
theorem dX11_askOf_75 : decode cX11_askOf 75 = .ok (.imul, 1) := by decide +kernel
theorem dX11_askOf_76 : decode cX11_askOf 76 = .ok (.iload 5, 2) := by decide +kernel
theorem dX11_askOf_78 : decode cX11_askOf 78 = .ok (.iadd, 1) := by decide +kernel
theorem dX11_askOf_79 : decode cX11_askOf 79 = .ok (.iaload, 1) := by decide +kernel
theorem dX11_askOf_80 : decode cX11_askOf 80 = .ok (.aload_n 0, 1) := by decide +kernel
theorem dX11_askOf_81 : decode cX11_askOf 81 = .ok (.getfield 115, 3) := by decide +kernel
theorem dX11_askOf_84 : decode cX11_askOf 84 = .ok (.bipush 24, 2) := by decide +kernel
theorem dX11_askOf_86 : decode cX11_askOf 86 = .ok (.iload 9, 2) := by decide +kernel
theorem dX11_askOf_88 : decode cX11_askOf 88 = .ok (.imul, 1) := by decide +kernel
theorem dX11_askOf_89 : decode cX11_askOf 89 = .ok (.iload 5, 2) := by decide +kernel
theorem dX11_askOf_91 : decode cX11_askOf 91 = .ok (.iadd, 1) := by decide +kernel
theorem dX11_askOf_92 : decode cX11_askOf 92 = .ok (.iaload, 1) := by decide +kernel
theorem dX11_askOf_93 : decode cX11_askOf 93 = .ok (.if_icmp .ne 7, 3) := by decide +kernel
theorem dX11_askOf_96 : decode cX11_askOf 96 = .ok (.iconst 1, 1) := by decide +kernel
theorem dX11_askOf_97 : decode cX11_askOf 97 = .ok (.goto 4, 3) := by decide +kernel
theorem dX11_askOf_100 : decode cX11_askOf 100 = .ok (.iconst 0, 1) := by decide +kernel
theorem dX11_askOf_101 : decode cX11_askOf 101 = .ok (.iadd, 1) := by decide +kernel
theorem dX11_askOf_102 : decode cX11_askOf 102 = .ok (.istore 8, 2) := by decide +kernel
theorem dX11_askOf_104 : decode cX11_askOf 104 = .ok (.iinc 9 1, 3) := by decide +kernel
theorem dX11_askOf_107 : decode cX11_askOf 107 = .ok (.goto (-67), 3) := by decide +kernel
theorem dX11_askOf_110 : decode cX11_askOf 110 = .ok (.iload 8, 2) := by decide +kernel
theorem dX11_askOf_112 : decode cX11_askOf 112 = .ok (.iload 6, 2) := by decide +kernel
theorem dX11_askOf_114 : decode cX11_askOf 114 = .ok (.if_icmp .le 8, 3) := by decide +kernel
theorem dX11_askOf_117 : decode cX11_askOf 117 = .ok (.iload 8, 2) := by decide +kernel
theorem dX11_askOf_119 : decode cX11_askOf 119 = .ok (.goto 5, 3) := by decide +kernel
theorem dX11_askOf_122 : decode cX11_askOf 122 = .ok (.iload 6, 2) := by decide +kernel
theorem dX11_askOf_124 : decode cX11_askOf 124 = .ok (.istore 6, 2) := by decide +kernel
theorem dX11_askOf_126 : decode cX11_askOf 126 = .ok (.iinc 7 1, 3) := by decide +kernel
theorem dX11_askOf_129 : decode cX11_askOf 129 = .ok (.goto (-102), 3) := by decide +kernel
theorem dX11_askOf_132 : decode cX11_askOf 132 = .ok (.iload_n 3, 1) := by decide +kernel
theorem dX11_askOf_133 : decode cX11_askOf 133 = .ok (.iconst (-1), 1) := by decide +kernel
theorem dX11_askOf_134 : decode cX11_askOf 134 = .ok (.if_icmp .eq 10, 3) := by decide +kernel
theorem dX11_askOf_137 : decode cX11_askOf 137 = .ok (.iload 6, 2) := by decide +kernel
theorem dX11_askOf_139 : decode cX11_askOf 139 = .ok (.iload 4, 2) := by decide +kernel
theorem dX11_askOf_141 : decode cX11_askOf 141 = .ok (.if_icmp .ge 7, 3) := by decide +kernel
theorem dX11_askOf_144 : decode cX11_askOf 144 = .ok (.iconst 1, 1) := by decide +kernel
theorem dX11_askOf_145 : decode cX11_askOf 145 = .ok (.goto 4, 3) := by decide +kernel
theorem dX11_askOf_148 : decode cX11_askOf 148 = .ok (.iconst 0, 1) := by decide +kernel
theorem dX11_askOf_149 : decode cX11_askOf 149 = .ok (.istore 7, 2) := by decide +kernel
theorem dX11_askOf_151 : decode cX11_askOf 151 = .ok (.iload 7, 2) := by decide +kernel
theorem dX11_askOf_153 : decode cX11_askOf 153 = .ok (.ifCond .eq 8, 3) := by decide +kernel
theorem dX11_askOf_156 : decode cX11_askOf 156 = .ok (.iload 5, 2) := by decide +kernel
theorem dX11_askOf_158 : decode cX11_askOf 158 = .ok (.goto 4, 3) := by decide +kernel
theorem dX11_askOf_161 : decode cX11_askOf 161 = .ok (.iload_n 3, 1) := by decide +kernel
theorem dX11_askOf_162 : decode cX11_askOf 162 = .ok (.istore_n 3, 1) := by decide +kernel
theorem dX11_askOf_163 : decode cX11_askOf 163 = .ok (.iload 7, 2) := by decide +kernel
theorem dX11_askOf_165 : decode cX11_askOf 165 = .ok (.ifCond .eq 8, 3) := by decide +kernel
theorem dX11_askOf_168 : decode cX11_askOf 168 = .ok (.iload 6, 2) := by decide +kernel
theorem dX11_askOf_170 : decode cX11_askOf 170 = .ok (.goto 5, 3) := by decide +kernel
theorem dX11_askOf_173 : decode cX11_askOf 173 = .ok (.iload 4, 2) := by decide +kernel
theorem dX11_askOf_175 : decode cX11_askOf 175 = .ok (.istore 4, 2) := by decide +kernel
theorem dX11_askOf_177 : decode cX11_askOf 177 = .ok (.iinc 5 1, 3) := by decide +kernel
theorem dX11_askOf_180 : decode cX11_askOf 180 = .ok (.goto (-166), 3) := by decide +kernel
theorem dX11_askOf_183 : decode cX11_askOf 183 = .ok (.iload_n 3, 1) := by decide +kernel
theorem dX11_askOf_184 : decode cX11_askOf 184 = .ok (.ireturn, 1) := by decide +kernel
theorem c_isSeen (hd : 7 ≤ d) (D : Deb) (h : repR σ D) (z : Nat) (hs : okS σ z) : mMet G l d kX11_isSeen [.ref 111] σ (qIP (fun r s => r = bI (agP D (seF σ) z) ∧ outR D s ∧ fW wRun σ s)) := by
  refine mMet.of cm_X11_isSeen rfl (Nat.le_of_ble_eq_true rfl) rfl (fun v1 σ1 h => by obtain ⟨r, h1, h2, -⟩ := h; rw [h1, h2]; exact bI_nar _) ?_
  refine m_aload_n dX11_isSeen_0 0 rfl ?_
  refine m_callV (As := []) dX11_isSeen_1 cv_X11_273 (by first | assumption | rfl) (by decide) (by omega) rfl rfl (Nat.le_of_ble_eq_true rfl) (c_runsD (d := d - 1) (by omega) _ h) (fun v1 σ1 hv1 => ?_)
  refine m_qVP hv1 (fun hz => ?_)
  clear hv1 v1
  rename mS => s
  obtain ⟨z1, z2⟩ := hz
  have hr := h.run z2
  have hn := hr.1
  have hc := hr.2.2.2.1
  have hse : seF s = seF σ := seF_eq (fun y _ _ => z2.row (fun z => by omega))
  have hs1 : okS s z := hs.tr z2 (by omega) (fun y z _ _ => by omega)
  rw [← hse]
  generalize hw : seF s = w
  refine m_iconst (v := 1) dX11_isSeen_4 (by decide) ?_
  refine m_istore_n (ls1 := [(1, _), (0, _)]) dX11_isSeen_5 (by decide) rfl ?_
  refine m_iconst (v := 0) dX11_isSeen_6 (by decide) ?_
  refine m_istore_n (ls1 := [(2, _), (1, _), (0, _)]) dX11_isSeen_7 (by decide) rfl ?_
  refine down (N := z) (fun i (f : Int32) => f = bI (agP D w i)) (fun i f => mW G l d kX11_isSeen 8 [(2, .int (nI i)), (1, .int f), (0, .ref 111)] [] s _) ?_ ?_ 0 1 (Nat.zero_le _) rfl
  · intro f hf
    refine m_iload_n dX11_isSeen_8 0 rfl ?_
    refine m_aload_n dX11_isSeen_9 2 rfl ?_
    refine m_getI 41 dX11_isSeen_10 fl_X11_334_10 rfl (by decide) (by first | assumption | rfl) ?_
    refine m_icmp_ge dX11_isSeen_13 92 (by decide) (fun h => ?_) (fun h => ?_)
    · refine m_iload_n dX11_isSeen_92 1 rfl ?_
      exact m_ireturn dX11_isSeen_93 ⟨_, rfl, hf, z1, z2⟩
    · exact (ge_yes h hs1.1).elim
  · intro i f hi hf ih
    have hi8 : i < 8 := by have := hs.2.1; omega
    obtain ⟨⟨t, ht, et⟩, k, hk, ek⟩ := hs1.2.2 i hi
    have w0 : w i 0 = nI t := by rw [← hw]; exact et
    have w1 : w i 1 = nI k := by rw [← hw]; exact ek
    have w2 : s.1 145 i = w i 2 := by rw [← hw]; rfl
    have w3 : s.1 146 i = w i 3 := by rw [← hw]; rfl
    have hag : agP D w (i + 1) = (agP D w i && decide (nI k < nI D.1.1 ∧ (RSt D (t + 1)).1 k = w i 2 ∧ (RSt D (t + 1)).2.1 k = w i 3)) := by
      rw [agP, w0, w1, nI_clamp (by omega), nI_clamp (by omega)]
    refine m_iload_n dX11_isSeen_8 0 rfl ?_
    refine m_aload_n dX11_isSeen_9 2 rfl ?_
    refine m_getI 41 dX11_isSeen_10 fl_X11_334_10 rfl (by decide) (by first | assumption | rfl) ?_
    refine m_icmp_ge dX11_isSeen_13 92 (by decide) (fun h => ?_) (fun h => ?_)
    · exact (ge_no hs1.1 h rfl hi (by have := hs.2.1; omega)).elim
    · clear h
      refine m_iload_n dX11_isSeen_16 1 rfl ?_
      refine m_if_eq dX11_isSeen_17 92 (by decide) (fun h17 => ?_) (fun h17 => ?_)
      · refine m_iload_n dX11_isSeen_92 1 rfl ?_
        have e : agP D w i = false := bI_eq.mp (by rw [← hf]; exact h17)
        exact m_ireturn dX11_isSeen_93 ⟨_, rfl, by rw [agP_no D w e z (by omega), hf, e], z1, z2⟩
      · have e : agP D w i = true := bI_ne.mp (by rw [← hf]; exact h17)
        rw [e, Bool.true_and] at hag
        refine m_bipush (v := 8) dX11_isSeen_20 (by decide) ?_
        refine m_aload_n dX11_isSeen_22 2 rfl ?_
        refine m_getR 42 143 dX11_isSeen_23 fl_X11_103_10 rfl (by decide) rfl (by first | assumption | rfl) ?_
        refine m_iload_n dX11_isSeen_26 0 rfl ?_
        refine m_iald dX11_isSeen_27 (by first | assumption | rfl) i rfl (by first | assumption | omega | decide) ?_
        refine mW.top et ?_
        refine m_imul dX11_isSeen_28 ?_
        refine m_aload_n dX11_isSeen_29 2 rfl ?_
        refine m_getR 43 144 dX11_isSeen_30 fl_X11_106_10 rfl (by decide) rfl (by first | assumption | rfl) ?_
        refine m_iload_n dX11_isSeen_33 0 rfl ?_
        refine m_iald dX11_isSeen_34 (by first | assumption | rfl) i rfl (by first | assumption | omega | decide) ?_
        refine mW.top ek ?_
        refine m_iadd dX11_isSeen_35 ?_
        refine mW.top (w := nI (8 * t + k)) (ix8 t k) ?_
        refine m_istore_n (ls1 := [(3, _), (2, _), (1, _), (0, _)]) dX11_isSeen_36 (by decide) rfl ?_
        refine m_aload_n dX11_isSeen_37 3 rfl ?_
        refine m_getR 43 144 dX11_isSeen_38 fl_X11_106_10 rfl (by decide) rfl (by first | assumption | rfl) ?_
        refine m_iload_n dX11_isSeen_41 1 rfl ?_
        refine m_iald dX11_isSeen_42 (by first | assumption | rfl) i rfl (by first | assumption | omega | decide) ?_
        refine mW.top ek ?_
        refine m_aload_n dX11_isSeen_43 3 rfl ?_
        refine m_getI 2 dX11_isSeen_44 fl_X11_161_10 rfl (by decide) (by first | assumption | rfl) ?_
        refine mW.top hc ?_
        refine m_icmp_ge dX11_isSeen_47 84 (by decide) (fun h47 => ?_) (fun h47 => ?_)
        · refine m_iconst (v := 0) dX11_isSeen_84 (by decide) ?_
          refine m_istore_n (ls1 := [(1, _), (3, _), (2, _), (0, _)]) dX11_isSeen_85 (by decide) rfl ?_
          refine m_iinc (v := nI (i + 1)) (ls1 := [(2, _), (1, _), (3, _), (0, _)]) dX11_isSeen_86 2 rfl (nI_1 i) (by decide) rfl ?_
          refine m_goto dX11_isSeen_89 8 (by decide) ?_
          refine mW.sub (ls1 := [(2, _), (1, _), (0, _)]) [0, 1, 3] rfl ?_
          exact ih _ (by rw [hag]; exact bI_neg (fun q => absurd q.1 (Int32.not_lt.mpr h47)))
        · have hkn : k < D.1.1 := (nlt (by omega) (by omega)).mp (Int32.not_le.mp h47)
          obtain ⟨q0, q1, -⟩ := (z1.1 t ht).2.2.2 k hkn
          refine m_aload_n dX11_isSeen_50 3 rfl ?_
          refine m_getR 32 134 dX11_isSeen_51 fl_X11_76_10 rfl (by decide) rfl (by first | assumption | rfl) ?_
          refine m_iload_n dX11_isSeen_54 0 rfl ?_
          refine m_iald dX11_isSeen_55 (by first | assumption | rfl) (8 * t + k) rfl (by first | assumption | omega | decide) ?_
          refine mW.top q0 ?_
          refine m_aload_n dX11_isSeen_56 3 rfl ?_
          refine m_getR 44 145 dX11_isSeen_57 fl_X11_109_10 rfl (by decide) rfl (by first | assumption | rfl) ?_
          refine m_iload_n dX11_isSeen_60 1 rfl ?_
          refine m_iald dX11_isSeen_61 (by first | assumption | rfl) i rfl (by first | assumption | omega | decide) ?_
          refine mW.top w2 ?_
          refine m_icmp_ne dX11_isSeen_62 84 (by decide) (fun h62 => ?_) (fun h62 => ?_)
          · refine m_iconst (v := 0) dX11_isSeen_84 (by decide) ?_
            refine m_istore_n (ls1 := [(1, _), (3, _), (2, _), (0, _)]) dX11_isSeen_85 (by decide) rfl ?_
            refine m_iinc (v := nI (i + 1)) (ls1 := [(2, _), (1, _), (3, _), (0, _)]) dX11_isSeen_86 2 rfl (nI_1 i) (by decide) rfl ?_
            refine m_goto dX11_isSeen_89 8 (by decide) ?_
            refine mW.sub (ls1 := [(2, _), (1, _), (0, _)]) [0, 1, 3] rfl ?_
            refine ih _ ?_
            rw [hag]
            first | exact bI_pos (And.intro (Int32.not_le.mp h47) (And.intro h62 h77)) | exact bI_neg (fun q => by first | exact absurd q.2.1 h62 | exact absurd q.2.2 h77)
          · refine m_aload_n dX11_isSeen_65 3 rfl ?_
            refine m_getR 33 135 dX11_isSeen_66 fl_X11_79_10 rfl (by decide) rfl (by first | assumption | rfl) ?_
            refine m_iload_n dX11_isSeen_69 0 rfl ?_
            refine m_iald dX11_isSeen_70 (by first | assumption | rfl) (8 * t + k) rfl (by first | assumption | omega | decide) ?_
            refine mW.top q1 ?_
            refine m_aload_n dX11_isSeen_71 3 rfl ?_
            refine m_getR 45 146 dX11_isSeen_72 fl_X11_112_10 rfl (by decide) rfl (by first | assumption | rfl) ?_
            refine m_iload_n dX11_isSeen_75 1 rfl ?_
            refine m_iald dX11_isSeen_76 (by first | assumption | rfl) i rfl (by first | assumption | omega | decide) ?_
            refine mW.top w3 ?_
            refine m_icmp_ne dX11_isSeen_77 84 (by decide) (fun h77 => ?_) (fun h77 => ?_)
            · refine m_iconst (v := 0) dX11_isSeen_84 (by decide) ?_
              refine m_istore_n (ls1 := [(1, _), (3, _), (2, _), (0, _)]) dX11_isSeen_85 (by decide) rfl ?_
              refine m_iinc (v := nI (i + 1)) (ls1 := [(2, _), (1, _), (3, _), (0, _)]) dX11_isSeen_86 2 rfl (nI_1 i) (by decide) rfl ?_
              refine m_goto dX11_isSeen_89 8 (by decide) ?_
              refine mW.sub (ls1 := [(2, _), (1, _), (0, _)]) [0, 1, 3] rfl ?_
              refine ih _ ?_
              rw [hag]
              first | exact bI_pos (And.intro (Int32.not_le.mp h47) (And.intro h62 h77)) | exact bI_neg (fun q => by first | exact absurd q.2.1 h62 | exact absurd q.2.2 h77)
            · refine m_iconst (v := 1) dX11_isSeen_80 (by decide) ?_
              refine m_goto dX11_isSeen_81 85 (by decide) ?_
              refine m_istore_n (ls1 := [(1, _), (3, _), (2, _), (0, _)]) dX11_isSeen_85 (by decide) rfl ?_
              refine m_iinc (v := nI (i + 1)) (ls1 := [(2, _), (1, _), (3, _), (0, _)]) dX11_isSeen_86 2 rfl (nI_1 i) (by decide) rfl ?_
              refine m_goto dX11_isSeen_89 8 (by decide) ?_
              refine mW.sub (ls1 := [(2, _), (1, _), (0, _)]) [0, 1, 3] rfl ?_
              refine ih _ ?_
              rw [hag]
              first | exact bI_pos (And.intro (Int32.not_le.mp h47) (And.intro h62 h77)) | exact bI_neg (fun q => by first | exact absurd q.2.1 h62 | exact absurd q.2.2 h77)
theorem c_neverNow (hd : 8 ≤ d) (L0 L1 e : Nat) (ok : okR σ L0 L1 e) (z : Nat) (hs : okS σ z) : mMet G l d kX11_neverNow [.ref 111] σ (qIP (fun r s => r = nvP (Dt σ L0 L1 e) z (seF σ) e ∧ fW wScr σ s)) := by
  have hev : σ.1 111 12 = nI e := ok.2.2.2.2.1
  have he8 : e ≤ 8 := ok.2.2.2.2.2
  refine mMet.of cm_X11_neverNow rfl (Nat.le_of_ble_eq_true rfl) rfl (fun v1 σ1 h => by obtain ⟨r, h1, -⟩ := h; rw [h1]; rfl) ?_
  refine m_aload_n dX11_neverNow_0 0 rfl ?_
  refine m_callV (As := []) dX11_neverNow_1 cv_X11_270 (by first | assumption | rfl) (by decide) (by omega) rfl rfl (Nat.le_of_ble_eq_true rfl) (c_asTold (d := d - 1) (by omega) L0 L1 e ok) (fun v1 σ1 hv1 => ?_)
  refine m_qVP hv1 (fun ha => ?_)
  clear hv1 v1
  rename mS => s0
  obtain ⟨a1, a2, a3⟩ := ha
  generalize Dt σ L0 L1 e = D at *
  have hse : seF s0 = seF σ := seF_eq (fun y _ _ => a3.row (fun z => by omega))
  have q12 : s0.1 111 12 = nI e := (a3.at (by omega)).trans hev
  have q41 : okS s0 z := hs.tr a3 (by omega) (fun y z _ _ => by omega)
  have m0 := repM.of a1
  refine m_iconst (v := 0) dX11_neverNow_4 (by decide) ?_
  refine m_istore_n (ls1 := [(1, _), (0, _)]) dX11_neverNow_5 (by decide) rfl ?_
  refine m_iconst (v := 0) dX11_neverNow_6 (by decide) ?_
  refine m_istore_n (ls1 := [(2, _), (1, _), (0, _)]) dX11_neverNow_7 (by decide) rfl ?_
  refine down (N := e) (fun i (q : mS × Int32) => q.2 = nvP D z (seF σ) i ∧ fW wSq s0 q.1) (fun i q => mW G l d kX11_neverNow 8 [(2, .int (nI i)), (1, .int q.2), (0, .ref 111)] [] q.1 _) ?_ ?_ 0 (s0, 0) (Nat.zero_le _) ⟨rfl, fW.rf⟩
  · rintro ⟨s, f⟩ ⟨hf, fr⟩
    show mW G l d kX11_neverNow 8 [(2, .int (nI e)), (1, .int f), (0, .ref 111)] [] s _
    refine m_iload_n dX11_neverNow_8 0 rfl ?_
    refine m_aload_n dX11_neverNow_9 2 rfl ?_
    refine m_getI 12 dX11_neverNow_10 fl_X11_204_10 rfl (by decide) (by first | assumption | rfl) ?_
    refine m_icmp_ge dX11_neverNow_13 46 (by decide) (fun h => ?_) (fun h => ?_)
    · refine m_iload_n dX11_neverNow_46 1 rfl ?_
      exact m_ireturn dX11_neverNow_47 ⟨_, rfl, hf, a3.tr (fr.mono (fun y z h => by omega))⟩
    · exact (ge_yes h ((fr.at (by omega)).trans q12)).elim
  · rintro i ⟨s, f⟩ hi ⟨hf, fr⟩ ih
    have hf' : f = nvP D z (seF σ) i := hf
    show mW G l d kX11_neverNow 8 [(2, .int (nI i)), (1, .int f), (0, .ref 111)] [] s _
    refine m_iload_n dX11_neverNow_8 0 rfl ?_
    refine m_aload_n dX11_neverNow_9 2 rfl ?_
    refine m_getI 12 dX11_neverNow_10 fl_X11_204_10 rfl (by decide) (by first | assumption | rfl) ?_
    refine m_icmp_ge dX11_neverNow_13 46 (by decide) (fun h => ?_) (fun h => ?_)
    · exact (ge_no ((fr.at (by omega)).trans q12) h rfl hi (by omega)).elim
    · clear h
      refine m_aload_n dX11_neverNow_16 2 rfl ?_
      refine m_iconst (v := 1) dX11_neverNow_17 (by decide) ?_
      refine m_iload_n dX11_neverNow_18 0 rfl ?_
      refine m_ishl dX11_neverNow_19 ?_
      refine m_putI 21 dX11_neverNow_20 fw_X11_223_10 rfl (by decide) rfl rfl (by first | assumption | rfl) ?_
      have r1 := (m0.tr (sqp fr)) (bit1 i)
      have f1 : fW wSq s0 (us s 111 21 (bit1 i)) := fW.us (by omega) fr
      have s1 : okS (us s 111 21 (bit1 i)) z := q41.tr f1 (by omega) (fun y z _ _ => by omega)
      have e1 : seF (us s 111 21 (bit1 i)) = seF σ := (seF_eq (fun y _ _ => f1.row (fun z => by omega))).trans hse
      have hM := c_isSeen (G := G) (l := l) (d := d - 1) (by omega) _ r1 z s1
      rw [e1] at hM
      refine m_iload_n dX11_neverNow_23 1 rfl ?_
      refine m_aload_n dX11_neverNow_24 2 rfl ?_
      refine m_callV (As := []) dX11_neverNow_25 cv_X11_337 (by first | assumption | rfl) (by decide) (by omega) rfl rfl (Nat.le_of_ble_eq_true rfl) hM (fun v1 σ1 hv1 => ?_)
      refine m_qIP hv1 (fun r1 hz => ?_)
      clear hv1 v1
      rename mS => s2
      obtain ⟨rfl, z1, z2⟩ := hz
      refine m_sel (pcJ := 38) ?_ (fun kt0 kf0 => m_if_eq dX11_neverNow_28 37 (by decide) (fun h => (m_iconst (v := 0) dX11_neverNow_37 (by decide) (kt0 h))) (fun h => (m_iconst (v := 1) dX11_neverNow_31 (by decide) (m_iload_n dX11_neverNow_32 0 rfl (m_ishl dX11_neverNow_33 (m_goto dX11_neverNow_34 38 (by decide) (kf0 h)))))))
      refine m_ior dX11_neverNow_38 ?_
      refine m_istore_n (ls1 := [(1, _), (2, _), (0, _)]) dX11_neverNow_39 (by decide) rfl ?_
      refine m_iinc (v := nI (i + 1)) (ls1 := [(2, _), (1, _), (0, _)]) dX11_neverNow_40 1 rfl (nI_1 i) (by decide) rfl ?_
      refine m_goto dX11_neverNow_43 8 (by decide) ?_
      refine mW.sub (ls1 := [(2, _), (1, _), (0, _)]) [0, 1, 2] rfl ?_
      refine ih (s2, _) ⟨?_, f1.tr (z2.mono (fun y z h => by omega))⟩
      show f ||| _ = _
      rw [hf', nvP]
      by_cases q : agP (maskD D (bit1 i)) (seF σ) z = true
      · rw [q]; rfl
      · rw [Bool.eq_false_iff.mpr q]; rfl
end SN
end
section
/-! ===== the reference: sort, weight, the next moment to look ===== -/
/-- how many of the first b weights are in a like cell with a -/
def alN (bits : Int32) (cl : Nat → Nat → Int32) (t a : Nat) : Nat → Nat
  | 0 => 0
  | b + 1 => alN bits cl t a b + (if bitI bits (nI a) ∧ bitI bits (nI (b + 1)) ∧ cl a t = cl (b + 1) t then 1 else 0)
def mxN (bits : Int32) (cl : Nat → Nat → Int32) (t : Nat) : Nat → Nat
  | 0 => 0
  | a + 1 => if alN bits cl t (a + 1) 9 ≤ mxN bits cl t a then mxN bits cl t a else alN bits cl t (a + 1) 9
def asP (bits : Int32) (cl : Nat → Nat → Int32) : Nat → Int32 × Nat
  | 0 => (-1, 0)
  | t + 1 => if (asP bits cl t).1 = -1 ∨ mxN bits cl t 9 < (asP bits cl t).2 then (nI t, mxN bits cl t 9) else asP bits cl t
theorem alN_le (bits : Int32) (cl : Nat → Nat → Int32) (t a : Nat) : ∀ b, alN bits cl t a b ≤ b
  | 0 => Nat.le_refl _
  | b + 1 => by
    unfold alN
    have := alN_le bits cl t a b
    split <;> omega
theorem mxN_le (bits : Int32) (cl : Nat → Nat → Int32) (t : Nat) : ∀ a, mxN bits cl t a ≤ 9
  | 0 => by show (0 : Nat) ≤ 9; decide
  | a + 1 => by
    unfold mxN
    have := mxN_le bits cl t a
    have := alN_le bits cl t (a + 1) 9
    split <;> omega
theorem asP_le (bits : Int32) (cl : Nat → Nat → Int32) : ∀ t, (asP bits cl t).2 ≤ 9
  | 0 => by show (0 : Nat) ≤ 9; decide
  | t + 1 => by
    unfold asP
    split
    · exact mxN_le _ _ _ _
    · exact asP_le bits cl t
section HV
variable {G : mG} {l : Launch} {d : Nat} {σ : mS}
abbrev wJ (q k : Nat) : Nat → Nat → Prop := fun y z => (y = 114 + q ∧ z = k) ∨ (y = 111 ∧ 28 ≤ z ∧ z ≤ 31) ∨ (128 ≤ y ∧ y ≤ 141) ∨ y = 147
theorem rep_J {s0 s : mS} {D : Deb} {k q : Nat} {v : Int32} (h : repR s0 D) (hq : q < 5) (f : fW (wJ q k) s0 s) (hv : s.1 (114 + q) k = v) : repR s (setJ D k q v) := by
  obtain ⟨h1, h2, h3, h4, h5, h6, h7, h8, h9, h10, h11⟩ := h
  refine ⟨h1, h2, h3, (f.at (by omega)).trans h4, (f.at (by omega)).trans h5, (f.at (by omega)).trans h6, (f.at (by omega)).trans h7, fun i hi j hj => ?_, fun i (hi : i < D.2.1.1) j hj => (f.at (by omega)).trans (h9 i hi j hj), fun i (hi : i < D.2.2.1.1) j hj => (f.at (by omega)).trans (h10 i hi j hj), h11⟩
  show _ = if i = k ∧ j = q then v else D.1.2 i j
  by_cases e : i = k ∧ j = q
  · rw [if_pos e]; obtain ⟨rfl, rfl⟩ := e; exact hv
  · rw [if_neg e]; exact (f.at (by omega)).trans (h8 i hi j hj)
/-- the cars stand in the rows as told -/
def rdR (s : mS) (D : Deb) : Prop := s.1 111 2 = nI D.1.1 ∧ ∀ k, k < D.1.1 → ∀ j, j < 5 → s.1 (114 + j) k = D.1.2 k j
theorem c_ofRow (n i : Int32) (h : i = -1 ∨ i = 0 ∨ i = 1) : mMet G l d kX11_ofRow [.ref 111, .int n, .int i] σ (qI (if i = -1 then n else if n ≤ i then -1 else if i = 0 then σ.1 142 0 else σ.1 142 1) σ) := by
  refine mMet.of cm_X11_ofRow rfl (Nat.le_of_ble_eq_true rfl) rfl (fun v1 σ1 h => by rw [h.1]; rfl) ?_
  rcases h with rfl | rfl | rfl
  · refine m_iload_n dX11_ofRow_0 2 rfl ?_
    refine m_iconst (v := -1) dX11_ofRow_1 (by decide) ?_
    refine m_icmp_ne dX11_ofRow_2 9 (by decide) (fun h2 => ?_) (fun h2 => ?_)
    · exact absurd rfl h2
    refine m_iload_n dX11_ofRow_5 1 rfl ?_
    refine m_goto dX11_ofRow_6 24 (by decide) ?_
    refine m_ireturn dX11_ofRow_24 ?_
    exact qI_of (if_pos rfl).symm
  · refine m_iload_n dX11_ofRow_0 2 rfl ?_
    refine m_iconst (v := -1) dX11_ofRow_1 (by decide) ?_
    refine m_icmp_ne dX11_ofRow_2 9 (by decide) (fun h2 => ?_) (fun h2 => ?_)
    rotate_left
    · exact absurd h2 (by decide)
    refine m_iload_n dX11_ofRow_9 2 rfl ?_
    refine m_iload_n dX11_ofRow_10 1 rfl ?_
    refine m_icmp_ge dX11_ofRow_11 23 (by decide) (fun h11 => ?_) (fun h11 => ?_)
    · refine m_iconst (v := -1) dX11_ofRow_23 (by decide) ?_
      refine m_ireturn dX11_ofRow_24 ?_
      refine qI_of ?_
      rw [if_neg (show ¬ (0 : Int32) = -1 by decide)]
      first | exact (if_pos h11).symm | exact (if_neg h11).symm
    · refine m_aload_n dX11_ofRow_14 0 rfl ?_
      refine m_getR 40 142 dX11_ofRow_15 fl_X11_100_10 rfl (by decide) rfl (by first | assumption | rfl) ?_
      refine m_iload_n dX11_ofRow_18 2 rfl ?_
      refine m_iald dX11_ofRow_19 (by first | assumption | rfl) 0 rfl (by first | assumption | omega | decide) ?_
      refine m_goto dX11_ofRow_20 24 (by decide) ?_
      refine m_ireturn dX11_ofRow_24 ?_
      refine qI_of ?_
      rw [if_neg (show ¬ (0 : Int32) = -1 by decide)]
      first | exact (if_pos h11).symm | exact (if_neg h11).symm
  · refine m_iload_n dX11_ofRow_0 2 rfl ?_
    refine m_iconst (v := -1) dX11_ofRow_1 (by decide) ?_
    refine m_icmp_ne dX11_ofRow_2 9 (by decide) (fun h2 => ?_) (fun h2 => ?_)
    rotate_left
    · exact absurd h2 (by decide)
    refine m_iload_n dX11_ofRow_9 2 rfl ?_
    refine m_iload_n dX11_ofRow_10 1 rfl ?_
    refine m_icmp_ge dX11_ofRow_11 23 (by decide) (fun h11 => ?_) (fun h11 => ?_)
    · refine m_iconst (v := -1) dX11_ofRow_23 (by decide) ?_
      refine m_ireturn dX11_ofRow_24 ?_
      refine qI_of ?_
      rw [if_neg (show ¬ (1 : Int32) = -1 by decide)]
      first | exact (if_pos h11).symm | exact (if_neg h11).symm
    · refine m_aload_n dX11_ofRow_14 0 rfl ?_
      refine m_getR 40 142 dX11_ofRow_15 fl_X11_100_10 rfl (by decide) rfl (by first | assumption | rfl) ?_
      refine m_iload_n dX11_ofRow_18 2 rfl ?_
      refine m_iald dX11_ofRow_19 (by first | assumption | rfl) 1 rfl (by first | assumption | omega | decide) ?_
      refine m_goto dX11_ofRow_20 24 (by decide) ?_
      refine m_ireturn dX11_ofRow_24 ?_
      refine qI_of ?_
      rw [if_neg (show ¬ (1 : Int32) = -1 by decide)]
      first | exact (if_pos h11).symm | exact (if_neg h11).symm
theorem c_sortsBy (hd : 8 ≤ d) (L0 L1 e : Nat) (ok : okR σ L0 L1 e) (z : Nat) (hs : okS σ z) (k : Nat) (hk : k < (Dt σ L0 L1 e).1.1) : mMet G l d kX11_sortsBy [.ref 111, .int (nI k)] σ (qIP (fun r s => r = soP (Dt σ L0 L1 e) k z (seF σ) 3 ∧ rdR s (Dt σ L0 L1 e) ∧ fW wScr σ s)) := by
  have hn : (Dt σ L0 L1 e).1.1 ≤ 8 := parC_n L0 (tx σ 0)
  refine mMet.of cm_X11_sortsBy rfl (Nat.le_of_ble_eq_true rfl) rfl (fun v1 σ1 h => by obtain ⟨r, h1, -⟩ := h; rw [h1]; rfl) ?_
  refine m_aload_n dX11_sortsBy_0 0 rfl ?_
  refine m_callV (As := []) dX11_sortsBy_1 cv_X11_270 (by first | assumption | rfl) (by decide) (by omega) rfl rfl (Nat.le_of_ble_eq_true rfl) (c_asTold (d := d - 1) (by omega) L0 L1 e ok) (fun v1 σ1 hv1 => ?_)
  refine m_qVP hv1 (fun ha => ?_)
  clear hv1 v1
  rename mS => s0
  obtain ⟨a1, a2, a3⟩ := ha
  generalize Dt σ L0 L1 e = D at *
  have hk8 : k < 8 := by omega
  have hse : seF s0 = seF σ := seF_eq (fun y _ _ => a3.row (fun z => by omega))
  have q41 : okS s0 z := hs.tr a3 (by omega) (fun y z _ _ => by omega)
  have hold : s0.1 114 k = D.1.2 k 0 := a1.2.2.2.2.2.2.2.1 k hk 0 (by decide)
  refine m_aload_n dX11_sortsBy_4 0 rfl ?_
  refine m_getR 3 114 dX11_sortsBy_5 fl_X11_16_10 rfl (by decide) rfl (by first | assumption | rfl) ?_
  refine m_iload_n dX11_sortsBy_8 1 rfl ?_
  refine m_iald dX11_sortsBy_9 (by first | assumption | rfl) k rfl (by first | assumption | omega | decide) ?_
  refine mW.top hold ?_
  refine m_istore_n (ls1 := [(2, _), (0, _), (1, _)]) dX11_sortsBy_10 (by decide) rfl ?_
  refine m_iconst (v := 0) dX11_sortsBy_11 (by decide) ?_
  refine m_istore_n (ls1 := [(3, _), (2, _), (0, _), (1, _)]) dX11_sortsBy_12 (by decide) rfl ?_
  refine m_iconst (v := 0) dX11_sortsBy_13 (by decide) ?_
  refine m_istore (ls1 := [(4, _), (3, _), (2, _), (0, _), (1, _)]) dX11_sortsBy_14 (by decide) rfl ?_
  refine down (N := 3) (fun i (q : mS × Int32) => q.2 = soP D k z (seF σ) i ∧ fW (wJ 0 k) s0 q.1) (fun i q => mW G l d kX11_sortsBy 16 [(4, .int (nI i)), (3, .int q.2), (2, .int (D.1.2 k 0)), (0, .ref 111), (1, .int (nI k))] [] q.1 _) ?_ ?_ 0 (s0, 0) (Nat.zero_le _) ⟨rfl, fW.rf⟩
  · rintro ⟨s, f⟩ ⟨hf, fr⟩
    show mW G l d kX11_sortsBy 16 [(4, .int (nI 3)), (3, .int f), (2, .int (D.1.2 k 0)), (0, .ref 111), (1, .int (nI k))] [] s _
    refine m_iload dX11_sortsBy_16 0 rfl ?_
    refine m_iconst (v := 3) dX11_sortsBy_18 (by decide) ?_
    refine m_icmp_ge dX11_sortsBy_19 54 (by decide) (fun h => ?_) (fun h => ?_)
    · refine m_aload_n dX11_sortsBy_54 3 rfl ?_
      refine m_getR 3 114 dX11_sortsBy_55 fl_X11_16_10 rfl (by decide) rfl (by first | assumption | rfl) ?_
      refine m_iload_n dX11_sortsBy_58 4 rfl ?_
      refine m_iload_n dX11_sortsBy_59 2 rfl ?_
      refine m_iast dX11_sortsBy_60 (by first | assumption | rfl) k rfl (by first | assumption | omega | decide) ?_
      refine m_iload_n dX11_sortsBy_61 1 rfl ?_
      have fr2 : fW (wJ 0 k) s0 (us s 114 k (D.1.2 k 0)) := fW.us (by omega) fr
      refine m_ireturn dX11_sortsBy_62 ⟨_, rfl, hf, ⟨(fr2.at (by omega)).trans a1.2.2.2.1, fun i hi j hj => ?_⟩, a3.tr (fr2.mono (fun y z h => by omega))⟩
      by_cases eq : i = k ∧ j = 0
      · obtain ⟨rfl, rfl⟩ := eq; rw [us_at, if_pos ⟨rfl, rfl⟩]
      · exact (fr2.at (by omega)).trans (a1.2.2.2.2.2.2.2.1 i hi j hj)
    · exact absurd (Int32.le_refl _) h
  · rintro i ⟨s, f⟩ hi ⟨hf, fr⟩ ih
    have hf' : f = soP D k z (seF σ) i := hf
    show mW G l d kX11_sortsBy 16 [(4, .int (nI i)), (3, .int f), (2, .int (D.1.2 k 0)), (0, .ref 111), (1, .int (nI k))] [] s _
    refine m_iload dX11_sortsBy_16 0 rfl ?_
    refine m_iconst (v := 3) dX11_sortsBy_18 (by decide) ?_
    refine m_icmp_ge dX11_sortsBy_19 54 (by decide) (fun h => ?_) (fun h => ?_)
    · exact absurd ((nle (a := 3) (by omega) (by omega)).mp h) (by omega)
    · clear h
      refine m_aload_n dX11_sortsBy_22 3 rfl ?_
      refine m_getR 3 114 dX11_sortsBy_23 fl_X11_16_10 rfl (by decide) rfl (by first | assumption | rfl) ?_
      refine m_iload_n dX11_sortsBy_26 4 rfl ?_
      refine m_iload dX11_sortsBy_27 0 rfl ?_
      refine m_iast dX11_sortsBy_29 (by first | assumption | rfl) k rfl (by first | assumption | omega | decide) ?_
      have f1 : fW (wJ 0 k) s0 (us s 114 k (nI i)) := fW.us (by omega) fr
      have r1 : repR (us s 114 k (nI i)) (setJ D k 0 (nI i)) := rep_J a1 (by decide) f1 (by rw [us_at, if_pos ⟨rfl, rfl⟩])
      have s1 : okS (us s 114 k (nI i)) z := q41.tr f1 (by omega) (fun y z _ _ => by omega)
      have e1 : seF (us s 114 k (nI i)) = seF σ := (seF_eq (fun y _ _ => f1.row (fun z => by omega))).trans hse
      have hM := c_isSeen (G := G) (l := l) (d := d - 1) (by omega) _ r1 z s1
      rw [e1] at hM
      refine m_iload_n dX11_sortsBy_30 1 rfl ?_
      refine m_aload_n dX11_sortsBy_31 3 rfl ?_
      refine m_callV (As := []) dX11_sortsBy_32 cv_X11_337 (by first | assumption | rfl) (by decide) (by omega) rfl rfl (Nat.le_of_ble_eq_true rfl) hM (fun v1 σ1 hv1 => ?_)
      refine m_qIP hv1 (fun r1 hz => ?_)
      clear hv1 v1
      rename mS => s2
      obtain ⟨rfl, z1, z2⟩ := hz
      refine m_sel (pcJ := 46) ?_ (fun kt0 kf0 => m_if_eq dX11_sortsBy_35 45 (by decide) (fun h => (m_iconst (v := 0) dX11_sortsBy_45 (by decide) (kt0 h))) (fun h => (m_iconst (v := 1) dX11_sortsBy_38 (by decide) (m_iload dX11_sortsBy_39 0 rfl (m_ishl dX11_sortsBy_41 (m_goto dX11_sortsBy_42 46 (by decide) (kf0 h)))))))
      refine m_ior dX11_sortsBy_46 ?_
      refine m_istore_n (ls1 := [(3, _), (4, _), (2, _), (0, _), (1, _)]) dX11_sortsBy_47 (by decide) rfl ?_
      refine m_iinc (v := nI (i + 1)) (ls1 := [(4, _), (3, _), (2, _), (0, _), (1, _)]) dX11_sortsBy_48 1 rfl (nI_1 i) (by decide) rfl ?_
      refine m_goto dX11_sortsBy_51 16 (by decide) ?_
      refine mW.sub (ls1 := [(4, _), (3, _), (2, _), (0, _), (1, _)]) [0, 1, 2, 3, 4] rfl ?_
      refine ih (s2, _) ⟨?_, f1.tr (z2.mono (fun y z h => by omega))⟩
      show f ||| _ = _
      rw [hf', soP]
      by_cases q : agP (setJ D k 0 (nI i)) (seF σ) z = true
      · rw [q]; rfl
      · rw [Bool.eq_false_iff.mpr q]; rfl
theorem ix24 (v t : Nat) : 24 * nI v + nI t = nI (24 * v + t) := by rw [show (24 : Int32) = nI 24 from rfl, pk_mul, nI_add]
theorem c_heavyBy (hd : 8 ≤ d) (L0 L1 e : Nat) (ok : okR σ L0 L1 e) (z : Nat) (hs : okS σ z) (k : Nat) (hk : k < (Dt σ L0 L1 e).1.1) : mMet G l d kX11_heavyBy [.ref 111, .int (nI k)] σ (qIP (fun r s => r = hvP (Dt σ L0 L1 e) k z (seF σ) 9 ∧ (∀ v, 1 ≤ v → v ≤ 9 → ∀ t, t < 24 → s.1 147 (24 * v + t) = cellD (setJ (Dt σ L0 L1 e) k 4 (nI v)) k t) ∧ rdR s (Dt σ L0 L1 e) ∧ fW wScr σ s)) := by
  have hn : (Dt σ L0 L1 e).1.1 ≤ 8 := parC_n L0 (tx σ 0)
  refine mMet.of cm_X11_heavyBy rfl (Nat.le_of_ble_eq_true rfl) rfl (fun v1 σ1 h => by obtain ⟨r, h1, -⟩ := h; rw [h1]; rfl) ?_
  refine m_aload_n dX11_heavyBy_0 0 rfl ?_
  refine m_callV (As := []) dX11_heavyBy_1 cv_X11_270 (by first | assumption | rfl) (by decide) (by omega) rfl rfl (Nat.le_of_ble_eq_true rfl) (c_asTold (d := d - 1) (by omega) L0 L1 e ok) (fun v1 σ1 hv1 => ?_)
  refine m_qVP hv1 (fun ha => ?_)
  clear hv1 v1
  rename mS => s0
  obtain ⟨a1, a2, a3⟩ := ha
  generalize Dt σ L0 L1 e = D at *
  have hk8 : k < 8 := by omega
  have hse : seF s0 = seF σ := seF_eq (fun y _ _ => a3.row (fun z => by omega))
  have q41 : okS s0 z := hs.tr a3 (by omega) (fun y z _ _ => by omega)
  have hold : s0.1 118 k = D.1.2 k 4 := a1.2.2.2.2.2.2.2.1 k hk 4 (by decide)
  refine m_aload_n dX11_heavyBy_4 0 rfl ?_
  refine m_getR 7 118 dX11_heavyBy_5 fl_X11_28_10 rfl (by decide) rfl (by first | assumption | rfl) ?_
  refine m_iload_n dX11_heavyBy_8 1 rfl ?_
  refine m_iald dX11_heavyBy_9 (by first | assumption | rfl) k rfl (by first | assumption | omega | decide) ?_
  refine mW.top hold ?_
  refine m_istore_n (ls1 := [(2, _), (0, _), (1, _)]) dX11_heavyBy_10 (by decide) rfl ?_
  refine m_iconst (v := 0) dX11_heavyBy_11 (by decide) ?_
  refine m_istore_n (ls1 := [(3, _), (2, _), (0, _), (1, _)]) dX11_heavyBy_12 (by decide) rfl ?_
  refine m_iconst (v := 1) dX11_heavyBy_13 (by decide) ?_
  refine m_istore (ls1 := [(4, _), (3, _), (2, _), (0, _), (1, _)]) dX11_heavyBy_14 (by decide) rfl ?_
  refine down (N := 10) (fun i (q : mS × Int32) => 1 ≤ i ∧ q.2 = hvP D k z (seF σ) (i - 1) ∧ (∀ v, 1 ≤ v → v < i → ∀ t, t < 24 → q.1.1 147 (24 * v + t) = cellD (setJ D k 4 (nI v)) k t) ∧ fW (wJ 4 k) s0 q.1) (fun i q => mW G l d kX11_heavyBy 16 [(4, .int (nI i)), (3, .int q.2), (2, .int (D.1.2 k 4)), (0, .ref 111), (1, .int (nI k))] [] q.1 _) ?_ ?_ 1 (s0, 0) (by decide) ⟨Nat.le_refl _, rfl, fun v h1 h2 => absurd h2 (by omega), fW.rf⟩
  · rintro ⟨s, f⟩ ⟨-, hf, hcl, fr⟩
    show mW G l d kX11_heavyBy 16 [(4, .int (nI 10)), (3, .int f), (2, .int (D.1.2 k 4)), (0, .ref 111), (1, .int (nI k))] [] s _
    refine m_iload dX11_heavyBy_16 0 rfl ?_
    refine m_bipush (v := 10) dX11_heavyBy_18 (by decide) ?_
    refine m_icmp_ge dX11_heavyBy_20 112 (by decide) (fun h => ?_) (fun h => ?_)
    · refine m_aload_n dX11_heavyBy_112 3 rfl ?_
      refine m_getR 7 118 dX11_heavyBy_113 fl_X11_28_10 rfl (by decide) rfl (by first | assumption | rfl) ?_
      refine m_iload_n dX11_heavyBy_116 4 rfl ?_
      refine m_iload_n dX11_heavyBy_117 2 rfl ?_
      refine m_iast dX11_heavyBy_118 (by first | assumption | rfl) k rfl (by first | assumption | omega | decide) ?_
      refine m_iload_n dX11_heavyBy_119 1 rfl ?_
      have fr2 : fW (wJ 4 k) s0 (us s 118 k (D.1.2 k 4)) := fW.us (by omega) fr
      refine m_ireturn dX11_heavyBy_120 ⟨_, rfl, hf, fun v h1 h2 t ht => ?_, ⟨(fr2.at (by omega)).trans a1.2.2.2.1, fun i hi j hj => ?_⟩, a3.tr (fr2.mono (fun y z h => by omega))⟩
      · rw [us_at, if_neg (by omega)]; exact hcl v h1 (by omega) t ht
      · by_cases eq : i = k ∧ j = 4
        · obtain ⟨rfl, rfl⟩ := eq; rw [us_at, if_pos ⟨rfl, rfl⟩]
        · exact (fr2.at (by omega)).trans (a1.2.2.2.2.2.2.2.1 i hi j hj)
    · exact absurd (Int32.le_refl _) h
  · rintro i ⟨s, f⟩ hi ⟨hi1, hf, hcl, fr⟩ ih
    obtain ⟨u, rfl⟩ : ∃ u, i = u + 1 := ⟨i - 1, by omega⟩
    have hf' : f = hvP D k z (seF σ) u := hf
    show mW G l d kX11_heavyBy 16 [(4, .int (nI (u + 1))), (3, .int f), (2, .int (D.1.2 k 4)), (0, .ref 111), (1, .int (nI k))] [] s _
    refine m_iload dX11_heavyBy_16 0 rfl ?_
    refine m_bipush (v := 10) dX11_heavyBy_18 (by decide) ?_
    refine m_icmp_ge dX11_heavyBy_20 112 (by decide) (fun h => ?_) (fun h => ?_)
    · exact absurd ((nle (a := 10) (by omega) (by omega)).mp h) (by omega)
    · clear h
      refine m_aload_n dX11_heavyBy_23 3 rfl ?_
      refine m_getR 7 118 dX11_heavyBy_24 fl_X11_28_10 rfl (by decide) rfl (by first | assumption | rfl) ?_
      refine m_iload_n dX11_heavyBy_27 4 rfl ?_
      refine m_iload dX11_heavyBy_28 0 rfl ?_
      refine m_iast dX11_heavyBy_30 (by first | assumption | rfl) k rfl (by first | assumption | omega | decide) ?_
      have f1 : fW (wJ 4 k) s0 (us s 118 k (nI (u + 1))) := fW.us (by omega) fr
      have r1 : repR (us s 118 k (nI (u + 1))) (setJ D k 4 (nI (u + 1))) := rep_J a1 (by decide) f1 (by rw [us_at, if_pos ⟨rfl, rfl⟩])
      have s1 : okS (us s 118 k (nI (u + 1))) z := q41.tr f1 (by omega) (fun y z _ _ => by omega)
      have e1 : seF (us s 118 k (nI (u + 1))) = seF σ := (seF_eq (fun y _ _ => f1.row (fun z => by omega))).trans hse
      have hM := c_isSeen (G := G) (l := l) (d := d - 1) (by omega) _ r1 z s1
      rw [e1] at hM
      refine m_iload_n dX11_heavyBy_31 1 rfl ?_
      refine m_aload_n dX11_heavyBy_32 3 rfl ?_
      refine m_callV (As := []) dX11_heavyBy_33 cv_X11_337 (by first | assumption | rfl) (by decide) (by omega) rfl rfl (Nat.le_of_ble_eq_true rfl) hM (fun v1 σ1 hv1 => ?_)
      refine m_qIP hv1 (fun r1 hz => ?_)
      clear hv1 v1
      rename mS => s2
      obtain ⟨rfl, z1, z2⟩ := hz
      refine m_sel (pcJ := 47) ?_ (fun kt0 kf0 => m_if_eq dX11_heavyBy_36 46 (by decide) (fun h => (m_iconst (v := 0) dX11_heavyBy_46 (by decide) (kt0 h))) (fun h => (m_iconst (v := 1) dX11_heavyBy_39 (by decide) (m_iload dX11_heavyBy_40 0 rfl (m_ishl dX11_heavyBy_42 (m_goto dX11_heavyBy_43 47 (by decide) (kf0 h)))))))
      refine m_ior dX11_heavyBy_47 ?_
      refine m_istore_n (ls1 := [(3, _), (4, _), (2, _), (0, _), (1, _)]) dX11_heavyBy_48 (by decide) rfl ?_
      refine m_iconst (v := 0) dX11_heavyBy_49 (by decide) ?_
      refine m_istore (ls1 := [(5, _), (3, _), (4, _), (2, _), (0, _), (1, _)]) dX11_heavyBy_50 (by decide) rfl ?_
      generalize hE : setJ D k 4 (nI (u + 1)) = E at *
      have hkE : k < E.1.1 := by rw [← hE]; exact hk
      have hcl2 : ∀ v, 1 ≤ v → v < u + 1 → ∀ t, t < 24 → s2.1 147 (24 * v + t) = cellD (setJ D k 4 (nI v)) k t := fun v h1 h2 t ht => by
        rw [z2.at (by omega), us_at, if_neg (by omega)]; exact hcl v h1 h2 t ht
      have f2 : fW (wJ 4 k) s0 s2 := f1.tr (z2.mono (fun y z h => by omega))
      refine down (N := 24) (fun t (s3 : mS) => (∀ t', t' < t → s3.1 147 (24 * (u + 1) + t') = cellD E k t') ∧ fW (fun y z => y = 147 ∧ 24 * (u + 1) ≤ z) s2 s3) (fun t s3 => mW G l d kX11_heavyBy 52 [(5, .int (nI t)), (3, .int (f ||| (if bI (agP E (seF σ) z) = 0 then 0 else (1 : Int32) <<< (nI (u + 1) &&& 31)))), (4, .int (nI (u + 1))), (2, .int (D.1.2 k 4)), (0, .ref 111), (1, .int (nI k))] [] s3 _) ?_ ?_ 0 s2 (Nat.zero_le _) ⟨fun t h => absurd h (Nat.not_lt_zero _), fW.rf⟩
      · rintro s3 ⟨b1, b2⟩
        refine m_iload dX11_heavyBy_52 0 rfl ?_
        refine m_bipush (v := 24) dX11_heavyBy_54 (by decide) ?_
        refine m_icmp_ge dX11_heavyBy_56 106 (by decide) (fun h => ?_) (fun h => ?_)
        · refine m_iinc (v := nI (u + 1 + 1)) (ls1 := [(4, _), (5, _), (3, _), (2, _), (0, _), (1, _)]) dX11_heavyBy_106 2 rfl (nI_1 (u + 1)) (by decide) rfl ?_
          refine m_goto dX11_heavyBy_109 16 (by decide) ?_
          refine mW.sub (ls1 := [(4, _), (3, _), (2, _), (0, _), (1, _)]) [0, 2, 3, 4, 5] rfl ?_
          refine ih (s3, _) ⟨by omega, ?_, fun v h1 h2 t ht => ?_, f2.tr (b2.mono (fun y z h => by omega))⟩
          · show f ||| _ = hvP D k z (seF σ) (u + 1)
            rw [hf', hvP, hE]
            by_cases q : agP E (seF σ) z = true
            · rw [q]; rfl
            · rw [Bool.eq_false_iff.mpr q]; rfl
          · by_cases ev : v = u + 1
            · subst ev; rw [hE]; exact b1 t ht
            · show s3.1 147 (24 * v + t) = _
              rw [b2.at (by omega)]; exact hcl2 v h1 (by omega) t ht
        · exact absurd (Int32.le_refl _) h
      · rintro t s3 ht ⟨b1, b2⟩ ihT
        obtain ⟨q0, q1, -⟩ := (z1.1 t ht).2.2.2 k hkE
        have q0' := (b2.at (y := 134) (z := 8 * t + k) (by omega)).trans q0
        have q1' := (b2.at (y := 135) (z := 8 * t + k) (by omega)).trans q1
        refine m_iload dX11_heavyBy_52 0 rfl ?_
        refine m_bipush (v := 24) dX11_heavyBy_54 (by decide) ?_
        refine m_icmp_ge dX11_heavyBy_56 106 (by decide) (fun h => ?_) (fun h => ?_)
        · exact absurd ((nle (a := 24) (by omega) (by omega)).mp h) (by omega)
        · clear h
          refine m_aload_n dX11_heavyBy_59 4 rfl ?_
          refine m_getR 46 147 dX11_heavyBy_60 fl_X11_115_10 rfl (by decide) rfl (by first | assumption | rfl) ?_
          refine m_bipush (v := 24) dX11_heavyBy_63 (by decide) ?_
          refine m_iload dX11_heavyBy_65 2 rfl ?_
          refine m_imul dX11_heavyBy_67 ?_
          refine m_iload dX11_heavyBy_68 0 rfl ?_
          refine m_iadd dX11_heavyBy_70 ?_
          refine mW.top (w := nI (24 * (u + 1) + t)) (ix24 (u + 1) t) ?_
          refine m_bipush (v := 6) dX11_heavyBy_71 (by decide) ?_
          refine m_aload_n dX11_heavyBy_73 4 rfl ?_
          refine m_getR 32 134 dX11_heavyBy_74 fl_X11_76_10 rfl (by decide) rfl (by first | assumption | rfl) ?_
          refine m_bipush (v := 8) dX11_heavyBy_77 (by decide) ?_
          refine m_iload dX11_heavyBy_79 0 rfl ?_
          refine m_imul dX11_heavyBy_81 ?_
          refine m_iload_n dX11_heavyBy_82 5 rfl ?_
          refine m_iadd dX11_heavyBy_83 ?_
          refine mW.top (w := nI (8 * t + k)) (ix8 t k) ?_
          refine m_iald dX11_heavyBy_84 (by first | assumption | rfl) (8 * t + k) rfl (by first | assumption | omega | decide) ?_
          refine mW.top q0' ?_
          refine m_imul dX11_heavyBy_85 ?_
          refine m_aload_n dX11_heavyBy_86 4 rfl ?_
          refine m_getR 33 135 dX11_heavyBy_87 fl_X11_79_10 rfl (by decide) rfl (by first | assumption | rfl) ?_
          refine m_bipush (v := 8) dX11_heavyBy_90 (by decide) ?_
          refine m_iload dX11_heavyBy_92 0 rfl ?_
          refine m_imul dX11_heavyBy_94 ?_
          refine m_iload_n dX11_heavyBy_95 5 rfl ?_
          refine m_iadd dX11_heavyBy_96 ?_
          refine mW.top (w := nI (8 * t + k)) (ix8 t k) ?_
          refine m_iald dX11_heavyBy_97 (by first | assumption | rfl) (8 * t + k) rfl (by first | assumption | omega | decide) ?_
          refine mW.top q1' ?_
          refine m_iadd dX11_heavyBy_98 ?_
          refine m_iast dX11_heavyBy_99 (by first | assumption | rfl) (24 * (u + 1) + t) rfl (by first | assumption | omega | decide) ?_
          refine m_iinc (v := nI (t + 1)) (ls1 := [(5, _), (3, _), (4, _), (2, _), (0, _), (1, _)]) dX11_heavyBy_100 0 rfl (nI_1 t) (by decide) rfl ?_
          refine m_goto dX11_heavyBy_103 52 (by decide) ?_
          refine ihT _ ⟨fun t' ht' => ?_, fW.us (by omega) b2⟩
          rcases Nat.lt_succ_iff_lt_or_eq.mp ht' with h | rfl
          · rw [us_at, if_neg (by omega)]; exact b1 t' h
          · rw [us_at, if_pos ⟨rfl, rfl⟩]; rfl
end HV
end
section
/-! ===== the reference: the next moment to look ===== -/
section AK
variable {G : mG} {l : Launch} {d : Nat} {σ : mS}
def akP (D : Deb) (k z : Nat) (w : Nat → Nat → Int32) : Int32 := (asP (hvP D k z w 9) (fun v t => cellD (setJ D k 4 (nI v)) k t) 24).1
theorem c_askOf (hd : 9 ≤ d) (L0 L1 e : Nat) (ok : okR σ L0 L1 e) (z : Nat) (hs : okS σ z) (k : Nat) (hk : k < (Dt σ L0 L1 e).1.1) : mMet G l d kX11_askOf [.ref 111, .int (nI k)] σ (qIP (fun r s => r = akP (Dt σ L0 L1 e) k z (seF σ) ∧ rdR s (Dt σ L0 L1 e) ∧ fW wScr σ s)) := by
  refine mMet.of cm_X11_askOf rfl (Nat.le_of_ble_eq_true rfl) rfl (fun v1 σ1 h => by obtain ⟨r, h1, -⟩ := h; rw [h1]; rfl) ?_
  refine m_aload_n dX11_askOf_0 0 rfl ?_
  refine m_iload_n dX11_askOf_1 1 rfl ?_
  refine m_callV (As := [_]) dX11_askOf_2 cv_X11_347 (by first | assumption | rfl) (by decide) (by omega) rfl rfl (Nat.le_of_ble_eq_true rfl) (c_heavyBy (d := d - 1) (by omega) L0 L1 e ok z hs k hk) (fun v1 σ1 hv1 => ?_)
  refine m_qIP hv1 (fun r1 ha => ?_)
  clear hv1 v1
  rename mS => s0
  obtain ⟨rfl, hcl, hrd, fr⟩ := ha
  unfold akP
  obtain ⟨cl, hcE⟩ : ∃ cl : Nat → Nat → Int32, cl = fun v t => cellD (setJ (Dt σ L0 L1 e) k 4 (nI v)) k t := ⟨_, rfl⟩
  have hcl2 : ∀ v, 1 ≤ v → v ≤ 9 → ∀ t, t < 24 → s0.1 147 (24 * v + t) = cl v t := by rw [hcE]; exact hcl
  rw [← hcE]
  clear hcl hcE
  generalize hvP (Dt σ L0 L1 e) k z (seF σ) 9 = bits
  refine m_istore_n (ls1 := [(2, _), (0, _), (1, _)]) dX11_askOf_5 (by decide) rfl ?_
  refine m_iconst (v := -1) dX11_askOf_6 (by decide) ?_
  refine m_istore_n (ls1 := [(3, _), (2, _), (0, _), (1, _)]) dX11_askOf_7 (by decide) rfl ?_
  refine m_iconst (v := 0) dX11_askOf_8 (by decide) ?_
  refine m_istore (ls1 := [(4, _), (3, _), (2, _), (0, _), (1, _)]) dX11_askOf_9 (by decide) rfl ?_
  refine m_iconst (v := 0) dX11_askOf_11 (by decide) ?_
  refine m_istore (ls1 := [(5, _), (4, _), (3, _), (2, _), (0, _), (1, _)]) dX11_askOf_12 (by decide) rfl ?_
  refine down (N := 24) (fun t (q : Int32 × Nat) => q = asP bits cl t) (fun t q => mW G l d kX11_askOf 14 [(5, .int (nI t)), (4, .int (nI q.2)), (3, .int q.1), (2, .int bits), (0, .ref 111), (1, .int (nI k))] [] s0 _) ?_ ?_ 0 (-1, 0) (Nat.zero_le _) rfl
  · rintro ⟨be, le⟩ hq
    refine m_iload dX11_askOf_14 0 rfl ?_
    refine m_bipush (v := 24) dX11_askOf_16 (by decide) ?_
    refine m_icmp_ge dX11_askOf_18 183 (by decide) (fun h => ?_) (fun h => ?_)
    · refine m_iload_n dX11_askOf_183 2 rfl ?_
      refine m_ireturn dX11_askOf_184 ⟨_, rfl, congrArg Prod.fst hq, hrd, fr⟩
    · exact absurd (Int32.le_refl _) h
  · rintro t ⟨be, le⟩ ht hq ih
    have hq9 : le ≤ 9 := by have := asP_le bits cl t; rw [← hq] at this; exact this
    show mW G l d kX11_askOf 14 [(5, .int (nI t)), (4, .int (nI le)), (3, .int be), (2, .int bits), (0, .ref 111), (1, .int (nI k))] [] s0 _
    refine m_iload dX11_askOf_14 0 rfl ?_
    refine m_bipush (v := 24) dX11_askOf_16 (by decide) ?_
    refine m_icmp_ge dX11_askOf_18 183 (by decide) (fun h => ?_) (fun h => ?_)
    · exact absurd ((nle (a := 24) (by omega) (by omega)).mp h) (by omega)
    · clear h
      refine m_iconst (v := 0) dX11_askOf_21 (by decide) ?_
      refine m_istore (ls1 := [(6, _), (5, _), (4, _), (3, _), (2, _), (0, _), (1, _)]) dX11_askOf_22 (by decide) rfl ?_
      refine m_iconst (v := 1) dX11_askOf_24 (by decide) ?_
      refine m_istore (ls1 := [(7, _), (6, _), (5, _), (4, _), (3, _), (2, _), (0, _), (1, _)]) dX11_askOf_25 (by decide) rfl ?_
      refine down (N := 10) (fun a (m : Nat) => 1 ≤ a ∧ m = mxN bits cl t (a - 1)) (fun a m => mW G l d kX11_askOf 27 [(7, .int (nI a)), (6, .int (nI m)), (5, .int (nI t)), (4, .int (nI le)), (3, .int be), (2, .int bits), (0, .ref 111), (1, .int (nI k))] [] s0 _) ?_ ?_ 1 0 (by decide) ⟨Nat.le_refl _, rfl⟩
      · rintro m ⟨-, hm⟩
        have hm : m = mxN bits cl t 9 := hm
        have hm9 : m ≤ 9 := by rw [hm]; exact mxN_le _ _ _ _
        refine m_iload dX11_askOf_27 0 rfl ?_
        refine m_bipush (v := 10) dX11_askOf_29 (by decide) ?_
        refine m_icmp_ge dX11_askOf_31 132 (by decide) (fun h => ?_) (fun h => ?_)
        rotate_left
        · exact absurd (Int32.le_refl _) h
        clear h
        have kT : (be = -1 ∨ m < le) → mW G l d kX11_askOf 149 [(7, .int (nI 10)), (6, .int (nI m)), (5, .int (nI t)), (4, .int (nI le)), (3, .int be), (2, .int bits), (0, .ref 111), (1, .int (nI k))] [.int 1] s0 (qIP (fun r s => r = (asP bits cl 24).1 ∧ rdR s (Dt σ L0 L1 e) ∧ fW wScr σ s)) := by
          intro hp
          refine m_istore (ls1 := [(7, _), (6, _), (5, _), (4, _), (3, _), (2, _), (0, _), (1, _)]) dX11_askOf_149 (by decide) rfl ?_
          refine m_iload dX11_askOf_151 0 rfl ?_
          refine m_if_eq dX11_askOf_153 161 (by decide) (fun h => ?_) (fun h => ?_)
          · exact absurd h (by decide)
          · clear h
            refine m_iload dX11_askOf_156 2 rfl ?_
            refine m_goto dX11_askOf_158 162 (by decide) ?_
            refine m_istore_n (ls1 := [(3, _), (7, _), (6, _), (5, _), (4, _), (2, _), (0, _), (1, _)]) dX11_askOf_162 (by decide) rfl ?_
            refine m_iload dX11_askOf_163 1 rfl ?_
            refine m_if_eq dX11_askOf_165 173 (by decide) (fun h => ?_) (fun h => ?_)
            · exact absurd h (by decide)
            · clear h
              refine m_iload dX11_askOf_168 2 rfl ?_
              refine m_goto dX11_askOf_170 175 (by decide) ?_
              refine m_istore (ls1 := [(4, _), (3, _), (7, _), (6, _), (5, _), (2, _), (0, _), (1, _)]) dX11_askOf_175 (by decide) rfl ?_
              refine m_iinc (v := nI (t + 1)) (ls1 := [(5, _), (4, _), (3, _), (7, _), (6, _), (2, _), (0, _), (1, _)]) dX11_askOf_177 4 rfl (nI_1 t) (by decide) rfl ?_
              refine m_goto dX11_askOf_180 14 (by decide) ?_
              refine mW.sub (ls1 := [(5, _), (4, _), (3, _), (2, _), (0, _), (1, _)]) [0, 1, 2, 5, 6, 7] rfl ?_
              refine ih (nI t, m) ?_
              show (nI t, m) = asP bits cl (t + 1)
              rw [asP, ← hq, if_pos (by rw [← hm]; exact hp), hm]
        have kF : ¬ (be = -1 ∨ m < le) → mW G l d kX11_askOf 149 [(7, .int (nI 10)), (6, .int (nI m)), (5, .int (nI t)), (4, .int (nI le)), (3, .int be), (2, .int bits), (0, .ref 111), (1, .int (nI k))] [.int 0] s0 (qIP (fun r s => r = (asP bits cl 24).1 ∧ rdR s (Dt σ L0 L1 e) ∧ fW wScr σ s)) := by
          intro hp
          refine m_istore (ls1 := [(7, _), (6, _), (5, _), (4, _), (3, _), (2, _), (0, _), (1, _)]) dX11_askOf_149 (by decide) rfl ?_
          refine m_iload dX11_askOf_151 0 rfl ?_
          refine m_if_eq dX11_askOf_153 161 (by decide) (fun h => ?_) (fun h => ?_)
          rotate_left
          · exact absurd rfl h
          · clear h
            refine m_iload_n dX11_askOf_161 4 rfl ?_
            refine m_istore_n (ls1 := [(3, _), (7, _), (6, _), (5, _), (4, _), (2, _), (0, _), (1, _)]) dX11_askOf_162 (by decide) rfl ?_
            refine m_iload dX11_askOf_163 1 rfl ?_
            refine m_if_eq dX11_askOf_165 173 (by decide) (fun h => ?_) (fun h => ?_)
            rotate_left
            · exact absurd rfl h
            · clear h
              refine m_iload dX11_askOf_173 4 rfl ?_
              refine m_istore (ls1 := [(4, _), (3, _), (7, _), (6, _), (5, _), (2, _), (0, _), (1, _)]) dX11_askOf_175 (by decide) rfl ?_
              refine m_iinc (v := nI (t + 1)) (ls1 := [(5, _), (4, _), (3, _), (7, _), (6, _), (2, _), (0, _), (1, _)]) dX11_askOf_177 4 rfl (nI_1 t) (by decide) rfl ?_
              refine m_goto dX11_askOf_180 14 (by decide) ?_
              refine mW.sub (ls1 := [(5, _), (4, _), (3, _), (2, _), (0, _), (1, _)]) [0, 1, 2, 5, 6, 7] rfl ?_
              refine ih (be, le) ?_
              show (be, le) = asP bits cl (t + 1)
              rw [asP, ← hq, if_neg (by rw [← hm]; exact hp)]
        refine m_iload_n dX11_askOf_132 4 rfl ?_
        refine m_iconst (v := -1) dX11_askOf_133 (by decide) ?_
        refine m_icmp_eq dX11_askOf_134 144 (by decide) (fun h => ?_) (fun h => ?_)
        · refine m_iconst (v := 1) dX11_askOf_144 (by decide) ?_
          refine m_goto dX11_askOf_145 149 (by decide) ?_
          exact kT (Or.inl h)
        · refine m_iload dX11_askOf_137 1 rfl ?_
          refine m_iload dX11_askOf_139 3 rfl ?_
          refine m_icmp_ge dX11_askOf_141 148 (by decide) (fun h2 => ?_) (fun h2 => ?_)
          · refine m_iconst (v := 0) dX11_askOf_148 (by decide) ?_
            exact kF (fun q => q.elim h (fun q => absurd ((nle (by omega) (by omega)).mp h2) (by omega)))
          · refine m_iconst (v := 1) dX11_askOf_144 (by decide) ?_
            refine m_goto dX11_askOf_145 149 (by decide) ?_
            refine kT (Or.inr ?_)
            exact Nat.lt_of_not_le (fun q => h2 ((nle (by omega) (by omega)).mpr q))
      · rintro a m ha ⟨ha1, hm⟩ ihA
        have hm9 : m ≤ 9 := by rw [hm]; exact mxN_le _ _ _ _
        refine m_iload dX11_askOf_27 0 rfl ?_
        refine m_bipush (v := 10) dX11_askOf_29 (by decide) ?_
        refine m_icmp_ge dX11_askOf_31 132 (by decide) (fun h => ?_) (fun h => ?_)
        · exact absurd ((nle (a := 10) (by omega) (by omega)).mp h) (by omega)
        · clear h
          refine m_iconst (v := 0) dX11_askOf_34 (by decide) ?_
          refine m_istore (ls1 := [(8, _), (7, _), (6, _), (5, _), (4, _), (3, _), (2, _), (0, _), (1, _)]) dX11_askOf_35 (by decide) rfl ?_
          refine m_iconst (v := 1) dX11_askOf_37 (by decide) ?_
          refine m_istore (ls1 := [(9, _), (8, _), (7, _), (6, _), (5, _), (4, _), (3, _), (2, _), (0, _), (1, _)]) dX11_askOf_38 (by decide) rfl ?_
          refine down (N := 10) (fun b (n : Nat) => 1 ≤ b ∧ n = alN bits cl t a (b - 1)) (fun b n => mW G l d kX11_askOf 40 [(9, .int (nI b)), (8, .int (nI n)), (7, .int (nI a)), (6, .int (nI m)), (5, .int (nI t)), (4, .int (nI le)), (3, .int be), (2, .int bits), (0, .ref 111), (1, .int (nI k))] [] s0 _) ?_ ?_ 1 0 (by decide) ⟨Nat.le_refl _, rfl⟩
          · rintro n ⟨-, hn⟩
            have hn : n = alN bits cl t a 9 := hn
            have hn9 : n ≤ 9 := by rw [hn]; exact alN_le _ _ _ _ _
            refine m_iload dX11_askOf_40 0 rfl ?_
            refine m_bipush (v := 10) dX11_askOf_42 (by decide) ?_
            refine m_icmp_ge dX11_askOf_44 110 (by decide) (fun h => ?_) (fun h => ?_)
            · clear h
              refine m_iload dX11_askOf_110 1 rfl ?_
              refine m_iload dX11_askOf_112 3 rfl ?_
              refine m_sel (pcJ := 124) ?_ (fun kt0 kf0 => m_icmp_le dX11_askOf_114 122 (by decide) (fun h => (m_iload dX11_askOf_122 3 rfl (kt0 h))) (fun h => (m_iload dX11_askOf_117 1 rfl (m_goto dX11_askOf_119 124 (by decide) (kf0 h)))))
              refine mW.top (w := nI (mxN bits cl t a)) ?_ ?_
              · obtain ⟨u, rfl⟩ : ∃ u, a = u + 1 := ⟨a - 1, by omega⟩
                have hm : m = mxN bits cl t u := hm
                rw [mxN, ← hm, ← hn]
                by_cases hq3 : n ≤ m
                · rw [if_pos hq3, if_pos ((nle (by omega) (by omega)).mpr hq3)]
                · rw [if_neg hq3, if_neg (fun q => hq3 ((nle (by omega) (by omega)).mp q))]
              · refine m_istore (ls1 := [(6, _), (9, _), (8, _), (7, _), (5, _), (4, _), (3, _), (2, _), (0, _), (1, _)]) dX11_askOf_124 (by decide) rfl ?_
                refine m_iinc (v := nI (a + 1)) (ls1 := [(7, _), (6, _), (9, _), (8, _), (5, _), (4, _), (3, _), (2, _), (0, _), (1, _)]) dX11_askOf_126 3 rfl (nI_1 a) (by decide) rfl ?_
                refine m_goto dX11_askOf_129 27 (by decide) ?_
                refine mW.sub (ls1 := [(7, _), (6, _), (5, _), (4, _), (3, _), (2, _), (0, _), (1, _)]) [0, 1, 4, 5, 6, 7, 8, 9] rfl ?_
                exact ihA _ ⟨by omega, rfl⟩
            · exact absurd (Int32.le_refl _) h
          · rintro b n hb ⟨hb1, hn⟩ ihB
            have hn9 : n ≤ 9 := by rw [hn]; exact Nat.le_trans (alN_le _ _ _ _ _) (by omega)
            obtain ⟨c, rfl⟩ : ∃ c, b = c + 1 := ⟨b - 1, by omega⟩
            have hn : n = alN bits cl t a c := hn
            refine m_iload dX11_askOf_40 0 rfl ?_
            refine m_bipush (v := 10) dX11_askOf_42 (by decide) ?_
            refine m_icmp_ge dX11_askOf_44 110 (by decide) (fun h => ?_) (fun h => ?_)
            · exact absurd ((nle (a := 10) (by omega) (by omega)).mp h) (by omega)
            · clear h
              have kJ : ∀ v : Int32, v = nI (if bitI bits (nI a) ∧ bitI bits (nI (c + 1)) ∧ cl a t = cl (c + 1) t then 1 else 0) → mW G l d kX11_askOf 101 [(9, .int (nI (c + 1))), (8, .int (nI n)), (7, .int (nI a)), (6, .int (nI m)), (5, .int (nI t)), (4, .int (nI le)), (3, .int be), (2, .int bits), (0, .ref 111), (1, .int (nI k))] [.int v, .int (nI n)] s0 (qIP (fun r s => r = (asP bits cl 24).1 ∧ rdR s (Dt σ L0 L1 e) ∧ fW wScr σ s)) := by
                intro v hv
                refine m_iadd dX11_askOf_101 ?_
                refine mW.top (w := nI (alN bits cl t a (c + 1))) (by rw [alN, ← hn, hv, nI_add]) ?_
                refine m_istore (ls1 := [(8, _), (9, _), (7, _), (6, _), (5, _), (4, _), (3, _), (2, _), (0, _), (1, _)]) dX11_askOf_102 (by decide) rfl ?_
                refine m_iinc (v := nI (c + 1 + 1)) (ls1 := [(9, _), (8, _), (7, _), (6, _), (5, _), (4, _), (3, _), (2, _), (0, _), (1, _)]) dX11_askOf_104 1 rfl (nI_1 (c + 1)) (by decide) rfl ?_
                refine m_goto dX11_askOf_107 40 (by decide) ?_
                exact ihB _ ⟨by omega, rfl⟩
              refine m_iload dX11_askOf_47 1 rfl ?_
              refine m_iload_n dX11_askOf_49 7 rfl ?_
              refine m_iload dX11_askOf_50 2 rfl ?_
              refine m_callS (As := [_, _]) dX11_askOf_52 cs_X11_252 (by omega) rfl rfl (Nat.le_of_ble_eq_true rfl) (c_isIn (d := d - 1) bits (nI a)) (fun v1 σ1 hv1 => ?_)
              refine m_qI hv1 ?_
              clear hv1 v1 σ1
              refine m_if_eq dX11_askOf_55 100 (by decide) (fun h1 => ?_) (fun h1 => ?_)
              · refine m_iconst (v := 0) dX11_askOf_100 (by decide) ?_
                exact kJ _ (by rw [if_neg (fun q => bI0 h1 q.1)]; rfl)
              · refine m_iload_n dX11_askOf_58 7 rfl ?_
                refine m_iload dX11_askOf_59 0 rfl ?_
                refine m_callS (As := [_, _]) dX11_askOf_61 cs_X11_252 (by omega) rfl rfl (Nat.le_of_ble_eq_true rfl) (c_isIn (d := d - 1) bits (nI (c + 1))) (fun v1 σ1 hv1 => ?_)
                refine m_qI hv1 ?_
                clear hv1 v1 σ1
                refine m_if_eq dX11_askOf_64 100 (by decide) (fun h2 => ?_) (fun h2 => ?_)
                · refine m_iconst (v := 0) dX11_askOf_100 (by decide) ?_
                  exact kJ _ (by rw [if_neg (fun q => bI0 h2 q.2.1)]; rfl)
                · refine m_aload_n dX11_askOf_67 8 rfl ?_
                  refine m_getR 46 147 dX11_askOf_68 fl_X11_115_10 rfl (by decide) rfl (by first | assumption | rfl) ?_
                  refine m_bipush (v := 24) dX11_askOf_71 (by decide) ?_
                  refine m_iload dX11_askOf_73 2 rfl ?_
                  refine m_imul dX11_askOf_75 ?_
                  refine m_iload dX11_askOf_76 4 rfl ?_
                  refine m_iadd dX11_askOf_78 ?_
                  refine mW.top (w := nI (24 * a + t)) (ix24 a t) ?_
                  refine m_iald dX11_askOf_79 (by first | assumption | rfl) (24 * a + t) rfl (by first | assumption | omega | decide) ?_
                  refine mW.top (hcl2 a (by omega) (by omega) t ht) ?_
                  refine m_aload_n dX11_askOf_80 8 rfl ?_
                  refine m_getR 46 147 dX11_askOf_81 fl_X11_115_10 rfl (by decide) rfl (by first | assumption | rfl) ?_
                  refine m_bipush (v := 24) dX11_askOf_84 (by decide) ?_
                  refine m_iload dX11_askOf_86 0 rfl ?_
                  refine m_imul dX11_askOf_88 ?_
                  refine m_iload dX11_askOf_89 4 rfl ?_
                  refine m_iadd dX11_askOf_91 ?_
                  refine mW.top (w := nI (24 * (c + 1) + t)) (ix24 (c + 1) t) ?_
                  refine m_iald dX11_askOf_92 (by first | assumption | rfl) (24 * (c + 1) + t) rfl (by first | assumption | omega | decide) ?_
                  refine mW.top (hcl2 (c + 1) (by omega) (by omega) t ht) ?_
                  refine m_icmp_ne dX11_askOf_93 100 (by decide) (fun h3 => ?_) (fun h3 => ?_)
                  · refine m_iconst (v := 0) dX11_askOf_100 (by decide) ?_
                    exact kJ _ (by rw [if_neg (fun q => h3 q.2.2)]; rfl)
                  · refine m_iconst (v := 1) dX11_askOf_96 (by decide) ?_
                    refine m_goto dX11_askOf_97 101 (by decide) ?_
                    exact kJ _ (by rw [if_pos (And.intro (bI1 h1) (And.intro (bI1 h2) h3))]; rfl)
end AK
end
section
/-! ===== longs; the reference: chance ===== -/
theorem lcmp_eq {x y : Int64} : lg_cmp x y = 0 ↔ x = y := by
  unfold lg_cmp
  by_cases h : x > y
  · rw [if_pos h]
    exact ⟨fun q => absurd q (by decide), fun q => absurd h (by rw [q]; exact Int64.lt_irrefl)⟩
  · rw [if_neg h]
    by_cases h2 : x = y
    · rw [if_pos h2]; exact ⟨fun _ => h2, fun _ => rfl⟩
    · rw [if_neg h2]; exact ⟨fun q => absurd q (by decide), fun q => absurd q h2⟩
theorem lcmp_le {x y : Int64} : lg_cmp x y ≤ 0 ↔ ¬ y < x := by
  unfold lg_cmp
  by_cases h : x > y
  · rw [if_pos h]
    exact ⟨fun q => absurd q (by decide), fun q => absurd h q⟩
  · rw [if_neg h]
    refine ⟨fun _ => h, fun _ => ?_⟩
    split <;> decide
theorem sh1 : ∀ e, e ≤ 8 → (1 : Int32) <<< (nI e &&& 31) = nI (2 ^ e) := by decide +kernel
theorem sh16 : ∀ e, e ≤ 8 → (1 : Int64) <<< ((4 * nI e).toInt64 &&& 63) = lN (16 ^ e) := by decide +kernel
def wtN (c m : Nat) : Nat → Nat
  | 0 => 1
  | i + 1 => wtN c m i * (if bitI (nI m) (nI i) then 16 - c else c)
theorem wtN_le (c m : Nat) (hc : c ≤ 16) : ∀ i, wtN c m i ≤ 16 ^ i
  | 0 => Nat.le_refl _
  | i + 1 => by
    unfold wtN
    rw [Nat.pow_succ]
    exact Nat.mul_le_mul (wtN_le c m hc i) (by split <;> omega)
def chN (D : Deb) (c k : Nat) : Nat → Nat
  | 0 => 0
  | m + 1 => chN D c k m + (if 0 < (RSt (maskD D (nI m)) 24).2.2.2.2.1 k then wtN c m D.2.2.1.1 else 0)
theorem chN_le (D : Deb) (c k : Nat) (hc : c ≤ 16) : ∀ m, chN D c k m ≤ m * 16 ^ D.2.2.1.1
  | 0 => Nat.zero_le _
  | m + 1 => by
    unfold chN
    have h1 := chN_le D c k hc m
    have h2 := wtN_le c m hc D.2.2.1.1
    rw [Nat.succ_mul]
    split <;> omega
theorem p16 : ∀ e, e ≤ 8 → 16 ^ e ≤ 4294967296 := by decide +kernel
theorem p2 : ∀ e, e ≤ 8 → 2 ^ e ≤ 256 := by decide +kernel
theorem p16p (e : Nat) : 0 < 16 ^ e := Nat.pow_pos (by decide)
/-- the sum over all sets, in lowest terms -/
def chA (D : Deb) (c k : Nat) (w : Int32) : Int64 := lN (if w = 0 then chN D c k (2 ^ D.2.2.1.1) / Nat.gcd (chN D c k (2 ^ D.2.2.1.1)) (16 ^ D.2.2.1.1) else 16 ^ D.2.2.1.1 / Nat.gcd (chN D c k (2 ^ D.2.2.1.1)) (16 ^ D.2.2.1.1))
section CH
variable {G : mG} {l : Launch} {d : Nat} {σ : mS} {μ : mM} {pc : Nat} {ls : List (Nat × Value)} {st : List Value} {Q : Option Value → mS → Prop}
theorem mW.topL {v w : Int64} (h : v = w) (k : mW G l d μ pc ls (.long w :: st) σ Q) : mW G l d μ pc ls (.long v :: st) σ Q := h ▸ k
theorem dX11_lowest_0 : decode cX11_lowest 0 = .ok (.lload_n 0, 1) := by decide +kernel
theorem dX11_lowest_1 : decode cX11_lowest 1 = .ok (.lstore 5, 2) := by decide +kernel
theorem dX11_lowest_3 : decode cX11_lowest 3 = .ok (.lload_n 2, 1) := by decide +kernel
theorem dX11_lowest_4 : decode cX11_lowest 4 = .ok (.lstore 7, 2) := by decide +kernel
theorem dX11_lowest_6 : decode cX11_lowest 6 = .ok (.lload 7, 2) := by decide +kernel
theorem dX11_lowest_8 : decode cX11_lowest 8 = .ok (.lconst 0, 1) := by decide +kernel
theorem dX11_lowest_9 : decode cX11_lowest 9 = .ok (.lcmp, 1) := by decide +kernel
theorem dX11_lowest_10 : decode cX11_lowest 10 = .ok (.ifCond .eq 21, 3) := by decide +kernel
theorem dX11_lowest_13 : decode cX11_lowest 13 = .ok (.lload 5, 2) := by decide +kernel
theorem dX11_lowest_15 : decode cX11_lowest 15 = .ok (.lload 7, 2) := by decide +kernel
theorem dX11_lowest_17 : decode cX11_lowest 17 = .ok (.lrem, 1) := by decide +kernel
theorem dX11_lowest_18 : decode cX11_lowest 18 = .ok (.lstore 9, 2) := by decide +kernel
theorem dX11_lowest_20 : decode cX11_lowest 20 = .ok (.lload 7, 2) := by decide +kernel
theorem dX11_lowest_22 : decode cX11_lowest 22 = .ok (.lstore 5, 2) := by decide +kernel
theorem dX11_lowest_24 : decode cX11_lowest 24 = .ok (.lload 9, 2) := by decide +kernel
theorem dX11_lowest_26 : decode cX11_lowest 26 = .ok (.lstore 7, 2) := by decide +kernel
theorem dX11_lowest_28 : decode cX11_lowest 28 = .ok (.goto (-22), 3) := by decide +kernel
theorem dX11_lowest_31 : decode cX11_lowest 31 = .ok (.iload 4, 2) := by decide +kernel
theorem dX11_lowest_33 : decode cX11_lowest 33 = .ok (.ifCond .ne 10, 3) := by decide +kernel
theorem dX11_lowest_36 : decode cX11_lowest 36 = .ok (.lload_n 0, 1) := by decide +kernel
theorem dX11_lowest_37 : decode cX11_lowest 37 = .ok (.lload 5, 2) := by decide +kernel
theorem dX11_lowest_39 : decode cX11_lowest 39 = .ok (.ldiv, 1) := by decide +kernel
theorem dX11_lowest_40 : decode cX11_lowest 40 = .ok (.goto 7, 3) := by decide +kernel
theorem dX11_lowest_43 : decode cX11_lowest 43 = .ok (.lload_n 2, 1) := by decide +kernel
theorem dX11_lowest_44 : decode cX11_lowest 44 = .ok (.lload 5, 2) := by decide +kernel
theorem dX11_lowest_46 : decode cX11_lowest 46 = .ok (.ldiv, 1) := by decide +kernel
theorem dX11_lowest_47 : decode cX11_lowest 47 = .ok (.lreturn, 1) := by decide +kernel
theorem dX11_chanceOf_0 : decode cX11_chanceOf 0 = .ok (.aload_n 0, 1) := by decide +kernel
theorem dX11_chanceOf_1 : decode cX11_chanceOf 1 = .ok (.invokevirtual 270, 3) := by decide +kernel
theorem dX11_chanceOf_4 : decode cX11_chanceOf 4 = .ok (.lconst 0, 1) := by decide +kernel
theorem dX11_chanceOf_5 : decode cX11_chanceOf 5 = .ok (.lstore 4, 2) := by decide +kernel
theorem dX11_chanceOf_7 : decode cX11_chanceOf 7 = .ok (.iconst 0, 1) := by decide +kernel
theorem dX11_chanceOf_8 : decode cX11_chanceOf 8 = .ok (.istore 6, 2) := by decide +kernel
theorem dX11_chanceOf_10 : decode cX11_chanceOf 10 = .ok (.iload 6, 2) := by decide +kernel
theorem dX11_chanceOf_12 : decode cX11_chanceOf 12 = .ok (.iconst 1, 1) := by decide +kernel
theorem dX11_chanceOf_13 : decode cX11_chanceOf 13 = .ok (.aload_n 0, 1) := by decide +kernel
theorem dX11_chanceOf_14 : decode cX11_chanceOf 14 = .ok (.getfield 204, 3) := by decide +kernel
theorem dX11_chanceOf_17 : decode cX11_chanceOf 17 = .ok (.ishl, 1) := by decide +kernel
theorem dX11_chanceOf_18 : decode cX11_chanceOf 18 = .ok (.if_icmp .ge 92, 3) := by decide +kernel
theorem dX11_chanceOf_21 : decode cX11_chanceOf 21 = .ok (.lconst 1, 1) := by decide +kernel
theorem dX11_chanceOf_22 : decode cX11_chanceOf 22 = .ok (.lstore 7, 2) := by decide +kernel
theorem dX11_chanceOf_24 : decode cX11_chanceOf 24 = .ok (.iconst 0, 1) := by decide +kernel
theorem dX11_chanceOf_25 : decode cX11_chanceOf 25 = .ok (.istore 9, 2) := by decide +kernel
theorem dX11_chanceOf_27 : decode cX11_chanceOf 27 = .ok (.iload 9, 2) := by decide +kernel
theorem dX11_chanceOf_29 : decode cX11_chanceOf 29 = .ok (.aload_n 0, 1) := by decide +kernel
theorem dX11_chanceOf_30 : decode cX11_chanceOf 30 = .ok (.getfield 204, 3) := by decide +kernel
theorem dX11_chanceOf_33 : decode cX11_chanceOf 33 = .ok (.if_icmp .ge 34, 3) := by decide +kernel
theorem dX11_chanceOf_36 : decode cX11_chanceOf 36 = .ok (.lload 7, 2) := by decide +kernel
theorem dX11_chanceOf_38 : decode cX11_chanceOf 38 = .ok (.iload 6, 2) := by decide +kernel
theorem dX11_chanceOf_40 : decode cX11_chanceOf 40 = .ok (.iload 9, 2) := by decide +kernel
theorem dX11_chanceOf_42 : decode cX11_chanceOf 42 = .ok (.invokestatic 252, 3) := by decide +kernel
theorem dX11_chanceOf_45 : decode cX11_chanceOf 45 = .ok (.ifCond .eq 11, 3) := by decide +kernel
theorem dX11_chanceOf_48 : decode cX11_chanceOf 48 = .ok (.bipush 16, 2) := by decide +kernel
theorem dX11_chanceOf_50 : decode cX11_chanceOf 50 = .ok (.iload_n 1, 1) := by decide +kernel
theorem dX11_chanceOf_51 : decode cX11_chanceOf 51 = .ok (.isub, 1) := by decide +kernel
theorem dX11_chanceOf_52 : decode cX11_chanceOf 52 = .ok (.i2l, 1) := by decide +kernel
theorem dX11_chanceOf_53 : decode cX11_chanceOf 53 = .ok (.goto 5, 3) := by decide +kernel
theorem dX11_chanceOf_56 : decode cX11_chanceOf 56 = .ok (.iload_n 1, 1) := by decide +kernel
theorem dX11_chanceOf_57 : decode cX11_chanceOf 57 = .ok (.i2l, 1) := by decide +kernel
theorem dX11_chanceOf_58 : decode cX11_chanceOf 58 = .ok (.lmul, 1) := by decide +kernel
theorem dX11_chanceOf_59 : decode cX11_chanceOf 59 = .ok (.lstore 7, 2) := by decide +kernel
theorem dX11_chanceOf_61 : decode cX11_chanceOf 61 = .ok (.iinc 9 1, 3) := by decide +kernel
theorem dX11_chanceOf_64 : decode cX11_chanceOf 64 = .ok (.goto (-37), 3) := by decide +kernel
theorem dX11_chanceOf_67 : decode cX11_chanceOf 67 = .ok (.lload 7, 2) := by decide +kernel
theorem dX11_chanceOf_69 : decode cX11_chanceOf 69 = .ok (.lconst 0, 1) := by decide +kernel
theorem dX11_chanceOf_70 : decode cX11_chanceOf 70 = .ok (.lcmp, 1) := by decide +kernel
theorem dX11_chanceOf_71 : decode cX11_chanceOf 71 = .ok (.ifCond .le 33, 3) := by decide +kernel
theorem dX11_chanceOf_74 : decode cX11_chanceOf 74 = .ok (.aload_n 0, 1) := by decide +kernel
theorem dX11_chanceOf_75 : decode cX11_chanceOf 75 = .ok (.iload 6, 2) := by decide +kernel
theorem dX11_chanceOf_77 : decode cX11_chanceOf 77 = .ok (.putfield 223, 3) := by decide +kernel
theorem dX11_chanceOf_80 : decode cX11_chanceOf 80 = .ok (.aload_n 0, 1) := by decide +kernel
theorem dX11_chanceOf_81 : decode cX11_chanceOf 81 = .ok (.invokevirtual 273, 3) := by decide +kernel
theorem dX11_chanceOf_84 : decode cX11_chanceOf 84 = .ok (.lload 4, 2) := by decide +kernel
theorem dX11_chanceOf_86 : decode cX11_chanceOf 86 = .ok (.aload_n 0, 1) := by decide +kernel
theorem dX11_chanceOf_87 : decode cX11_chanceOf 87 = .ok (.getfield 70, 3) := by decide +kernel
theorem dX11_chanceOf_90 : decode cX11_chanceOf 90 = .ok (.iload_n 2, 1) := by decide +kernel
theorem dX11_chanceOf_91 : decode cX11_chanceOf 91 = .ok (.iaload, 1) := by decide +kernel
theorem dX11_chanceOf_92 : decode cX11_chanceOf 92 = .ok (.ifCond .le 8, 3) := by decide +kernel
theorem dX11_chanceOf_95 : decode cX11_chanceOf 95 = .ok (.lload 7, 2) := by decide +kernel
theorem dX11_chanceOf_97 : decode cX11_chanceOf 97 = .ok (.goto 4, 3) := by decide +kernel
theorem dX11_chanceOf_100 : decode cX11_chanceOf 100 = .ok (.lconst 0, 1) := by decide +kernel
theorem dX11_chanceOf_101 : decode cX11_chanceOf 101 = .ok (.ladd, 1) := by decide +kernel
theorem dX11_chanceOf_102 : decode cX11_chanceOf 102 = .ok (.lstore 4, 2) := by decide +kernel
theorem dX11_chanceOf_104 : decode cX11_chanceOf 104 = .ok (.iinc 6 1, 3) := by decide +kernel
theorem dX11_chanceOf_107 : decode cX11_chanceOf 107 = .ok (.goto (-97), 3) := by decide +kernel
theorem dX11_chanceOf_110 : decode cX11_chanceOf 110 = .ok (.lload 4, 2) := by decide +kernel
theorem dX11_chanceOf_112 : decode cX11_chanceOf 112 = .ok (.lconst 1, 1) := by decide +kernel
theorem dX11_chanceOf_113 : decode cX11_chanceOf 113 = .ok (.iconst 4, 1) := by decide +kernel
theorem dX11_chanceOf_114 : decode cX11_chanceOf 114 = .ok (.aload_n 0, 1) := by decide +kernel
theorem dX11_chanceOf_115 : decode cX11_chanceOf 115 = .ok (.getfield 204, 3) := by decide +kernel
theorem dX11_chanceOf_118 : decode cX11_chanceOf 118 = .ok (.imul, 1) := by decide +kernel
theorem dX11_chanceOf_119 : decode cX11_chanceOf 119 = .ok (.lshl, 1) := by decide +kernel
theorem dX11_chanceOf_120 : decode cX11_chanceOf 120 = .ok (.iload_n 3, 1) := by decide +kernel
theorem dX11_chanceOf_121 : decode cX11_chanceOf 121 = .ok (.invokestatic 353, 3) := by decide +kernel
theorem dX11_chanceOf_124 : decode cX11_chanceOf 124 = .ok (.lreturn, 1) := by decide +kernel
theorem c_no (v : Int32) : mMet G l d kX11_no [.int v] σ (qL (-9223372036854775808 - v.toInt64) σ) := by
  refine mMet.of cm_X11_no rfl (Nat.le_of_ble_eq_true rfl) rfl (fun v1 σ1 h => by rw [h.1]; trivial) ?_
  refine m_ldc2_w dX11_no_0 kl_X11_134 ?_
  refine m_iload_n dX11_no_3 0 rfl ?_
  refine m_i2l dX11_no_4 ?_
  refine m_lsub dX11_no_5 ?_
  exact m_lreturn dX11_no_6 ⟨rfl, rfl⟩
theorem c_lowest (a b : Nat) (ha : a < 2 ^ 60) (hb : b < 2 ^ 60) (hb0 : 0 < b) (w : Int32) : mMet G l d kX11_lowest [.long (lN a), .long (lN b), .int w] σ (qL (lN (if w = 0 then a / Nat.gcd a b else b / Nat.gcd a b)) σ) := by
  refine mMet.of cm_X11_lowest rfl (Nat.le_of_ble_eq_true rfl) rfl (fun v1 σ1 h => by rw [h.1]; trivial) ?_
  refine m_lload_n dX11_lowest_0 0 rfl ?_
  refine m_lstore (ls1 := [(5, _), (0, _), (2, _), (4, _)]) dX11_lowest_1 (by decide) rfl ?_
  refine m_lload_n dX11_lowest_3 2 rfl ?_
  refine m_lstore (ls1 := [(7, _), (5, _), (0, _), (2, _), (4, _)]) dX11_lowest_4 (by decide) rfl ?_
  have key : ∀ n x y : Nat, y ≤ n → x < 2 ^ 60 → y < 2 ^ 60 → Nat.gcd x y = Nat.gcd a b → mW G l d kX11_lowest 6 [(7, .long (lN y)), (5, .long (lN x)), (0, .long (lN a)), (2, .long (lN b)), (4, .int w)] [] σ (qL (lN (if w = 0 then a / Nat.gcd a b else b / Nat.gcd a b)) σ) := by
    have hz : ∀ x y : Nat, y = 0 → x < 2 ^ 60 → Nat.gcd x y = Nat.gcd a b → mW G l d kX11_lowest 31 [(7, .long (lN y)), (5, .long (lN x)), (0, .long (lN a)), (2, .long (lN b)), (4, .int w)] [] σ (qL (lN (if w = 0 then a / Nat.gcd a b else b / Nat.gcd a b)) σ) := by
      intro x y hy hx hg
      subst hy
      rw [Nat.gcd_zero_right] at hg
      subst hg
      have h0 : 0 < Nat.gcd a b := Nat.gcd_pos_of_pos_right _ hb0
      have hne : ¬ lN (Nat.gcd a b) = 0 := fun q => by
        have := (pk_lEQ (a := Nat.gcd a b) (b := 0) (by omega) (by decide)).mp q
        omega
      refine m_iload dX11_lowest_31 4 rfl ?_
      refine m_if_ne dX11_lowest_33 43 (by decide) (fun h => ?_) (fun h => ?_)
      · refine m_lload_n dX11_lowest_43 3 rfl ?_
        refine m_lload dX11_lowest_44 1 rfl ?_
        refine m_ldiv dX11_lowest_46 hne ?_
        refine mW.topL (pk_lDiv (by omega) h0 (by omega)) ?_
        exact m_lreturn dX11_lowest_47 ⟨by rw [if_neg h], rfl⟩
      · refine m_lload_n dX11_lowest_36 2 rfl ?_
        refine m_lload dX11_lowest_37 1 rfl ?_
        refine m_ldiv dX11_lowest_39 hne ?_
        refine mW.topL (pk_lDiv (by omega) h0 (by omega)) ?_
        refine m_goto dX11_lowest_40 47 (by decide) ?_
        exact m_lreturn dX11_lowest_47 ⟨by rw [if_pos h], rfl⟩
    intro n
    induction n with
    | zero =>
      intro x y hy hx hy2 hg
      refine m_lload dX11_lowest_6 0 rfl ?_
      refine m_lconst (v := 0) dX11_lowest_8 (by decide) ?_
      refine m_lcmp dX11_lowest_9 ?_
      refine m_if_eq dX11_lowest_10 31 (by decide) (fun h => ?_) (fun h => ?_)
      · exact hz x y (by omega) hx hg
      · exact absurd (lcmp_eq.mpr (by rw [show y = 0 by omega]; rfl)) h
    | succ n ih =>
      intro x y hy hx hy2 hg
      refine m_lload dX11_lowest_6 0 rfl ?_
      refine m_lconst (v := 0) dX11_lowest_8 (by decide) ?_
      refine m_lcmp dX11_lowest_9 ?_
      refine m_if_eq dX11_lowest_10 31 (by decide) (fun h => ?_) (fun h => ?_)
      · exact hz x y ((pk_lEQ (b := 0) (by omega) (by decide)).mp (lcmp_eq.mp h)) hx hg
      · have hy0 : 0 < y := Nat.pos_of_ne_zero (fun q => h (lcmp_eq.mpr (by rw [q]; rfl)))
        have hne : ¬ lN y = 0 := fun q => h (lcmp_eq.mpr q)
        clear h
        have hml := Nat.mod_lt x hy0
        refine m_lload dX11_lowest_13 1 rfl ?_
        refine m_lload dX11_lowest_15 0 rfl ?_
        refine m_lrem dX11_lowest_17 hne ?_
        refine mW.topL (pk_lRem (by omega) hy0 (by omega)) ?_
        refine m_lstore (ls1 := [(9, _), (7, _), (5, _), (0, _), (2, _), (4, _)]) dX11_lowest_18 (by decide) rfl ?_
        refine m_lload dX11_lowest_20 1 rfl ?_
        refine m_lstore (ls1 := [(5, _), (9, _), (7, _), (0, _), (2, _), (4, _)]) dX11_lowest_22 (by decide) rfl ?_
        refine m_lload dX11_lowest_24 1 rfl ?_
        refine m_lstore (ls1 := [(7, _), (5, _), (9, _), (0, _), (2, _), (4, _)]) dX11_lowest_26 (by decide) rfl ?_
        refine m_goto dX11_lowest_28 6 (by decide) ?_
        refine mW.sub (ls1 := [(7, _), (5, _), (0, _), (2, _), (4, _)]) [0, 1, 3, 4, 5] rfl ?_
        refine ih y (x % y) (by omega) hy2 (by omega) ?_
        rw [← hg, Nat.gcd_comm x y, Nat.gcd_rec y x, Nat.gcd_comm]
  exact key b a b (Nat.le_refl _) ha hb rfl
theorem c_chanceOf (hd : 8 ≤ d) (L0 L1 e : Nat) (ok : okR σ L0 L1 e) (c k : Nat) (hc : c ≤ 16) (hk : k < (Dt σ L0 L1 e).1.1) (w : Int32) : mMet G l d kX11_chanceOf [.ref 111, .int (nI c), .int (nI k), .int w] σ (qLP (fun r s => r = chA (Dt σ L0 L1 e) c k w ∧ rdR s (Dt σ L0 L1 e) ∧ fW wScr σ s)) := by
  have hn : (Dt σ L0 L1 e).1.1 ≤ 8 := parC_n L0 (tx σ 0)
  have he8 : e ≤ 8 := ok.2.2.2.2.2
  have heD : (Dt σ L0 L1 e).2.2.1.1 = e := rfl
  refine mMet.of cm_X11_chanceOf rfl (Nat.le_of_ble_eq_true rfl) rfl (fun v1 σ1 h => by obtain ⟨r, h1, -⟩ := h; rw [h1]; trivial) ?_
  refine m_aload_n dX11_chanceOf_0 0 rfl ?_
  refine m_callV (As := []) dX11_chanceOf_1 cv_X11_270 (by first | assumption | rfl) (by decide) (by omega) rfl rfl (Nat.le_of_ble_eq_true rfl) (c_asTold (d := d - 1) (by omega) L0 L1 e ok) (fun v1 σ1 hv1 => ?_)
  refine m_qVP hv1 (fun ha => ?_)
  clear hv1 v1
  rename mS => s0
  obtain ⟨a1, a2, a3⟩ := ha
  have q12 : s0.1 111 12 = nI e := (a3.at (by omega)).trans ok.2.2.2.2.1
  generalize Dt σ L0 L1 e = D at *
  have hk8 : k < 8 := by omega
  have rM := repM.of a1
  have hp2 := p2 e he8
  have hp16 := p16 e he8
  refine m_lconst (v := 0) dX11_chanceOf_4 (by decide) ?_
  refine m_lstore (ls1 := [(4, _), (0, _), (1, _), (2, _), (3, _)]) dX11_chanceOf_5 (by decide) rfl ?_
  refine m_iconst (v := 0) dX11_chanceOf_7 (by decide) ?_
  refine m_istore (ls1 := [(6, _), (4, _), (0, _), (1, _), (2, _), (3, _)]) dX11_chanceOf_8 (by decide) rfl ?_
  refine down (N := 2 ^ e) (fun m (q : mS × Nat) => q.2 = chN D c k m ∧ fW wSq s0 q.1) (fun m q => mW G l d kX11_chanceOf 10 [(6, .int (nI m)), (4, .long (lN q.2)), (0, .ref 111), (1, .int (nI c)), (2, .int (nI k)), (3, .int w)] [] q.1 _) ?_ ?_ 0 (s0, 0) (Nat.zero_le _) ⟨rfl, fW.rf⟩
  · rintro ⟨s, f⟩ ⟨hf, fr⟩
    have hf' : f = chN D c k (2 ^ e) := hf
    have q12' : s.1 111 12 = nI e := (fr.at (by omega)).trans q12
    have hfl : f ≤ 2 ^ e * 16 ^ e := by rw [hf', ← heD]; exact chN_le D c k hc _
    have hfl2 : f < 2 ^ 60 := Nat.lt_of_le_of_lt (Nat.le_trans hfl (Nat.mul_le_mul hp2 hp16)) (by decide)
    show mW G l d kX11_chanceOf 10 [(6, .int (nI (2 ^ e))), (4, .long (lN f)), (0, .ref 111), (1, .int (nI c)), (2, .int (nI k)), (3, .int w)] [] s _
    refine m_iload dX11_chanceOf_10 0 rfl ?_
    refine m_iconst (v := 1) dX11_chanceOf_12 (by decide) ?_
    refine m_aload_n dX11_chanceOf_13 2 rfl ?_
    refine m_getI 12 dX11_chanceOf_14 fl_X11_204_10 rfl (by decide) (by first | assumption | rfl) ?_
    refine mW.top q12' ?_
    refine m_ishl dX11_chanceOf_17 ?_
    refine mW.top (sh1 e he8) ?_
    refine m_icmp_ge dX11_chanceOf_18 110 (by decide) (fun h => ?_) (fun h => ?_)
    · refine m_lload dX11_chanceOf_110 1 rfl ?_
      refine m_lconst (v := 1) dX11_chanceOf_112 (by decide) ?_
      refine m_iconst (v := 4) dX11_chanceOf_113 (by decide) ?_
      refine m_aload_n dX11_chanceOf_114 2 rfl ?_
      refine m_getI 12 dX11_chanceOf_115 fl_X11_204_10 rfl (by decide) (by first | assumption | rfl) ?_
      refine mW.top q12' ?_
      refine m_imul dX11_chanceOf_118 ?_
      refine m_lshl dX11_chanceOf_119 ?_
      refine mW.topL (sh16 e he8) ?_
      refine m_iload_n dX11_chanceOf_120 5 rfl ?_
      refine m_callS (As := [_, _, _]) dX11_chanceOf_121 cs_X11_353 (by omega) rfl rfl (Nat.le_of_ble_eq_true rfl) (c_lowest (d := d - 1) f (16 ^ e) hfl2 (by omega) (p16p e) w) (fun v1 σ1 hv1 => ?_)
      refine m_qL hv1 ?_
      clear hv1 v1 σ1
      refine m_lreturn dX11_chanceOf_124 ⟨_, rfl, ?_, ⟨(fr.at (by omega)).trans a1.2.2.2.1, fun i hi j hj => (fr.at (by omega)).trans (a1.2.2.2.2.2.2.2.1 i hi j hj)⟩, a3.tr (fr.mono (fun y z h => by omega))⟩
      unfold chA
      rw [heD, hf']
    · exact absurd (Int32.le_refl _) h
  · rintro m ⟨s, f⟩ hm ⟨hf, fr⟩ ih
    have hf' : f = chN D c k m := hf
    have q12' : s.1 111 12 = nI e := (fr.at (by omega)).trans q12
    show mW G l d kX11_chanceOf 10 [(6, .int (nI m)), (4, .long (lN f)), (0, .ref 111), (1, .int (nI c)), (2, .int (nI k)), (3, .int w)] [] s _
    refine m_iload dX11_chanceOf_10 0 rfl ?_
    refine m_iconst (v := 1) dX11_chanceOf_12 (by decide) ?_
    refine m_aload_n dX11_chanceOf_13 2 rfl ?_
    refine m_getI 12 dX11_chanceOf_14 fl_X11_204_10 rfl (by decide) (by first | assumption | rfl) ?_
    refine mW.top q12' ?_
    refine m_ishl dX11_chanceOf_17 ?_
    refine mW.top (sh1 e he8) ?_
    refine m_icmp_ge dX11_chanceOf_18 110 (by decide) (fun h => ?_) (fun h => ?_)
    · exact absurd ((nle (a := 2 ^ e) (by omega) (by omega)).mp h) (by omega)
    · clear h
      refine m_lconst (v := 1) dX11_chanceOf_21 (by decide) ?_
      refine m_lstore (ls1 := [(7, _), (6, _), (4, _), (0, _), (1, _), (2, _), (3, _)]) dX11_chanceOf_22 (by decide) rfl ?_
      refine m_iconst (v := 0) dX11_chanceOf_24 (by decide) ?_
      refine m_istore (ls1 := [(9, _), (7, _), (6, _), (4, _), (0, _), (1, _), (2, _), (3, _)]) dX11_chanceOf_25 (by decide) rfl ?_
      refine down (N := e) (fun i (p : Nat) => p = wtN c m i) (fun i p => mW G l d kX11_chanceOf 27 [(9, .int (nI i)), (7, .long (lN p)), (6, .int (nI m)), (4, .long (lN f)), (0, .ref 111), (1, .int (nI c)), (2, .int (nI k)), (3, .int w)] [] s _) ?_ ?_ 0 1 (Nat.zero_le _) rfl
      · rintro p hp
        have hpl : p ≤ 16 ^ e := by rw [hp]; exact wtN_le c m hc e
        refine m_iload dX11_chanceOf_27 0 rfl ?_
        refine m_aload_n dX11_chanceOf_29 4 rfl ?_
        refine m_getI 12 dX11_chanceOf_30 fl_X11_204_10 rfl (by decide) (by first | assumption | rfl) ?_
        refine mW.top q12' ?_
        refine m_icmp_ge dX11_chanceOf_33 67 (by decide) (fun h => ?_) (fun h => ?_)
        rotate_left
        · exact absurd (Int32.le_refl _) h
        clear h
        refine m_lload dX11_chanceOf_67 1 rfl ?_
        refine m_lconst (v := 0) dX11_chanceOf_69 (by decide) ?_
        refine m_lcmp dX11_chanceOf_70 ?_
        refine m_if_le dX11_chanceOf_71 104 (by decide) (fun h => ?_) (fun h => ?_)
        · have hp0 : p = 0 := Nat.eq_zero_of_not_pos (fun q => lcmp_le.mp h ((pk_lLT (a := 0) (by decide) (by omega)).mpr q))
          clear h
          refine m_iinc (v := nI (m + 1)) (ls1 := [(6, _), (9, _), (7, _), (4, _), (0, _), (1, _), (2, _), (3, _)]) dX11_chanceOf_104 2 rfl (nI_1 m) (by decide) rfl ?_
          refine m_goto dX11_chanceOf_107 10 (by decide) ?_
          refine mW.sub (ls1 := [(6, _), (4, _), (0, _), (1, _), (2, _), (3, _)]) [0, 3, 4, 5, 6, 7] rfl ?_
          refine ih (s, f) ⟨?_, fr⟩
          show f = chN D c k (m + 1)
          rw [chN, heD, ← hp, hp0, ite_self]; exact hf'
        · clear h
          refine m_aload_n dX11_chanceOf_74 4 rfl ?_
          refine m_iload dX11_chanceOf_75 2 rfl ?_
          refine m_putI 21 dX11_chanceOf_77 fw_X11_223_10 rfl (by decide) rfl rfl (by first | assumption | rfl) ?_
          refine m_aload_n dX11_chanceOf_80 4 rfl ?_
          refine m_callV (As := []) dX11_chanceOf_81 cv_X11_273 (by first | assumption | rfl) (by decide) (by omega) rfl rfl (Nat.le_of_ble_eq_true rfl) (c_runsD (d := d - 1) (by omega) _ ((rM.tr (sqp fr)) (nI m))) (fun v1 σ1 hv1 => ?_)
          refine m_qVP hv1 (fun hz => ?_)
          clear hv1 v1
          rename mS => s2
          obtain ⟨z1, z2⟩ := hz
          have f2 : fW wSq s0 s2 := fr.tr ((fW.us (by omega) fW.rf).tr (z2.mono (fun y z h => by omega)))
          have hp3 : s2.1 132 k = (RSt (maskD D (nI m)) 24).2.2.2.2.1 k := (z1.2.1 k hk).2.2.2.2.1
          have kJ : ∀ v : Nat, v = (if 0 < (RSt (maskD D (nI m)) 24).2.2.2.2.1 k then wtN c m D.2.2.1.1 else 0) → mW G l d kX11_chanceOf 101 [(9, .int (nI e)), (7, .long (lN p)), (6, .int (nI m)), (4, .long (lN f)), (0, .ref 111), (1, .int (nI c)), (2, .int (nI k)), (3, .int w)] [.long (lN v), .long (lN f)] s2 (qLP (fun r s => r = chA D c k w ∧ rdR s D ∧ fW wScr σ s)) := by
            intro v hv
            refine m_ladd dX11_chanceOf_101 ?_
            refine mW.topL (w := lN (f + v)) (lN_add f v) ?_
            refine m_lstore (ls1 := [(4, _), (9, _), (7, _), (6, _), (0, _), (1, _), (2, _), (3, _)]) dX11_chanceOf_102 (by decide) rfl ?_
            refine m_iinc (v := nI (m + 1)) (ls1 := [(6, _), (4, _), (9, _), (7, _), (0, _), (1, _), (2, _), (3, _)]) dX11_chanceOf_104 3 rfl (nI_1 m) (by decide) rfl ?_
            refine m_goto dX11_chanceOf_107 10 (by decide) ?_
            refine mW.sub (ls1 := [(6, _), (4, _), (0, _), (1, _), (2, _), (3, _)]) [0, 1, 4, 5, 6, 7] rfl ?_
            refine ih (s2, f + v) ⟨?_, f2⟩
            show f + v = chN D c k (m + 1)
            rw [chN, ← hv, hf']
          refine m_lload dX11_chanceOf_84 3 rfl ?_
          refine m_aload_n dX11_chanceOf_86 4 rfl ?_
          refine m_getR 26 132 dX11_chanceOf_87 fl_X11_70_10 rfl (by decide) rfl (by first | assumption | rfl) ?_
          refine m_iload_n dX11_chanceOf_90 6 rfl ?_
          refine m_iald dX11_chanceOf_91 (by first | assumption | rfl) k rfl (by first | assumption | omega | decide) ?_
          refine mW.top hp3 ?_
          refine m_if_le dX11_chanceOf_92 100 (by decide) (fun h => ?_) (fun h => ?_)
          · refine m_lconst (v := 0) dX11_chanceOf_100 (by decide) ?_
            exact kJ 0 (by rw [if_neg (Int32.not_lt.mpr h)])
          · refine m_lload dX11_chanceOf_95 1 rfl ?_
            refine m_goto dX11_chanceOf_97 101 (by decide) ?_
            exact kJ p (by rw [if_pos (Int32.not_le.mp h), heD, hp])
      · rintro i p hi hp ihI
        refine m_iload dX11_chanceOf_27 0 rfl ?_
        refine m_aload_n dX11_chanceOf_29 4 rfl ?_
        refine m_getI 12 dX11_chanceOf_30 fl_X11_204_10 rfl (by decide) (by first | assumption | rfl) ?_
        refine mW.top q12' ?_
        refine m_icmp_ge dX11_chanceOf_33 67 (by decide) (fun h => ?_) (fun h => ?_)
        · exact absurd ((nle (by omega) (by omega)).mp h) (by omega)
        · clear h
          have kJ : ∀ v : Nat, v = (if bitI (nI m) (nI i) then 16 - c else c) → mW G l d kX11_chanceOf 58 [(9, .int (nI i)), (7, .long (lN p)), (6, .int (nI m)), (4, .long (lN f)), (0, .ref 111), (1, .int (nI c)), (2, .int (nI k)), (3, .int w)] [.long (lN v), .long (lN p)] s (qLP (fun r s => r = chA D c k w ∧ rdR s D ∧ fW wScr σ s)) := by
            intro v hv
            refine m_lmul dX11_chanceOf_58 ?_
            refine mW.topL (w := lN (p * v)) (lN_mul p v) ?_
            refine m_lstore (ls1 := [(7, _), (9, _), (6, _), (4, _), (0, _), (1, _), (2, _), (3, _)]) dX11_chanceOf_59 (by decide) rfl ?_
            refine m_iinc (v := nI (i + 1)) (ls1 := [(9, _), (7, _), (6, _), (4, _), (0, _), (1, _), (2, _), (3, _)]) dX11_chanceOf_61 1 rfl (nI_1 i) (by decide) rfl ?_
            refine m_goto dX11_chanceOf_64 27 (by decide) ?_
            refine ihI (p * v) ?_
            show p * v = wtN c m (i + 1)
            rw [wtN, ← hv, hp]
          refine m_lload dX11_chanceOf_36 1 rfl ?_
          refine m_iload dX11_chanceOf_38 2 rfl ?_
          refine m_iload dX11_chanceOf_40 0 rfl ?_
          refine m_callS (As := [_, _]) dX11_chanceOf_42 cs_X11_252 (by omega) rfl rfl (Nat.le_of_ble_eq_true rfl) (c_isIn (d := d - 1) (nI m) (nI i)) (fun v1 σ1 hv1 => ?_)
          refine m_qI hv1 ?_
          clear hv1 v1 σ1
          refine m_if_eq dX11_chanceOf_45 56 (by decide) (fun h => ?_) (fun h => ?_)
          · refine m_iload_n dX11_chanceOf_56 5 rfl ?_
            refine m_i2l dX11_chanceOf_57 ?_
            refine mW.topL (w := lN c) (nI_l (by omega)) ?_
            exact kJ c (by rw [if_neg (bI0 h)])
          · refine m_bipush (v := 16) dX11_chanceOf_48 (by decide) ?_
            refine m_iload_n dX11_chanceOf_50 5 rfl ?_
            refine m_isub dX11_chanceOf_51 ?_
            refine mW.top (w := nI (16 - c)) (pk_sub (a := 16) hc) ?_
            refine m_i2l dX11_chanceOf_52 ?_
            refine mW.topL (w := lN (16 - c)) (nI_l (by omega)) ?_
            refine m_goto dX11_chanceOf_53 58 (by decide) ?_
            exact kJ (16 - c) (by rw [if_pos (bI1 h)])
end CH
end
