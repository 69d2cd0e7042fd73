section
-- ===== PART A: goes FIRST, ahead of the names: the tables' words, and 'selects' of the private methods out of them =====
/-- a private method of a class that the tables say can be made, by its rows of tables_1 -/
def lw_okq (q : MethodName × Nat) : Prop := (q.1.cls ≠ "java/lang/invoke/MethodHandle" ∧ q.1.cls ≠ "java/lang/invoke/VarHandle") ∧ Cond.instantiable q.1.cls q.2 ∈ tables_1 ∧ Cond.privateMethod q.1 ∈ tables_1 ∧ Cond.instanceMethod q.1 ∈ tables_1
theorem lw_p0 : lw_okq (⟨"SideStep$Breaks", "disarm", "(I)V"⟩, 1) := ⟨⟨by decide +kernel, by decide +kernel⟩, List.mem_of_getElem? (i := 132) (by decide +kernel), List.mem_of_getElem? (i := 142) (by decide +kernel), List.mem_of_getElem? (i := 143) (by decide +kernel)⟩
theorem lw_p1 : lw_okq (⟨"SideStep$Text", "endOfMatch", "(ILjava/lang/String;)I"⟩, 2) := ⟨⟨by decide +kernel, by decide +kernel⟩, List.mem_of_getElem? (i := 30) (by decide +kernel), List.mem_of_getElem? (i := 425) (by decide +kernel), List.mem_of_getElem? (i := 426) (by decide +kernel)⟩
theorem lw_p2 : lw_okq (⟨"SideStep$Text", "fits", "(CI)Z"⟩, 2) := ⟨⟨by decide +kernel, by decide +kernel⟩, List.mem_of_getElem? (i := 30) (by decide +kernel), List.mem_of_getElem? (i := 450) (by decide +kernel), List.mem_of_getElem? (i := 451) (by decide +kernel)⟩
theorem lw_p3 : lw_okq (⟨"SideStep$Text", "addInstruction", "(IILSideStep$Program;)V"⟩, 2) := ⟨⟨by decide +kernel, by decide +kernel⟩, List.mem_of_getElem? (i := 30) (by decide +kernel), List.mem_of_getElem? (i := 454) (by decide +kernel), List.mem_of_getElem? (i := 455) (by decide +kernel)⟩
theorem lw_p4 : lw_okq (⟨"SideStep$Text", "distance", "(I)I"⟩, 2) := ⟨⟨by decide +kernel, by decide +kernel⟩, List.mem_of_getElem? (i := 30) (by decide +kernel), List.mem_of_getElem? (i := 458) (by decide +kernel), List.mem_of_getElem? (i := 459) (by decide +kernel)⟩
theorem lw_p5 : lw_okq (⟨"SideStep$Text", "digit", "(I)I"⟩, 2) := ⟨⟨by decide +kernel, by decide +kernel⟩, List.mem_of_getElem? (i := 30) (by decide +kernel), List.mem_of_getElem? (i := 462) (by decide +kernel), List.mem_of_getElem? (i := 463) (by decide +kernel)⟩
theorem lw_p6 : lw_okq (⟨"SideStep$Program", "modelOf", "(I)I"⟩, 5) := ⟨⟨by decide +kernel, by decide +kernel⟩, List.mem_of_getElem? (i := 46) (by decide +kernel), List.mem_of_getElem? (i := 470) (by decide +kernel), List.mem_of_getElem? (i := 471) (by decide +kernel)⟩
theorem lw_p7 : lw_okq (⟨"SideStep", "emptySlots", "()V"⟩, 12) := ⟨⟨by decide +kernel, by decide +kernel⟩, List.mem_of_getElem? (i := 22) (by decide +kernel), List.mem_of_getElem? (i := 495) (by decide +kernel), List.mem_of_getElem? (i := 496) (by decide +kernel)⟩
theorem lw_p8 : lw_okq (⟨"SideStep$State", "reasonAfterStep", "(LSideStep$Program;)I"⟩, 7) := ⟨⟨by decide +kernel, by decide +kernel⟩, List.mem_of_getElem? (i := 77) (by decide +kernel), List.mem_of_getElem? (i := 584) (by decide +kernel), List.mem_of_getElem? (i := 585) (by decide +kernel)⟩
theorem lw_p9 : lw_okq (⟨"SideStep$Machine", "putOut", "(I)V"⟩, 8) := ⟨⟨by decide +kernel, by decide +kernel⟩, List.mem_of_getElem? (i := 83) (by decide +kernel), List.mem_of_getElem? (i := 599) (by decide +kernel), List.mem_of_getElem? (i := 600) (by decide +kernel)⟩
theorem lw_p10 : lw_okq (⟨"SideStep$State", "charge", "(ILSideStep$Program;)V"⟩, 7) := ⟨⟨by decide +kernel, by decide +kernel⟩, List.mem_of_getElem? (i := 77) (by decide +kernel), List.mem_of_getElem? (i := 603) (by decide +kernel), List.mem_of_getElem? (i := 604) (by decide +kernel)⟩
theorem lw_p11 : lw_okq (⟨"SideStep$State", "keepCopy", "(I)V"⟩, 7) := ⟨⟨by decide +kernel, by decide +kernel⟩, List.mem_of_getElem? (i := 77) (by decide +kernel), List.mem_of_getElem? (i := 614) (by decide +kernel), List.mem_of_getElem? (i := 615) (by decide +kernel)⟩
theorem lw_p12 : lw_okq (⟨"SideStep$State", "isDone", "(II)Z"⟩, 7) := ⟨⟨by decide +kernel, by decide +kernel⟩, List.mem_of_getElem? (i := 77) (by decide +kernel), List.mem_of_getElem? (i := 631) (by decide +kernel), List.mem_of_getElem? (i := 632) (by decide +kernel)⟩
theorem lw_p13 : lw_okq (⟨"SideStep", "exchange", "([III)I"⟩, 12) := ⟨⟨by decide +kernel, by decide +kernel⟩, List.mem_of_getElem? (i := 22) (by decide +kernel), List.mem_of_getElem? (i := 639) (by decide +kernel), List.mem_of_getElem? (i := 640) (by decide +kernel)⟩
theorem lw_p14 : lw_okq (⟨"SideStep", "moveCounter", "(I)I"⟩, 12) := ⟨⟨by decide +kernel, by decide +kernel⟩, List.mem_of_getElem? (i := 22) (by decide +kernel), List.mem_of_getElem? (i := 643) (by decide +kernel), List.mem_of_getElem? (i := 644) (by decide +kernel)⟩
theorem lw_p15 : lw_okq (⟨"SideStep", "followsAside", "(I)I"⟩, 12) := ⟨⟨by decide +kernel, by decide +kernel⟩, List.mem_of_getElem? (i := 22) (by decide +kernel), List.mem_of_getElem? (i := 690) (by decide +kernel), List.mem_of_getElem? (i := 691) (by decide +kernel)⟩
def lw_privs_1 : List (MethodName × Nat) := [(⟨"SideStep$Breaks", "disarm", "(I)V"⟩, 1), (⟨"SideStep$Text", "endOfMatch", "(ILjava/lang/String;)I"⟩, 2), (⟨"SideStep$Text", "fits", "(CI)Z"⟩, 2), (⟨"SideStep$Text", "addInstruction", "(IILSideStep$Program;)V"⟩, 2), (⟨"SideStep$Text", "distance", "(I)I"⟩, 2), (⟨"SideStep$Text", "digit", "(I)I"⟩, 2), (⟨"SideStep$Program", "modelOf", "(I)I"⟩, 5), (⟨"SideStep", "emptySlots", "()V"⟩, 12), (⟨"SideStep$State", "reasonAfterStep", "(LSideStep$Program;)I"⟩, 7), (⟨"SideStep$Machine", "putOut", "(I)V"⟩, 8), (⟨"SideStep$State", "charge", "(ILSideStep$Program;)V"⟩, 7), (⟨"SideStep$State", "keepCopy", "(I)V"⟩, 7), (⟨"SideStep$State", "isDone", "(II)Z"⟩, 7), (⟨"SideStep", "exchange", "([III)I"⟩, 12), (⟨"SideStep", "moveCounter", "(I)I"⟩, 12), (⟨"SideStep", "followsAside", "(I)I"⟩, 12)]
theorem lw_r1 : ∀ q ∈ lw_privs_1, lw_okq q := List.forall_mem_cons.mpr ⟨lw_p0, List.forall_mem_cons.mpr ⟨lw_p1, List.forall_mem_cons.mpr ⟨lw_p2, List.forall_mem_cons.mpr ⟨lw_p3, List.forall_mem_cons.mpr ⟨lw_p4, List.forall_mem_cons.mpr ⟨lw_p5, List.forall_mem_cons.mpr ⟨lw_p6, List.forall_mem_cons.mpr ⟨lw_p7, List.forall_mem_cons.mpr ⟨lw_p8, List.forall_mem_cons.mpr ⟨lw_p9, List.forall_mem_cons.mpr ⟨lw_p10, List.forall_mem_cons.mpr ⟨lw_p11, List.forall_mem_cons.mpr ⟨lw_p12, List.forall_mem_cons.mpr ⟨lw_p13, List.forall_mem_cons.mpr ⟨lw_p14, List.forall_mem_cons.mpr ⟨lw_p15, fun _ h => absurd h List.not_mem_nil⟩⟩⟩⟩⟩⟩⟩⟩⟩⟩⟩⟩⟩⟩⟩⟩
theorem lw_p16 : lw_okq (⟨"SideStep", "holds", "(III)Z"⟩, 12) := ⟨⟨by decide +kernel, by decide +kernel⟩, List.mem_of_getElem? (i := 22) (by decide +kernel), List.mem_of_getElem? (i := 724) (by decide +kernel), List.mem_of_getElem? (i := 725) (by decide +kernel)⟩
theorem lw_p17 : lw_okq (⟨"SideStep", "takesBreak", "(I)Z"⟩, 12) := ⟨⟨by decide +kernel, by decide +kernel⟩, List.mem_of_getElem? (i := 22) (by decide +kernel), List.mem_of_getElem? (i := 731) (by decide +kernel), List.mem_of_getElem? (i := 732) (by decide +kernel)⟩
theorem lw_p18 : lw_okq (⟨"SideStep$Stops", "list", "(LSideStep$Breaks;)V"⟩, 8) := ⟨⟨by decide +kernel, by decide +kernel⟩, List.mem_of_getElem? (i := 240) (by decide +kernel), List.mem_of_getElem? (i := 769) (by decide +kernel), List.mem_of_getElem? (i := 770) (by decide +kernel)⟩
theorem lw_p19 : lw_okq (⟨"SideStep$Stops", "follow", "(LSideStep$State;LSideStep$Program;)V"⟩, 8) := ⟨⟨by decide +kernel, by decide +kernel⟩, List.mem_of_getElem? (i := 240) (by decide +kernel), List.mem_of_getElem? (i := 775) (by decide +kernel), List.mem_of_getElem? (i := 776) (by decide +kernel)⟩
theorem lw_p20 : lw_okq (⟨"SideStep$Stops", "indexOf", "(I)I"⟩, 8) := ⟨⟨by decide +kernel, by decide +kernel⟩, List.mem_of_getElem? (i := 240) (by decide +kernel), List.mem_of_getElem? (i := 782) (by decide +kernel), List.mem_of_getElem? (i := 783) (by decide +kernel)⟩
theorem lw_p21 : lw_okq (⟨"SideStep$Stops", "valueOf", "(I)I"⟩, 8) := ⟨⟨by decide +kernel, by decide +kernel⟩, List.mem_of_getElem? (i := 240) (by decide +kernel), List.mem_of_getElem? (i := 786) (by decide +kernel), List.mem_of_getElem? (i := 787) (by decide +kernel)⟩
theorem lw_p22 : lw_okq (⟨"SideStepModel", "readText", "()I"⟩, 28) := ⟨⟨by decide +kernel, by decide +kernel⟩, List.mem_of_getElem? (i := 843) (by decide +kernel), List.mem_of_getElem? (i := 953) (by decide +kernel), List.mem_of_getElem? (i := 954) (by decide +kernel)⟩
theorem lw_p23 : lw_okq (⟨"SideStepModel", "takeSign", "(I)Z"⟩, 28) := ⟨⟨by decide +kernel, by decide +kernel⟩, List.mem_of_getElem? (i := 843) (by decide +kernel), List.mem_of_getElem? (i := 957) (by decide +kernel), List.mem_of_getElem? (i := 958) (by decide +kernel)⟩
theorem lw_p24 : lw_okq (⟨"SideStepModel", "takeOf", "(I)Z"⟩, 28) := ⟨⟨by decide +kernel, by decide +kernel⟩, List.mem_of_getElem? (i := 843) (by decide +kernel), List.mem_of_getElem? (i := 964) (by decide +kernel), List.mem_of_getElem? (i := 965) (by decide +kernel)⟩
theorem lw_p25 : lw_okq (⟨"SideStepModel", "takeFar", "(I)Z"⟩, 28) := ⟨⟨by decide +kernel, by decide +kernel⟩, List.mem_of_getElem? (i := 843) (by decide +kernel), List.mem_of_getElem? (i := 968) (by decide +kernel), List.mem_of_getElem? (i := 969) (by decide +kernel)⟩
theorem lw_p26 : lw_okq (⟨"SideStepModel", "ended", "(Z)Z"⟩, 28) := ⟨⟨by decide +kernel, by decide +kernel⟩, List.mem_of_getElem? (i := 843) (by decide +kernel), List.mem_of_getElem? (i := 974) (by decide +kernel), List.mem_of_getElem? (i := 975) (by decide +kernel)⟩
theorem lw_p27 : lw_okq (⟨"SideStepModel", "takeCall", "(I)Z"⟩, 28) := ⟨⟨by decide +kernel, by decide +kernel⟩, List.mem_of_getElem? (i := 843) (by decide +kernel), List.mem_of_getElem? (i := 978) (by decide +kernel), List.mem_of_getElem? (i := 979) (by decide +kernel)⟩
theorem lw_p28 : lw_okq (⟨"SideStepModel", "takeFirst", "(II)Z"⟩, 28) := ⟨⟨by decide +kernel, by decide +kernel⟩, List.mem_of_getElem? (i := 843) (by decide +kernel), List.mem_of_getElem? (i := 984) (by decide +kernel), List.mem_of_getElem? (i := 985) (by decide +kernel)⟩
theorem lw_p29 : lw_okq (⟨"SideStepModel", "counted", "()I"⟩, 28) := ⟨⟨by decide +kernel, by decide +kernel⟩, List.mem_of_getElem? (i := 843) (by decide +kernel), List.mem_of_getElem? (i := 998) (by decide +kernel), List.mem_of_getElem? (i := 999) (by decide +kernel)⟩
theorem lw_p30 : lw_okq (⟨"SideStepModel", "unlike", "()I"⟩, 28) := ⟨⟨by decide +kernel, by decide +kernel⟩, List.mem_of_getElem? (i := 843) (by decide +kernel), List.mem_of_getElem? (i := 1002) (by decide +kernel), List.mem_of_getElem? (i := 1003) (by decide +kernel)⟩
theorem lw_p31 : lw_okq (⟨"SideStepModel", "leastAlike", "(I)I"⟩, 28) := ⟨⟨by decide +kernel, by decide +kernel⟩, List.mem_of_getElem? (i := 843) (by decide +kernel), List.mem_of_getElem? (i := 1006) (by decide +kernel), List.mem_of_getElem? (i := 1007) (by decide +kernel)⟩
def lw_privs_2 : List (MethodName × Nat) := [(⟨"SideStep", "holds", "(III)Z"⟩, 12), (⟨"SideStep", "takesBreak", "(I)Z"⟩, 12), (⟨"SideStep$Stops", "list", "(LSideStep$Breaks;)V"⟩, 8), (⟨"SideStep$Stops", "follow", "(LSideStep$State;LSideStep$Program;)V"⟩, 8), (⟨"SideStep$Stops", "indexOf", "(I)I"⟩, 8), (⟨"SideStep$Stops", "valueOf", "(I)I"⟩, 8), (⟨"SideStepModel", "readText", "()I"⟩, 28), (⟨"SideStepModel", "takeSign", "(I)Z"⟩, 28), (⟨"SideStepModel", "takeOf", "(I)Z"⟩, 28), (⟨"SideStepModel", "takeFar", "(I)Z"⟩, 28), (⟨"SideStepModel", "ended", "(Z)Z"⟩, 28), (⟨"SideStepModel", "takeCall", "(I)Z"⟩, 28), (⟨"SideStepModel", "takeFirst", "(II)Z"⟩, 28), (⟨"SideStepModel", "counted", "()I"⟩, 28), (⟨"SideStepModel", "unlike", "()I"⟩, 28), (⟨"SideStepModel", "leastAlike", "(I)I"⟩, 28)]
theorem lw_r2 : ∀ q ∈ lw_privs_2, lw_okq q := List.forall_mem_cons.mpr ⟨lw_p16, List.forall_mem_cons.mpr ⟨lw_p17, List.forall_mem_cons.mpr ⟨lw_p18, List.forall_mem_cons.mpr ⟨lw_p19, List.forall_mem_cons.mpr ⟨lw_p20, List.forall_mem_cons.mpr ⟨lw_p21, List.forall_mem_cons.mpr ⟨lw_p22, List.forall_mem_cons.mpr ⟨lw_p23, List.forall_mem_cons.mpr ⟨lw_p24, List.forall_mem_cons.mpr ⟨lw_p25, List.forall_mem_cons.mpr ⟨lw_p26, List.forall_mem_cons.mpr ⟨lw_p27, List.forall_mem_cons.mpr ⟨lw_p28, List.forall_mem_cons.mpr ⟨lw_p29, List.forall_mem_cons.mpr ⟨lw_p30, List.forall_mem_cons.mpr ⟨lw_p31, fun _ h => absurd h List.not_mem_nil⟩⟩⟩⟩⟩⟩⟩⟩⟩⟩⟩⟩⟩⟩⟩⟩
theorem lw_p32 : lw_okq (⟨"SideStepModel", "areAlike", "(II)Z"⟩, 28) := ⟨⟨by decide +kernel, by decide +kernel⟩, List.mem_of_getElem? (i := 843) (by decide +kernel), List.mem_of_getElem? (i := 1010) (by decide +kernel), List.mem_of_getElem? (i := 1011) (by decide +kernel)⟩
theorem lw_p33 : lw_okq (⟨"SideStepModel", "isPlace", "(I)Z"⟩, 28) := ⟨⟨by decide +kernel, by decide +kernel⟩, List.mem_of_getElem? (i := 843) (by decide +kernel), List.mem_of_getElem? (i := 1030) (by decide +kernel), List.mem_of_getElem? (i := 1031) (by decide +kernel)⟩
theorem lw_p34 : lw_okq (⟨"SideStepModel", "note", "()V"⟩, 28) := ⟨⟨by decide +kernel, by decide +kernel⟩, List.mem_of_getElem? (i := 843) (by decide +kernel), List.mem_of_getElem? (i := 1042) (by decide +kernel), List.mem_of_getElem? (i := 1043) (by decide +kernel)⟩
theorem lw_p35 : lw_okq (⟨"SideStepModel", "planOn", "([II)I"⟩, 28) := ⟨⟨by decide +kernel, by decide +kernel⟩, List.mem_of_getElem? (i := 843) (by decide +kernel), List.mem_of_getElem? (i := 1046) (by decide +kernel), List.mem_of_getElem? (i := 1047) (by decide +kernel)⟩
theorem lw_p36 : lw_okq (⟨"SideStepModel", "step", "([I)Z"⟩, 28) := ⟨⟨by decide +kernel, by decide +kernel⟩, List.mem_of_getElem? (i := 843) (by decide +kernel), List.mem_of_getElem? (i := 1050) (by decide +kernel), List.mem_of_getElem? (i := 1051) (by decide +kernel)⟩
theorem lw_p37 : lw_okq (⟨"SideStepModel", "bareStep", "([I)Z"⟩, 28) := ⟨⟨by decide +kernel, by decide +kernel⟩, List.mem_of_getElem? (i := 843) (by decide +kernel), List.mem_of_getElem? (i := 1054) (by decide +kernel), List.mem_of_getElem? (i := 1055) (by decide +kernel)⟩
theorem lw_p38 : lw_okq (⟨"SideStepModel", "doesFault", "([II)Z"⟩, 28) := ⟨⟨by decide +kernel, by decide +kernel⟩, List.mem_of_getElem? (i := 843) (by decide +kernel), List.mem_of_getElem? (i := 1058) (by decide +kernel), List.mem_of_getElem? (i := 1059) (by decide +kernel)⟩
theorem lw_p39 : lw_okq (⟨"SideStepModel", "perform", "([III)I"⟩, 28) := ⟨⟨by decide +kernel, by decide +kernel⟩, List.mem_of_getElem? (i := 843) (by decide +kernel), List.mem_of_getElem? (i := 1062) (by decide +kernel), List.mem_of_getElem? (i := 1063) (by decide +kernel)⟩
theorem lw_p40 : lw_okq (⟨"SideStepModel", "keepCopy", "([II)V"⟩, 28) := ⟨⟨by decide +kernel, by decide +kernel⟩, List.mem_of_getElem? (i := 843) (by decide +kernel), List.mem_of_getElem? (i := 1066) (by decide +kernel), List.mem_of_getElem? (i := 1067) (by decide +kernel)⟩
theorem lw_p41 : lw_okq (⟨"SideStepModel", "reason", "([IIII)I"⟩, 28) := ⟨⟨by decide +kernel, by decide +kernel⟩, List.mem_of_getElem? (i := 843) (by decide +kernel), List.mem_of_getElem? (i := 1073) (by decide +kernel), List.mem_of_getElem? (i := 1074) (by decide +kernel)⟩
theorem lw_p42 : lw_okq (⟨"SideStepModel", "isChanged", "([I)Z"⟩, 28) := ⟨⟨by decide +kernel, by decide +kernel⟩, List.mem_of_getElem? (i := 843) (by decide +kernel), List.mem_of_getElem? (i := 1077) (by decide +kernel), List.mem_of_getElem? (i := 1078) (by decide +kernel)⟩
theorem lw_p43 : lw_okq (⟨"SideStepModel", "isStopped", "([I)Z"⟩, 28) := ⟨⟨by decide +kernel, by decide +kernel⟩, List.mem_of_getElem? (i := 843) (by decide +kernel), List.mem_of_getElem? (i := 1084) (by decide +kernel), List.mem_of_getElem? (i := 1085) (by decide +kernel)⟩
theorem lw_p44 : lw_okq (⟨"SideStepModel", "applies", "([II)Z"⟩, 28) := ⟨⟨by decide +kernel, by decide +kernel⟩, List.mem_of_getElem? (i := 843) (by decide +kernel), List.mem_of_getElem? (i := 1088) (by decide +kernel), List.mem_of_getElem? (i := 1089) (by decide +kernel)⟩
theorem lw_p45 : lw_okq (⟨"SideStepModel", "tellAt", "(II)I"⟩, 28) := ⟨⟨by decide +kernel, by decide +kernel⟩, List.mem_of_getElem? (i := 843) (by decide +kernel), List.mem_of_getElem? (i := 1100) (by decide +kernel), List.mem_of_getElem? (i := 1101) (by decide +kernel)⟩
theorem lw_p46 : lw_okq (⟨"SideStepModel", "freeOn", "()I"⟩, 28) := ⟨⟨by decide +kernel, by decide +kernel⟩, List.mem_of_getElem? (i := 843) (by decide +kernel), List.mem_of_getElem? (i := 1134) (by decide +kernel), List.mem_of_getElem? (i := 1135) (by decide +kernel)⟩
theorem lw_p47 : lw_okq (⟨"SideStepModel", "judged", "(III)Z"⟩, 28) := ⟨⟨by decide +kernel, by decide +kernel⟩, List.mem_of_getElem? (i := 843) (by decide +kernel), List.mem_of_getElem? (i := 1147) (by decide +kernel), List.mem_of_getElem? (i := 1148) (by decide +kernel)⟩
def lw_privs_3 : List (MethodName × Nat) := [(⟨"SideStepModel", "areAlike", "(II)Z"⟩, 28), (⟨"SideStepModel", "isPlace", "(I)Z"⟩, 28), (⟨"SideStepModel", "note", "()V"⟩, 28), (⟨"SideStepModel", "planOn", "([II)I"⟩, 28), (⟨"SideStepModel", "step", "([I)Z"⟩, 28), (⟨"SideStepModel", "bareStep", "([I)Z"⟩, 28), (⟨"SideStepModel", "doesFault", "([II)Z"⟩, 28), (⟨"SideStepModel", "perform", "([III)I"⟩, 28), (⟨"SideStepModel", "keepCopy", "([II)V"⟩, 28), (⟨"SideStepModel", "reason", "([IIII)I"⟩, 28), (⟨"SideStepModel", "isChanged", "([I)Z"⟩, 28), (⟨"SideStepModel", "isStopped", "([I)Z"⟩, 28), (⟨"SideStepModel", "applies", "([II)Z"⟩, 28), (⟨"SideStepModel", "tellAt", "(II)I"⟩, 28), (⟨"SideStepModel", "freeOn", "()I"⟩, 28), (⟨"SideStepModel", "judged", "(III)Z"⟩, 28)]
theorem lw_r3 : ∀ q ∈ lw_privs_3, lw_okq q := List.forall_mem_cons.mpr ⟨lw_p32, List.forall_mem_cons.mpr ⟨lw_p33, List.forall_mem_cons.mpr ⟨lw_p34, List.forall_mem_cons.mpr ⟨lw_p35, List.forall_mem_cons.mpr ⟨lw_p36, List.forall_mem_cons.mpr ⟨lw_p37, List.forall_mem_cons.mpr ⟨lw_p38, List.forall_mem_cons.mpr ⟨lw_p39, List.forall_mem_cons.mpr ⟨lw_p40, List.forall_mem_cons.mpr ⟨lw_p41, List.forall_mem_cons.mpr ⟨lw_p42, List.forall_mem_cons.mpr ⟨lw_p43, List.forall_mem_cons.mpr ⟨lw_p44, List.forall_mem_cons.mpr ⟨lw_p45, List.forall_mem_cons.mpr ⟨lw_p46, List.forall_mem_cons.mpr ⟨lw_p47, fun _ h => absurd h List.not_mem_nil⟩⟩⟩⟩⟩⟩⟩⟩⟩⟩⟩⟩⟩⟩⟩⟩
theorem lw_p48 : lw_okq (⟨"SideStepModel", "layPlaces", "()I"⟩, 28) := ⟨⟨by decide +kernel, by decide +kernel⟩, List.mem_of_getElem? (i := 843) (by decide +kernel), List.mem_of_getElem? (i := 1168) (by decide +kernel), List.mem_of_getElem? (i := 1169) (by decide +kernel)⟩
theorem lw_p49 : lw_okq (⟨"SideStepModel", "stopsBy", "(II)I"⟩, 28) := ⟨⟨by decide +kernel, by decide +kernel⟩, List.mem_of_getElem? (i := 843) (by decide +kernel), List.mem_of_getElem? (i := 1172) (by decide +kernel), List.mem_of_getElem? (i := 1173) (by decide +kernel)⟩
def lw_privs_4 : List (MethodName × Nat) := [(⟨"SideStepModel", "layPlaces", "()I"⟩, 28), (⟨"SideStepModel", "stopsBy", "(II)I"⟩, 28)]
theorem lw_r4 : ∀ q ∈ lw_privs_4, lw_okq q := List.forall_mem_cons.mpr ⟨lw_p48, List.forall_mem_cons.mpr ⟨lw_p49, fun _ h => absurd h List.not_mem_nil⟩⟩
def lw_privs : List (MethodName × Nat) := lw_privs_1 ++ (lw_privs_2 ++ (lw_privs_3 ++ (lw_privs_4)))
def lw_tbl : List Cond := k2_sels lw_privs ++ tables_1
theorem lw_privs_ok : ∀ q ∈ lw_privs, lw_okq q := by
  show ∀ q ∈ lw_privs_1 ++ (lw_privs_2 ++ (lw_privs_3 ++ (lw_privs_4))), lw_okq q
  exact List.forall_mem_append.mpr ⟨lw_r1, List.forall_mem_append.mpr ⟨lw_r2, List.forall_mem_append.mpr ⟨lw_r3, lw_r4⟩⟩⟩
end
section
def RX0 : String := "SideStep$Breaks"
def TX0 : u_T := fun k => match k with
  | _ => ("SideStep$Breaks", "properties", "[I", true)
def tyX0 : Nat → FieldType := fun k => match k with
  | _ => .array .int
abbrev wsX00 : List Cond := u_ws RX0 TX0 1
theorem nmX0 : ∀ a, a < 1 → ∀ b, b < 1 → a ≠ b → (TX0 a).2.1 ≠ (TX0 b).2.1 := by decide +kernel
theorem tyX0_ok : ∀ k, k < 1 → parseFieldDescriptor (TX0 k).2.2.1 = some (tyX0 k) := by decide +kernel
abbrev cX0_init : ByteArray := prog_2_method_1_code
def yX0_init : MethodName := ⟨RX0, "<init>", "()V"⟩
abbrev cX0_begin : ByteArray := prog_2_method_2_code
def yX0_begin : MethodName := ⟨RX0, "begin", "()V"⟩
abbrev cX0_takeFrom : ByteArray := prog_2_method_3_code
def yX0_takeFrom : MethodName := ⟨RX0, "takeFrom", "(LSideStep$Breaks;)V"⟩
abbrev cX0_property : ByteArray := prog_2_method_4_code
def yX0_property : MethodName := ⟨RX0, "property", "(II)I"⟩
abbrev cX0_disarm : ByteArray := prog_2_method_5_code
def yX0_disarm : MethodName := ⟨RX0, "disarm", "(I)V"⟩
abbrev cX0_isArmed : ByteArray := prog_2_method_6_code
def yX0_isArmed : MethodName := ⟨RX0, "isArmed", "(I)Z"⟩
abbrev cX0_isFull : ByteArray := prog_2_method_7_code
def yX0_isFull : MethodName := ⟨RX0, "isFull", "(I)Z"⟩
abbrev cX0_add : ByteArray := prog_2_method_8_code
def yX0_add : MethodName := ⟨RX0, "add", "(IIIII)V"⟩
abbrev cX0_remove : ByteArray := prog_2_method_9_code
def yX0_remove : MethodName := ⟨RX0, "remove", "(I)V"⟩
abbrev cX0_armedSet : ByteArray := prog_2_method_10_code
def yX0_armedSet : MethodName := ⟨RX0, "armedSet", "()I"⟩
abbrev cX0_armedCount : ByteArray := prog_2_method_11_code
def yX0_armedCount : MethodName := ⟨RX0, "armedCount", "()I"⟩
abbrev cX0_apply : ByteArray := prog_2_method_12_code
def yX0_apply : MethodName := ⟨RX0, "apply", "(LSideStep$Machine;)Z"⟩
abbrev cX0_stop : ByteArray := prog_2_method_13_code
def yX0_stop : MethodName := ⟨RX0, "stop", "(LSideStep$Machine;)Z"⟩
def RX1 : String := "SideStep$FreeRun"
def TX1 : u_T := fun k => match k with
  | 0 => ("SideStep$FreeRun", "machine", "LSideStep$Machine;", true)
  | 1 => ("SideStep$FreeRun", "steps", "I", false)
  | _ => ("SideStep$FreeRun", "reason", "I", false)
def tyX1 : Nat → FieldType := fun k => match k with
  | 0 => .object "SideStep$Machine"
  | 1 => .int
  | _ => .int
abbrev wsX10 : List Cond := u_ws RX1 TX1 3
theorem nmX1 : ∀ a, a < 3 → ∀ b, b < 3 → a ≠ b → (TX1 a).2.1 ≠ (TX1 b).2.1 := by decide +kernel
theorem tyX1_ok : ∀ k, k < 3 → parseFieldDescriptor (TX1 k).2.2.1 = some (tyX1 k) := by decide +kernel
abbrev cX1_init : ByteArray := prog_3_method_1_code
def yX1_init : MethodName := ⟨RX1, "<init>", "()V"⟩
abbrev cX1_prepare : ByteArray := prog_3_method_2_code
def yX1_prepare : MethodName := ⟨RX1, "prepare", "(LSideStep$Machine;)V"⟩
abbrev cX1_go : ByteArray := prog_3_method_3_code
def yX1_go : MethodName := ⟨RX1, "go", "(LSideStep$Program;I)V"⟩
def RX2 : String := "SideStep$History"
def TX2 : u_T := fun k => match k with
  | 0 => ("SideStep$History", "ring", "[LSideStep$State;", true)
  | 1 => ("SideStep$History", "next", "I", false)
  | _ => ("SideStep$History", "held", "I", false)
def tyX2 : Nat → FieldType := fun k => match k with
  | 0 => .array (.object "SideStep$State")
  | 1 => .int
  | _ => .int
abbrev wsX20 : List Cond := u_ws RX2 TX2 3
theorem nmX2 : ∀ a, a < 3 → ∀ b, b < 3 → a ≠ b → (TX2 a).2.1 ≠ (TX2 b).2.1 := by decide +kernel
theorem tyX2_ok : ∀ k, k < 3 → parseFieldDescriptor (TX2 k).2.2.1 = some (tyX2 k) := by decide +kernel
abbrev cX2_init : ByteArray := prog_4_method_1_code
def yX2_init : MethodName := ⟨RX2, "<init>", "()V"⟩
abbrev cX2_clear : ByteArray := prog_4_method_2_code
def yX2_clear : MethodName := ⟨RX2, "clear", "()V"⟩
abbrev cX2_remember : ByteArray := prog_4_method_3_code
def yX2_remember : MethodName := ⟨RX2, "remember", "(LSideStep$State;)V"⟩
abbrev cX2_takeBack : ByteArray := prog_4_method_4_code
def yX2_takeBack : MethodName := ⟨RX2, "takeBack", "(LSideStep$State;)V"⟩
def RX3 : String := "SideStep$Machine"
def TX3 : u_T := fun k => match k with
  | 0 => ("SideStep$Machine", "registers", "[I", true)
  | 1 => ("SideStep$Machine", "cells", "[I", true)
  | 2 => ("SideStep$Machine", "stack", "[I", true)
  | 3 => ("SideStep$Machine", "depth", "I", false)
  | 4 => ("SideStep$Machine", "counter", "I", false)
  | 5 => ("SideStep$Machine", "halted", "Z", false)
  | 6 => ("SideStep$Machine", "puts", "I", false)
  | _ => ("SideStep$Machine", "digest", "I", false)
def tyX3 : Nat → FieldType := fun k => match k with
  | 0 => .array .int
  | 1 => .array .int
  | 2 => .array .int
  | 3 => .int
  | 4 => .int
  | 5 => .boolean
  | 6 => .int
  | _ => .int
abbrev wsX30 : List Cond := u_ws RX3 TX3 8
theorem nmX3 : ∀ a, a < 8 → ∀ b, b < 8 → a ≠ b → (TX3 a).2.1 ≠ (TX3 b).2.1 := by decide +kernel
theorem tyX3_ok : ∀ k, k < 8 → parseFieldDescriptor (TX3 k).2.2.1 = some (tyX3 k) := by decide +kernel
abbrev cX3_init : ByteArray := prog_5_method_1_code
def yX3_init : MethodName := ⟨RX3, "<init>", "()V"⟩
abbrev cX3_begin : ByteArray := prog_5_method_2_code
def yX3_begin : MethodName := ⟨RX3, "begin", "()V"⟩
abbrev cX3_takeFrom : ByteArray := prog_5_method_3_code
def yX3_takeFrom : MethodName := ⟨RX3, "takeFrom", "(LSideStep$Machine;)V"⟩
abbrev cX3_scatter : ByteArray := prog_5_method_4_code
def yX3_scatter : MethodName := ⟨RX3, "scatter", "(I)V"⟩
abbrev cX3_step : ByteArray := prog_5_method_5_code
def yX3_step : MethodName := ⟨RX3, "step", "(LSideStep$Program;)Z"⟩
abbrev cX3_putOut : ByteArray := prog_5_method_6_code
def yX3_putOut : MethodName := ⟨RX3, "putOut", "(I)V"⟩
def RX4 : String := "SideStep$Program"
def TX4 : u_T := fun k => match k with
  | 0 => ("SideStep$Program", "kind", "[I", true)
  | 1 => ("SideStep$Program", "first", "[I", true)
  | 2 => ("SideStep$Program", "second", "[I", true)
  | 3 => ("SideStep$Program", "model", "[I", true)
  | _ => ("SideStep$Program", "size", "I", false)
def tyX4 : Nat → FieldType := fun k => match k with
  | 0 => .array .int
  | 1 => .array .int
  | 2 => .array .int
  | 3 => .array .int
  | _ => .int
abbrev wsX40 : List Cond := u_ws RX4 TX4 5
theorem nmX4 : ∀ a, a < 5 → ∀ b, b < 5 → a ≠ b → (TX4 a).2.1 ≠ (TX4 b).2.1 := by decide +kernel
theorem tyX4_ok : ∀ k, k < 5 → parseFieldDescriptor (TX4 k).2.2.1 = some (tyX4 k) := by decide +kernel
abbrev cX4_init : ByteArray := prog_6_method_1_code
def yX4_init : MethodName := ⟨RX4, "<init>", "()V"⟩
abbrev cX4_has : ByteArray := prog_6_method_2_code
def yX4_has : MethodName := ⟨RX4, "has", "(I)Z"⟩
abbrev cX4_add : ByteArray := prog_6_method_3_code
def yX4_add : MethodName := ⟨RX4, "add", "(III)V"⟩
abbrev cX4_modelOf : ByteArray := prog_6_method_4_code
def yX4_modelOf : MethodName := ⟨RX4, "modelOf", "(I)I"⟩
abbrev cX4_different : ByteArray := prog_6_method_5_code
def yX4_different : MethodName := ⟨RX4, "different", "()I"⟩
abbrev cX4_savedCell : ByteArray := prog_6_method_6_code
def yX4_savedCell : MethodName := ⟨RX4, "savedCell", "(I)I"⟩
def RX5 : String := "SideStep$Sights"
def TX5 : u_T := fun k => match k with
  | 0 => ("SideStep$Sights", "number", "[I", true)
  | 1 => ("SideStep$Sights", "was", "[Z", true)
  | _ => ("SideStep$Sights", "count", "I", false)
def tyX5 : Nat → FieldType := fun k => match k with
  | 0 => .array .int
  | 1 => .array .boolean
  | _ => .int
abbrev wsX50 : List Cond := u_ws RX5 TX5 3
theorem nmX5 : ∀ a, a < 3 → ∀ b, b < 3 → a ≠ b → (TX5 a).2.1 ≠ (TX5 b).2.1 := by decide +kernel
theorem tyX5_ok : ∀ k, k < 3 → parseFieldDescriptor (TX5 k).2.2.1 = some (tyX5 k) := by decide +kernel
abbrev cX5_init : ByteArray := prog_7_method_1_code
def yX5_init : MethodName := ⟨RX5, "<init>", "()V"⟩
abbrev cX5_add : ByteArray := prog_7_method_2_code
def yX5_add : MethodName := ⟨RX5, "add", "(IZ)V"⟩
abbrev cX5_areTrue : ByteArray := prog_7_method_3_code
def yX5_areTrue : MethodName := ⟨RX5, "areTrue", "(I)Z"⟩
def RX6 : String := "SideStep$State"
def TX6 : u_T := fun k => match k with
  | 0 => ("SideStep$State", "machine", "LSideStep$Machine;", true)
  | 1 => ("SideStep$State", "breaks", "LSideStep$Breaks;", true)
  | 2 => ("SideStep$State", "copies", "[I", true)
  | 3 => ("SideStep$State", "copyCount", "I", false)
  | 4 => ("SideStep$State", "watched", "I", false)
  | 5 => ("SideStep$State", "cost", "I", false)
  | _ => ("SideStep$State", "clock", "I", false)
def tyX6 : Nat → FieldType := fun k => match k with
  | 0 => .object "SideStep$Machine"
  | 1 => .object "SideStep$Breaks"
  | 2 => .array .int
  | 3 => .int
  | 4 => .int
  | 5 => .int
  | _ => .int
abbrev wsX60 : List Cond := u_ws RX6 TX6 7
theorem nmX6 : ∀ a, a < 7 → ∀ b, b < 7 → a ≠ b → (TX6 a).2.1 ≠ (TX6 b).2.1 := by decide +kernel
theorem tyX6_ok : ∀ k, k < 7 → parseFieldDescriptor (TX6 k).2.2.1 = some (tyX6 k) := by decide +kernel
abbrev cX6_init : ByteArray := prog_8_method_1_code
def yX6_init : MethodName := ⟨RX6, "<init>", "()V"⟩
abbrev cX6_begin : ByteArray := prog_8_method_2_code
def yX6_begin : MethodName := ⟨RX6, "begin", "()V"⟩
abbrev cX6_takeFrom : ByteArray := prog_8_method_3_code
def yX6_takeFrom : MethodName := ⟨RX6, "takeFrom", "(LSideStep$State;)V"⟩
abbrev cX6_isWatched : ByteArray := prog_8_method_4_code
def yX6_isWatched : MethodName := ⟨RX6, "isWatched", "(I)Z"⟩
abbrev cX6_turnWatch : ByteArray := prog_8_method_5_code
def yX6_turnWatch : MethodName := ⟨RX6, "turnWatch", "(I)Z"⟩
abbrev cX6_allows : ByteArray := prog_8_method_6_code
def yX6_allows : MethodName := ⟨RX6, "allows", "(I)Z"⟩
abbrev cX6_perform : ByteArray := prog_8_method_7_code
def yX6_perform : MethodName := ⟨RX6, "perform", "(ILSideStep$Program;)I"⟩
abbrev cX6_isDone : ByteArray := prog_8_method_8_code
def yX6_isDone : MethodName := ⟨RX6, "isDone", "(II)Z"⟩
abbrev cX6_reasonAfterStep : ByteArray := prog_8_method_9_code
def yX6_reasonAfterStep : MethodName := ⟨RX6, "reasonAfterStep", "(LSideStep$Program;)I"⟩
abbrev cX6_charge : ByteArray := prog_8_method_10_code
def yX6_charge : MethodName := ⟨RX6, "charge", "(ILSideStep$Program;)V"⟩
abbrev cX6_keepCopy : ByteArray := prog_8_method_11_code
def yX6_keepCopy : MethodName := ⟨RX6, "keepCopy", "(I)V"⟩
def RX7 : String := "SideStep$Stops"
def TX7 : u_T := fun k => match k with
  | 0 => ("SideStep$Stops", "machine", "LSideStep$Machine;", true)
  | 1 => ("SideStep$Stops", "places", "[I", true)
  | 2 => ("SideStep$Stops", "ignores", "[I", true)
  | 3 => ("SideStep$Stops", "left", "[I", true)
  | 4 => ("SideStep$Stops", "trail", "[I", true)
  | 5 => ("SideStep$Stops", "values", "[I", true)
  | 6 => ("SideStep$Stops", "length", "I", false)
  | _ => ("SideStep$Stops", "count", "I", false)
def tyX7 : Nat → FieldType := fun k => match k with
  | 0 => .object "SideStep$Machine"
  | 1 => .array .int
  | 2 => .array .int
  | 3 => .array .int
  | 4 => .array .int
  | 5 => .array .int
  | 6 => .int
  | _ => .int
abbrev wsX70 : List Cond := u_ws RX7 TX7 8
theorem nmX7 : ∀ a, a < 8 → ∀ b, b < 8 → a ≠ b → (TX7 a).2.1 ≠ (TX7 b).2.1 := by decide +kernel
theorem tyX7_ok : ∀ k, k < 8 → parseFieldDescriptor (TX7 k).2.2.1 = some (tyX7 k) := by decide +kernel
abbrev cX7_init : ByteArray := prog_9_method_1_code
def yX7_init : MethodName := ⟨RX7, "<init>", "()V"⟩
abbrev cX7_measure : ByteArray := prog_9_method_2_code
def yX7_measure : MethodName := ⟨RX7, "measure", "(LSideStep$State;LSideStep$Program;)V"⟩
abbrev cX7_list : ByteArray := prog_9_method_3_code
def yX7_list : MethodName := ⟨RX7, "list", "(LSideStep$Breaks;)V"⟩
abbrev cX7_follow : ByteArray := prog_9_method_4_code
def yX7_follow : MethodName := ⟨RX7, "follow", "(LSideStep$State;LSideStep$Program;)V"⟩
abbrev cX7_indexOf : ByteArray := prog_9_method_5_code
def yX7_indexOf : MethodName := ⟨RX7, "indexOf", "(I)I"⟩
abbrev cX7_valueOf : ByteArray := prog_9_method_6_code
def yX7_valueOf : MethodName := ⟨RX7, "valueOf", "(I)I"⟩
abbrev cX7_weightedGain : ByteArray := prog_9_method_7_code
def yX7_weightedGain : MethodName := ⟨RX7, "weightedGain", "(I)I"⟩
abbrev cX7_weightOfAtLeast : ByteArray := prog_9_method_8_code
def yX7_weightOfAtLeast : MethodName := ⟨RX7, "weightOfAtLeast", "(II)I"⟩
def RX8 : String := "SideStep$Text"
def TX8 : u_T := fun k => match k with
  | 0 => ("SideStep$Text", "letters", "[I", true)
  | _ => ("SideStep$Text", "length", "I", false)
def tyX8 : Nat → FieldType := fun k => match k with
  | 0 => .array .int
  | _ => .int
abbrev wsX80 : List Cond := u_ws RX8 TX8 2
theorem nmX8 : ∀ a, a < 2 → ∀ b, b < 2 → a ≠ b → (TX8 a).2.1 ≠ (TX8 b).2.1 := by decide +kernel
theorem tyX8_ok : ∀ k, k < 2 → parseFieldDescriptor (TX8 k).2.2.1 = some (tyX8 k) := by decide +kernel
abbrev cX8_init : ByteArray := prog_10_method_1_code
def yX8_init : MethodName := ⟨RX8, "<init>", "()V"⟩
abbrev cX8_readInto : ByteArray := prog_10_method_2_code
def yX8_readInto : MethodName := ⟨RX8, "readInto", "(LSideStep$Program;)I"⟩
abbrev cX8_formOf : ByteArray := prog_10_method_3_code
def yX8_formOf : MethodName := ⟨RX8, "formOf", "(I)Ljava/lang/String;"⟩
abbrev cX8_endOfMatch : ByteArray := prog_10_method_4_code
def yX8_endOfMatch : MethodName := ⟨RX8, "endOfMatch", "(ILjava/lang/String;)I"⟩
abbrev cX8_fits : ByteArray := prog_10_method_5_code
def yX8_fits : MethodName := ⟨RX8, "fits", "(CI)Z"⟩
abbrev cX8_addInstruction : ByteArray := prog_10_method_6_code
def yX8_addInstruction : MethodName := ⟨RX8, "addInstruction", "(IILSideStep$Program;)V"⟩
abbrev cX8_distance : ByteArray := prog_10_method_7_code
def yX8_distance : MethodName := ⟨RX8, "distance", "(I)I"⟩
abbrev cX8_digit : ByteArray := prog_10_method_8_code
def yX8_digit : MethodName := ⟨RX8, "digit", "(I)I"⟩
def RX9 : String := "SideStep"
def TX9 : u_T := fun k => match k with
  | 0 => ("SideStep", "text", "LSideStep$Text;", true)
  | 1 => ("SideStep", "program", "LSideStep$Program;", true)
  | 2 => ("SideStep", "draft", "LSideStep$Program;", true)
  | 3 => ("SideStep", "now", "LSideStep$State;", true)
  | 4 => ("SideStep", "trial", "LSideStep$State;", true)
  | 5 => ("SideStep", "history", "LSideStep$History;", true)
  | 6 => ("SideStep", "slots", "[LSideStep$State;", true)
  | 7 => ("SideStep", "kept", "[Z", true)
  | 8 => ("SideStep", "sights", "LSideStep$Sights;", true)
  | 9 => ("SideStep", "run", "LSideStep$FreeRun;", true)
  | 10 => ("SideStep", "stops", "LSideStep$Stops;", true)
  | _ => ("SideStep", "seed", "J", false)
def tyX9 : Nat → FieldType := fun k => match k with
  | 0 => .object "SideStep$Text"
  | 1 => .object "SideStep$Program"
  | 2 => .object "SideStep$Program"
  | 3 => .object "SideStep$State"
  | 4 => .object "SideStep$State"
  | 5 => .object "SideStep$History"
  | 6 => .array (.object "SideStep$State")
  | 7 => .array .boolean
  | 8 => .object "SideStep$Sights"
  | 9 => .object "SideStep$FreeRun"
  | 10 => .object "SideStep$Stops"
  | _ => .long
abbrev wsX90 : List Cond := u_ws RX9 TX9 12
theorem nmX9 : ∀ a, a < 12 → ∀ b, b < 12 → a ≠ b → (TX9 a).2.1 ≠ (TX9 b).2.1 := by decide +kernel
theorem tyX9_ok : ∀ k, k < 12 → parseFieldDescriptor (TX9 k).2.2.1 = some (tyX9 k) := by decide +kernel
abbrev cX9_init : ByteArray := prog_1_method_1_code
def yX9_init : MethodName := ⟨RX9, "<init>", "()V"⟩
abbrev cX9_write : ByteArray := prog_1_method_2_code
def yX9_write : MethodName := ⟨RX9, "write", "(I)I"⟩
abbrev cX9_wipe : ByteArray := prog_1_method_3_code
def yX9_wipe : MethodName := ⟨RX9, "wipe", "()I"⟩
abbrev cX9_fault : ByteArray := prog_1_method_4_code
def yX9_fault : MethodName := ⟨RX9, "fault", "()I"⟩
abbrev cX9_code : ByteArray := prog_1_method_5_code
def yX9_code : MethodName := ⟨RX9, "code", "()I"⟩
abbrev cX9_emptySlots : ByteArray := prog_1_method_6_code
def yX9_emptySlots : MethodName := ⟨RX9, "emptySlots", "()V"⟩
abbrev cX9_about : ByteArray := prog_1_method_7_code
def yX9_about : MethodName := ⟨RX9, "about", "(I)I"⟩
abbrev cX9_register : ByteArray := prog_1_method_8_code
def yX9_register : MethodName := ⟨RX9, "register", "(I)I"⟩
abbrev cX9_cell : ByteArray := prog_1_method_9_code
def yX9_cell : MethodName := ⟨RX9, "cell", "(I)I"⟩
abbrev cX9_stack : ByteArray := prog_1_method_10_code
def yX9_stack : MethodName := ⟨RX9, "stack", "(I)I"⟩
abbrev cX9_broken : ByteArray := prog_1_method_11_code
def yX9_broken : MethodName := ⟨RX9, "broken", "(II)I"⟩
abbrev cX9_copy : ByteArray := prog_1_method_12_code
def yX9_copy : MethodName := ⟨RX9, "copy", "(I)I"⟩
abbrev cX9_plan : ByteArray := prog_1_method_13_code
def yX9_plan : MethodName := ⟨RX9, "plan", "(I)I"⟩
abbrev cX9_set : ByteArray := prog_1_method_14_code
def yX9_set : MethodName := ⟨RX9, "set", "(III)I"⟩
abbrev cX9_exchange : ByteArray := prog_1_method_15_code
def yX9_exchange : MethodName := ⟨RX9, "exchange", "([III)I"⟩
abbrev cX9_moveCounter : ByteArray := prog_1_method_16_code
def yX9_moveCounter : MethodName := ⟨RX9, "moveCounter", "(I)I"⟩
abbrev cX9_smash : ByteArray := prog_1_method_17_code
def yX9_smash : MethodName := ⟨RX9, "smash", "(IIIII)I"⟩
abbrev cX9_lift : ByteArray := prog_1_method_18_code
def yX9_lift : MethodName := ⟨RX9, "lift", "(I)I"⟩
abbrev cX9_watch : ByteArray := prog_1_method_19_code
def yX9_watch : MethodName := ⟨RX9, "watch", "(I)I"⟩
abbrev cX9_undo : ByteArray := prog_1_method_20_code
def yX9_undo : MethodName := ⟨RX9, "undo", "()I"⟩
abbrev cX9_aside : ByteArray := prog_1_method_21_code
def yX9_aside : MethodName := ⟨RX9, "aside", "(II)I"⟩
abbrev cX9_followsAside : ByteArray := prog_1_method_22_code
def yX9_followsAside : MethodName := ⟨RX9, "followsAside", "(I)I"⟩
abbrev cX9_corrections : ByteArray := prog_1_method_23_code
def yX9_corrections : MethodName := ⟨RX9, "corrections", "(I)I"⟩
abbrev cX9_free : ByteArray := prog_1_method_24_code
def yX9_free : MethodName := ⟨RX9, "free", "(I)I"⟩
abbrev cX9_judge : ByteArray := prog_1_method_25_code
def yX9_judge : MethodName := ⟨RX9, "judge", "(IJ)I"⟩
abbrev cX9_statementAt : ByteArray := prog_1_method_26_code
def yX9_statementAt : MethodName := ⟨RX9, "statementAt", "(JI)I"⟩
abbrev cX9_holds : ByteArray := prog_1_method_27_code
def yX9_holds : MethodName := ⟨RX9, "holds", "(III)Z"⟩
abbrev cX9_isGood : ByteArray := prog_1_method_28_code
def yX9_isGood : MethodName := ⟨RX9, "isGood", "(I)Z"⟩
abbrev cX9_takesBreak : ByteArray := prog_1_method_29_code
def yX9_takesBreak : MethodName := ⟨RX9, "takesBreak", "(I)Z"⟩
abbrev cX9_see : ByteArray := prog_1_method_30_code
def yX9_see : MethodName := ⟨RX9, "see", "(II)I"⟩
abbrev cX9_unsee : ByteArray := prog_1_method_31_code
def yX9_unsee : MethodName := ⟨RX9, "unsee", "()I"⟩
abbrev cX9_which : ByteArray := prog_1_method_32_code
def yX9_which : MethodName := ⟨RX9, "which", "()I"⟩
abbrev cX9_share : ByteArray := prog_1_method_33_code
def yX9_share : MethodName := ⟨RX9, "share", "(IZ)I"⟩
abbrev cX9_chance : ByteArray := prog_1_method_34_code
def yX9_chance : MethodName := ⟨RX9, "chance", "(IIZ)I"⟩
abbrev cX9_seed : ByteArray := prog_1_method_35_code
def yX9_seed : MethodName := ⟨RX9, "seed", "(J)J"⟩
abbrev cX9_drawn : ByteArray := prog_1_method_36_code
def yX9_drawn : MethodName := ⟨RX9, "drawn", "(I)I"⟩
abbrev cX9_keep : ByteArray := prog_1_method_37_code
def yX9_keep : MethodName := ⟨RX9, "keep", "(I)I"⟩
abbrev cX9_again : ByteArray := prog_1_method_38_code
def yX9_again : MethodName := ⟨RX9, "again", "(I)I"⟩
abbrev cX9_isRegister : ByteArray := prog_1_method_39_code
def yX9_isRegister : MethodName := ⟨RX9, "isRegister", "(I)Z"⟩
abbrev cX9_isCell : ByteArray := prog_1_method_40_code
def yX9_isCell : MethodName := ⟨RX9, "isCell", "(I)Z"⟩
abbrev cX9_isSlot : ByteArray := prog_1_method_41_code
def yX9_isSlot : MethodName := ⟨RX9, "isSlot", "(I)Z"⟩
abbrev cX9_power : ByteArray := prog_1_method_42_code
def yX9_power : MethodName := ⟨RX9, "power", "(II)J"⟩
abbrev cX9_factorial : ByteArray := prog_1_method_43_code
def yX9_factorial : MethodName := ⟨RX9, "factorial", "(I)I"⟩
abbrev cX9_partOf : ByteArray := prog_1_method_44_code
def yX9_partOf : MethodName := ⟨RX9, "partOf", "(IIZ)I"⟩
abbrev cX9_commonDivisor : ByteArray := prog_1_method_45_code
def yX9_commonDivisor : MethodName := ⟨RX9, "commonDivisor", "(II)I"⟩
def RX10 : String := "SideStepModel"
def TX10 : u_T := fun k => match k with
  | 0 => ("SideStepModel", "text", "[I", true)
  | 1 => ("SideStepModel", "length", "I", false)
  | 2 => ("SideStepModel", "many", "I", false)
  | 3 => ("SideStepModel", "kind", "[I", true)
  | 4 => ("SideStepModel", "one", "[I", true)
  | 5 => ("SideStepModel", "two", "[I", true)
  | 6 => ("SideStepModel", "now", "[I", true)
  | 7 => ("SideStepModel", "trial", "[I", true)
  | 8 => ("SideStepModel", "diary", "[I", true)
  | 9 => ("SideStepModel", "acts", "I", false)
  | 10 => ("SideStepModel", "next", "I", false)
  | 11 => ("SideStepModel", "kept", "[I", true)
  | 12 => ("SideStepModel", "isKept", "[Z", true)
  | 13 => ("SideStepModel", "seenMany", "[I", true)
  | 14 => ("SideStepModel", "seenIs", "[I", true)
  | 15 => ("SideStepModel", "seen", "I", false)
  | 16 => ("SideStepModel", "seed", "J", false)
  | 17 => ("SideStepModel", "idle", "I", false)
  | 18 => ("SideStepModel", "steps", "I", false)
  | 19 => ("SideStepModel", "cells", "[I", true)
  | 20 => ("SideStepModel", "places", "[I", true)
  | 21 => ("SideStepModel", "worth", "[I", true)
  | 22 => ("SideStepModel", "part", "I", false)
  | 23 => ("SideStepModel", "readMany", "I", false)
  | 24 => ("SideStepModel", "readKind", "[I", true)
  | 25 => ("SideStepModel", "readOne", "[I", true)
  | 26 => ("SideStepModel", "readTwo", "[I", true)
  | _ => ("SideStepModel", "sign", "I", false)
def tyX10 : Nat → FieldType := fun k => match k with
  | 0 => .array .int
  | 1 => .int
  | 2 => .int
  | 3 => .array .int
  | 4 => .array .int
  | 5 => .array .int
  | 6 => .array .int
  | 7 => .array .int
  | 8 => .array .int
  | 9 => .int
  | 10 => .int
  | 11 => .array .int
  | 12 => .array .boolean
  | 13 => .array .int
  | 14 => .array .int
  | 15 => .int
  | 16 => .long
  | 17 => .int
  | 18 => .int
  | 19 => .array .int
  | 20 => .array .int
  | 21 => .array .int
  | 22 => .int
  | 23 => .int
  | 24 => .array .int
  | 25 => .array .int
  | 26 => .array .int
  | _ => .int
abbrev wsX100 : List Cond := u_ws RX10 TX10 28
theorem nmX10 : ∀ a, a < 28 → ∀ b, b < 28 → a ≠ b → (TX10 a).2.1 ≠ (TX10 b).2.1 := by decide +kernel
theorem tyX10_ok : ∀ k, k < 28 → parseFieldDescriptor (TX10 k).2.2.1 = some (tyX10 k) := by decide +kernel
abbrev cX10_init : ByteArray := prog_12_method_1_code
def yX10_init : MethodName := ⟨RX10, "<init>", "()V"⟩
abbrev cX10_clear : ByteArray := prog_12_method_3_code
def yX10_clear : MethodName := ⟨RX10, "clear", "([I)V"⟩
abbrev cX10_copyRow : ByteArray := prog_12_method_4_code
def yX10_copyRow : MethodName := ⟨RX10, "copyRow", "([I[I)V"⟩
abbrev cX10_in : ByteArray := prog_12_method_5_code
def yX10_in : MethodName := ⟨RX10, "in", "(JJJ)Z"⟩
abbrev cX10_has : ByteArray := prog_12_method_6_code
def yX10_has : MethodName := ⟨RX10, "has", "(II)Z"⟩
abbrev cX10_ones : ByteArray := prog_12_method_7_code
def yX10_ones : MethodName := ⟨RX10, "ones", "(I)I"⟩
abbrev cX10_power : ByteArray := prog_12_method_8_code
def yX10_power : MethodName := ⟨RX10, "power", "(II)I"⟩
abbrev cX10_factorial : ByteArray := prog_12_method_9_code
def yX10_factorial : MethodName := ⟨RX10, "factorial", "(I)I"⟩
abbrev cX10_fraction : ByteArray := prog_12_method_10_code
def yX10_fraction : MethodName := ⟨RX10, "fraction", "(IIZ)I"⟩
abbrev cX10_isPlace : ByteArray := prog_12_method_11_code
def yX10_isPlace : MethodName := ⟨RX10, "isPlace", "(I)Z"⟩
abbrev cX10_write : ByteArray := prog_12_method_12_code
def yX10_write : MethodName := ⟨RX10, "write", "(I)I"⟩
abbrev cX10_wipe : ByteArray := prog_12_method_13_code
def yX10_wipe : MethodName := ⟨RX10, "wipe", "()I"⟩
abbrev cX10_kindOf : ByteArray := prog_12_method_14_code
def yX10_kindOf : MethodName := ⟨RX10, "kindOf", "(I)I"⟩
abbrev cX10_takeSign : ByteArray := prog_12_method_15_code
def yX10_takeSign : MethodName := ⟨RX10, "takeSign", "(I)Z"⟩
abbrev cX10_ended : ByteArray := prog_12_method_16_code
def yX10_ended : MethodName := ⟨RX10, "ended", "(Z)Z"⟩
abbrev cX10_takeFar : ByteArray := prog_12_method_17_code
def yX10_takeFar : MethodName := ⟨RX10, "takeFar", "(I)Z"⟩
abbrev cX10_takeCall : ByteArray := prog_12_method_18_code
def yX10_takeCall : MethodName := ⟨RX10, "takeCall", "(I)Z"⟩
abbrev cX10_takeFirst : ByteArray := prog_12_method_19_code
def yX10_takeFirst : MethodName := ⟨RX10, "takeFirst", "(II)Z"⟩
abbrev cX10_takeOf : ByteArray := prog_12_method_20_code
def yX10_takeOf : MethodName := ⟨RX10, "takeOf", "(I)Z"⟩
abbrev cX10_readText : ByteArray := prog_12_method_21_code
def yX10_readText : MethodName := ⟨RX10, "readText", "()I"⟩
abbrev cX10_fault : ByteArray := prog_12_method_22_code
def yX10_fault : MethodName := ⟨RX10, "fault", "()I"⟩
abbrev cX10_code : ByteArray := prog_12_method_23_code
def yX10_code : MethodName := ⟨RX10, "code", "()I"⟩
abbrev cX10_doesFault : ByteArray := prog_12_method_24_code
def yX10_doesFault : MethodName := ⟨RX10, "doesFault", "([II)Z"⟩
abbrev cX10_perform : ByteArray := prog_12_method_25_code
def yX10_perform : MethodName := ⟨RX10, "perform", "([III)I"⟩
abbrev cX10_bareStep : ByteArray := prog_12_method_26_code
def yX10_bareStep : MethodName := ⟨RX10, "bareStep", "([I)Z"⟩
abbrev cX10_areAlike : ByteArray := prog_12_method_27_code
def yX10_areAlike : MethodName := ⟨RX10, "areAlike", "(II)Z"⟩
abbrev cX10_leastAlike : ByteArray := prog_12_method_28_code
def yX10_leastAlike : MethodName := ⟨RX10, "leastAlike", "(I)I"⟩
abbrev cX10_keepCopy : ByteArray := prog_12_method_29_code
def yX10_keepCopy : MethodName := ⟨RX10, "keepCopy", "([II)V"⟩
abbrev cX10_step : ByteArray := prog_12_method_30_code
def yX10_step : MethodName := ⟨RX10, "step", "([I)Z"⟩
abbrev cX10_applies : ByteArray := prog_12_method_31_code
def yX10_applies : MethodName := ⟨RX10, "applies", "([II)Z"⟩
abbrev cX10_isChanged : ByteArray := prog_12_method_32_code
def yX10_isChanged : MethodName := ⟨RX10, "isChanged", "([I)Z"⟩
abbrev cX10_isStopped : ByteArray := prog_12_method_33_code
def yX10_isStopped : MethodName := ⟨RX10, "isStopped", "([I)Z"⟩
abbrev cX10_isThrough : ByteArray := prog_12_method_34_code
def yX10_isThrough : MethodName := ⟨RX10, "isThrough", "(III)Z"⟩
abbrev cX10_reason : ByteArray := prog_12_method_35_code
def yX10_reason : MethodName := ⟨RX10, "reason", "([IIII)I"⟩
abbrev cX10_planOn : ByteArray := prog_12_method_36_code
def yX10_planOn : MethodName := ⟨RX10, "planOn", "([II)I"⟩
abbrev cX10_freeOn : ByteArray := prog_12_method_37_code
def yX10_freeOn : MethodName := ⟨RX10, "freeOn", "()I"⟩
abbrev cX10_counted : ByteArray := prog_12_method_38_code
def yX10_counted : MethodName := ⟨RX10, "counted", "()I"⟩
abbrev cX10_unlike : ByteArray := prog_12_method_39_code
def yX10_unlike : MethodName := ⟨RX10, "unlike", "()I"⟩
abbrev cX10_about : ByteArray := prog_12_method_40_code
def yX10_about : MethodName := ⟨RX10, "about", "(I)I"⟩
abbrev cX10_register : ByteArray := prog_12_method_41_code
def yX10_register : MethodName := ⟨RX10, "register", "(I)I"⟩
abbrev cX10_cell : ByteArray := prog_12_method_42_code
def yX10_cell : MethodName := ⟨RX10, "cell", "(I)I"⟩
abbrev cX10_stack : ByteArray := prog_12_method_43_code
def yX10_stack : MethodName := ⟨RX10, "stack", "(I)I"⟩
abbrev cX10_broken : ByteArray := prog_12_method_44_code
def yX10_broken : MethodName := ⟨RX10, "broken", "(II)I"⟩
abbrev cX10_copy : ByteArray := prog_12_method_45_code
def yX10_copy : MethodName := ⟨RX10, "copy", "(I)I"⟩
abbrev cX10_note : ByteArray := prog_12_method_46_code
def yX10_note : MethodName := ⟨RX10, "note", "()V"⟩
abbrev cX10_plan : ByteArray := prog_12_method_47_code
def yX10_plan : MethodName := ⟨RX10, "plan", "(I)I"⟩
abbrev cX10_tellAt : ByteArray := prog_12_method_48_code
def yX10_tellAt : MethodName := ⟨RX10, "tellAt", "(II)I"⟩
abbrev cX10_set : ByteArray := prog_12_method_49_code
def yX10_set : MethodName := ⟨RX10, "set", "(III)I"⟩
abbrev cX10_breakOn : ByteArray := prog_12_method_50_code
def yX10_breakOn : MethodName := ⟨RX10, "breakOn", "([IIIIII)V"⟩
abbrev cX10_smash : ByteArray := prog_12_method_51_code
def yX10_smash : MethodName := ⟨RX10, "smash", "(IIIII)I"⟩
abbrev cX10_lift : ByteArray := prog_12_method_52_code
def yX10_lift : MethodName := ⟨RX10, "lift", "(I)I"⟩
abbrev cX10_watch : ByteArray := prog_12_method_53_code
def yX10_watch : MethodName := ⟨RX10, "watch", "(I)I"⟩
abbrev cX10_undo : ByteArray := prog_12_method_54_code
def yX10_undo : MethodName := ⟨RX10, "undo", "()I"⟩
abbrev cX10_aside : ByteArray := prog_12_method_55_code
def yX10_aside : MethodName := ⟨RX10, "aside", "(II)I"⟩
abbrev cX10_free : ByteArray := prog_12_method_56_code
def yX10_free : MethodName := ⟨RX10, "free", "(I)I"⟩
abbrev cX10_judged : ByteArray := prog_12_method_57_code
def yX10_judged : MethodName := ⟨RX10, "judged", "(III)Z"⟩
abbrev cX10_thousands : ByteArray := prog_12_method_58_code
def yX10_thousands : MethodName := ⟨RX10, "thousands", "(I)J"⟩
abbrev cX10_judge : ByteArray := prog_12_method_59_code
def yX10_judge : MethodName := ⟨RX10, "judge", "(IJ)I"⟩
abbrev cX10_see : ByteArray := prog_12_method_60_code
def yX10_see : MethodName := ⟨RX10, "see", "(II)I"⟩
abbrev cX10_unsee : ByteArray := prog_12_method_61_code
def yX10_unsee : MethodName := ⟨RX10, "unsee", "()I"⟩
abbrev cX10_which : ByteArray := prog_12_method_62_code
def yX10_which : MethodName := ⟨RX10, "which", "()I"⟩
abbrev cX10_layPlaces : ByteArray := prog_12_method_63_code
def yX10_layPlaces : MethodName := ⟨RX10, "layPlaces", "()I"⟩
abbrev cX10_stopsBy : ByteArray := prog_12_method_64_code
def yX10_stopsBy : MethodName := ⟨RX10, "stopsBy", "(II)I"⟩
abbrev cX10_share : ByteArray := prog_12_method_65_code
def yX10_share : MethodName := ⟨RX10, "share", "(IZ)I"⟩
abbrev cX10_chance : ByteArray := prog_12_method_66_code
def yX10_chance : MethodName := ⟨RX10, "chance", "(IIZ)I"⟩
abbrev cX10_seed : ByteArray := prog_12_method_67_code
def yX10_seed : MethodName := ⟨RX10, "seed", "(J)J"⟩
abbrev cX10_drawn : ByteArray := prog_12_method_68_code
def yX10_drawn : MethodName := ⟨RX10, "drawn", "(I)I"⟩
abbrev cX10_keep : ByteArray := prog_12_method_69_code
def yX10_keep : MethodName := ⟨RX10, "keep", "(I)I"⟩
abbrev cX10_again : ByteArray := prog_12_method_70_code
def yX10_again : MethodName := ⟨RX10, "again", "(I)I"⟩
def RJx145de : String := "java/io/Serializable"
def RJx9f9b0 : String := "java/lang/CharSequence"
def RJ11 : String := "java/lang/Character"
abbrev cJ11_isValidCodePoint_9a6ad : ByteArray := prog_13_method_11_code
def yJ11_isValidCodePoint_9a6ad : MethodName := ⟨RJ11, "isValidCodePoint", "(I)Z"⟩
abbrev cJ11_highSurrogate_5068e : ByteArray := prog_13_method_28_code
def yJ11_highSurrogate_5068e : MethodName := ⟨RJ11, "highSurrogate", "(I)C"⟩
abbrev cJ11_lowSurrogate_5068e : ByteArray := prog_13_method_29_code
def yJ11_lowSurrogate_5068e : MethodName := ⟨RJ11, "lowSurrogate", "(I)C"⟩
def RJxb160c : String := "java/lang/Comparable"
def RJ6 : String := "java/lang/Integer"
abbrev cJ6_bitCount_0f7a4 : ByteArray := prog_14_method_49_code
def yJ6_bitCount_0f7a4 : MethodName := ⟨RJ6, "bitCount", "(I)I"⟩
def RJ9 : String := "java/lang/Math"
abbrev cJ9_abs_0f7a4 : ByteArray := prog_15_method_59_code
def yJ9_abs_0f7a4 : MethodName := ⟨RJ9, "abs", "(I)I"⟩
abbrev cJ9_max_7cf53 : ByteArray := prog_15_method_65_code
def yJ9_max_7cf53 : MethodName := ⟨RJ9, "max", "(II)I"⟩
abbrev cJ9_min_7cf53 : ByteArray := prog_15_method_69_code
def yJ9_min_7cf53 : MethodName := ⟨RJ9, "min", "(II)I"⟩
def RJ0 : String := "java/lang/String"
abbrev cJ0_length_8abf5 : ByteArray := prog_16_method_54_code
def yJ0_length_8abf5 : MethodName := ⟨RJ0, "length", "()I"⟩
abbrev cJ0_charAt_5068e : ByteArray := prog_16_method_56_code
def yJ0_charAt_5068e : MethodName := ⟨RJ0, "charAt", "(I)C"⟩
abbrev cJ0_indexOf_0f7a4 : ByteArray := prog_16_method_79_code
def yJ0_indexOf_0f7a4 : MethodName := ⟨RJ0, "indexOf", "(I)I"⟩
abbrev cJ0_indexOf_7cf53 : ByteArray := prog_16_method_80_code
def yJ0_indexOf_7cf53 : MethodName := ⟨RJ0, "indexOf", "(II)I"⟩
abbrev cJ0_coder_7d493 : ByteArray := prog_16_method_152_code
def yJ0_coder_7d493 : MethodName := ⟨RJ0, "coder", "()B"⟩
abbrev cJ0_isLatin1_aae02 : ByteArray := prog_16_method_154_code
def yJ0_isLatin1_aae02 : MethodName := ⟨RJ0, "isLatin1", "()Z"⟩
abbrev cJ0_checkIndex_df160 : ByteArray := prog_16_method_155_code
def yJ0_checkIndex_df160 : MethodName := ⟨RJ0, "checkIndex", "(II)V"⟩
abbrev cJ0_checkBoundsBeginEnd_23922 : ByteArray := prog_16_method_158_code
def yJ0_checkBoundsBeginEnd_23922 : MethodName := ⟨RJ0, "checkBoundsBeginEnd", "(III)V"⟩
def RJ1 : String := "java/lang/StringLatin1"
abbrev cJ1_charAt_3b067 : ByteArray := prog_17_method_2_code
def yJ1_charAt_3b067 : MethodName := ⟨RJ1, "charAt", "([BI)C"⟩
abbrev cJ1_canEncode_9a6ad : ByteArray := prog_17_method_4_code
def yJ1_canEncode_9a6ad : MethodName := ⟨RJ1, "canEncode", "(I)Z"⟩
abbrev cJ1_indexOf_4cfef : ByteArray := prog_17_method_22_code
def yJ1_indexOf_4cfef : MethodName := ⟨RJ1, "indexOf", "([BIII)I"⟩
abbrev cJ1_indexOfChar_4cfef : ByteArray := prog_17_method_23_code
def yJ1_indexOfChar_4cfef : MethodName := ⟨RJ1, "indexOfChar", "([BIII)I"⟩
def RJ2 : String := "java/lang/StringUTF16"
abbrev cJ2_getChar_3b067 : ByteArray := prog_18_method_5_code
def yJ2_getChar_3b067 : MethodName := ⟨RJ2, "getChar", "([BI)C"⟩
abbrev cJ2_length_9d52b : ByteArray := prog_18_method_6_code
def yJ2_length_9d52b : MethodName := ⟨RJ2, "length", "([B)I"⟩
abbrev cJ2_indexOf_4cfef : ByteArray := prog_18_method_40_code
def yJ2_indexOf_4cfef : MethodName := ⟨RJ2, "indexOf", "([BIII)I"⟩
abbrev cJ2_indexOfChar_4cfef : ByteArray := prog_18_method_47_code
def yJ2_indexOfChar_4cfef : MethodName := ⟨RJ2, "indexOfChar", "([BIII)I"⟩
abbrev cJ2_indexOfCharUnsafe_4cfef : ByteArray := prog_18_method_48_code
def yJ2_indexOfCharUnsafe_4cfef : MethodName := ⟨RJ2, "indexOfCharUnsafe", "([BIII)I"⟩
abbrev cJ2_indexOfSupplementary_4cfef : ByteArray := prog_18_method_49_code
def yJ2_indexOfSupplementary_4cfef : MethodName := ⟨RJ2, "indexOfSupplementary", "([BIII)I"⟩
abbrev cJ2_charAt_3b067 : ByteArray := prog_18_method_83_code
def yJ2_charAt_3b067 : MethodName := ⟨RJ2, "charAt", "([BI)C"⟩
abbrev cJ2_checkIndex_2214a : ByteArray := prog_18_method_91_code
def yJ2_checkIndex_2214a : MethodName := ⟨RJ2, "checkIndex", "(I[B)V"⟩
abbrev cJ2_checkBoundsBeginEnd_d044e : ByteArray := prog_18_method_93_code
def yJ2_checkBoundsBeginEnd_d044e : MethodName := ⟨RJ2, "checkBoundsBeginEnd", "(II[B)V"⟩
def RJ10 : String := "java/lang/System"
def RJxfd54e : String := "java/lang/constant/Constable"
def RJx3cf43 : String := "java/lang/constant/ConstantDesc"
def RJ7 : String := "java/util/Arrays"
abbrev cJ7_fill_53178 : ByteArray := prog_20_method_103_code
def yJ7_fill_53178 : MethodName := ⟨RJ7, "fill", "([II)V"⟩
def RJ3 : String := "jdk/internal/util/Preconditions"
abbrev cJ3_checkIndex_8e157 : ByteArray := prog_21_method_11_code
def yJ3_checkIndex_8e157 : MethodName := ⟨RJ3, "checkIndex", "(IILjava/util/function/BiFunction;)I"⟩
abbrev cJ3_checkFromToIndex_8c36e : ByteArray := prog_21_method_12_code
def yJ3_checkFromToIndex_8c36e : MethodName := ⟨RJ3, "checkFromToIndex", "(IIILjava/util/function/BiFunction;)I"⟩
def RL : String := "SideStepLaw"
abbrev cL_law : ByteArray := code
def yL_law : MethodName := ⟨RL, "law", "([I)Z"⟩
abbrev vwCl : List vw_C := [(RX0, TX0, 1), (RX1, TX1, 3), (RX2, TX2, 3), (RX3, TX3, 8), (RX4, TX4, 5), (RX5, TX5, 3), (RX6, TX6, 7), (RX7, TX7, 8), (RX8, TX8, 2), (RX9, TX9, 12), (RX10, TX10, 28)]
end
section
theorem dX0_init_0 : decode cX0_init 0 = .ok (.aload_n 0, 1) := by decide +kernel
theorem dX0_init_1 : decode cX0_init 1 = .ok (.invokespecial 3, 3) := by decide +kernel
theorem dX0_init_4 : decode cX0_init 4 = .ok (.aload_n 0, 1) := by decide +kernel
theorem dX0_init_5 : decode cX0_init 5 = .ok (.bipush 96, 2) := by decide +kernel
theorem dX0_init_7 : decode cX0_init 7 = .ok (.newarray .int, 2) := by decide +kernel
theorem dX0_init_9 : decode cX0_init 9 = .ok (.putfield 9, 3) := by decide +kernel
theorem dX0_init_12 : decode cX0_init 12 = .ok (.aload_n 0, 1) := by decide +kernel
theorem dX0_init_13 : decode cX0_init 13 = .ok (.invokevirtual 15, 3) := by decide +kernel
theorem dX0_init_16 : decode cX0_init 16 = .ok (.return_, 1) := by decide +kernel
theorem dX0_begin_0 : decode cX0_begin 0 = .ok (.iconst 0, 1) := by decide +kernel
theorem dX0_begin_1 : decode cX0_begin 1 = .ok (.istore_n 1, 1) := by decide +kernel
theorem dX0_begin_2 : decode cX0_begin 2 = .ok (.iload_n 1, 1) := by decide +kernel
theorem dX0_begin_3 : decode cX0_begin 3 = .ok (.bipush 16, 2) := by decide +kernel
theorem dX0_begin_5 : decode cX0_begin 5 = .ok (.if_icmp .ge 14, 3) := by decide +kernel
theorem dX0_begin_8 : decode cX0_begin 8 = .ok (.aload_n 0, 1) := by decide +kernel
theorem dX0_begin_9 : decode cX0_begin 9 = .ok (.iload_n 1, 1) := by decide +kernel
theorem dX0_begin_10 : decode cX0_begin 10 = .ok (.invokevirtual 18, 3) := by decide +kernel
theorem dX0_begin_13 : decode cX0_begin 13 = .ok (.iinc 1 1, 3) := by decide +kernel
theorem dX0_begin_16 : decode cX0_begin 16 = .ok (.goto (-14), 3) := by decide +kernel
theorem dX0_begin_19 : decode cX0_begin 19 = .ok (.return_, 1) := by decide +kernel
theorem dX0_takeFrom_0 : decode cX0_takeFrom 0 = .ok (.aload_n 1, 1) := by decide +kernel
theorem dX0_takeFrom_1 : decode cX0_takeFrom 1 = .ok (.getfield 9, 3) := by decide +kernel
theorem dX0_takeFrom_4 : decode cX0_takeFrom 4 = .ok (.iconst 0, 1) := by decide +kernel
theorem dX0_takeFrom_5 : decode cX0_takeFrom 5 = .ok (.aload_n 0, 1) := by decide +kernel
theorem dX0_takeFrom_6 : decode cX0_takeFrom 6 = .ok (.getfield 9, 3) := by decide +kernel
theorem dX0_takeFrom_9 : decode cX0_takeFrom 9 = .ok (.iconst 0, 1) := by decide +kernel
theorem dX0_takeFrom_10 : decode cX0_takeFrom 10 = .ok (.bipush 96, 2) := by decide +kernel
theorem dX0_takeFrom_12 : decode cX0_takeFrom 12 = .ok (.invokestatic 22, 3) := by decide +kernel
theorem dX0_takeFrom_15 : decode cX0_takeFrom 15 = .ok (.return_, 1) := by decide +kernel
theorem dX0_property_0 : decode cX0_property 0 = .ok (.aload_n 0, 1) := by decide +kernel
theorem dX0_property_1 : decode cX0_property 1 = .ok (.getfield 9, 3) := by decide +kernel
theorem dX0_property_4 : decode cX0_property 4 = .ok (.iload_n 1, 1) := by decide +kernel
theorem dX0_property_5 : decode cX0_property 5 = .ok (.bipush 6, 2) := by decide +kernel
theorem dX0_property_7 : decode cX0_property 7 = .ok (.imul, 1) := by decide +kernel
theorem dX0_property_8 : decode cX0_property 8 = .ok (.iload_n 2, 1) := by decide +kernel
theorem dX0_property_9 : decode cX0_property 9 = .ok (.iadd, 1) := by decide +kernel
theorem dX0_property_10 : decode cX0_property 10 = .ok (.iaload, 1) := by decide +kernel
theorem dX0_property_11 : decode cX0_property 11 = .ok (.ireturn, 1) := by decide +kernel
theorem dX0_disarm_0 : decode cX0_disarm 0 = .ok (.iload_n 1, 1) := by decide +kernel
theorem dX0_disarm_1 : decode cX0_disarm 1 = .ok (.bipush 6, 2) := by decide +kernel
theorem dX0_disarm_3 : decode cX0_disarm 3 = .ok (.imul, 1) := by decide +kernel
theorem dX0_disarm_4 : decode cX0_disarm 4 = .ok (.istore_n 2, 1) := by decide +kernel
theorem dX0_disarm_5 : decode cX0_disarm 5 = .ok (.aload_n 0, 1) := by decide +kernel
theorem dX0_disarm_6 : decode cX0_disarm 6 = .ok (.getfield 9, 3) := by decide +kernel
theorem dX0_disarm_9 : decode cX0_disarm 9 = .ok (.iload_n 2, 1) := by decide +kernel
theorem dX0_disarm_10 : decode cX0_disarm 10 = .ok (.iconst 0, 1) := by decide +kernel
theorem dX0_disarm_11 : decode cX0_disarm 11 = .ok (.iadd, 1) := by decide +kernel
theorem dX0_disarm_12 : decode cX0_disarm 12 = .ok (.iconst 0, 1) := by decide +kernel
theorem dX0_disarm_13 : decode cX0_disarm 13 = .ok (.iastore, 1) := by decide +kernel
theorem dX0_disarm_14 : decode cX0_disarm 14 = .ok (.aload_n 0, 1) := by decide +kernel
theorem dX0_disarm_15 : decode cX0_disarm 15 = .ok (.getfield 9, 3) := by decide +kernel
theorem dX0_disarm_18 : decode cX0_disarm 18 = .ok (.iload_n 2, 1) := by decide +kernel
theorem dX0_disarm_19 : decode cX0_disarm 19 = .ok (.iconst 1, 1) := by decide +kernel
theorem dX0_disarm_20 : decode cX0_disarm 20 = .ok (.iadd, 1) := by decide +kernel
theorem dX0_disarm_21 : decode cX0_disarm 21 = .ok (.bipush (-9), 2) := by decide +kernel
theorem dX0_disarm_23 : decode cX0_disarm 23 = .ok (.iastore, 1) := by decide +kernel
theorem dX0_disarm_24 : decode cX0_disarm 24 = .ok (.aload_n 0, 1) := by decide +kernel
theorem dX0_disarm_25 : decode cX0_disarm 25 = .ok (.getfield 9, 3) := by decide +kernel
theorem dX0_disarm_28 : decode cX0_disarm 28 = .ok (.iload_n 2, 1) := by decide +kernel
theorem dX0_disarm_29 : decode cX0_disarm 29 = .ok (.iconst 2, 1) := by decide +kernel
theorem dX0_disarm_30 : decode cX0_disarm 30 = .ok (.iadd, 1) := by decide +kernel
theorem dX0_disarm_31 : decode cX0_disarm 31 = .ok (.bipush (-9), 2) := by decide +kernel
theorem dX0_disarm_33 : decode cX0_disarm 33 = .ok (.iastore, 1) := by decide +kernel
theorem dX0_disarm_34 : decode cX0_disarm 34 = .ok (.aload_n 0, 1) := by decide +kernel
theorem dX0_disarm_35 : decode cX0_disarm 35 = .ok (.getfield 9, 3) := by decide +kernel
theorem dX0_disarm_38 : decode cX0_disarm 38 = .ok (.iload_n 2, 1) := by decide +kernel
theorem dX0_disarm_39 : decode cX0_disarm 39 = .ok (.iconst 3, 1) := by decide +kernel
theorem dX0_disarm_40 : decode cX0_disarm 40 = .ok (.iadd, 1) := by decide +kernel
theorem dX0_disarm_41 : decode cX0_disarm 41 = .ok (.bipush (-9), 2) := by decide +kernel
theorem dX0_disarm_43 : decode cX0_disarm 43 = .ok (.iastore, 1) := by decide +kernel
theorem dX0_disarm_44 : decode cX0_disarm 44 = .ok (.aload_n 0, 1) := by decide +kernel
theorem dX0_disarm_45 : decode cX0_disarm 45 = .ok (.getfield 9, 3) := by decide +kernel
theorem dX0_disarm_48 : decode cX0_disarm 48 = .ok (.iload_n 2, 1) := by decide +kernel
theorem dX0_disarm_49 : decode cX0_disarm 49 = .ok (.iconst 4, 1) := by decide +kernel
theorem dX0_disarm_50 : decode cX0_disarm 50 = .ok (.iadd, 1) := by decide +kernel
theorem dX0_disarm_51 : decode cX0_disarm 51 = .ok (.iconst 0, 1) := by decide +kernel
theorem dX0_disarm_52 : decode cX0_disarm 52 = .ok (.iastore, 1) := by decide +kernel
theorem dX0_disarm_53 : decode cX0_disarm 53 = .ok (.aload_n 0, 1) := by decide +kernel
theorem dX0_disarm_54 : decode cX0_disarm 54 = .ok (.getfield 9, 3) := by decide +kernel
theorem dX0_disarm_57 : decode cX0_disarm 57 = .ok (.iload_n 2, 1) := by decide +kernel
theorem dX0_disarm_58 : decode cX0_disarm 58 = .ok (.iconst 5, 1) := by decide +kernel
theorem dX0_disarm_59 : decode cX0_disarm 59 = .ok (.iadd, 1) := by decide +kernel
theorem dX0_disarm_60 : decode cX0_disarm 60 = .ok (.iconst 0, 1) := by decide +kernel
theorem dX0_disarm_61 : decode cX0_disarm 61 = .ok (.iastore, 1) := by decide +kernel
theorem dX0_disarm_62 : decode cX0_disarm 62 = .ok (.return_, 1) := by decide +kernel
theorem dX0_isArmed_0 : decode cX0_isArmed 0 = .ok (.iload_n 1, 1) := by decide +kernel
theorem dX0_isArmed_1 : decode cX0_isArmed 1 = .ok (.ifCond .lt 27, 3) := by decide +kernel
theorem dX0_isArmed_4 : decode cX0_isArmed 4 = .ok (.iload_n 1, 1) := by decide +kernel
theorem dX0_isArmed_5 : decode cX0_isArmed 5 = .ok (.bipush 16, 2) := by decide +kernel
theorem dX0_isArmed_7 : decode cX0_isArmed 7 = .ok (.if_icmp .ge 21, 3) := by decide +kernel
theorem dX0_isArmed_10 : decode cX0_isArmed 10 = .ok (.aload_n 0, 1) := by decide +kernel
theorem dX0_isArmed_11 : decode cX0_isArmed 11 = .ok (.getfield 9, 3) := by decide +kernel
theorem dX0_isArmed_14 : decode cX0_isArmed 14 = .ok (.iload_n 1, 1) := by decide +kernel
theorem dX0_isArmed_15 : decode cX0_isArmed 15 = .ok (.bipush 6, 2) := by decide +kernel
theorem dX0_isArmed_17 : decode cX0_isArmed 17 = .ok (.imul, 1) := by decide +kernel
theorem dX0_isArmed_18 : decode cX0_isArmed 18 = .ok (.iconst 0, 1) := by decide +kernel
theorem dX0_isArmed_19 : decode cX0_isArmed 19 = .ok (.iadd, 1) := by decide +kernel
theorem dX0_isArmed_20 : decode cX0_isArmed 20 = .ok (.iaload, 1) := by decide +kernel
theorem dX0_isArmed_21 : decode cX0_isArmed 21 = .ok (.ifCond .le 7, 3) := by decide +kernel
theorem dX0_isArmed_24 : decode cX0_isArmed 24 = .ok (.iconst 1, 1) := by decide +kernel
theorem dX0_isArmed_25 : decode cX0_isArmed 25 = .ok (.goto 4, 3) := by decide +kernel
theorem dX0_isArmed_28 : decode cX0_isArmed 28 = .ok (.iconst 0, 1) := by decide +kernel
theorem dX0_isArmed_29 : decode cX0_isArmed 29 = .ok (.ireturn, 1) := by decide +kernel
theorem dX0_isFull_0 : decode cX0_isFull 0 = .ok (.aload_n 0, 1) := by decide +kernel
theorem dX0_isFull_1 : decode cX0_isFull 1 = .ok (.iload_n 1, 1) := by decide +kernel
theorem dX0_isFull_2 : decode cX0_isFull 2 = .ok (.iconst 0, 1) := by decide +kernel
theorem dX0_isFull_3 : decode cX0_isFull 3 = .ok (.invokevirtual 28, 3) := by decide +kernel
theorem dX0_isFull_6 : decode cX0_isFull 6 = .ok (.iconst 3, 1) := by decide +kernel
theorem dX0_isFull_7 : decode cX0_isFull 7 = .ok (.if_icmp .lt 7, 3) := by decide +kernel
theorem dX0_isFull_10 : decode cX0_isFull 10 = .ok (.iconst 1, 1) := by decide +kernel
theorem dX0_isFull_11 : decode cX0_isFull 11 = .ok (.goto 4, 3) := by decide +kernel
theorem dX0_isFull_14 : decode cX0_isFull 14 = .ok (.iconst 0, 1) := by decide +kernel
theorem dX0_isFull_15 : decode cX0_isFull 15 = .ok (.ireturn, 1) := by decide +kernel
theorem dX0_add_0 : decode cX0_add 0 = .ok (.iload_n 1, 1) := by decide +kernel
theorem dX0_add_1 : decode cX0_add 1 = .ok (.bipush 6, 2) := by decide +kernel
theorem dX0_add_3 : decode cX0_add 3 = .ok (.imul, 1) := by decide +kernel
theorem dX0_add_4 : decode cX0_add 4 = .ok (.istore 6, 2) := by decide +kernel
theorem dX0_add_6 : decode cX0_add 6 = .ok (.aload_n 0, 1) := by decide +kernel
theorem dX0_add_7 : decode cX0_add 7 = .ok (.getfield 9, 3) := by decide +kernel
theorem dX0_add_10 : decode cX0_add 10 = .ok (.iload 6, 2) := by decide +kernel
theorem dX0_add_12 : decode cX0_add 12 = .ok (.iconst 0, 1) := by decide +kernel
theorem dX0_add_13 : decode cX0_add 13 = .ok (.iadd, 1) := by decide +kernel
theorem dX0_add_14 : decode cX0_add 14 = .ok (.dup2, 1) := by decide +kernel
theorem dX0_add_15 : decode cX0_add 15 = .ok (.iaload, 1) := by decide +kernel
theorem dX0_add_16 : decode cX0_add 16 = .ok (.iconst 1, 1) := by decide +kernel
theorem dX0_add_17 : decode cX0_add 17 = .ok (.iadd, 1) := by decide +kernel
theorem dX0_add_18 : decode cX0_add 18 = .ok (.iastore, 1) := by decide +kernel
theorem dX0_add_19 : decode cX0_add 19 = .ok (.aload_n 0, 1) := by decide +kernel
theorem dX0_add_20 : decode cX0_add 20 = .ok (.getfield 9, 3) := by decide +kernel
theorem dX0_add_23 : decode cX0_add 23 = .ok (.iload 6, 2) := by decide +kernel
theorem dX0_add_25 : decode cX0_add 25 = .ok (.iconst 1, 1) := by decide +kernel
theorem dX0_add_26 : decode cX0_add 26 = .ok (.iadd, 1) := by decide +kernel
theorem dX0_add_27 : decode cX0_add 27 = .ok (.iload_n 2, 1) := by decide +kernel
theorem dX0_add_28 : decode cX0_add 28 = .ok (.iastore, 1) := by decide +kernel
theorem dX0_add_29 : decode cX0_add 29 = .ok (.aload_n 0, 1) := by decide +kernel
theorem dX0_add_30 : decode cX0_add 30 = .ok (.getfield 9, 3) := by decide +kernel
theorem dX0_add_33 : decode cX0_add 33 = .ok (.iload 6, 2) := by decide +kernel
theorem dX0_add_35 : decode cX0_add 35 = .ok (.iconst 2, 1) := by decide +kernel
theorem dX0_add_36 : decode cX0_add 36 = .ok (.iadd, 1) := by decide +kernel
theorem dX0_add_37 : decode cX0_add 37 = .ok (.iload_n 2, 1) := by decide +kernel
theorem dX0_add_38 : decode cX0_add 38 = .ok (.bipush (-9), 2) := by decide +kernel
theorem dX0_add_40 : decode cX0_add 40 = .ok (.if_icmp .ne 8, 3) := by decide +kernel
theorem dX0_add_43 : decode cX0_add 43 = .ok (.bipush (-9), 2) := by decide +kernel
theorem dX0_add_45 : decode cX0_add 45 = .ok (.goto 4, 3) := by decide +kernel
theorem dX0_add_48 : decode cX0_add 48 = .ok (.iload_n 3, 1) := by decide +kernel
theorem dX0_add_49 : decode cX0_add 49 = .ok (.iastore, 1) := by decide +kernel
theorem dX0_add_50 : decode cX0_add 50 = .ok (.aload_n 0, 1) := by decide +kernel
theorem dX0_add_51 : decode cX0_add 51 = .ok (.getfield 9, 3) := by decide +kernel
theorem dX0_add_54 : decode cX0_add 54 = .ok (.iload 6, 2) := by decide +kernel
theorem dX0_add_56 : decode cX0_add 56 = .ok (.iconst 3, 1) := by decide +kernel
theorem dX0_add_57 : decode cX0_add 57 = .ok (.iadd, 1) := by decide +kernel
theorem dX0_add_58 : decode cX0_add 58 = .ok (.iload_n 2, 1) := by decide +kernel
theorem dX0_add_59 : decode cX0_add 59 = .ok (.bipush (-9), 2) := by decide +kernel
theorem dX0_add_61 : decode cX0_add 61 = .ok (.if_icmp .ne 8, 3) := by decide +kernel
theorem dX0_add_64 : decode cX0_add 64 = .ok (.bipush (-9), 2) := by decide +kernel
theorem dX0_add_66 : decode cX0_add 66 = .ok (.goto 5, 3) := by decide +kernel
theorem dX0_add_69 : decode cX0_add 69 = .ok (.iload 4, 2) := by decide +kernel
theorem dX0_add_71 : decode cX0_add 71 = .ok (.iastore, 1) := by decide +kernel
theorem dX0_add_72 : decode cX0_add 72 = .ok (.aload_n 0, 1) := by decide +kernel
theorem dX0_add_73 : decode cX0_add 73 = .ok (.getfield 9, 3) := by decide +kernel
theorem dX0_add_76 : decode cX0_add 76 = .ok (.iload 6, 2) := by decide +kernel
theorem dX0_add_78 : decode cX0_add 78 = .ok (.iconst 4, 1) := by decide +kernel
theorem dX0_add_79 : decode cX0_add 79 = .ok (.iadd, 1) := by decide +kernel
theorem dX0_add_80 : decode cX0_add 80 = .ok (.iload 5, 2) := by decide +kernel
theorem dX0_add_82 : decode cX0_add 82 = .ok (.iastore, 1) := by decide +kernel
theorem dX0_add_83 : decode cX0_add 83 = .ok (.return_, 1) := by decide +kernel
theorem dX0_remove_0 : decode cX0_remove 0 = .ok (.aload_n 0, 1) := by decide +kernel
theorem dX0_remove_1 : decode cX0_remove 1 = .ok (.iload_n 1, 1) := by decide +kernel
theorem dX0_remove_2 : decode cX0_remove 2 = .ok (.iconst 0, 1) := by decide +kernel
theorem dX0_remove_3 : decode cX0_remove 3 = .ok (.invokevirtual 28, 3) := by decide +kernel
theorem dX0_remove_6 : decode cX0_remove 6 = .ok (.iconst 1, 1) := by decide +kernel
theorem dX0_remove_7 : decode cX0_remove 7 = .ok (.if_icmp .gt 11, 3) := by decide +kernel
theorem dX0_remove_10 : decode cX0_remove 10 = .ok (.aload_n 0, 1) := by decide +kernel
theorem dX0_remove_11 : decode cX0_remove 11 = .ok (.iload_n 1, 1) := by decide +kernel
theorem dX0_remove_12 : decode cX0_remove 12 = .ok (.invokevirtual 18, 3) := by decide +kernel
theorem dX0_remove_15 : decode cX0_remove 15 = .ok (.goto 18, 3) := by decide +kernel
theorem dX0_remove_18 : decode cX0_remove 18 = .ok (.aload_n 0, 1) := by decide +kernel
theorem dX0_remove_19 : decode cX0_remove 19 = .ok (.getfield 9, 3) := by decide +kernel
theorem dX0_remove_22 : decode cX0_remove 22 = .ok (.iload_n 1, 1) := by decide +kernel
theorem dX0_remove_23 : decode cX0_remove 23 = .ok (.bipush 6, 2) := by decide +kernel
theorem dX0_remove_25 : decode cX0_remove 25 = .ok (.imul, 1) := by decide +kernel
theorem dX0_remove_26 : decode cX0_remove 26 = .ok (.iconst 0, 1) := by decide +kernel
theorem dX0_remove_27 : decode cX0_remove 27 = .ok (.iadd, 1) := by decide +kernel
theorem dX0_remove_28 : decode cX0_remove 28 = .ok (.dup2, 1) := by decide +kernel
theorem dX0_remove_29 : decode cX0_remove 29 = .ok (.iaload, 1) := by decide +kernel
theorem dX0_remove_30 : decode cX0_remove 30 = .ok (.iconst 1, 1) := by decide +kernel
theorem dX0_remove_31 : decode cX0_remove 31 = .ok (.isub, 1) := by decide +kernel
theorem dX0_remove_32 : decode cX0_remove 32 = .ok (.iastore, 1) := by decide +kernel
theorem dX0_remove_33 : decode cX0_remove 33 = .ok (.return_, 1) := by decide +kernel
theorem dX0_armedSet_0 : decode cX0_armedSet 0 = .ok (.iconst 0, 1) := by decide +kernel
theorem dX0_armedSet_1 : decode cX0_armedSet 1 = .ok (.istore_n 1, 1) := by decide +kernel
theorem dX0_armedSet_2 : decode cX0_armedSet 2 = .ok (.iconst 0, 1) := by decide +kernel
theorem dX0_armedSet_3 : decode cX0_armedSet 3 = .ok (.istore_n 2, 1) := by decide +kernel
theorem dX0_armedSet_4 : decode cX0_armedSet 4 = .ok (.iload_n 2, 1) := by decide +kernel
theorem dX0_armedSet_5 : decode cX0_armedSet 5 = .ok (.bipush 16, 2) := by decide +kernel
theorem dX0_armedSet_7 : decode cX0_armedSet 7 = .ok (.if_icmp .ge 23, 3) := by decide +kernel
theorem dX0_armedSet_10 : decode cX0_armedSet 10 = .ok (.aload_n 0, 1) := by decide +kernel
theorem dX0_armedSet_11 : decode cX0_armedSet 11 = .ok (.iload_n 2, 1) := by decide +kernel
theorem dX0_armedSet_12 : decode cX0_armedSet 12 = .ok (.invokevirtual 32, 3) := by decide +kernel
theorem dX0_armedSet_15 : decode cX0_armedSet 15 = .ok (.ifCond .eq 9, 3) := by decide +kernel
theorem dX0_armedSet_18 : decode cX0_armedSet 18 = .ok (.iload_n 1, 1) := by decide +kernel
theorem dX0_armedSet_19 : decode cX0_armedSet 19 = .ok (.iconst 1, 1) := by decide +kernel
theorem dX0_armedSet_20 : decode cX0_armedSet 20 = .ok (.iload_n 2, 1) := by decide +kernel
theorem dX0_armedSet_21 : decode cX0_armedSet 21 = .ok (.ishl, 1) := by decide +kernel
theorem dX0_armedSet_22 : decode cX0_armedSet 22 = .ok (.ior, 1) := by decide +kernel
theorem dX0_armedSet_23 : decode cX0_armedSet 23 = .ok (.istore_n 1, 1) := by decide +kernel
theorem dX0_armedSet_24 : decode cX0_armedSet 24 = .ok (.iinc 2 1, 3) := by decide +kernel
theorem dX0_armedSet_27 : decode cX0_armedSet 27 = .ok (.goto (-23), 3) := by decide +kernel
theorem dX0_armedSet_30 : decode cX0_armedSet 30 = .ok (.iload_n 1, 1) := by decide +kernel
theorem dX0_armedSet_31 : decode cX0_armedSet 31 = .ok (.ireturn, 1) := by decide +kernel
theorem dX0_armedCount_0 : decode cX0_armedCount 0 = .ok (.aload_n 0, 1) := by decide +kernel
theorem dX0_armedCount_1 : decode cX0_armedCount 1 = .ok (.invokevirtual 36, 3) := by decide +kernel
theorem dX0_armedCount_4 : decode cX0_armedCount 4 = .ok (.invokestatic 40, 3) := by decide +kernel
theorem dX0_armedCount_7 : decode cX0_armedCount 7 = .ok (.ireturn, 1) := by decide +kernel
theorem dX0_apply_0 : decode cX0_apply 0 = .ok (.aload_n 1, 1) := by decide +kernel
theorem dX0_apply_1 : decode cX0_apply 1 = .ok (.getfield 46, 3) := by decide +kernel
theorem dX0_apply_4 : decode cX0_apply 4 = .ok (.istore_n 2, 1) := by decide +kernel
theorem dX0_apply_5 : decode cX0_apply 5 = .ok (.aload_n 0, 1) := by decide +kernel
theorem dX0_apply_6 : decode cX0_apply 6 = .ok (.iload_n 2, 1) := by decide +kernel
theorem dX0_apply_7 : decode cX0_apply 7 = .ok (.invokevirtual 32, 3) := by decide +kernel
theorem dX0_apply_10 : decode cX0_apply 10 = .ok (.ifCond .ne 5, 3) := by decide +kernel
theorem dX0_apply_13 : decode cX0_apply 13 = .ok (.iconst 0, 1) := by decide +kernel
theorem dX0_apply_14 : decode cX0_apply 14 = .ok (.ireturn, 1) := by decide +kernel
theorem dX0_apply_15 : decode cX0_apply 15 = .ok (.iload_n 2, 1) := by decide +kernel
theorem dX0_apply_16 : decode cX0_apply 16 = .ok (.bipush 6, 2) := by decide +kernel
theorem dX0_apply_18 : decode cX0_apply 18 = .ok (.imul, 1) := by decide +kernel
theorem dX0_apply_19 : decode cX0_apply 19 = .ok (.istore_n 3, 1) := by decide +kernel
theorem dX0_apply_20 : decode cX0_apply 20 = .ok (.aload_n 0, 1) := by decide +kernel
theorem dX0_apply_21 : decode cX0_apply 21 = .ok (.getfield 9, 3) := by decide +kernel
theorem dX0_apply_24 : decode cX0_apply 24 = .ok (.iload_n 3, 1) := by decide +kernel
theorem dX0_apply_25 : decode cX0_apply 25 = .ok (.iconst 1, 1) := by decide +kernel
theorem dX0_apply_26 : decode cX0_apply 26 = .ok (.iadd, 1) := by decide +kernel
theorem dX0_apply_27 : decode cX0_apply 27 = .ok (.iaload, 1) := by decide +kernel
theorem dX0_apply_28 : decode cX0_apply 28 = .ok (.istore 4, 2) := by decide +kernel
theorem dX0_apply_30 : decode cX0_apply 30 = .ok (.iload 4, 2) := by decide +kernel
theorem dX0_apply_32 : decode cX0_apply 32 = .ok (.invokestatic 52, 3) := by decide +kernel
theorem dX0_apply_35 : decode cX0_apply 35 = .ok (.ifCond .ne 5, 3) := by decide +kernel
theorem dX0_apply_38 : decode cX0_apply 38 = .ok (.iconst 1, 1) := by decide +kernel
theorem dX0_apply_39 : decode cX0_apply 39 = .ok (.ireturn, 1) := by decide +kernel
theorem dX0_apply_40 : decode cX0_apply 40 = .ok (.aload_n 1, 1) := by decide +kernel
theorem dX0_apply_41 : decode cX0_apply 41 = .ok (.getfield 55, 3) := by decide +kernel
theorem dX0_apply_44 : decode cX0_apply 44 = .ok (.iload 4, 2) := by decide +kernel
theorem dX0_apply_46 : decode cX0_apply 46 = .ok (.iaload, 1) := by decide +kernel
theorem dX0_apply_47 : decode cX0_apply 47 = .ok (.istore 5, 2) := by decide +kernel
theorem dX0_apply_49 : decode cX0_apply 49 = .ok (.aload_n 0, 1) := by decide +kernel
theorem dX0_apply_50 : decode cX0_apply 50 = .ok (.getfield 9, 3) := by decide +kernel
theorem dX0_apply_53 : decode cX0_apply 53 = .ok (.iload_n 3, 1) := by decide +kernel
theorem dX0_apply_54 : decode cX0_apply 54 = .ok (.iconst 3, 1) := by decide +kernel
theorem dX0_apply_55 : decode cX0_apply 55 = .ok (.iadd, 1) := by decide +kernel
theorem dX0_apply_56 : decode cX0_apply 56 = .ok (.iaload, 1) := by decide +kernel
theorem dX0_apply_57 : decode cX0_apply 57 = .ok (.istore 6, 2) := by decide +kernel
theorem dX0_apply_59 : decode cX0_apply 59 = .ok (.aload_n 0, 1) := by decide +kernel
theorem dX0_apply_60 : decode cX0_apply 60 = .ok (.getfield 9, 3) := by decide +kernel
theorem dX0_apply_63 : decode cX0_apply 63 = .ok (.iload_n 3, 1) := by decide +kernel
theorem dX0_apply_64 : decode cX0_apply 64 = .ok (.iconst 2, 1) := by decide +kernel
theorem dX0_apply_65 : decode cX0_apply 65 = .ok (.iadd, 1) := by decide +kernel
theorem dX0_apply_66 : decode cX0_apply 66 = .ok (.iaload, 1) := by decide +kernel
theorem dX0_apply_67 : decode cX0_apply 67 = .ok (.lookupswitch 51 #[(0, 25), (1, 38)], 25) := by decide +kernel
theorem dX0_apply_92 : decode cX0_apply 92 = .ok (.iload 5, 2) := by decide +kernel
theorem dX0_apply_94 : decode cX0_apply 94 = .ok (.iload 6, 2) := by decide +kernel
theorem dX0_apply_96 : decode cX0_apply 96 = .ok (.if_icmp .ge 7, 3) := by decide +kernel
theorem dX0_apply_99 : decode cX0_apply 99 = .ok (.iconst 1, 1) := by decide +kernel
theorem dX0_apply_100 : decode cX0_apply 100 = .ok (.goto 4, 3) := by decide +kernel
theorem dX0_apply_103 : decode cX0_apply 103 = .ok (.iconst 0, 1) := by decide +kernel
theorem dX0_apply_104 : decode cX0_apply 104 = .ok (.ireturn, 1) := by decide +kernel
theorem dX0_apply_105 : decode cX0_apply 105 = .ok (.iload 5, 2) := by decide +kernel
theorem dX0_apply_107 : decode cX0_apply 107 = .ok (.iload 6, 2) := by decide +kernel
theorem dX0_apply_109 : decode cX0_apply 109 = .ok (.if_icmp .ne 7, 3) := by decide +kernel
theorem dX0_apply_112 : decode cX0_apply 112 = .ok (.iconst 1, 1) := by decide +kernel
theorem dX0_apply_113 : decode cX0_apply 113 = .ok (.goto 4, 3) := by decide +kernel
theorem dX0_apply_116 : decode cX0_apply 116 = .ok (.iconst 0, 1) := by decide +kernel
theorem dX0_apply_117 : decode cX0_apply 117 = .ok (.ireturn, 1) := by decide +kernel
theorem dX0_apply_118 : decode cX0_apply 118 = .ok (.iload 5, 2) := by decide +kernel
theorem dX0_apply_120 : decode cX0_apply 120 = .ok (.iload 6, 2) := by decide +kernel
theorem dX0_apply_122 : decode cX0_apply 122 = .ok (.if_icmp .le 7, 3) := by decide +kernel
theorem dX0_apply_125 : decode cX0_apply 125 = .ok (.iconst 1, 1) := by decide +kernel
theorem dX0_apply_126 : decode cX0_apply 126 = .ok (.goto 4, 3) := by decide +kernel
theorem dX0_apply_129 : decode cX0_apply 129 = .ok (.iconst 0, 1) := by decide +kernel
theorem dX0_apply_130 : decode cX0_apply 130 = .ok (.ireturn, 1) := by decide +kernel
theorem dX0_stop_0 : decode cX0_stop 0 = .ok (.aload_n 0, 1) := by decide +kernel
theorem dX0_stop_1 : decode cX0_stop 1 = .ok (.aload_n 1, 1) := by decide +kernel
theorem dX0_stop_2 : decode cX0_stop 2 = .ok (.invokevirtual 58, 3) := by decide +kernel
theorem dX0_stop_5 : decode cX0_stop 5 = .ok (.ifCond .ne 5, 3) := by decide +kernel
theorem dX0_stop_8 : decode cX0_stop 8 = .ok (.iconst 0, 1) := by decide +kernel
theorem dX0_stop_9 : decode cX0_stop 9 = .ok (.ireturn, 1) := by decide +kernel
theorem dX0_stop_10 : decode cX0_stop 10 = .ok (.aload_n 1, 1) := by decide +kernel
theorem dX0_stop_11 : decode cX0_stop 11 = .ok (.getfield 46, 3) := by decide +kernel
theorem dX0_stop_14 : decode cX0_stop 14 = .ok (.bipush 6, 2) := by decide +kernel
theorem dX0_stop_16 : decode cX0_stop 16 = .ok (.imul, 1) := by decide +kernel
theorem dX0_stop_17 : decode cX0_stop 17 = .ok (.istore_n 2, 1) := by decide +kernel
theorem dX0_stop_18 : decode cX0_stop 18 = .ok (.aload_n 0, 1) := by decide +kernel
theorem dX0_stop_19 : decode cX0_stop 19 = .ok (.getfield 9, 3) := by decide +kernel
theorem dX0_stop_22 : decode cX0_stop 22 = .ok (.iload_n 2, 1) := by decide +kernel
theorem dX0_stop_23 : decode cX0_stop 23 = .ok (.iconst 4, 1) := by decide +kernel
theorem dX0_stop_24 : decode cX0_stop 24 = .ok (.iadd, 1) := by decide +kernel
theorem dX0_stop_25 : decode cX0_stop 25 = .ok (.iaload, 1) := by decide +kernel
theorem dX0_stop_26 : decode cX0_stop 26 = .ok (.ifCond .le 17, 3) := by decide +kernel
theorem dX0_stop_29 : decode cX0_stop 29 = .ok (.aload_n 0, 1) := by decide +kernel
theorem dX0_stop_30 : decode cX0_stop 30 = .ok (.getfield 9, 3) := by decide +kernel
theorem dX0_stop_33 : decode cX0_stop 33 = .ok (.iload_n 2, 1) := by decide +kernel
theorem dX0_stop_34 : decode cX0_stop 34 = .ok (.iconst 4, 1) := by decide +kernel
theorem dX0_stop_35 : decode cX0_stop 35 = .ok (.iadd, 1) := by decide +kernel
theorem dX0_stop_36 : decode cX0_stop 36 = .ok (.dup2, 1) := by decide +kernel
theorem dX0_stop_37 : decode cX0_stop 37 = .ok (.iaload, 1) := by decide +kernel
theorem dX0_stop_38 : decode cX0_stop 38 = .ok (.iconst 1, 1) := by decide +kernel
theorem dX0_stop_39 : decode cX0_stop 39 = .ok (.isub, 1) := by decide +kernel
theorem dX0_stop_40 : decode cX0_stop 40 = .ok (.iastore, 1) := by decide +kernel
theorem dX0_stop_41 : decode cX0_stop 41 = .ok (.iconst 0, 1) := by decide +kernel
theorem dX0_stop_42 : decode cX0_stop 42 = .ok (.ireturn, 1) := by decide +kernel
theorem dX0_stop_43 : decode cX0_stop 43 = .ok (.aload_n 0, 1) := by decide +kernel
theorem dX0_stop_44 : decode cX0_stop 44 = .ok (.getfield 9, 3) := by decide +kernel
theorem dX0_stop_47 : decode cX0_stop 47 = .ok (.iload_n 2, 1) := by decide +kernel
theorem dX0_stop_48 : decode cX0_stop 48 = .ok (.iconst 5, 1) := by decide +kernel
theorem dX0_stop_49 : decode cX0_stop 49 = .ok (.iadd, 1) := by decide +kernel
theorem dX0_stop_50 : decode cX0_stop 50 = .ok (.dup2, 1) := by decide +kernel
theorem dX0_stop_51 : decode cX0_stop 51 = .ok (.iaload, 1) := by decide +kernel
theorem dX0_stop_52 : decode cX0_stop 52 = .ok (.iconst 1, 1) := by decide +kernel
theorem dX0_stop_53 : decode cX0_stop 53 = .ok (.iadd, 1) := by decide +kernel
theorem dX0_stop_54 : decode cX0_stop 54 = .ok (.iastore, 1) := by decide +kernel
theorem dX0_stop_55 : decode cX0_stop 55 = .ok (.iconst 1, 1) := by decide +kernel
theorem dX0_stop_56 : decode cX0_stop 56 = .ok (.ireturn, 1) := by decide +kernel
theorem dX1_init_0 : decode cX1_init 0 = .ok (.aload_n 0, 1) := by decide +kernel
theorem dX1_init_1 : decode cX1_init 1 = .ok (.invokespecial 3, 3) := by decide +kernel
theorem dX1_init_4 : decode cX1_init 4 = .ok (.aload_n 0, 1) := by decide +kernel
theorem dX1_init_5 : decode cX1_init 5 = .ok (.new 9, 3) := by decide +kernel
theorem dX1_init_8 : decode cX1_init 8 = .ok (.dup, 1) := by decide +kernel
theorem dX1_init_9 : decode cX1_init 9 = .ok (.invokespecial 11, 3) := by decide +kernel
theorem dX1_init_12 : decode cX1_init 12 = .ok (.putfield 12, 3) := by decide +kernel
theorem dX1_init_15 : decode cX1_init 15 = .ok (.return_, 1) := by decide +kernel
theorem dX1_prepare_0 : decode cX1_prepare 0 = .ok (.aload_n 0, 1) := by decide +kernel
theorem dX1_prepare_1 : decode cX1_prepare 1 = .ok (.getfield 12, 3) := by decide +kernel
theorem dX1_prepare_4 : decode cX1_prepare 4 = .ok (.aload_n 1, 1) := by decide +kernel
theorem dX1_prepare_5 : decode cX1_prepare 5 = .ok (.invokevirtual 18, 3) := by decide +kernel
theorem dX1_prepare_8 : decode cX1_prepare 8 = .ok (.return_, 1) := by decide +kernel
theorem dX1_go_0 : decode cX1_go 0 = .ok (.aload_n 0, 1) := by decide +kernel
theorem dX1_go_1 : decode cX1_go 1 = .ok (.iconst 0, 1) := by decide +kernel
theorem dX1_go_2 : decode cX1_go 2 = .ok (.putfield 22, 3) := by decide +kernel
theorem dX1_go_5 : decode cX1_go 5 = .ok (.aload_n 0, 1) := by decide +kernel
theorem dX1_go_6 : decode cX1_go 6 = .ok (.aload_n 0, 1) := by decide +kernel
theorem dX1_go_7 : decode cX1_go 7 = .ok (.getfield 12, 3) := by decide +kernel
theorem dX1_go_10 : decode cX1_go 10 = .ok (.getfield 26, 3) := by decide +kernel
theorem dX1_go_13 : decode cX1_go 13 = .ok (.ifCond .eq 7, 3) := by decide +kernel
theorem dX1_go_16 : decode cX1_go 16 = .ok (.iconst 3, 1) := by decide +kernel
theorem dX1_go_17 : decode cX1_go 17 = .ok (.goto 4, 3) := by decide +kernel
theorem dX1_go_20 : decode cX1_go 20 = .ok (.iconst (-1), 1) := by decide +kernel
theorem dX1_go_21 : decode cX1_go 21 = .ok (.putfield 30, 3) := by decide +kernel
theorem dX1_go_24 : decode cX1_go 24 = .ok (.iconst 0, 1) := by decide +kernel
theorem dX1_go_25 : decode cX1_go 25 = .ok (.istore_n 3, 1) := by decide +kernel
theorem dX1_go_26 : decode cX1_go 26 = .ok (.iload_n 3, 1) := by decide +kernel
theorem dX1_go_27 : decode cX1_go 27 = .ok (.sipush 300, 3) := by decide +kernel
theorem dX1_go_30 : decode cX1_go 30 = .ok (.if_icmp .ge 98, 3) := by decide +kernel
theorem dX1_go_33 : decode cX1_go 33 = .ok (.aload_n 0, 1) := by decide +kernel
theorem dX1_go_34 : decode cX1_go 34 = .ok (.getfield 30, 3) := by decide +kernel
theorem dX1_go_37 : decode cX1_go 37 = .ok (.iconst (-1), 1) := by decide +kernel
theorem dX1_go_38 : decode cX1_go 38 = .ok (.if_icmp .ne 90, 3) := by decide +kernel
theorem dX1_go_41 : decode cX1_go 41 = .ok (.aload_n 0, 1) := by decide +kernel
theorem dX1_go_42 : decode cX1_go 42 = .ok (.getfield 12, 3) := by decide +kernel
theorem dX1_go_45 : decode cX1_go 45 = .ok (.getfield 33, 3) := by decide +kernel
theorem dX1_go_48 : decode cX1_go 48 = .ok (.iload_n 2, 1) := by decide +kernel
theorem dX1_go_49 : decode cX1_go 49 = .ok (.if_icmp .ne 27, 3) := by decide +kernel
theorem dX1_go_52 : decode cX1_go 52 = .ok (.aload_n 1, 1) := by decide +kernel
theorem dX1_go_53 : decode cX1_go 53 = .ok (.iload_n 2, 1) := by decide +kernel
theorem dX1_go_54 : decode cX1_go 54 = .ok (.invokevirtual 36, 3) := by decide +kernel
theorem dX1_go_57 : decode cX1_go 57 = .ok (.ifCond .eq 19, 3) := by decide +kernel
theorem dX1_go_60 : decode cX1_go 60 = .ok (.aload_n 0, 1) := by decide +kernel
theorem dX1_go_61 : decode cX1_go 61 = .ok (.getfield 12, 3) := by decide +kernel
theorem dX1_go_64 : decode cX1_go 64 = .ok (.dup, 1) := by decide +kernel
theorem dX1_go_65 : decode cX1_go 65 = .ok (.getfield 33, 3) := by decide +kernel
theorem dX1_go_68 : decode cX1_go 68 = .ok (.iconst 1, 1) := by decide +kernel
theorem dX1_go_69 : decode cX1_go 69 = .ok (.iadd, 1) := by decide +kernel
theorem dX1_go_70 : decode cX1_go 70 = .ok (.putfield 33, 3) := by decide +kernel
theorem dX1_go_73 : decode cX1_go 73 = .ok (.goto 20, 3) := by decide +kernel
theorem dX1_go_76 : decode cX1_go 76 = .ok (.aload_n 0, 1) := by decide +kernel
theorem dX1_go_77 : decode cX1_go 77 = .ok (.getfield 12, 3) := by decide +kernel
theorem dX1_go_80 : decode cX1_go 80 = .ok (.aload_n 1, 1) := by decide +kernel
theorem dX1_go_81 : decode cX1_go 81 = .ok (.invokevirtual 42, 3) := by decide +kernel
theorem dX1_go_84 : decode cX1_go 84 = .ok (.ifCond .ne 9, 3) := by decide +kernel
theorem dX1_go_87 : decode cX1_go 87 = .ok (.aload_n 0, 1) := by decide +kernel
theorem dX1_go_88 : decode cX1_go 88 = .ok (.iconst 4, 1) := by decide +kernel
theorem dX1_go_89 : decode cX1_go 89 = .ok (.putfield 30, 3) := by decide +kernel
theorem dX1_go_92 : decode cX1_go 92 = .ok (.return_, 1) := by decide +kernel
theorem dX1_go_93 : decode cX1_go 93 = .ok (.aload_n 0, 1) := by decide +kernel
theorem dX1_go_94 : decode cX1_go 94 = .ok (.dup, 1) := by decide +kernel
theorem dX1_go_95 : decode cX1_go 95 = .ok (.getfield 22, 3) := by decide +kernel
theorem dX1_go_98 : decode cX1_go 98 = .ok (.iconst 1, 1) := by decide +kernel
theorem dX1_go_99 : decode cX1_go 99 = .ok (.iadd, 1) := by decide +kernel
theorem dX1_go_100 : decode cX1_go 100 = .ok (.putfield 22, 3) := by decide +kernel
theorem dX1_go_103 : decode cX1_go 103 = .ok (.aload_n 0, 1) := by decide +kernel
theorem dX1_go_104 : decode cX1_go 104 = .ok (.aload_n 0, 1) := by decide +kernel
theorem dX1_go_105 : decode cX1_go 105 = .ok (.getfield 12, 3) := by decide +kernel
theorem dX1_go_108 : decode cX1_go 108 = .ok (.getfield 26, 3) := by decide +kernel
theorem dX1_go_111 : decode cX1_go 111 = .ok (.ifCond .eq 7, 3) := by decide +kernel
theorem dX1_go_114 : decode cX1_go 114 = .ok (.iconst 3, 1) := by decide +kernel
theorem dX1_go_115 : decode cX1_go 115 = .ok (.goto 4, 3) := by decide +kernel
theorem dX1_go_118 : decode cX1_go 118 = .ok (.iconst (-1), 1) := by decide +kernel
theorem dX1_go_119 : decode cX1_go 119 = .ok (.putfield 30, 3) := by decide +kernel
theorem dX1_go_122 : decode cX1_go 122 = .ok (.iinc 3 1, 3) := by decide +kernel
theorem dX1_go_125 : decode cX1_go 125 = .ok (.goto (-99), 3) := by decide +kernel
theorem dX1_go_128 : decode cX1_go 128 = .ok (.aload_n 0, 1) := by decide +kernel
theorem dX1_go_129 : decode cX1_go 129 = .ok (.aload_n 0, 1) := by decide +kernel
theorem dX1_go_130 : decode cX1_go 130 = .ok (.getfield 30, 3) := by decide +kernel
theorem dX1_go_133 : decode cX1_go 133 = .ok (.iconst (-1), 1) := by decide +kernel
theorem dX1_go_134 : decode cX1_go 134 = .ok (.if_icmp .ne 7, 3) := by decide +kernel
theorem dX1_go_137 : decode cX1_go 137 = .ok (.iconst 5, 1) := by decide +kernel
theorem dX1_go_138 : decode cX1_go 138 = .ok (.goto 7, 3) := by decide +kernel
theorem dX1_go_141 : decode cX1_go 141 = .ok (.aload_n 0, 1) := by decide +kernel
theorem dX1_go_142 : decode cX1_go 142 = .ok (.getfield 30, 3) := by decide +kernel
theorem dX1_go_145 : decode cX1_go 145 = .ok (.putfield 30, 3) := by decide +kernel
theorem dX1_go_148 : decode cX1_go 148 = .ok (.return_, 1) := by decide +kernel
theorem dX2_init_0 : decode cX2_init 0 = .ok (.aload_n 0, 1) := by decide +kernel
theorem dX2_init_1 : decode cX2_init 1 = .ok (.invokespecial 3, 3) := by decide +kernel
theorem dX2_init_4 : decode cX2_init 4 = .ok (.aload_n 0, 1) := by decide +kernel
theorem dX2_init_5 : decode cX2_init 5 = .ok (.bipush 14, 2) := by decide +kernel
theorem dX2_init_7 : decode cX2_init 7 = .ok (.anewarray 9, 3) := by decide +kernel
theorem dX2_init_10 : decode cX2_init 10 = .ok (.putfield 11, 3) := by decide +kernel
theorem dX2_init_13 : decode cX2_init 13 = .ok (.iconst 0, 1) := by decide +kernel
theorem dX2_init_14 : decode cX2_init 14 = .ok (.istore_n 1, 1) := by decide +kernel
theorem dX2_init_15 : decode cX2_init 15 = .ok (.iload_n 1, 1) := by decide +kernel
theorem dX2_init_16 : decode cX2_init 16 = .ok (.bipush 14, 2) := by decide +kernel
theorem dX2_init_18 : decode cX2_init 18 = .ok (.if_icmp .ge 22, 3) := by decide +kernel
theorem dX2_init_21 : decode cX2_init 21 = .ok (.aload_n 0, 1) := by decide +kernel
theorem dX2_init_22 : decode cX2_init 22 = .ok (.getfield 11, 3) := by decide +kernel
theorem dX2_init_25 : decode cX2_init 25 = .ok (.iload_n 1, 1) := by decide +kernel
theorem dX2_init_26 : decode cX2_init 26 = .ok (.new 9, 3) := by decide +kernel
theorem dX2_init_29 : decode cX2_init 29 = .ok (.dup, 1) := by decide +kernel
theorem dX2_init_30 : decode cX2_init 30 = .ok (.invokespecial 17, 3) := by decide +kernel
theorem dX2_init_33 : decode cX2_init 33 = .ok (.aastore, 1) := by decide +kernel
theorem dX2_init_34 : decode cX2_init 34 = .ok (.iinc 1 1, 3) := by decide +kernel
theorem dX2_init_37 : decode cX2_init 37 = .ok (.goto (-22), 3) := by decide +kernel
theorem dX2_init_40 : decode cX2_init 40 = .ok (.return_, 1) := by decide +kernel
theorem dX2_clear_0 : decode cX2_clear 0 = .ok (.aload_n 0, 1) := by decide +kernel
theorem dX2_clear_1 : decode cX2_clear 1 = .ok (.iconst 0, 1) := by decide +kernel
theorem dX2_clear_2 : decode cX2_clear 2 = .ok (.putfield 18, 3) := by decide +kernel
theorem dX2_clear_5 : decode cX2_clear 5 = .ok (.return_, 1) := by decide +kernel
theorem dX2_remember_0 : decode cX2_remember 0 = .ok (.aload_n 0, 1) := by decide +kernel
theorem dX2_remember_1 : decode cX2_remember 1 = .ok (.getfield 11, 3) := by decide +kernel
theorem dX2_remember_4 : decode cX2_remember 4 = .ok (.aload_n 0, 1) := by decide +kernel
theorem dX2_remember_5 : decode cX2_remember 5 = .ok (.getfield 22, 3) := by decide +kernel
theorem dX2_remember_8 : decode cX2_remember 8 = .ok (.aaload, 1) := by decide +kernel
theorem dX2_remember_9 : decode cX2_remember 9 = .ok (.aload_n 1, 1) := by decide +kernel
theorem dX2_remember_10 : decode cX2_remember 10 = .ok (.invokevirtual 25, 3) := by decide +kernel
theorem dX2_remember_13 : decode cX2_remember 13 = .ok (.aload_n 0, 1) := by decide +kernel
theorem dX2_remember_14 : decode cX2_remember 14 = .ok (.aload_n 0, 1) := by decide +kernel
theorem dX2_remember_15 : decode cX2_remember 15 = .ok (.getfield 22, 3) := by decide +kernel
theorem dX2_remember_18 : decode cX2_remember 18 = .ok (.iconst 1, 1) := by decide +kernel
theorem dX2_remember_19 : decode cX2_remember 19 = .ok (.iadd, 1) := by decide +kernel
theorem dX2_remember_20 : decode cX2_remember 20 = .ok (.bipush 14, 2) := by decide +kernel
theorem dX2_remember_22 : decode cX2_remember 22 = .ok (.irem, 1) := by decide +kernel
theorem dX2_remember_23 : decode cX2_remember 23 = .ok (.putfield 22, 3) := by decide +kernel
theorem dX2_remember_26 : decode cX2_remember 26 = .ok (.aload_n 0, 1) := by decide +kernel
theorem dX2_remember_27 : decode cX2_remember 27 = .ok (.aload_n 0, 1) := by decide +kernel
theorem dX2_remember_28 : decode cX2_remember 28 = .ok (.getfield 18, 3) := by decide +kernel
theorem dX2_remember_31 : decode cX2_remember 31 = .ok (.iconst 1, 1) := by decide +kernel
theorem dX2_remember_32 : decode cX2_remember 32 = .ok (.iadd, 1) := by decide +kernel
theorem dX2_remember_33 : decode cX2_remember 33 = .ok (.bipush 14, 2) := by decide +kernel
theorem dX2_remember_35 : decode cX2_remember 35 = .ok (.invokestatic 29, 3) := by decide +kernel
theorem dX2_remember_38 : decode cX2_remember 38 = .ok (.putfield 18, 3) := by decide +kernel
theorem dX2_remember_41 : decode cX2_remember 41 = .ok (.return_, 1) := by decide +kernel
theorem dX2_takeBack_0 : decode cX2_takeBack 0 = .ok (.aload_n 0, 1) := by decide +kernel
theorem dX2_takeBack_1 : decode cX2_takeBack 1 = .ok (.aload_n 0, 1) := by decide +kernel
theorem dX2_takeBack_2 : decode cX2_takeBack 2 = .ok (.getfield 22, 3) := by decide +kernel
theorem dX2_takeBack_5 : decode cX2_takeBack 5 = .ok (.bipush 14, 2) := by decide +kernel
theorem dX2_takeBack_7 : decode cX2_takeBack 7 = .ok (.iadd, 1) := by decide +kernel
theorem dX2_takeBack_8 : decode cX2_takeBack 8 = .ok (.iconst 1, 1) := by decide +kernel
theorem dX2_takeBack_9 : decode cX2_takeBack 9 = .ok (.isub, 1) := by decide +kernel
theorem dX2_takeBack_10 : decode cX2_takeBack 10 = .ok (.bipush 14, 2) := by decide +kernel
theorem dX2_takeBack_12 : decode cX2_takeBack 12 = .ok (.irem, 1) := by decide +kernel
theorem dX2_takeBack_13 : decode cX2_takeBack 13 = .ok (.putfield 22, 3) := by decide +kernel
theorem dX2_takeBack_16 : decode cX2_takeBack 16 = .ok (.aload_n 1, 1) := by decide +kernel
theorem dX2_takeBack_17 : decode cX2_takeBack 17 = .ok (.aload_n 0, 1) := by decide +kernel
theorem dX2_takeBack_18 : decode cX2_takeBack 18 = .ok (.getfield 11, 3) := by decide +kernel
theorem dX2_takeBack_21 : decode cX2_takeBack 21 = .ok (.aload_n 0, 1) := by decide +kernel
theorem dX2_takeBack_22 : decode cX2_takeBack 22 = .ok (.getfield 22, 3) := by decide +kernel
theorem dX2_takeBack_25 : decode cX2_takeBack 25 = .ok (.aaload, 1) := by decide +kernel
theorem dX2_takeBack_26 : decode cX2_takeBack 26 = .ok (.invokevirtual 25, 3) := by decide +kernel
theorem dX2_takeBack_29 : decode cX2_takeBack 29 = .ok (.aload_n 0, 1) := by decide +kernel
theorem dX2_takeBack_30 : decode cX2_takeBack 30 = .ok (.dup, 1) := by decide +kernel
theorem dX2_takeBack_31 : decode cX2_takeBack 31 = .ok (.getfield 18, 3) := by decide +kernel
theorem dX2_takeBack_34 : decode cX2_takeBack 34 = .ok (.iconst 1, 1) := by decide +kernel
theorem dX2_takeBack_35 : decode cX2_takeBack 35 = .ok (.isub, 1) := by decide +kernel
theorem dX2_takeBack_36 : decode cX2_takeBack 36 = .ok (.putfield 18, 3) := by decide +kernel
theorem dX2_takeBack_39 : decode cX2_takeBack 39 = .ok (.return_, 1) := by decide +kernel
theorem dX3_init_0 : decode cX3_init 0 = .ok (.aload_n 0, 1) := by decide +kernel
theorem dX3_init_1 : decode cX3_init 1 = .ok (.invokespecial 3, 3) := by decide +kernel
theorem dX3_init_4 : decode cX3_init 4 = .ok (.aload_n 0, 1) := by decide +kernel
theorem dX3_init_5 : decode cX3_init 5 = .ok (.iconst 4, 1) := by decide +kernel
theorem dX3_init_6 : decode cX3_init 6 = .ok (.newarray .int, 2) := by decide +kernel
theorem dX3_init_8 : decode cX3_init 8 = .ok (.putfield 9, 3) := by decide +kernel
theorem dX3_init_11 : decode cX3_init 11 = .ok (.aload_n 0, 1) := by decide +kernel
theorem dX3_init_12 : decode cX3_init 12 = .ok (.bipush 8, 2) := by decide +kernel
theorem dX3_init_14 : decode cX3_init 14 = .ok (.newarray .int, 2) := by decide +kernel
theorem dX3_init_16 : decode cX3_init 16 = .ok (.putfield 15, 3) := by decide +kernel
theorem dX3_init_19 : decode cX3_init 19 = .ok (.aload_n 0, 1) := by decide +kernel
theorem dX3_init_20 : decode cX3_init 20 = .ok (.bipush 8, 2) := by decide +kernel
theorem dX3_init_22 : decode cX3_init 22 = .ok (.newarray .int, 2) := by decide +kernel
theorem dX3_init_24 : decode cX3_init 24 = .ok (.putfield 18, 3) := by decide +kernel
theorem dX3_init_27 : decode cX3_init 27 = .ok (.return_, 1) := by decide +kernel
theorem dX3_begin_0 : decode cX3_begin 0 = .ok (.aload_n 0, 1) := by decide +kernel
theorem dX3_begin_1 : decode cX3_begin 1 = .ok (.getfield 9, 3) := by decide +kernel
theorem dX3_begin_4 : decode cX3_begin 4 = .ok (.iconst 0, 1) := by decide +kernel
theorem dX3_begin_5 : decode cX3_begin 5 = .ok (.invokestatic 21, 3) := by decide +kernel
theorem dX3_begin_8 : decode cX3_begin 8 = .ok (.aload_n 0, 1) := by decide +kernel
theorem dX3_begin_9 : decode cX3_begin 9 = .ok (.getfield 15, 3) := by decide +kernel
theorem dX3_begin_12 : decode cX3_begin 12 = .ok (.iconst 0, 1) := by decide +kernel
theorem dX3_begin_13 : decode cX3_begin 13 = .ok (.invokestatic 21, 3) := by decide +kernel
theorem dX3_begin_16 : decode cX3_begin 16 = .ok (.aload_n 0, 1) := by decide +kernel
theorem dX3_begin_17 : decode cX3_begin 17 = .ok (.iconst 0, 1) := by decide +kernel
theorem dX3_begin_18 : decode cX3_begin 18 = .ok (.putfield 27, 3) := by decide +kernel
theorem dX3_begin_21 : decode cX3_begin 21 = .ok (.aload_n 0, 1) := by decide +kernel
theorem dX3_begin_22 : decode cX3_begin 22 = .ok (.iconst 0, 1) := by decide +kernel
theorem dX3_begin_23 : decode cX3_begin 23 = .ok (.putfield 31, 3) := by decide +kernel
theorem dX3_begin_26 : decode cX3_begin 26 = .ok (.aload_n 0, 1) := by decide +kernel
theorem dX3_begin_27 : decode cX3_begin 27 = .ok (.iconst 0, 1) := by decide +kernel
theorem dX3_begin_28 : decode cX3_begin 28 = .ok (.putfield 34, 3) := by decide +kernel
theorem dX3_begin_31 : decode cX3_begin 31 = .ok (.aload_n 0, 1) := by decide +kernel
theorem dX3_begin_32 : decode cX3_begin 32 = .ok (.iconst 0, 1) := by decide +kernel
theorem dX3_begin_33 : decode cX3_begin 33 = .ok (.putfield 38, 3) := by decide +kernel
theorem dX3_begin_36 : decode cX3_begin 36 = .ok (.aload_n 0, 1) := by decide +kernel
theorem dX3_begin_37 : decode cX3_begin 37 = .ok (.iconst 0, 1) := by decide +kernel
theorem dX3_begin_38 : decode cX3_begin 38 = .ok (.putfield 41, 3) := by decide +kernel
theorem dX3_begin_41 : decode cX3_begin 41 = .ok (.return_, 1) := by decide +kernel
theorem dX3_takeFrom_0 : decode cX3_takeFrom 0 = .ok (.aload_n 1, 1) := by decide +kernel
theorem dX3_takeFrom_1 : decode cX3_takeFrom 1 = .ok (.getfield 9, 3) := by decide +kernel
theorem dX3_takeFrom_4 : decode cX3_takeFrom 4 = .ok (.iconst 0, 1) := by decide +kernel
theorem dX3_takeFrom_5 : decode cX3_takeFrom 5 = .ok (.aload_n 0, 1) := by decide +kernel
theorem dX3_takeFrom_6 : decode cX3_takeFrom 6 = .ok (.getfield 9, 3) := by decide +kernel
theorem dX3_takeFrom_9 : decode cX3_takeFrom 9 = .ok (.iconst 0, 1) := by decide +kernel
theorem dX3_takeFrom_10 : decode cX3_takeFrom 10 = .ok (.iconst 4, 1) := by decide +kernel
theorem dX3_takeFrom_11 : decode cX3_takeFrom 11 = .ok (.invokestatic 44, 3) := by decide +kernel
theorem dX3_takeFrom_14 : decode cX3_takeFrom 14 = .ok (.aload_n 1, 1) := by decide +kernel
theorem dX3_takeFrom_15 : decode cX3_takeFrom 15 = .ok (.getfield 15, 3) := by decide +kernel
theorem dX3_takeFrom_18 : decode cX3_takeFrom 18 = .ok (.iconst 0, 1) := by decide +kernel
theorem dX3_takeFrom_19 : decode cX3_takeFrom 19 = .ok (.aload_n 0, 1) := by decide +kernel
theorem dX3_takeFrom_20 : decode cX3_takeFrom 20 = .ok (.getfield 15, 3) := by decide +kernel
theorem dX3_takeFrom_23 : decode cX3_takeFrom 23 = .ok (.iconst 0, 1) := by decide +kernel
theorem dX3_takeFrom_24 : decode cX3_takeFrom 24 = .ok (.bipush 8, 2) := by decide +kernel
theorem dX3_takeFrom_26 : decode cX3_takeFrom 26 = .ok (.invokestatic 44, 3) := by decide +kernel
theorem dX3_takeFrom_29 : decode cX3_takeFrom 29 = .ok (.aload_n 1, 1) := by decide +kernel
theorem dX3_takeFrom_30 : decode cX3_takeFrom 30 = .ok (.getfield 18, 3) := by decide +kernel
theorem dX3_takeFrom_33 : decode cX3_takeFrom 33 = .ok (.iconst 0, 1) := by decide +kernel
theorem dX3_takeFrom_34 : decode cX3_takeFrom 34 = .ok (.aload_n 0, 1) := by decide +kernel
theorem dX3_takeFrom_35 : decode cX3_takeFrom 35 = .ok (.getfield 18, 3) := by decide +kernel
theorem dX3_takeFrom_38 : decode cX3_takeFrom 38 = .ok (.iconst 0, 1) := by decide +kernel
theorem dX3_takeFrom_39 : decode cX3_takeFrom 39 = .ok (.bipush 8, 2) := by decide +kernel
theorem dX3_takeFrom_41 : decode cX3_takeFrom 41 = .ok (.invokestatic 44, 3) := by decide +kernel
theorem dX3_takeFrom_44 : decode cX3_takeFrom 44 = .ok (.aload_n 0, 1) := by decide +kernel
theorem dX3_takeFrom_45 : decode cX3_takeFrom 45 = .ok (.aload_n 1, 1) := by decide +kernel
theorem dX3_takeFrom_46 : decode cX3_takeFrom 46 = .ok (.getfield 27, 3) := by decide +kernel
theorem dX3_takeFrom_49 : decode cX3_takeFrom 49 = .ok (.putfield 27, 3) := by decide +kernel
theorem dX3_takeFrom_52 : decode cX3_takeFrom 52 = .ok (.aload_n 0, 1) := by decide +kernel
theorem dX3_takeFrom_53 : decode cX3_takeFrom 53 = .ok (.aload_n 1, 1) := by decide +kernel
theorem dX3_takeFrom_54 : decode cX3_takeFrom 54 = .ok (.getfield 31, 3) := by decide +kernel
theorem dX3_takeFrom_57 : decode cX3_takeFrom 57 = .ok (.putfield 31, 3) := by decide +kernel
theorem dX3_takeFrom_60 : decode cX3_takeFrom 60 = .ok (.aload_n 0, 1) := by decide +kernel
theorem dX3_takeFrom_61 : decode cX3_takeFrom 61 = .ok (.aload_n 1, 1) := by decide +kernel
theorem dX3_takeFrom_62 : decode cX3_takeFrom 62 = .ok (.getfield 34, 3) := by decide +kernel
theorem dX3_takeFrom_65 : decode cX3_takeFrom 65 = .ok (.putfield 34, 3) := by decide +kernel
theorem dX3_takeFrom_68 : decode cX3_takeFrom 68 = .ok (.aload_n 0, 1) := by decide +kernel
theorem dX3_takeFrom_69 : decode cX3_takeFrom 69 = .ok (.aload_n 1, 1) := by decide +kernel
theorem dX3_takeFrom_70 : decode cX3_takeFrom 70 = .ok (.getfield 38, 3) := by decide +kernel
theorem dX3_takeFrom_73 : decode cX3_takeFrom 73 = .ok (.putfield 38, 3) := by decide +kernel
theorem dX3_takeFrom_76 : decode cX3_takeFrom 76 = .ok (.aload_n 0, 1) := by decide +kernel
theorem dX3_takeFrom_77 : decode cX3_takeFrom 77 = .ok (.aload_n 1, 1) := by decide +kernel
theorem dX3_takeFrom_78 : decode cX3_takeFrom 78 = .ok (.getfield 41, 3) := by decide +kernel
theorem dX3_takeFrom_81 : decode cX3_takeFrom 81 = .ok (.putfield 41, 3) := by decide +kernel
theorem dX3_takeFrom_84 : decode cX3_takeFrom 84 = .ok (.return_, 1) := by decide +kernel
theorem dX3_scatter_0 : decode cX3_scatter 0 = .ok (.iconst 0, 1) := by decide +kernel
theorem dX3_scatter_1 : decode cX3_scatter 1 = .ok (.istore_n 2, 1) := by decide +kernel
theorem dX3_scatter_2 : decode cX3_scatter 2 = .ok (.iload_n 2, 1) := by decide +kernel
theorem dX3_scatter_3 : decode cX3_scatter 3 = .ok (.iconst 4, 1) := by decide +kernel
theorem dX3_scatter_4 : decode cX3_scatter 4 = .ok (.if_icmp .ge 23, 3) := by decide +kernel
theorem dX3_scatter_7 : decode cX3_scatter 7 = .ok (.aload_n 0, 1) := by decide +kernel
theorem dX3_scatter_8 : decode cX3_scatter 8 = .ok (.getfield 9, 3) := by decide +kernel
theorem dX3_scatter_11 : decode cX3_scatter 11 = .ok (.iload_n 2, 1) := by decide +kernel
theorem dX3_scatter_12 : decode cX3_scatter 12 = .ok (.iload_n 1, 1) := by decide +kernel
theorem dX3_scatter_13 : decode cX3_scatter 13 = .ok (.iconst 4, 1) := by decide +kernel
theorem dX3_scatter_14 : decode cX3_scatter 14 = .ok (.iload_n 2, 1) := by decide +kernel
theorem dX3_scatter_15 : decode cX3_scatter 15 = .ok (.imul, 1) := by decide +kernel
theorem dX3_scatter_16 : decode cX3_scatter 16 = .ok (.ishr, 1) := by decide +kernel
theorem dX3_scatter_17 : decode cX3_scatter 17 = .ok (.bipush 15, 2) := by decide +kernel
theorem dX3_scatter_19 : decode cX3_scatter 19 = .ok (.iand, 1) := by decide +kernel
theorem dX3_scatter_20 : decode cX3_scatter 20 = .ok (.iastore, 1) := by decide +kernel
theorem dX3_scatter_21 : decode cX3_scatter 21 = .ok (.iinc 2 1, 3) := by decide +kernel
theorem dX3_scatter_24 : decode cX3_scatter 24 = .ok (.goto (-22), 3) := by decide +kernel
theorem dX3_scatter_27 : decode cX3_scatter 27 = .ok (.return_, 1) := by decide +kernel
theorem dX3_step_0 : decode cX3_step 0 = .ok (.aload_n 0, 1) := by decide +kernel
theorem dX3_step_1 : decode cX3_step 1 = .ok (.getfield 31, 3) := by decide +kernel
theorem dX3_step_4 : decode cX3_step 4 = .ok (.istore_n 2, 1) := by decide +kernel
theorem dX3_step_5 : decode cX3_step 5 = .ok (.aload_n 1, 1) := by decide +kernel
theorem dX3_step_6 : decode cX3_step 6 = .ok (.iload_n 2, 1) := by decide +kernel
theorem dX3_step_7 : decode cX3_step 7 = .ok (.invokevirtual 50, 3) := by decide +kernel
theorem dX3_step_10 : decode cX3_step 10 = .ok (.ifCond .ne 5, 3) := by decide +kernel
theorem dX3_step_13 : decode cX3_step 13 = .ok (.iconst 0, 1) := by decide +kernel
theorem dX3_step_14 : decode cX3_step 14 = .ok (.ireturn, 1) := by decide +kernel
theorem dX3_step_15 : decode cX3_step 15 = .ok (.aload_n 1, 1) := by decide +kernel
theorem dX3_step_16 : decode cX3_step 16 = .ok (.getfield 56, 3) := by decide +kernel
theorem dX3_step_19 : decode cX3_step 19 = .ok (.iload_n 2, 1) := by decide +kernel
theorem dX3_step_20 : decode cX3_step 20 = .ok (.iaload, 1) := by decide +kernel
theorem dX3_step_21 : decode cX3_step 21 = .ok (.istore_n 3, 1) := by decide +kernel
theorem dX3_step_22 : decode cX3_step 22 = .ok (.aload_n 1, 1) := by decide +kernel
theorem dX3_step_23 : decode cX3_step 23 = .ok (.getfield 59, 3) := by decide +kernel
theorem dX3_step_26 : decode cX3_step 26 = .ok (.iload_n 2, 1) := by decide +kernel
theorem dX3_step_27 : decode cX3_step 27 = .ok (.iaload, 1) := by decide +kernel
theorem dX3_step_28 : decode cX3_step 28 = .ok (.istore 4, 2) := by decide +kernel
theorem dX3_step_30 : decode cX3_step 30 = .ok (.iload_n 2, 1) := by decide +kernel
theorem dX3_step_31 : decode cX3_step 31 = .ok (.iconst 1, 1) := by decide +kernel
theorem dX3_step_32 : decode cX3_step 32 = .ok (.iadd, 1) := by decide +kernel
theorem dX3_step_33 : decode cX3_step 33 = .ok (.istore 5, 2) := by decide +kernel
theorem dX3_step_35 : decode cX3_step 35 = .ok (.aload_n 1, 1) := by decide +kernel
theorem dX3_step_36 : decode cX3_step 36 = .ok (.getfield 62, 3) := by decide +kernel
theorem dX3_step_39 : decode cX3_step 39 = .ok (.iload_n 2, 1) := by decide +kernel
theorem dX3_step_40 : decode cX3_step 40 = .ok (.iaload, 1) := by decide +kernel
theorem dX3_step_41 : decode cX3_step 41 = .ok (.lookupswitch 308 #[(43, 110), (45, 129), (98, 275), (99, 236), (105, 99), (106, 180), (107, 212), (108, 148), (111, 223), (115, 164), (122, 189)], 99) := by decide +kernel
theorem dX3_step_140 : decode cX3_step 140 = .ok (.aload_n 0, 1) := by decide +kernel
theorem dX3_step_141 : decode cX3_step 141 = .ok (.getfield 9, 3) := by decide +kernel
theorem dX3_step_144 : decode cX3_step 144 = .ok (.iload_n 3, 1) := by decide +kernel
theorem dX3_step_145 : decode cX3_step 145 = .ok (.iload 4, 2) := by decide +kernel
theorem dX3_step_147 : decode cX3_step 147 = .ok (.iastore, 1) := by decide +kernel
theorem dX3_step_148 : decode cX3_step 148 = .ok (.goto 209, 3) := by decide +kernel
theorem dX3_step_151 : decode cX3_step 151 = .ok (.aload_n 0, 1) := by decide +kernel
theorem dX3_step_152 : decode cX3_step 152 = .ok (.getfield 9, 3) := by decide +kernel
theorem dX3_step_155 : decode cX3_step 155 = .ok (.iload_n 3, 1) := by decide +kernel
theorem dX3_step_156 : decode cX3_step 156 = .ok (.dup2, 1) := by decide +kernel
theorem dX3_step_157 : decode cX3_step 157 = .ok (.iaload, 1) := by decide +kernel
theorem dX3_step_158 : decode cX3_step 158 = .ok (.aload_n 0, 1) := by decide +kernel
theorem dX3_step_159 : decode cX3_step 159 = .ok (.getfield 9, 3) := by decide +kernel
theorem dX3_step_162 : decode cX3_step 162 = .ok (.iload 4, 2) := by decide +kernel
theorem dX3_step_164 : decode cX3_step 164 = .ok (.iaload, 1) := by decide +kernel
theorem dX3_step_165 : decode cX3_step 165 = .ok (.iadd, 1) := by decide +kernel
theorem dX3_step_166 : decode cX3_step 166 = .ok (.iastore, 1) := by decide +kernel
theorem dX3_step_167 : decode cX3_step 167 = .ok (.goto 190, 3) := by decide +kernel
theorem dX3_step_170 : decode cX3_step 170 = .ok (.aload_n 0, 1) := by decide +kernel
theorem dX3_step_171 : decode cX3_step 171 = .ok (.getfield 9, 3) := by decide +kernel
theorem dX3_step_174 : decode cX3_step 174 = .ok (.iload_n 3, 1) := by decide +kernel
theorem dX3_step_175 : decode cX3_step 175 = .ok (.dup2, 1) := by decide +kernel
theorem dX3_step_176 : decode cX3_step 176 = .ok (.iaload, 1) := by decide +kernel
theorem dX3_step_177 : decode cX3_step 177 = .ok (.aload_n 0, 1) := by decide +kernel
theorem dX3_step_178 : decode cX3_step 178 = .ok (.getfield 9, 3) := by decide +kernel
theorem dX3_step_181 : decode cX3_step 181 = .ok (.iload 4, 2) := by decide +kernel
theorem dX3_step_183 : decode cX3_step 183 = .ok (.iaload, 1) := by decide +kernel
theorem dX3_step_184 : decode cX3_step 184 = .ok (.isub, 1) := by decide +kernel
theorem dX3_step_185 : decode cX3_step 185 = .ok (.iastore, 1) := by decide +kernel
theorem dX3_step_186 : decode cX3_step 186 = .ok (.goto 171, 3) := by decide +kernel
theorem dX3_step_189 : decode cX3_step 189 = .ok (.aload_n 0, 1) := by decide +kernel
theorem dX3_step_190 : decode cX3_step 190 = .ok (.getfield 9, 3) := by decide +kernel
theorem dX3_step_193 : decode cX3_step 193 = .ok (.iload_n 3, 1) := by decide +kernel
theorem dX3_step_194 : decode cX3_step 194 = .ok (.aload_n 0, 1) := by decide +kernel
theorem dX3_step_195 : decode cX3_step 195 = .ok (.getfield 15, 3) := by decide +kernel
theorem dX3_step_198 : decode cX3_step 198 = .ok (.iload 4, 2) := by decide +kernel
theorem dX3_step_200 : decode cX3_step 200 = .ok (.iaload, 1) := by decide +kernel
theorem dX3_step_201 : decode cX3_step 201 = .ok (.iastore, 1) := by decide +kernel
theorem dX3_step_202 : decode cX3_step 202 = .ok (.goto 155, 3) := by decide +kernel
theorem dX3_step_205 : decode cX3_step 205 = .ok (.aload_n 0, 1) := by decide +kernel
theorem dX3_step_206 : decode cX3_step 206 = .ok (.getfield 15, 3) := by decide +kernel
theorem dX3_step_209 : decode cX3_step 209 = .ok (.iload 4, 2) := by decide +kernel
theorem dX3_step_211 : decode cX3_step 211 = .ok (.aload_n 0, 1) := by decide +kernel
theorem dX3_step_212 : decode cX3_step 212 = .ok (.getfield 9, 3) := by decide +kernel
theorem dX3_step_215 : decode cX3_step 215 = .ok (.iload_n 3, 1) := by decide +kernel
theorem dX3_step_216 : decode cX3_step 216 = .ok (.iaload, 1) := by decide +kernel
theorem dX3_step_217 : decode cX3_step 217 = .ok (.iastore, 1) := by decide +kernel
theorem dX3_step_218 : decode cX3_step 218 = .ok (.goto 139, 3) := by decide +kernel
theorem dX3_step_221 : decode cX3_step 221 = .ok (.iload_n 2, 1) := by decide +kernel
theorem dX3_step_222 : decode cX3_step 222 = .ok (.iload 4, 2) := by decide +kernel
theorem dX3_step_224 : decode cX3_step 224 = .ok (.iadd, 1) := by decide +kernel
theorem dX3_step_225 : decode cX3_step 225 = .ok (.istore 5, 2) := by decide +kernel
theorem dX3_step_227 : decode cX3_step 227 = .ok (.goto 130, 3) := by decide +kernel
theorem dX3_step_230 : decode cX3_step 230 = .ok (.aload_n 0, 1) := by decide +kernel
theorem dX3_step_231 : decode cX3_step 231 = .ok (.getfield 9, 3) := by decide +kernel
theorem dX3_step_234 : decode cX3_step 234 = .ok (.iload_n 3, 1) := by decide +kernel
theorem dX3_step_235 : decode cX3_step 235 = .ok (.iaload, 1) := by decide +kernel
theorem dX3_step_236 : decode cX3_step 236 = .ok (.ifCond .ne 10, 3) := by decide +kernel
theorem dX3_step_239 : decode cX3_step 239 = .ok (.iload_n 2, 1) := by decide +kernel
theorem dX3_step_240 : decode cX3_step 240 = .ok (.iload 4, 2) := by decide +kernel
theorem dX3_step_242 : decode cX3_step 242 = .ok (.iadd, 1) := by decide +kernel
theorem dX3_step_243 : decode cX3_step 243 = .ok (.goto 5, 3) := by decide +kernel
theorem dX3_step_246 : decode cX3_step 246 = .ok (.iload 5, 2) := by decide +kernel
theorem dX3_step_248 : decode cX3_step 248 = .ok (.istore 5, 2) := by decide +kernel
theorem dX3_step_250 : decode cX3_step 250 = .ok (.goto 107, 3) := by decide +kernel
theorem dX3_step_253 : decode cX3_step 253 = .ok (.aload_n 0, 1) := by decide +kernel
theorem dX3_step_254 : decode cX3_step 254 = .ok (.getfield 9, 3) := by decide +kernel
theorem dX3_step_257 : decode cX3_step 257 = .ok (.iload_n 3, 1) := by decide +kernel
theorem dX3_step_258 : decode cX3_step 258 = .ok (.iload 5, 2) := by decide +kernel
theorem dX3_step_260 : decode cX3_step 260 = .ok (.iastore, 1) := by decide +kernel
theorem dX3_step_261 : decode cX3_step 261 = .ok (.goto 96, 3) := by decide +kernel
theorem dX3_step_264 : decode cX3_step 264 = .ok (.aload_n 0, 1) := by decide +kernel
theorem dX3_step_265 : decode cX3_step 265 = .ok (.aload_n 0, 1) := by decide +kernel
theorem dX3_step_266 : decode cX3_step 266 = .ok (.getfield 9, 3) := by decide +kernel
theorem dX3_step_269 : decode cX3_step 269 = .ok (.iload_n 3, 1) := by decide +kernel
theorem dX3_step_270 : decode cX3_step 270 = .ok (.iaload, 1) := by decide +kernel
theorem dX3_step_271 : decode cX3_step 271 = .ok (.invokevirtual 65, 3) := by decide +kernel
theorem dX3_step_274 : decode cX3_step 274 = .ok (.goto 83, 3) := by decide +kernel
theorem dX3_step_277 : decode cX3_step 277 = .ok (.aload_n 0, 1) := by decide +kernel
theorem dX3_step_278 : decode cX3_step 278 = .ok (.getfield 27, 3) := by decide +kernel
theorem dX3_step_281 : decode cX3_step 281 = .ok (.bipush 8, 2) := by decide +kernel
theorem dX3_step_283 : decode cX3_step 283 = .ok (.if_icmp .lt 5, 3) := by decide +kernel
theorem dX3_step_286 : decode cX3_step 286 = .ok (.iconst 0, 1) := by decide +kernel
theorem dX3_step_287 : decode cX3_step 287 = .ok (.ireturn, 1) := by decide +kernel
theorem dX3_step_288 : decode cX3_step 288 = .ok (.aload_n 0, 1) := by decide +kernel
theorem dX3_step_289 : decode cX3_step 289 = .ok (.getfield 18, 3) := by decide +kernel
theorem dX3_step_292 : decode cX3_step 292 = .ok (.aload_n 0, 1) := by decide +kernel
theorem dX3_step_293 : decode cX3_step 293 = .ok (.getfield 27, 3) := by decide +kernel
theorem dX3_step_296 : decode cX3_step 296 = .ok (.iload 5, 2) := by decide +kernel
theorem dX3_step_298 : decode cX3_step 298 = .ok (.iastore, 1) := by decide +kernel
theorem dX3_step_299 : decode cX3_step 299 = .ok (.aload_n 0, 1) := by decide +kernel
theorem dX3_step_300 : decode cX3_step 300 = .ok (.dup, 1) := by decide +kernel
theorem dX3_step_301 : decode cX3_step 301 = .ok (.getfield 27, 3) := by decide +kernel
theorem dX3_step_304 : decode cX3_step 304 = .ok (.iconst 1, 1) := by decide +kernel
theorem dX3_step_305 : decode cX3_step 305 = .ok (.iadd, 1) := by decide +kernel
theorem dX3_step_306 : decode cX3_step 306 = .ok (.putfield 27, 3) := by decide +kernel
theorem dX3_step_309 : decode cX3_step 309 = .ok (.iload 4, 2) := by decide +kernel
theorem dX3_step_311 : decode cX3_step 311 = .ok (.istore 5, 2) := by decide +kernel
theorem dX3_step_313 : decode cX3_step 313 = .ok (.goto 44, 3) := by decide +kernel
theorem dX3_step_316 : decode cX3_step 316 = .ok (.aload_n 0, 1) := by decide +kernel
theorem dX3_step_317 : decode cX3_step 317 = .ok (.getfield 27, 3) := by decide +kernel
theorem dX3_step_320 : decode cX3_step 320 = .ok (.ifCond .gt 5, 3) := by decide +kernel
theorem dX3_step_323 : decode cX3_step 323 = .ok (.iconst 0, 1) := by decide +kernel
theorem dX3_step_324 : decode cX3_step 324 = .ok (.ireturn, 1) := by decide +kernel
theorem dX3_step_325 : decode cX3_step 325 = .ok (.aload_n 0, 1) := by decide +kernel
theorem dX3_step_326 : decode cX3_step 326 = .ok (.dup, 1) := by decide +kernel
theorem dX3_step_327 : decode cX3_step 327 = .ok (.getfield 27, 3) := by decide +kernel
theorem dX3_step_330 : decode cX3_step 330 = .ok (.iconst 1, 1) := by decide +kernel
theorem dX3_step_331 : decode cX3_step 331 = .ok (.isub, 1) := by decide +kernel
theorem dX3_step_332 : decode cX3_step 332 = .ok (.putfield 27, 3) := by decide +kernel
theorem dX3_step_335 : decode cX3_step 335 = .ok (.aload_n 0, 1) := by decide +kernel
theorem dX3_step_336 : decode cX3_step 336 = .ok (.getfield 18, 3) := by decide +kernel
theorem dX3_step_339 : decode cX3_step 339 = .ok (.aload_n 0, 1) := by decide +kernel
theorem dX3_step_340 : decode cX3_step 340 = .ok (.getfield 27, 3) := by decide +kernel
theorem dX3_step_343 : decode cX3_step 343 = .ok (.iaload, 1) := by decide +kernel
theorem dX3_step_344 : decode cX3_step 344 = .ok (.istore 5, 2) := by decide +kernel
theorem dX3_step_346 : decode cX3_step 346 = .ok (.goto 11, 3) := by decide +kernel
theorem dX3_step_349 : decode cX3_step 349 = .ok (.aload_n 0, 1) := by decide +kernel
theorem dX3_step_350 : decode cX3_step 350 = .ok (.iconst 1, 1) := by decide +kernel
theorem dX3_step_351 : decode cX3_step 351 = .ok (.putfield 34, 3) := by decide +kernel
theorem dX3_step_354 : decode cX3_step 354 = .ok (.iload_n 2, 1) := by decide +kernel
theorem dX3_step_355 : decode cX3_step 355 = .ok (.istore 5, 2) := by decide +kernel
theorem dX3_step_357 : decode cX3_step 357 = .ok (.aload_n 0, 1) := by decide +kernel
theorem dX3_step_358 : decode cX3_step 358 = .ok (.iload 5, 2) := by decide +kernel
theorem dX3_step_360 : decode cX3_step 360 = .ok (.putfield 31, 3) := by decide +kernel
theorem dX3_step_363 : decode cX3_step 363 = .ok (.iconst 1, 1) := by decide +kernel
theorem dX3_step_364 : decode cX3_step 364 = .ok (.ireturn, 1) := by decide +kernel
theorem dX3_putOut_0 : decode cX3_putOut 0 = .ok (.aload_n 0, 1) := by decide +kernel
theorem dX3_putOut_1 : decode cX3_putOut 1 = .ok (.dup, 1) := by decide +kernel
theorem dX3_putOut_2 : decode cX3_putOut 2 = .ok (.getfield 38, 3) := by decide +kernel
theorem dX3_putOut_5 : decode cX3_putOut 5 = .ok (.iconst 1, 1) := by decide +kernel
theorem dX3_putOut_6 : decode cX3_putOut 6 = .ok (.iadd, 1) := by decide +kernel
theorem dX3_putOut_7 : decode cX3_putOut 7 = .ok (.putfield 38, 3) := by decide +kernel
theorem dX3_putOut_10 : decode cX3_putOut 10 = .ok (.aload_n 0, 1) := by decide +kernel
theorem dX3_putOut_11 : decode cX3_putOut 11 = .ok (.bipush 31, 2) := by decide +kernel
theorem dX3_putOut_13 : decode cX3_putOut 13 = .ok (.aload_n 0, 1) := by decide +kernel
theorem dX3_putOut_14 : decode cX3_putOut 14 = .ok (.getfield 41, 3) := by decide +kernel
theorem dX3_putOut_17 : decode cX3_putOut 17 = .ok (.imul, 1) := by decide +kernel
theorem dX3_putOut_18 : decode cX3_putOut 18 = .ok (.iload_n 1, 1) := by decide +kernel
theorem dX3_putOut_19 : decode cX3_putOut 19 = .ok (.iadd, 1) := by decide +kernel
theorem dX3_putOut_20 : decode cX3_putOut 20 = .ok (.putfield 41, 3) := by decide +kernel
theorem dX3_putOut_23 : decode cX3_putOut 23 = .ok (.return_, 1) := by decide +kernel
theorem dX4_init_0 : decode cX4_init 0 = .ok (.aload_n 0, 1) := by decide +kernel
theorem dX4_init_1 : decode cX4_init 1 = .ok (.invokespecial 3, 3) := by decide +kernel
theorem dX4_init_4 : decode cX4_init 4 = .ok (.aload_n 0, 1) := by decide +kernel
theorem dX4_init_5 : decode cX4_init 5 = .ok (.bipush 16, 2) := by decide +kernel
theorem dX4_init_7 : decode cX4_init 7 = .ok (.newarray .int, 2) := by decide +kernel
theorem dX4_init_9 : decode cX4_init 9 = .ok (.putfield 9, 3) := by decide +kernel
theorem dX4_init_12 : decode cX4_init 12 = .ok (.aload_n 0, 1) := by decide +kernel
theorem dX4_init_13 : decode cX4_init 13 = .ok (.bipush 16, 2) := by decide +kernel
theorem dX4_init_15 : decode cX4_init 15 = .ok (.newarray .int, 2) := by decide +kernel
theorem dX4_init_17 : decode cX4_init 17 = .ok (.putfield 15, 3) := by decide +kernel
theorem dX4_init_20 : decode cX4_init 20 = .ok (.aload_n 0, 1) := by decide +kernel
theorem dX4_init_21 : decode cX4_init 21 = .ok (.bipush 16, 2) := by decide +kernel
theorem dX4_init_23 : decode cX4_init 23 = .ok (.newarray .int, 2) := by decide +kernel
theorem dX4_init_25 : decode cX4_init 25 = .ok (.putfield 18, 3) := by decide +kernel
theorem dX4_init_28 : decode cX4_init 28 = .ok (.aload_n 0, 1) := by decide +kernel
theorem dX4_init_29 : decode cX4_init 29 = .ok (.bipush 16, 2) := by decide +kernel
theorem dX4_init_31 : decode cX4_init 31 = .ok (.newarray .int, 2) := by decide +kernel
theorem dX4_init_33 : decode cX4_init 33 = .ok (.putfield 21, 3) := by decide +kernel
theorem dX4_init_36 : decode cX4_init 36 = .ok (.return_, 1) := by decide +kernel
theorem dX4_has_0 : decode cX4_has 0 = .ok (.iload_n 1, 1) := by decide +kernel
theorem dX4_has_1 : decode cX4_has 1 = .ok (.ifCond .lt 15, 3) := by decide +kernel
theorem dX4_has_4 : decode cX4_has 4 = .ok (.iload_n 1, 1) := by decide +kernel
theorem dX4_has_5 : decode cX4_has 5 = .ok (.aload_n 0, 1) := by decide +kernel
theorem dX4_has_6 : decode cX4_has 6 = .ok (.getfield 24, 3) := by decide +kernel
theorem dX4_has_9 : decode cX4_has 9 = .ok (.if_icmp .ge 7, 3) := by decide +kernel
theorem dX4_has_12 : decode cX4_has 12 = .ok (.iconst 1, 1) := by decide +kernel
theorem dX4_has_13 : decode cX4_has 13 = .ok (.goto 4, 3) := by decide +kernel
theorem dX4_has_16 : decode cX4_has 16 = .ok (.iconst 0, 1) := by decide +kernel
theorem dX4_has_17 : decode cX4_has 17 = .ok (.ireturn, 1) := by decide +kernel
theorem dX4_add_0 : decode cX4_add 0 = .ok (.aload_n 0, 1) := by decide +kernel
theorem dX4_add_1 : decode cX4_add 1 = .ok (.getfield 24, 3) := by decide +kernel
theorem dX4_add_4 : decode cX4_add 4 = .ok (.bipush 16, 2) := by decide +kernel
theorem dX4_add_6 : decode cX4_add 6 = .ok (.if_icmp .lt 4, 3) := by decide +kernel
theorem dX4_add_9 : decode cX4_add 9 = .ok (.return_, 1) := by decide +kernel
theorem dX4_add_10 : decode cX4_add 10 = .ok (.aload_n 0, 1) := by decide +kernel
theorem dX4_add_11 : decode cX4_add 11 = .ok (.getfield 9, 3) := by decide +kernel
theorem dX4_add_14 : decode cX4_add 14 = .ok (.aload_n 0, 1) := by decide +kernel
theorem dX4_add_15 : decode cX4_add 15 = .ok (.getfield 24, 3) := by decide +kernel
theorem dX4_add_18 : decode cX4_add 18 = .ok (.iload_n 1, 1) := by decide +kernel
theorem dX4_add_19 : decode cX4_add 19 = .ok (.iastore, 1) := by decide +kernel
theorem dX4_add_20 : decode cX4_add 20 = .ok (.aload_n 0, 1) := by decide +kernel
theorem dX4_add_21 : decode cX4_add 21 = .ok (.getfield 15, 3) := by decide +kernel
theorem dX4_add_24 : decode cX4_add 24 = .ok (.aload_n 0, 1) := by decide +kernel
theorem dX4_add_25 : decode cX4_add 25 = .ok (.getfield 24, 3) := by decide +kernel
theorem dX4_add_28 : decode cX4_add 28 = .ok (.iload_n 2, 1) := by decide +kernel
theorem dX4_add_29 : decode cX4_add 29 = .ok (.iastore, 1) := by decide +kernel
theorem dX4_add_30 : decode cX4_add 30 = .ok (.aload_n 0, 1) := by decide +kernel
theorem dX4_add_31 : decode cX4_add 31 = .ok (.getfield 18, 3) := by decide +kernel
theorem dX4_add_34 : decode cX4_add 34 = .ok (.aload_n 0, 1) := by decide +kernel
theorem dX4_add_35 : decode cX4_add 35 = .ok (.getfield 24, 3) := by decide +kernel
theorem dX4_add_38 : decode cX4_add 38 = .ok (.iload_n 3, 1) := by decide +kernel
theorem dX4_add_39 : decode cX4_add 39 = .ok (.iastore, 1) := by decide +kernel
theorem dX4_add_40 : decode cX4_add 40 = .ok (.aload_n 0, 1) := by decide +kernel
theorem dX4_add_41 : decode cX4_add 41 = .ok (.getfield 21, 3) := by decide +kernel
theorem dX4_add_44 : decode cX4_add 44 = .ok (.aload_n 0, 1) := by decide +kernel
theorem dX4_add_45 : decode cX4_add 45 = .ok (.getfield 24, 3) := by decide +kernel
theorem dX4_add_48 : decode cX4_add 48 = .ok (.aload_n 0, 1) := by decide +kernel
theorem dX4_add_49 : decode cX4_add 49 = .ok (.aload_n 0, 1) := by decide +kernel
theorem dX4_add_50 : decode cX4_add 50 = .ok (.getfield 24, 3) := by decide +kernel
theorem dX4_add_53 : decode cX4_add 53 = .ok (.invokevirtual 28, 3) := by decide +kernel
theorem dX4_add_56 : decode cX4_add 56 = .ok (.iastore, 1) := by decide +kernel
theorem dX4_add_57 : decode cX4_add 57 = .ok (.aload_n 0, 1) := by decide +kernel
theorem dX4_add_58 : decode cX4_add 58 = .ok (.dup, 1) := by decide +kernel
theorem dX4_add_59 : decode cX4_add 59 = .ok (.getfield 24, 3) := by decide +kernel
theorem dX4_add_62 : decode cX4_add 62 = .ok (.iconst 1, 1) := by decide +kernel
theorem dX4_add_63 : decode cX4_add 63 = .ok (.iadd, 1) := by decide +kernel
theorem dX4_add_64 : decode cX4_add 64 = .ok (.putfield 24, 3) := by decide +kernel
theorem dX4_add_67 : decode cX4_add 67 = .ok (.return_, 1) := by decide +kernel
theorem dX4_modelOf_0 : decode cX4_modelOf 0 = .ok (.iconst 0, 1) := by decide +kernel
theorem dX4_modelOf_1 : decode cX4_modelOf 1 = .ok (.istore_n 2, 1) := by decide +kernel
theorem dX4_modelOf_2 : decode cX4_modelOf 2 = .ok (.iload_n 2, 1) := by decide +kernel
theorem dX4_modelOf_3 : decode cX4_modelOf 3 = .ok (.iload_n 1, 1) := by decide +kernel
theorem dX4_modelOf_4 : decode cX4_modelOf 4 = .ok (.if_icmp .ge 56, 3) := by decide +kernel
theorem dX4_modelOf_7 : decode cX4_modelOf 7 = .ok (.aload_n 0, 1) := by decide +kernel
theorem dX4_modelOf_8 : decode cX4_modelOf 8 = .ok (.getfield 9, 3) := by decide +kernel
theorem dX4_modelOf_11 : decode cX4_modelOf 11 = .ok (.iload_n 2, 1) := by decide +kernel
theorem dX4_modelOf_12 : decode cX4_modelOf 12 = .ok (.iaload, 1) := by decide +kernel
theorem dX4_modelOf_13 : decode cX4_modelOf 13 = .ok (.aload_n 0, 1) := by decide +kernel
theorem dX4_modelOf_14 : decode cX4_modelOf 14 = .ok (.getfield 9, 3) := by decide +kernel
theorem dX4_modelOf_17 : decode cX4_modelOf 17 = .ok (.iload_n 1, 1) := by decide +kernel
theorem dX4_modelOf_18 : decode cX4_modelOf 18 = .ok (.iaload, 1) := by decide +kernel
theorem dX4_modelOf_19 : decode cX4_modelOf 19 = .ok (.if_icmp .ne 35, 3) := by decide +kernel
theorem dX4_modelOf_22 : decode cX4_modelOf 22 = .ok (.aload_n 0, 1) := by decide +kernel
theorem dX4_modelOf_23 : decode cX4_modelOf 23 = .ok (.getfield 15, 3) := by decide +kernel
theorem dX4_modelOf_26 : decode cX4_modelOf 26 = .ok (.iload_n 2, 1) := by decide +kernel
theorem dX4_modelOf_27 : decode cX4_modelOf 27 = .ok (.iaload, 1) := by decide +kernel
theorem dX4_modelOf_28 : decode cX4_modelOf 28 = .ok (.aload_n 0, 1) := by decide +kernel
theorem dX4_modelOf_29 : decode cX4_modelOf 29 = .ok (.getfield 15, 3) := by decide +kernel
theorem dX4_modelOf_32 : decode cX4_modelOf 32 = .ok (.iload_n 1, 1) := by decide +kernel
theorem dX4_modelOf_33 : decode cX4_modelOf 33 = .ok (.iaload, 1) := by decide +kernel
theorem dX4_modelOf_34 : decode cX4_modelOf 34 = .ok (.if_icmp .ne 20, 3) := by decide +kernel
theorem dX4_modelOf_37 : decode cX4_modelOf 37 = .ok (.aload_n 0, 1) := by decide +kernel
theorem dX4_modelOf_38 : decode cX4_modelOf 38 = .ok (.getfield 18, 3) := by decide +kernel
theorem dX4_modelOf_41 : decode cX4_modelOf 41 = .ok (.iload_n 2, 1) := by decide +kernel
theorem dX4_modelOf_42 : decode cX4_modelOf 42 = .ok (.iaload, 1) := by decide +kernel
theorem dX4_modelOf_43 : decode cX4_modelOf 43 = .ok (.aload_n 0, 1) := by decide +kernel
theorem dX4_modelOf_44 : decode cX4_modelOf 44 = .ok (.getfield 18, 3) := by decide +kernel
theorem dX4_modelOf_47 : decode cX4_modelOf 47 = .ok (.iload_n 1, 1) := by decide +kernel
theorem dX4_modelOf_48 : decode cX4_modelOf 48 = .ok (.iaload, 1) := by decide +kernel
theorem dX4_modelOf_49 : decode cX4_modelOf 49 = .ok (.if_icmp .ne 5, 3) := by decide +kernel
theorem dX4_modelOf_52 : decode cX4_modelOf 52 = .ok (.iload_n 2, 1) := by decide +kernel
theorem dX4_modelOf_53 : decode cX4_modelOf 53 = .ok (.ireturn, 1) := by decide +kernel
theorem dX4_modelOf_54 : decode cX4_modelOf 54 = .ok (.iinc 2 1, 3) := by decide +kernel
theorem dX4_modelOf_57 : decode cX4_modelOf 57 = .ok (.goto (-55), 3) := by decide +kernel
theorem dX4_modelOf_60 : decode cX4_modelOf 60 = .ok (.iload_n 1, 1) := by decide +kernel
theorem dX4_modelOf_61 : decode cX4_modelOf 61 = .ok (.ireturn, 1) := by decide +kernel
theorem dX4_different_0 : decode cX4_different 0 = .ok (.iconst 0, 1) := by decide +kernel
theorem dX4_different_1 : decode cX4_different 1 = .ok (.istore_n 1, 1) := by decide +kernel
theorem dX4_different_2 : decode cX4_different 2 = .ok (.iconst 0, 1) := by decide +kernel
theorem dX4_different_3 : decode cX4_different 3 = .ok (.istore_n 2, 1) := by decide +kernel
theorem dX4_different_4 : decode cX4_different 4 = .ok (.iload_n 2, 1) := by decide +kernel
theorem dX4_different_5 : decode cX4_different 5 = .ok (.aload_n 0, 1) := by decide +kernel
theorem dX4_different_6 : decode cX4_different 6 = .ok (.getfield 24, 3) := by decide +kernel
theorem dX4_different_9 : decode cX4_different 9 = .ok (.if_icmp .ge 22, 3) := by decide +kernel
theorem dX4_different_12 : decode cX4_different 12 = .ok (.aload_n 0, 1) := by decide +kernel
theorem dX4_different_13 : decode cX4_different 13 = .ok (.getfield 21, 3) := by decide +kernel
theorem dX4_different_16 : decode cX4_different 16 = .ok (.iload_n 2, 1) := by decide +kernel
theorem dX4_different_17 : decode cX4_different 17 = .ok (.iaload, 1) := by decide +kernel
theorem dX4_different_18 : decode cX4_different 18 = .ok (.iload_n 2, 1) := by decide +kernel
theorem dX4_different_19 : decode cX4_different 19 = .ok (.if_icmp .ne 6, 3) := by decide +kernel
theorem dX4_different_22 : decode cX4_different 22 = .ok (.iinc 1 1, 3) := by decide +kernel
theorem dX4_different_25 : decode cX4_different 25 = .ok (.iinc 2 1, 3) := by decide +kernel
theorem dX4_different_28 : decode cX4_different 28 = .ok (.goto (-24), 3) := by decide +kernel
theorem dX4_different_31 : decode cX4_different 31 = .ok (.iload_n 1, 1) := by decide +kernel
theorem dX4_different_32 : decode cX4_different 32 = .ok (.ireturn, 1) := by decide +kernel
theorem dX4_savedCell_0 : decode cX4_savedCell 0 = .ok (.aload_n 0, 1) := by decide +kernel
theorem dX4_savedCell_1 : decode cX4_savedCell 1 = .ok (.iload_n 1, 1) := by decide +kernel
theorem dX4_savedCell_2 : decode cX4_savedCell 2 = .ok (.invokevirtual 32, 3) := by decide +kernel
theorem dX4_savedCell_5 : decode cX4_savedCell 5 = .ok (.ifCond .eq 23, 3) := by decide +kernel
theorem dX4_savedCell_8 : decode cX4_savedCell 8 = .ok (.aload_n 0, 1) := by decide +kernel
theorem dX4_savedCell_9 : decode cX4_savedCell 9 = .ok (.getfield 9, 3) := by decide +kernel
theorem dX4_savedCell_12 : decode cX4_savedCell 12 = .ok (.iload_n 1, 1) := by decide +kernel
theorem dX4_savedCell_13 : decode cX4_savedCell 13 = .ok (.iaload, 1) := by decide +kernel
theorem dX4_savedCell_14 : decode cX4_savedCell 14 = .ok (.bipush 115, 2) := by decide +kernel
theorem dX4_savedCell_16 : decode cX4_savedCell 16 = .ok (.if_icmp .ne 12, 3) := by decide +kernel
theorem dX4_savedCell_19 : decode cX4_savedCell 19 = .ok (.aload_n 0, 1) := by decide +kernel
theorem dX4_savedCell_20 : decode cX4_savedCell 20 = .ok (.getfield 18, 3) := by decide +kernel
theorem dX4_savedCell_23 : decode cX4_savedCell 23 = .ok (.iload_n 1, 1) := by decide +kernel
theorem dX4_savedCell_24 : decode cX4_savedCell 24 = .ok (.iaload, 1) := by decide +kernel
theorem dX4_savedCell_25 : decode cX4_savedCell 25 = .ok (.goto 5, 3) := by decide +kernel
theorem dX4_savedCell_28 : decode cX4_savedCell 28 = .ok (.bipush (-9), 2) := by decide +kernel
theorem dX4_savedCell_30 : decode cX4_savedCell 30 = .ok (.ireturn, 1) := by decide +kernel
theorem dX5_init_0 : decode cX5_init 0 = .ok (.aload_n 0, 1) := by decide +kernel
theorem dX5_init_1 : decode cX5_init 1 = .ok (.invokespecial 3, 3) := by decide +kernel
theorem dX5_init_4 : decode cX5_init 4 = .ok (.aload_n 0, 1) := by decide +kernel
theorem dX5_init_5 : decode cX5_init 5 = .ok (.bipush 6, 2) := by decide +kernel
theorem dX5_init_7 : decode cX5_init 7 = .ok (.newarray .int, 2) := by decide +kernel
theorem dX5_init_9 : decode cX5_init 9 = .ok (.putfield 9, 3) := by decide +kernel
theorem dX5_init_12 : decode cX5_init 12 = .ok (.aload_n 0, 1) := by decide +kernel
theorem dX5_init_13 : decode cX5_init 13 = .ok (.bipush 6, 2) := by decide +kernel
theorem dX5_init_15 : decode cX5_init 15 = .ok (.newarray .boolean, 2) := by decide +kernel
theorem dX5_init_17 : decode cX5_init 17 = .ok (.putfield 15, 3) := by decide +kernel
theorem dX5_init_20 : decode cX5_init 20 = .ok (.return_, 1) := by decide +kernel
theorem dX5_add_0 : decode cX5_add 0 = .ok (.aload_n 0, 1) := by decide +kernel
theorem dX5_add_1 : decode cX5_add 1 = .ok (.getfield 19, 3) := by decide +kernel
theorem dX5_add_4 : decode cX5_add 4 = .ok (.bipush 6, 2) := by decide +kernel
theorem dX5_add_6 : decode cX5_add 6 = .ok (.if_icmp .lt 4, 3) := by decide +kernel
theorem dX5_add_9 : decode cX5_add 9 = .ok (.return_, 1) := by decide +kernel
theorem dX5_add_10 : decode cX5_add 10 = .ok (.aload_n 0, 1) := by decide +kernel
theorem dX5_add_11 : decode cX5_add 11 = .ok (.getfield 9, 3) := by decide +kernel
theorem dX5_add_14 : decode cX5_add 14 = .ok (.aload_n 0, 1) := by decide +kernel
theorem dX5_add_15 : decode cX5_add 15 = .ok (.getfield 19, 3) := by decide +kernel
theorem dX5_add_18 : decode cX5_add 18 = .ok (.iload_n 1, 1) := by decide +kernel
theorem dX5_add_19 : decode cX5_add 19 = .ok (.iastore, 1) := by decide +kernel
theorem dX5_add_20 : decode cX5_add 20 = .ok (.aload_n 0, 1) := by decide +kernel
theorem dX5_add_21 : decode cX5_add 21 = .ok (.getfield 15, 3) := by decide +kernel
theorem dX5_add_24 : decode cX5_add 24 = .ok (.aload_n 0, 1) := by decide +kernel
theorem dX5_add_25 : decode cX5_add 25 = .ok (.getfield 19, 3) := by decide +kernel
theorem dX5_add_28 : decode cX5_add 28 = .ok (.iload_n 2, 1) := by decide +kernel
theorem dX5_add_29 : decode cX5_add 29 = .ok (.bastore, 1) := by decide +kernel
theorem dX5_add_30 : decode cX5_add 30 = .ok (.aload_n 0, 1) := by decide +kernel
theorem dX5_add_31 : decode cX5_add 31 = .ok (.dup, 1) := by decide +kernel
theorem dX5_add_32 : decode cX5_add 32 = .ok (.getfield 19, 3) := by decide +kernel
theorem dX5_add_35 : decode cX5_add 35 = .ok (.iconst 1, 1) := by decide +kernel
theorem dX5_add_36 : decode cX5_add 36 = .ok (.iadd, 1) := by decide +kernel
theorem dX5_add_37 : decode cX5_add 37 = .ok (.putfield 19, 3) := by decide +kernel
theorem dX5_add_40 : decode cX5_add 40 = .ok (.return_, 1) := by decide +kernel
theorem dX5_areTrue_0 : decode cX5_areTrue 0 = .ok (.iconst 0, 1) := by decide +kernel
theorem dX5_areTrue_1 : decode cX5_areTrue 1 = .ok (.istore_n 2, 1) := by decide +kernel
theorem dX5_areTrue_2 : decode cX5_areTrue 2 = .ok (.iload_n 2, 1) := by decide +kernel
theorem dX5_areTrue_3 : decode cX5_areTrue 3 = .ok (.aload_n 0, 1) := by decide +kernel
theorem dX5_areTrue_4 : decode cX5_areTrue 4 = .ok (.getfield 19, 3) := by decide +kernel
theorem dX5_areTrue_7 : decode cX5_areTrue 7 = .ok (.if_icmp .ge 35, 3) := by decide +kernel
theorem dX5_areTrue_10 : decode cX5_areTrue 10 = .ok (.iload_n 1, 1) := by decide +kernel
theorem dX5_areTrue_11 : decode cX5_areTrue 11 = .ok (.aload_n 0, 1) := by decide +kernel
theorem dX5_areTrue_12 : decode cX5_areTrue 12 = .ok (.getfield 9, 3) := by decide +kernel
theorem dX5_areTrue_15 : decode cX5_areTrue 15 = .ok (.iload_n 2, 1) := by decide +kernel
theorem dX5_areTrue_16 : decode cX5_areTrue 16 = .ok (.iaload, 1) := by decide +kernel
theorem dX5_areTrue_17 : decode cX5_areTrue 17 = .ok (.if_icmp .ne 7, 3) := by decide +kernel
theorem dX5_areTrue_20 : decode cX5_areTrue 20 = .ok (.iconst 1, 1) := by decide +kernel
theorem dX5_areTrue_21 : decode cX5_areTrue 21 = .ok (.goto 4, 3) := by decide +kernel
theorem dX5_areTrue_24 : decode cX5_areTrue 24 = .ok (.iconst 0, 1) := by decide +kernel
theorem dX5_areTrue_25 : decode cX5_areTrue 25 = .ok (.aload_n 0, 1) := by decide +kernel
theorem dX5_areTrue_26 : decode cX5_areTrue 26 = .ok (.getfield 15, 3) := by decide +kernel
theorem dX5_areTrue_29 : decode cX5_areTrue 29 = .ok (.iload_n 2, 1) := by decide +kernel
theorem dX5_areTrue_30 : decode cX5_areTrue 30 = .ok (.baload, 1) := by decide +kernel
theorem dX5_areTrue_31 : decode cX5_areTrue 31 = .ok (.if_icmp .eq 5, 3) := by decide +kernel
theorem dX5_areTrue_34 : decode cX5_areTrue 34 = .ok (.iconst 0, 1) := by decide +kernel
theorem dX5_areTrue_35 : decode cX5_areTrue 35 = .ok (.ireturn, 1) := by decide +kernel
theorem dX5_areTrue_36 : decode cX5_areTrue 36 = .ok (.iinc 2 1, 3) := by decide +kernel
theorem dX5_areTrue_39 : decode cX5_areTrue 39 = .ok (.goto (-37), 3) := by decide +kernel
theorem dX5_areTrue_42 : decode cX5_areTrue 42 = .ok (.iconst 1, 1) := by decide +kernel
theorem dX5_areTrue_43 : decode cX5_areTrue 43 = .ok (.ireturn, 1) := by decide +kernel
theorem dX6_init_0 : decode cX6_init 0 = .ok (.aload_n 0, 1) := by decide +kernel
theorem dX6_init_1 : decode cX6_init 1 = .ok (.invokespecial 3, 3) := by decide +kernel
theorem dX6_init_4 : decode cX6_init 4 = .ok (.aload_n 0, 1) := by decide +kernel
theorem dX6_init_5 : decode cX6_init 5 = .ok (.new 9, 3) := by decide +kernel
theorem dX6_init_8 : decode cX6_init 8 = .ok (.dup, 1) := by decide +kernel
theorem dX6_init_9 : decode cX6_init 9 = .ok (.invokespecial 11, 3) := by decide +kernel
theorem dX6_init_12 : decode cX6_init 12 = .ok (.putfield 12, 3) := by decide +kernel
theorem dX6_init_15 : decode cX6_init 15 = .ok (.aload_n 0, 1) := by decide +kernel
theorem dX6_init_16 : decode cX6_init 16 = .ok (.new 18, 3) := by decide +kernel
theorem dX6_init_19 : decode cX6_init 19 = .ok (.dup, 1) := by decide +kernel
theorem dX6_init_20 : decode cX6_init 20 = .ok (.invokespecial 20, 3) := by decide +kernel
theorem dX6_init_23 : decode cX6_init 23 = .ok (.putfield 21, 3) := by decide +kernel
theorem dX6_init_26 : decode cX6_init 26 = .ok (.aload_n 0, 1) := by decide +kernel
theorem dX6_init_27 : decode cX6_init 27 = .ok (.iconst 3, 1) := by decide +kernel
theorem dX6_init_28 : decode cX6_init 28 = .ok (.newarray .int, 2) := by decide +kernel
theorem dX6_init_30 : decode cX6_init 30 = .ok (.putfield 25, 3) := by decide +kernel
theorem dX6_init_33 : decode cX6_init 33 = .ok (.return_, 1) := by decide +kernel
theorem dX6_begin_0 : decode cX6_begin 0 = .ok (.aload_n 0, 1) := by decide +kernel
theorem dX6_begin_1 : decode cX6_begin 1 = .ok (.getfield 12, 3) := by decide +kernel
theorem dX6_begin_4 : decode cX6_begin 4 = .ok (.invokevirtual 29, 3) := by decide +kernel
theorem dX6_begin_7 : decode cX6_begin 7 = .ok (.aload_n 0, 1) := by decide +kernel
theorem dX6_begin_8 : decode cX6_begin 8 = .ok (.getfield 21, 3) := by decide +kernel
theorem dX6_begin_11 : decode cX6_begin 11 = .ok (.invokevirtual 32, 3) := by decide +kernel
theorem dX6_begin_14 : decode cX6_begin 14 = .ok (.aload_n 0, 1) := by decide +kernel
theorem dX6_begin_15 : decode cX6_begin 15 = .ok (.iconst 0, 1) := by decide +kernel
theorem dX6_begin_16 : decode cX6_begin 16 = .ok (.putfield 33, 3) := by decide +kernel
theorem dX6_begin_19 : decode cX6_begin 19 = .ok (.aload_n 0, 1) := by decide +kernel
theorem dX6_begin_20 : decode cX6_begin 20 = .ok (.iconst 0, 1) := by decide +kernel
theorem dX6_begin_21 : decode cX6_begin 21 = .ok (.putfield 37, 3) := by decide +kernel
theorem dX6_begin_24 : decode cX6_begin 24 = .ok (.aload_n 0, 1) := by decide +kernel
theorem dX6_begin_25 : decode cX6_begin 25 = .ok (.iconst 0, 1) := by decide +kernel
theorem dX6_begin_26 : decode cX6_begin 26 = .ok (.putfield 40, 3) := by decide +kernel
theorem dX6_begin_29 : decode cX6_begin 29 = .ok (.aload_n 0, 1) := by decide +kernel
theorem dX6_begin_30 : decode cX6_begin 30 = .ok (.iconst 0, 1) := by decide +kernel
theorem dX6_begin_31 : decode cX6_begin 31 = .ok (.putfield 43, 3) := by decide +kernel
theorem dX6_begin_34 : decode cX6_begin 34 = .ok (.return_, 1) := by decide +kernel
theorem dX6_takeFrom_0 : decode cX6_takeFrom 0 = .ok (.aload_n 0, 1) := by decide +kernel
theorem dX6_takeFrom_1 : decode cX6_takeFrom 1 = .ok (.getfield 12, 3) := by decide +kernel
theorem dX6_takeFrom_4 : decode cX6_takeFrom 4 = .ok (.aload_n 1, 1) := by decide +kernel
theorem dX6_takeFrom_5 : decode cX6_takeFrom 5 = .ok (.getfield 12, 3) := by decide +kernel
theorem dX6_takeFrom_8 : decode cX6_takeFrom 8 = .ok (.invokevirtual 46, 3) := by decide +kernel
theorem dX6_takeFrom_11 : decode cX6_takeFrom 11 = .ok (.aload_n 0, 1) := by decide +kernel
theorem dX6_takeFrom_12 : decode cX6_takeFrom 12 = .ok (.getfield 21, 3) := by decide +kernel
theorem dX6_takeFrom_15 : decode cX6_takeFrom 15 = .ok (.aload_n 1, 1) := by decide +kernel
theorem dX6_takeFrom_16 : decode cX6_takeFrom 16 = .ok (.getfield 21, 3) := by decide +kernel
theorem dX6_takeFrom_19 : decode cX6_takeFrom 19 = .ok (.invokevirtual 50, 3) := by decide +kernel
theorem dX6_takeFrom_22 : decode cX6_takeFrom 22 = .ok (.aload_n 1, 1) := by decide +kernel
theorem dX6_takeFrom_23 : decode cX6_takeFrom 23 = .ok (.getfield 25, 3) := by decide +kernel
theorem dX6_takeFrom_26 : decode cX6_takeFrom 26 = .ok (.iconst 0, 1) := by decide +kernel
theorem dX6_takeFrom_27 : decode cX6_takeFrom 27 = .ok (.aload_n 0, 1) := by decide +kernel
theorem dX6_takeFrom_28 : decode cX6_takeFrom 28 = .ok (.getfield 25, 3) := by decide +kernel
theorem dX6_takeFrom_31 : decode cX6_takeFrom 31 = .ok (.iconst 0, 1) := by decide +kernel
theorem dX6_takeFrom_32 : decode cX6_takeFrom 32 = .ok (.iconst 3, 1) := by decide +kernel
theorem dX6_takeFrom_33 : decode cX6_takeFrom 33 = .ok (.invokestatic 53, 3) := by decide +kernel
theorem dX6_takeFrom_36 : decode cX6_takeFrom 36 = .ok (.aload_n 0, 1) := by decide +kernel
theorem dX6_takeFrom_37 : decode cX6_takeFrom 37 = .ok (.aload_n 1, 1) := by decide +kernel
theorem dX6_takeFrom_38 : decode cX6_takeFrom 38 = .ok (.getfield 33, 3) := by decide +kernel
theorem dX6_takeFrom_41 : decode cX6_takeFrom 41 = .ok (.putfield 33, 3) := by decide +kernel
theorem dX6_takeFrom_44 : decode cX6_takeFrom 44 = .ok (.aload_n 0, 1) := by decide +kernel
theorem dX6_takeFrom_45 : decode cX6_takeFrom 45 = .ok (.aload_n 1, 1) := by decide +kernel
theorem dX6_takeFrom_46 : decode cX6_takeFrom 46 = .ok (.getfield 37, 3) := by decide +kernel
theorem dX6_takeFrom_49 : decode cX6_takeFrom 49 = .ok (.putfield 37, 3) := by decide +kernel
theorem dX6_takeFrom_52 : decode cX6_takeFrom 52 = .ok (.aload_n 0, 1) := by decide +kernel
theorem dX6_takeFrom_53 : decode cX6_takeFrom 53 = .ok (.aload_n 1, 1) := by decide +kernel
theorem dX6_takeFrom_54 : decode cX6_takeFrom 54 = .ok (.getfield 40, 3) := by decide +kernel
theorem dX6_takeFrom_57 : decode cX6_takeFrom 57 = .ok (.putfield 40, 3) := by decide +kernel
theorem dX6_takeFrom_60 : decode cX6_takeFrom 60 = .ok (.aload_n 0, 1) := by decide +kernel
theorem dX6_takeFrom_61 : decode cX6_takeFrom 61 = .ok (.aload_n 1, 1) := by decide +kernel
theorem dX6_takeFrom_62 : decode cX6_takeFrom 62 = .ok (.getfield 43, 3) := by decide +kernel
theorem dX6_takeFrom_65 : decode cX6_takeFrom 65 = .ok (.putfield 43, 3) := by decide +kernel
theorem dX6_takeFrom_68 : decode cX6_takeFrom 68 = .ok (.return_, 1) := by decide +kernel
theorem dX6_isWatched_0 : decode cX6_isWatched 0 = .ok (.iload_n 1, 1) := by decide +kernel
theorem dX6_isWatched_1 : decode cX6_isWatched 1 = .ok (.invokestatic 59, 3) := by decide +kernel
theorem dX6_isWatched_4 : decode cX6_isWatched 4 = .ok (.ifCond .eq 19, 3) := by decide +kernel
theorem dX6_isWatched_7 : decode cX6_isWatched 7 = .ok (.aload_n 0, 1) := by decide +kernel
theorem dX6_isWatched_8 : decode cX6_isWatched 8 = .ok (.getfield 37, 3) := by decide +kernel
theorem dX6_isWatched_11 : decode cX6_isWatched 11 = .ok (.iload_n 1, 1) := by decide +kernel
theorem dX6_isWatched_12 : decode cX6_isWatched 12 = .ok (.ishr, 1) := by decide +kernel
theorem dX6_isWatched_13 : decode cX6_isWatched 13 = .ok (.iconst 1, 1) := by decide +kernel
theorem dX6_isWatched_14 : decode cX6_isWatched 14 = .ok (.iand, 1) := by decide +kernel
theorem dX6_isWatched_15 : decode cX6_isWatched 15 = .ok (.iconst 1, 1) := by decide +kernel
theorem dX6_isWatched_16 : decode cX6_isWatched 16 = .ok (.if_icmp .ne 7, 3) := by decide +kernel
theorem dX6_isWatched_19 : decode cX6_isWatched 19 = .ok (.iconst 1, 1) := by decide +kernel
theorem dX6_isWatched_20 : decode cX6_isWatched 20 = .ok (.goto 4, 3) := by decide +kernel
theorem dX6_isWatched_23 : decode cX6_isWatched 23 = .ok (.iconst 0, 1) := by decide +kernel
theorem dX6_isWatched_24 : decode cX6_isWatched 24 = .ok (.ireturn, 1) := by decide +kernel
theorem dX6_turnWatch_0 : decode cX6_turnWatch 0 = .ok (.aload_n 0, 1) := by decide +kernel
theorem dX6_turnWatch_1 : decode cX6_turnWatch 1 = .ok (.dup, 1) := by decide +kernel
theorem dX6_turnWatch_2 : decode cX6_turnWatch 2 = .ok (.getfield 37, 3) := by decide +kernel
theorem dX6_turnWatch_5 : decode cX6_turnWatch 5 = .ok (.iconst 1, 1) := by decide +kernel
theorem dX6_turnWatch_6 : decode cX6_turnWatch 6 = .ok (.iload_n 1, 1) := by decide +kernel
theorem dX6_turnWatch_7 : decode cX6_turnWatch 7 = .ok (.ishl, 1) := by decide +kernel
theorem dX6_turnWatch_8 : decode cX6_turnWatch 8 = .ok (.ixor, 1) := by decide +kernel
theorem dX6_turnWatch_9 : decode cX6_turnWatch 9 = .ok (.putfield 37, 3) := by decide +kernel
theorem dX6_turnWatch_12 : decode cX6_turnWatch 12 = .ok (.iconst 1, 1) := by decide +kernel
theorem dX6_turnWatch_13 : decode cX6_turnWatch 13 = .ok (.ireturn, 1) := by decide +kernel
theorem dX6_allows_0 : decode cX6_allows 0 = .ok (.iload_n 1, 1) := by decide +kernel
theorem dX6_allows_1 : decode cX6_allows 1 = .ok (.iconst 2, 1) := by decide +kernel
theorem dX6_allows_2 : decode cX6_allows 2 = .ok (.if_icmp .ne 13, 3) := by decide +kernel
theorem dX6_allows_5 : decode cX6_allows 5 = .ok (.aload_n 0, 1) := by decide +kernel
theorem dX6_allows_6 : decode cX6_allows 6 = .ok (.getfield 12, 3) := by decide +kernel
theorem dX6_allows_9 : decode cX6_allows 9 = .ok (.getfield 63, 3) := by decide +kernel
theorem dX6_allows_12 : decode cX6_allows 12 = .ok (.ifCond .le 7, 3) := by decide +kernel
theorem dX6_allows_15 : decode cX6_allows 15 = .ok (.iconst 1, 1) := by decide +kernel
theorem dX6_allows_16 : decode cX6_allows 16 = .ok (.goto 4, 3) := by decide +kernel
theorem dX6_allows_19 : decode cX6_allows 19 = .ok (.iconst 0, 1) := by decide +kernel
theorem dX6_allows_20 : decode cX6_allows 20 = .ok (.ireturn, 1) := by decide +kernel
theorem dX6_perform_0 : decode cX6_perform 0 = .ok (.aload_n 0, 1) := by decide +kernel
theorem dX6_perform_1 : decode cX6_perform 1 = .ok (.iload_n 1, 1) := by decide +kernel
theorem dX6_perform_2 : decode cX6_perform 2 = .ok (.invokevirtual 66, 3) := by decide +kernel
theorem dX6_perform_5 : decode cX6_perform 5 = .ok (.ifCond .ne 6, 3) := by decide +kernel
theorem dX6_perform_8 : decode cX6_perform 8 = .ok (.bipush (-3), 2) := by decide +kernel
theorem dX6_perform_10 : decode cX6_perform 10 = .ok (.ireturn, 1) := by decide +kernel
theorem dX6_perform_11 : decode cX6_perform 11 = .ok (.aload_n 0, 1) := by decide +kernel
theorem dX6_perform_12 : decode cX6_perform 12 = .ok (.getfield 12, 3) := by decide +kernel
theorem dX6_perform_15 : decode cX6_perform 15 = .ok (.getfield 69, 3) := by decide +kernel
theorem dX6_perform_18 : decode cX6_perform 18 = .ok (.ifCond .eq 5, 3) := by decide +kernel
theorem dX6_perform_21 : decode cX6_perform 21 = .ok (.iconst 3, 1) := by decide +kernel
theorem dX6_perform_22 : decode cX6_perform 22 = .ok (.ireturn, 1) := by decide +kernel
theorem dX6_perform_23 : decode cX6_perform 23 = .ok (.aload_n 0, 1) := by decide +kernel
theorem dX6_perform_24 : decode cX6_perform 24 = .ok (.getfield 12, 3) := by decide +kernel
theorem dX6_perform_27 : decode cX6_perform 27 = .ok (.getfield 63, 3) := by decide +kernel
theorem dX6_perform_30 : decode cX6_perform 30 = .ok (.istore_n 3, 1) := by decide +kernel
theorem dX6_perform_31 : decode cX6_perform 31 = .ok (.iconst 0, 1) := by decide +kernel
theorem dX6_perform_32 : decode cX6_perform 32 = .ok (.istore 4, 2) := by decide +kernel
theorem dX6_perform_34 : decode cX6_perform 34 = .ok (.iload 4, 2) := by decide +kernel
theorem dX6_perform_36 : decode cX6_perform 36 = .ok (.bipush 99, 2) := by decide +kernel
theorem dX6_perform_38 : decode cX6_perform 38 = .ok (.if_icmp .ge 36, 3) := by decide +kernel
theorem dX6_perform_41 : decode cX6_perform 41 = .ok (.aload_n 0, 1) := by decide +kernel
theorem dX6_perform_42 : decode cX6_perform 42 = .ok (.aload_n 2, 1) := by decide +kernel
theorem dX6_perform_43 : decode cX6_perform 43 = .ok (.invokevirtual 73, 3) := by decide +kernel
theorem dX6_perform_46 : decode cX6_perform 46 = .ok (.istore 5, 2) := by decide +kernel
theorem dX6_perform_48 : decode cX6_perform 48 = .ok (.iload 5, 2) := by decide +kernel
theorem dX6_perform_50 : decode cX6_perform 50 = .ok (.iconst (-1), 1) := by decide +kernel
theorem dX6_perform_51 : decode cX6_perform 51 = .ok (.if_icmp .eq 6, 3) := by decide +kernel
theorem dX6_perform_54 : decode cX6_perform 54 = .ok (.iload 5, 2) := by decide +kernel
theorem dX6_perform_56 : decode cX6_perform 56 = .ok (.ireturn, 1) := by decide +kernel
theorem dX6_perform_57 : decode cX6_perform 57 = .ok (.aload_n 0, 1) := by decide +kernel
theorem dX6_perform_58 : decode cX6_perform 58 = .ok (.iload_n 1, 1) := by decide +kernel
theorem dX6_perform_59 : decode cX6_perform 59 = .ok (.iload_n 3, 1) := by decide +kernel
theorem dX6_perform_60 : decode cX6_perform 60 = .ok (.invokevirtual 77, 3) := by decide +kernel
theorem dX6_perform_63 : decode cX6_perform 63 = .ok (.ifCond .eq 5, 3) := by decide +kernel
theorem dX6_perform_66 : decode cX6_perform 66 = .ok (.iconst 0, 1) := by decide +kernel
theorem dX6_perform_67 : decode cX6_perform 67 = .ok (.ireturn, 1) := by decide +kernel
theorem dX6_perform_68 : decode cX6_perform 68 = .ok (.iinc 4 1, 3) := by decide +kernel
theorem dX6_perform_71 : decode cX6_perform 71 = .ok (.goto (-37), 3) := by decide +kernel
theorem dX6_perform_74 : decode cX6_perform 74 = .ok (.iconst 5, 1) := by decide +kernel
theorem dX6_perform_75 : decode cX6_perform 75 = .ok (.ireturn, 1) := by decide +kernel
theorem dX6_isDone_0 : decode cX6_isDone 0 = .ok (.iload_n 1, 1) := by decide +kernel
theorem dX6_isDone_1 : decode cX6_isDone 1 = .ok (.tableswitch 63 0 2 #[27, 29, 46], 27) := by decide +kernel
theorem dX6_isDone_28 : decode cX6_isDone 28 = .ok (.iconst 1, 1) := by decide +kernel
theorem dX6_isDone_29 : decode cX6_isDone 29 = .ok (.ireturn, 1) := by decide +kernel
theorem dX6_isDone_30 : decode cX6_isDone 30 = .ok (.aload_n 0, 1) := by decide +kernel
theorem dX6_isDone_31 : decode cX6_isDone 31 = .ok (.getfield 12, 3) := by decide +kernel
theorem dX6_isDone_34 : decode cX6_isDone 34 = .ok (.getfield 63, 3) := by decide +kernel
theorem dX6_isDone_37 : decode cX6_isDone 37 = .ok (.iload_n 2, 1) := by decide +kernel
theorem dX6_isDone_38 : decode cX6_isDone 38 = .ok (.if_icmp .gt 7, 3) := by decide +kernel
theorem dX6_isDone_41 : decode cX6_isDone 41 = .ok (.iconst 1, 1) := by decide +kernel
theorem dX6_isDone_42 : decode cX6_isDone 42 = .ok (.goto 4, 3) := by decide +kernel
theorem dX6_isDone_45 : decode cX6_isDone 45 = .ok (.iconst 0, 1) := by decide +kernel
theorem dX6_isDone_46 : decode cX6_isDone 46 = .ok (.ireturn, 1) := by decide +kernel
theorem dX6_isDone_47 : decode cX6_isDone 47 = .ok (.aload_n 0, 1) := by decide +kernel
theorem dX6_isDone_48 : decode cX6_isDone 48 = .ok (.getfield 12, 3) := by decide +kernel
theorem dX6_isDone_51 : decode cX6_isDone 51 = .ok (.getfield 63, 3) := by decide +kernel
theorem dX6_isDone_54 : decode cX6_isDone 54 = .ok (.iload_n 2, 1) := by decide +kernel
theorem dX6_isDone_55 : decode cX6_isDone 55 = .ok (.if_icmp .ge 7, 3) := by decide +kernel
theorem dX6_isDone_58 : decode cX6_isDone 58 = .ok (.iconst 1, 1) := by decide +kernel
theorem dX6_isDone_59 : decode cX6_isDone 59 = .ok (.goto 4, 3) := by decide +kernel
theorem dX6_isDone_62 : decode cX6_isDone 62 = .ok (.iconst 0, 1) := by decide +kernel
theorem dX6_isDone_63 : decode cX6_isDone 63 = .ok (.ireturn, 1) := by decide +kernel
theorem dX6_isDone_64 : decode cX6_isDone 64 = .ok (.iconst 0, 1) := by decide +kernel
theorem dX6_isDone_65 : decode cX6_isDone 65 = .ok (.ireturn, 1) := by decide +kernel
theorem dX6_reasonAfterStep_0 : decode cX6_reasonAfterStep 0 = .ok (.aload_n 0, 1) := by decide +kernel
theorem dX6_reasonAfterStep_1 : decode cX6_reasonAfterStep 1 = .ok (.getfield 12, 3) := by decide +kernel
theorem dX6_reasonAfterStep_4 : decode cX6_reasonAfterStep 4 = .ok (.getfield 81, 3) := by decide +kernel
theorem dX6_reasonAfterStep_7 : decode cX6_reasonAfterStep 7 = .ok (.istore_n 2, 1) := by decide +kernel
theorem dX6_reasonAfterStep_8 : decode cX6_reasonAfterStep 8 = .ok (.aload_n 1, 1) := by decide +kernel
theorem dX6_reasonAfterStep_9 : decode cX6_reasonAfterStep 9 = .ok (.iload_n 2, 1) := by decide +kernel
theorem dX6_reasonAfterStep_10 : decode cX6_reasonAfterStep 10 = .ok (.invokevirtual 84, 3) := by decide +kernel
theorem dX6_reasonAfterStep_13 : decode cX6_reasonAfterStep 13 = .ok (.istore_n 3, 1) := by decide +kernel
theorem dX6_reasonAfterStep_14 : decode cX6_reasonAfterStep 14 = .ok (.iload_n 3, 1) := by decide +kernel
theorem dX6_reasonAfterStep_15 : decode cX6_reasonAfterStep 15 = .ok (.invokestatic 59, 3) := by decide +kernel
theorem dX6_reasonAfterStep_18 : decode cX6_reasonAfterStep 18 = .ok (.ifCond .eq 15, 3) := by decide +kernel
theorem dX6_reasonAfterStep_21 : decode cX6_reasonAfterStep 21 = .ok (.aload_n 0, 1) := by decide +kernel
theorem dX6_reasonAfterStep_22 : decode cX6_reasonAfterStep 22 = .ok (.getfield 12, 3) := by decide +kernel
theorem dX6_reasonAfterStep_25 : decode cX6_reasonAfterStep 25 = .ok (.getfield 90, 3) := by decide +kernel
theorem dX6_reasonAfterStep_28 : decode cX6_reasonAfterStep 28 = .ok (.iload_n 3, 1) := by decide +kernel
theorem dX6_reasonAfterStep_29 : decode cX6_reasonAfterStep 29 = .ok (.iaload, 1) := by decide +kernel
theorem dX6_reasonAfterStep_30 : decode cX6_reasonAfterStep 30 = .ok (.goto 4, 3) := by decide +kernel
theorem dX6_reasonAfterStep_33 : decode cX6_reasonAfterStep 33 = .ok (.iconst 0, 1) := by decide +kernel
theorem dX6_reasonAfterStep_34 : decode cX6_reasonAfterStep 34 = .ok (.istore 4, 2) := by decide +kernel
theorem dX6_reasonAfterStep_36 : decode cX6_reasonAfterStep 36 = .ok (.aload_n 0, 1) := by decide +kernel
theorem dX6_reasonAfterStep_37 : decode cX6_reasonAfterStep 37 = .ok (.getfield 12, 3) := by decide +kernel
theorem dX6_reasonAfterStep_40 : decode cX6_reasonAfterStep 40 = .ok (.aload_n 1, 1) := by decide +kernel
theorem dX6_reasonAfterStep_41 : decode cX6_reasonAfterStep 41 = .ok (.invokevirtual 93, 3) := by decide +kernel
theorem dX6_reasonAfterStep_44 : decode cX6_reasonAfterStep 44 = .ok (.ifCond .ne 5, 3) := by decide +kernel
theorem dX6_reasonAfterStep_47 : decode cX6_reasonAfterStep 47 = .ok (.iconst 4, 1) := by decide +kernel
theorem dX6_reasonAfterStep_48 : decode cX6_reasonAfterStep 48 = .ok (.ireturn, 1) := by decide +kernel
theorem dX6_reasonAfterStep_49 : decode cX6_reasonAfterStep 49 = .ok (.aload_n 0, 1) := by decide +kernel
theorem dX6_reasonAfterStep_50 : decode cX6_reasonAfterStep 50 = .ok (.iload_n 2, 1) := by decide +kernel
theorem dX6_reasonAfterStep_51 : decode cX6_reasonAfterStep 51 = .ok (.aload_n 1, 1) := by decide +kernel
theorem dX6_reasonAfterStep_52 : decode cX6_reasonAfterStep 52 = .ok (.invokevirtual 97, 3) := by decide +kernel
theorem dX6_reasonAfterStep_55 : decode cX6_reasonAfterStep 55 = .ok (.aload_n 0, 1) := by decide +kernel
theorem dX6_reasonAfterStep_56 : decode cX6_reasonAfterStep 56 = .ok (.getfield 12, 3) := by decide +kernel
theorem dX6_reasonAfterStep_59 : decode cX6_reasonAfterStep 59 = .ok (.getfield 69, 3) := by decide +kernel
theorem dX6_reasonAfterStep_62 : decode cX6_reasonAfterStep 62 = .ok (.ifCond .eq 5, 3) := by decide +kernel
theorem dX6_reasonAfterStep_65 : decode cX6_reasonAfterStep 65 = .ok (.iconst 3, 1) := by decide +kernel
theorem dX6_reasonAfterStep_66 : decode cX6_reasonAfterStep 66 = .ok (.ireturn, 1) := by decide +kernel
theorem dX6_reasonAfterStep_67 : decode cX6_reasonAfterStep 67 = .ok (.aload_n 0, 1) := by decide +kernel
theorem dX6_reasonAfterStep_68 : decode cX6_reasonAfterStep 68 = .ok (.iload_n 3, 1) := by decide +kernel
theorem dX6_reasonAfterStep_69 : decode cX6_reasonAfterStep 69 = .ok (.invokevirtual 101, 3) := by decide +kernel
theorem dX6_reasonAfterStep_72 : decode cX6_reasonAfterStep 72 = .ok (.ifCond .eq 19, 3) := by decide +kernel
theorem dX6_reasonAfterStep_75 : decode cX6_reasonAfterStep 75 = .ok (.aload_n 0, 1) := by decide +kernel
theorem dX6_reasonAfterStep_76 : decode cX6_reasonAfterStep 76 = .ok (.getfield 12, 3) := by decide +kernel
theorem dX6_reasonAfterStep_79 : decode cX6_reasonAfterStep 79 = .ok (.getfield 90, 3) := by decide +kernel
theorem dX6_reasonAfterStep_82 : decode cX6_reasonAfterStep 82 = .ok (.iload_n 3, 1) := by decide +kernel
theorem dX6_reasonAfterStep_83 : decode cX6_reasonAfterStep 83 = .ok (.iaload, 1) := by decide +kernel
theorem dX6_reasonAfterStep_84 : decode cX6_reasonAfterStep 84 = .ok (.iload 4, 2) := by decide +kernel
theorem dX6_reasonAfterStep_86 : decode cX6_reasonAfterStep 86 = .ok (.if_icmp .eq 5, 3) := by decide +kernel
theorem dX6_reasonAfterStep_89 : decode cX6_reasonAfterStep 89 = .ok (.iconst 2, 1) := by decide +kernel
theorem dX6_reasonAfterStep_90 : decode cX6_reasonAfterStep 90 = .ok (.ireturn, 1) := by decide +kernel
theorem dX6_reasonAfterStep_91 : decode cX6_reasonAfterStep 91 = .ok (.aload_n 0, 1) := by decide +kernel
theorem dX6_reasonAfterStep_92 : decode cX6_reasonAfterStep 92 = .ok (.getfield 21, 3) := by decide +kernel
theorem dX6_reasonAfterStep_95 : decode cX6_reasonAfterStep 95 = .ok (.aload_n 0, 1) := by decide +kernel
theorem dX6_reasonAfterStep_96 : decode cX6_reasonAfterStep 96 = .ok (.getfield 12, 3) := by decide +kernel
theorem dX6_reasonAfterStep_99 : decode cX6_reasonAfterStep 99 = .ok (.invokevirtual 104, 3) := by decide +kernel
theorem dX6_reasonAfterStep_102 : decode cX6_reasonAfterStep 102 = .ok (.ifCond .eq 7, 3) := by decide +kernel
theorem dX6_reasonAfterStep_105 : decode cX6_reasonAfterStep 105 = .ok (.iconst 1, 1) := by decide +kernel
theorem dX6_reasonAfterStep_106 : decode cX6_reasonAfterStep 106 = .ok (.goto 4, 3) := by decide +kernel
theorem dX6_reasonAfterStep_109 : decode cX6_reasonAfterStep 109 = .ok (.iconst (-1), 1) := by decide +kernel
theorem dX6_reasonAfterStep_110 : decode cX6_reasonAfterStep 110 = .ok (.ireturn, 1) := by decide +kernel
theorem dX6_charge_0 : decode cX6_charge 0 = .ok (.aload_n 0, 1) := by decide +kernel
theorem dX6_charge_1 : decode cX6_charge 1 = .ok (.dup, 1) := by decide +kernel
theorem dX6_charge_2 : decode cX6_charge 2 = .ok (.getfield 43, 3) := by decide +kernel
theorem dX6_charge_5 : decode cX6_charge 5 = .ok (.iconst 1, 1) := by decide +kernel
theorem dX6_charge_6 : decode cX6_charge 6 = .ok (.iadd, 1) := by decide +kernel
theorem dX6_charge_7 : decode cX6_charge 7 = .ok (.putfield 43, 3) := by decide +kernel
theorem dX6_charge_10 : decode cX6_charge 10 = .ok (.aload_n 0, 1) := by decide +kernel
theorem dX6_charge_11 : decode cX6_charge 11 = .ok (.dup, 1) := by decide +kernel
theorem dX6_charge_12 : decode cX6_charge 12 = .ok (.getfield 40, 3) := by decide +kernel
theorem dX6_charge_15 : decode cX6_charge 15 = .ok (.aload_n 0, 1) := by decide +kernel
theorem dX6_charge_16 : decode cX6_charge 16 = .ok (.getfield 37, 3) := by decide +kernel
theorem dX6_charge_19 : decode cX6_charge 19 = .ok (.invokestatic 108, 3) := by decide +kernel
theorem dX6_charge_22 : decode cX6_charge 22 = .ok (.iconst 2, 1) := by decide +kernel
theorem dX6_charge_23 : decode cX6_charge 23 = .ok (.if_icmp .le 8, 3) := by decide +kernel
theorem dX6_charge_26 : decode cX6_charge 26 = .ok (.bipush 10, 2) := by decide +kernel
theorem dX6_charge_28 : decode cX6_charge 28 = .ok (.goto 4, 3) := by decide +kernel
theorem dX6_charge_31 : decode cX6_charge 31 = .ok (.iconst 1, 1) := by decide +kernel
theorem dX6_charge_32 : decode cX6_charge 32 = .ok (.iadd, 1) := by decide +kernel
theorem dX6_charge_33 : decode cX6_charge 33 = .ok (.putfield 40, 3) := by decide +kernel
theorem dX6_charge_36 : decode cX6_charge 36 = .ok (.aload_n 0, 1) := by decide +kernel
theorem dX6_charge_37 : decode cX6_charge 37 = .ok (.getfield 21, 3) := by decide +kernel
theorem dX6_charge_40 : decode cX6_charge 40 = .ok (.iload_n 1, 1) := by decide +kernel
theorem dX6_charge_41 : decode cX6_charge 41 = .ok (.invokevirtual 113, 3) := by decide +kernel
theorem dX6_charge_44 : decode cX6_charge 44 = .ok (.ifCond .eq 23, 3) := by decide +kernel
theorem dX6_charge_47 : decode cX6_charge 47 = .ok (.aload_n 0, 1) := by decide +kernel
theorem dX6_charge_48 : decode cX6_charge 48 = .ok (.dup, 1) := by decide +kernel
theorem dX6_charge_49 : decode cX6_charge 49 = .ok (.getfield 40, 3) := by decide +kernel
theorem dX6_charge_52 : decode cX6_charge 52 = .ok (.iconst 3, 1) := by decide +kernel
theorem dX6_charge_53 : decode cX6_charge 53 = .ok (.iadd, 1) := by decide +kernel
theorem dX6_charge_54 : decode cX6_charge 54 = .ok (.putfield 40, 3) := by decide +kernel
theorem dX6_charge_57 : decode cX6_charge 57 = .ok (.aload_n 0, 1) := by decide +kernel
theorem dX6_charge_58 : decode cX6_charge 58 = .ok (.aload_n 2, 1) := by decide +kernel
theorem dX6_charge_59 : decode cX6_charge 59 = .ok (.getfield 116, 3) := by decide +kernel
theorem dX6_charge_62 : decode cX6_charge 62 = .ok (.iload_n 1, 1) := by decide +kernel
theorem dX6_charge_63 : decode cX6_charge 63 = .ok (.iaload, 1) := by decide +kernel
theorem dX6_charge_64 : decode cX6_charge 64 = .ok (.invokevirtual 119, 3) := by decide +kernel
theorem dX6_charge_67 : decode cX6_charge 67 = .ok (.return_, 1) := by decide +kernel
theorem dX6_keepCopy_0 : decode cX6_keepCopy 0 = .ok (.iconst 0, 1) := by decide +kernel
theorem dX6_keepCopy_1 : decode cX6_keepCopy 1 = .ok (.istore_n 2, 1) := by decide +kernel
theorem dX6_keepCopy_2 : decode cX6_keepCopy 2 = .ok (.iload_n 2, 1) := by decide +kernel
theorem dX6_keepCopy_3 : decode cX6_keepCopy 3 = .ok (.aload_n 0, 1) := by decide +kernel
theorem dX6_keepCopy_4 : decode cX6_keepCopy 4 = .ok (.getfield 33, 3) := by decide +kernel
theorem dX6_keepCopy_7 : decode cX6_keepCopy 7 = .ok (.if_icmp .ge 20, 3) := by decide +kernel
theorem dX6_keepCopy_10 : decode cX6_keepCopy 10 = .ok (.aload_n 0, 1) := by decide +kernel
theorem dX6_keepCopy_11 : decode cX6_keepCopy 11 = .ok (.getfield 25, 3) := by decide +kernel
theorem dX6_keepCopy_14 : decode cX6_keepCopy 14 = .ok (.iload_n 2, 1) := by decide +kernel
theorem dX6_keepCopy_15 : decode cX6_keepCopy 15 = .ok (.iaload, 1) := by decide +kernel
theorem dX6_keepCopy_16 : decode cX6_keepCopy 16 = .ok (.iload_n 1, 1) := by decide +kernel
theorem dX6_keepCopy_17 : decode cX6_keepCopy 17 = .ok (.if_icmp .ne 4, 3) := by decide +kernel
theorem dX6_keepCopy_20 : decode cX6_keepCopy 20 = .ok (.return_, 1) := by decide +kernel
theorem dX6_keepCopy_21 : decode cX6_keepCopy 21 = .ok (.iinc 2 1, 3) := by decide +kernel
theorem dX6_keepCopy_24 : decode cX6_keepCopy 24 = .ok (.goto (-22), 3) := by decide +kernel
theorem dX6_keepCopy_27 : decode cX6_keepCopy 27 = .ok (.aload_n 0, 1) := by decide +kernel
theorem dX6_keepCopy_28 : decode cX6_keepCopy 28 = .ok (.getfield 33, 3) := by decide +kernel
theorem dX6_keepCopy_31 : decode cX6_keepCopy 31 = .ok (.iconst 3, 1) := by decide +kernel
theorem dX6_keepCopy_32 : decode cX6_keepCopy 32 = .ok (.if_icmp .ne 27, 3) := by decide +kernel
theorem dX6_keepCopy_35 : decode cX6_keepCopy 35 = .ok (.aload_n 0, 1) := by decide +kernel
theorem dX6_keepCopy_36 : decode cX6_keepCopy 36 = .ok (.getfield 25, 3) := by decide +kernel
theorem dX6_keepCopy_39 : decode cX6_keepCopy 39 = .ok (.iconst 1, 1) := by decide +kernel
theorem dX6_keepCopy_40 : decode cX6_keepCopy 40 = .ok (.aload_n 0, 1) := by decide +kernel
theorem dX6_keepCopy_41 : decode cX6_keepCopy 41 = .ok (.getfield 25, 3) := by decide +kernel
theorem dX6_keepCopy_44 : decode cX6_keepCopy 44 = .ok (.iconst 0, 1) := by decide +kernel
theorem dX6_keepCopy_45 : decode cX6_keepCopy 45 = .ok (.iconst 2, 1) := by decide +kernel
theorem dX6_keepCopy_46 : decode cX6_keepCopy 46 = .ok (.invokestatic 53, 3) := by decide +kernel
theorem dX6_keepCopy_49 : decode cX6_keepCopy 49 = .ok (.aload_n 0, 1) := by decide +kernel
theorem dX6_keepCopy_50 : decode cX6_keepCopy 50 = .ok (.dup, 1) := by decide +kernel
theorem dX6_keepCopy_51 : decode cX6_keepCopy 51 = .ok (.getfield 33, 3) := by decide +kernel
theorem dX6_keepCopy_54 : decode cX6_keepCopy 54 = .ok (.iconst 1, 1) := by decide +kernel
theorem dX6_keepCopy_55 : decode cX6_keepCopy 55 = .ok (.isub, 1) := by decide +kernel
theorem dX6_keepCopy_56 : decode cX6_keepCopy 56 = .ok (.putfield 33, 3) := by decide +kernel
theorem dX6_keepCopy_59 : decode cX6_keepCopy 59 = .ok (.aload_n 0, 1) := by decide +kernel
theorem dX6_keepCopy_60 : decode cX6_keepCopy 60 = .ok (.getfield 25, 3) := by decide +kernel
theorem dX6_keepCopy_63 : decode cX6_keepCopy 63 = .ok (.aload_n 0, 1) := by decide +kernel
theorem dX6_keepCopy_64 : decode cX6_keepCopy 64 = .ok (.getfield 33, 3) := by decide +kernel
theorem dX6_keepCopy_67 : decode cX6_keepCopy 67 = .ok (.iload_n 1, 1) := by decide +kernel
theorem dX6_keepCopy_68 : decode cX6_keepCopy 68 = .ok (.iastore, 1) := by decide +kernel
theorem dX6_keepCopy_69 : decode cX6_keepCopy 69 = .ok (.aload_n 0, 1) := by decide +kernel
theorem dX6_keepCopy_70 : decode cX6_keepCopy 70 = .ok (.dup, 1) := by decide +kernel
theorem dX6_keepCopy_71 : decode cX6_keepCopy 71 = .ok (.getfield 33, 3) := by decide +kernel
theorem dX6_keepCopy_74 : decode cX6_keepCopy 74 = .ok (.iconst 1, 1) := by decide +kernel
theorem dX6_keepCopy_75 : decode cX6_keepCopy 75 = .ok (.iadd, 1) := by decide +kernel
theorem dX6_keepCopy_76 : decode cX6_keepCopy 76 = .ok (.putfield 33, 3) := by decide +kernel
theorem dX6_keepCopy_79 : decode cX6_keepCopy 79 = .ok (.return_, 1) := by decide +kernel
theorem dX7_init_0 : decode cX7_init 0 = .ok (.aload_n 0, 1) := by decide +kernel
theorem dX7_init_1 : decode cX7_init 1 = .ok (.invokespecial 3, 3) := by decide +kernel
theorem dX7_init_4 : decode cX7_init 4 = .ok (.aload_n 0, 1) := by decide +kernel
theorem dX7_init_5 : decode cX7_init 5 = .ok (.new 9, 3) := by decide +kernel
theorem dX7_init_8 : decode cX7_init 8 = .ok (.dup, 1) := by decide +kernel
theorem dX7_init_9 : decode cX7_init 9 = .ok (.invokespecial 11, 3) := by decide +kernel
theorem dX7_init_12 : decode cX7_init 12 = .ok (.putfield 12, 3) := by decide +kernel
theorem dX7_init_15 : decode cX7_init 15 = .ok (.aload_n 0, 1) := by decide +kernel
theorem dX7_init_16 : decode cX7_init 16 = .ok (.bipush 6, 2) := by decide +kernel
theorem dX7_init_18 : decode cX7_init 18 = .ok (.newarray .int, 2) := by decide +kernel
theorem dX7_init_20 : decode cX7_init 20 = .ok (.putfield 18, 3) := by decide +kernel
theorem dX7_init_23 : decode cX7_init 23 = .ok (.aload_n 0, 1) := by decide +kernel
theorem dX7_init_24 : decode cX7_init 24 = .ok (.bipush 6, 2) := by decide +kernel
theorem dX7_init_26 : decode cX7_init 26 = .ok (.newarray .int, 2) := by decide +kernel
theorem dX7_init_28 : decode cX7_init 28 = .ok (.putfield 22, 3) := by decide +kernel
theorem dX7_init_31 : decode cX7_init 31 = .ok (.aload_n 0, 1) := by decide +kernel
theorem dX7_init_32 : decode cX7_init 32 = .ok (.bipush 6, 2) := by decide +kernel
theorem dX7_init_34 : decode cX7_init 34 = .ok (.newarray .int, 2) := by decide +kernel
theorem dX7_init_36 : decode cX7_init 36 = .ok (.putfield 25, 3) := by decide +kernel
theorem dX7_init_39 : decode cX7_init 39 = .ok (.aload_n 0, 1) := by decide +kernel
theorem dX7_init_40 : decode cX7_init 40 = .ok (.sipush 1980, 3) := by decide +kernel
theorem dX7_init_43 : decode cX7_init 43 = .ok (.newarray .int, 2) := by decide +kernel
theorem dX7_init_45 : decode cX7_init 45 = .ok (.putfield 28, 3) := by decide +kernel
theorem dX7_init_48 : decode cX7_init 48 = .ok (.aload_n 0, 1) := by decide +kernel
theorem dX7_init_49 : decode cX7_init 49 = .ok (.bipush 64, 2) := by decide +kernel
theorem dX7_init_51 : decode cX7_init 51 = .ok (.newarray .int, 2) := by decide +kernel
theorem dX7_init_53 : decode cX7_init 53 = .ok (.putfield 31, 3) := by decide +kernel
theorem dX7_init_56 : decode cX7_init 56 = .ok (.return_, 1) := by decide +kernel
theorem dX7_measure_0 : decode cX7_measure 0 = .ok (.aload_n 0, 1) := by decide +kernel
theorem dX7_measure_1 : decode cX7_measure 1 = .ok (.aload_n 1, 1) := by decide +kernel
theorem dX7_measure_2 : decode cX7_measure 2 = .ok (.getfield 34, 3) := by decide +kernel
theorem dX7_measure_5 : decode cX7_measure 5 = .ok (.invokevirtual 40, 3) := by decide +kernel
theorem dX7_measure_8 : decode cX7_measure 8 = .ok (.aload_n 0, 1) := by decide +kernel
theorem dX7_measure_9 : decode cX7_measure 9 = .ok (.aload_n 1, 1) := by decide +kernel
theorem dX7_measure_10 : decode cX7_measure 10 = .ok (.aload_n 2, 1) := by decide +kernel
theorem dX7_measure_11 : decode cX7_measure 11 = .ok (.invokevirtual 44, 3) := by decide +kernel
theorem dX7_measure_14 : decode cX7_measure 14 = .ok (.iconst 0, 1) := by decide +kernel
theorem dX7_measure_15 : decode cX7_measure 15 = .ok (.istore_n 3, 1) := by decide +kernel
theorem dX7_measure_16 : decode cX7_measure 16 = .ok (.iload_n 3, 1) := by decide +kernel
theorem dX7_measure_17 : decode cX7_measure 17 = .ok (.iconst 1, 1) := by decide +kernel
theorem dX7_measure_18 : decode cX7_measure 18 = .ok (.aload_n 0, 1) := by decide +kernel
theorem dX7_measure_19 : decode cX7_measure 19 = .ok (.getfield 48, 3) := by decide +kernel
theorem dX7_measure_22 : decode cX7_measure 22 = .ok (.ishl, 1) := by decide +kernel
theorem dX7_measure_23 : decode cX7_measure 23 = .ok (.if_icmp .ge 20, 3) := by decide +kernel
theorem dX7_measure_26 : decode cX7_measure 26 = .ok (.aload_n 0, 1) := by decide +kernel
theorem dX7_measure_27 : decode cX7_measure 27 = .ok (.getfield 31, 3) := by decide +kernel
theorem dX7_measure_30 : decode cX7_measure 30 = .ok (.iload_n 3, 1) := by decide +kernel
theorem dX7_measure_31 : decode cX7_measure 31 = .ok (.aload_n 0, 1) := by decide +kernel
theorem dX7_measure_32 : decode cX7_measure 32 = .ok (.iload_n 3, 1) := by decide +kernel
theorem dX7_measure_33 : decode cX7_measure 33 = .ok (.invokevirtual 52, 3) := by decide +kernel
theorem dX7_measure_36 : decode cX7_measure 36 = .ok (.iastore, 1) := by decide +kernel
theorem dX7_measure_37 : decode cX7_measure 37 = .ok (.iinc 3 1, 3) := by decide +kernel
theorem dX7_measure_40 : decode cX7_measure 40 = .ok (.goto (-24), 3) := by decide +kernel
theorem dX7_measure_43 : decode cX7_measure 43 = .ok (.return_, 1) := by decide +kernel
theorem dX7_list_0 : decode cX7_list 0 = .ok (.aload_n 0, 1) := by decide +kernel
theorem dX7_list_1 : decode cX7_list 1 = .ok (.iconst 0, 1) := by decide +kernel
theorem dX7_list_2 : decode cX7_list 2 = .ok (.putfield 48, 3) := by decide +kernel
theorem dX7_list_5 : decode cX7_list 5 = .ok (.iconst 0, 1) := by decide +kernel
theorem dX7_list_6 : decode cX7_list 6 = .ok (.istore_n 2, 1) := by decide +kernel
theorem dX7_list_7 : decode cX7_list 7 = .ok (.iload_n 2, 1) := by decide +kernel
theorem dX7_list_8 : decode cX7_list 8 = .ok (.bipush 16, 2) := by decide +kernel
theorem dX7_list_10 : decode cX7_list 10 = .ok (.if_icmp .ge 61, 3) := by decide +kernel
theorem dX7_list_13 : decode cX7_list 13 = .ok (.aload_n 0, 1) := by decide +kernel
theorem dX7_list_14 : decode cX7_list 14 = .ok (.getfield 48, 3) := by decide +kernel
theorem dX7_list_17 : decode cX7_list 17 = .ok (.bipush 6, 2) := by decide +kernel
theorem dX7_list_19 : decode cX7_list 19 = .ok (.if_icmp .ge 52, 3) := by decide +kernel
theorem dX7_list_22 : decode cX7_list 22 = .ok (.aload_n 1, 1) := by decide +kernel
theorem dX7_list_23 : decode cX7_list 23 = .ok (.iload_n 2, 1) := by decide +kernel
theorem dX7_list_24 : decode cX7_list 24 = .ok (.invokevirtual 56, 3) := by decide +kernel
theorem dX7_list_27 : decode cX7_list 27 = .ok (.ifCond .eq 38, 3) := by decide +kernel
theorem dX7_list_30 : decode cX7_list 30 = .ok (.aload_n 0, 1) := by decide +kernel
theorem dX7_list_31 : decode cX7_list 31 = .ok (.getfield 18, 3) := by decide +kernel
theorem dX7_list_34 : decode cX7_list 34 = .ok (.aload_n 0, 1) := by decide +kernel
theorem dX7_list_35 : decode cX7_list 35 = .ok (.getfield 48, 3) := by decide +kernel
theorem dX7_list_38 : decode cX7_list 38 = .ok (.iload_n 2, 1) := by decide +kernel
theorem dX7_list_39 : decode cX7_list 39 = .ok (.iastore, 1) := by decide +kernel
theorem dX7_list_40 : decode cX7_list 40 = .ok (.aload_n 0, 1) := by decide +kernel
theorem dX7_list_41 : decode cX7_list 41 = .ok (.getfield 22, 3) := by decide +kernel
theorem dX7_list_44 : decode cX7_list 44 = .ok (.aload_n 0, 1) := by decide +kernel
theorem dX7_list_45 : decode cX7_list 45 = .ok (.getfield 48, 3) := by decide +kernel
theorem dX7_list_48 : decode cX7_list 48 = .ok (.aload_n 1, 1) := by decide +kernel
theorem dX7_list_49 : decode cX7_list 49 = .ok (.iload_n 2, 1) := by decide +kernel
theorem dX7_list_50 : decode cX7_list 50 = .ok (.iconst 4, 1) := by decide +kernel
theorem dX7_list_51 : decode cX7_list 51 = .ok (.invokevirtual 62, 3) := by decide +kernel
theorem dX7_list_54 : decode cX7_list 54 = .ok (.iastore, 1) := by decide +kernel
theorem dX7_list_55 : decode cX7_list 55 = .ok (.aload_n 0, 1) := by decide +kernel
theorem dX7_list_56 : decode cX7_list 56 = .ok (.dup, 1) := by decide +kernel
theorem dX7_list_57 : decode cX7_list 57 = .ok (.getfield 48, 3) := by decide +kernel
theorem dX7_list_60 : decode cX7_list 60 = .ok (.iconst 1, 1) := by decide +kernel
theorem dX7_list_61 : decode cX7_list 61 = .ok (.iadd, 1) := by decide +kernel
theorem dX7_list_62 : decode cX7_list 62 = .ok (.putfield 48, 3) := by decide +kernel
theorem dX7_list_65 : decode cX7_list 65 = .ok (.iinc 2 1, 3) := by decide +kernel
theorem dX7_list_68 : decode cX7_list 68 = .ok (.goto (-61), 3) := by decide +kernel
theorem dX7_list_71 : decode cX7_list 71 = .ok (.return_, 1) := by decide +kernel
theorem dX7_follow_0 : decode cX7_follow 0 = .ok (.aload_n 0, 1) := by decide +kernel
theorem dX7_follow_1 : decode cX7_follow 1 = .ok (.getfield 12, 3) := by decide +kernel
theorem dX7_follow_4 : decode cX7_follow 4 = .ok (.aload_n 1, 1) := by decide +kernel
theorem dX7_follow_5 : decode cX7_follow 5 = .ok (.getfield 66, 3) := by decide +kernel
theorem dX7_follow_8 : decode cX7_follow 8 = .ok (.invokevirtual 67, 3) := by decide +kernel
theorem dX7_follow_11 : decode cX7_follow 11 = .ok (.aload_n 0, 1) := by decide +kernel
theorem dX7_follow_12 : decode cX7_follow 12 = .ok (.iconst 0, 1) := by decide +kernel
theorem dX7_follow_13 : decode cX7_follow 13 = .ok (.putfield 71, 3) := by decide +kernel
theorem dX7_follow_16 : decode cX7_follow 16 = .ok (.iconst 0, 1) := by decide +kernel
theorem dX7_follow_17 : decode cX7_follow 17 = .ok (.istore_n 3, 1) := by decide +kernel
theorem dX7_follow_18 : decode cX7_follow 18 = .ok (.iload_n 3, 1) := by decide +kernel
theorem dX7_follow_19 : decode cX7_follow 19 = .ok (.sipush 1980, 3) := by decide +kernel
theorem dX7_follow_22 : decode cX7_follow 22 = .ok (.if_icmp .ge 96, 3) := by decide +kernel
theorem dX7_follow_25 : decode cX7_follow 25 = .ok (.aload_n 0, 1) := by decide +kernel
theorem dX7_follow_26 : decode cX7_follow 26 = .ok (.getfield 12, 3) := by decide +kernel
theorem dX7_follow_29 : decode cX7_follow 29 = .ok (.getfield 74, 3) := by decide +kernel
theorem dX7_follow_32 : decode cX7_follow 32 = .ok (.ifCond .ne 86, 3) := by decide +kernel
theorem dX7_follow_35 : decode cX7_follow 35 = .ok (.aload_n 0, 1) := by decide +kernel
theorem dX7_follow_36 : decode cX7_follow 36 = .ok (.getfield 12, 3) := by decide +kernel
theorem dX7_follow_39 : decode cX7_follow 39 = .ok (.aload_n 2, 1) := by decide +kernel
theorem dX7_follow_40 : decode cX7_follow 40 = .ok (.invokevirtual 78, 3) := by decide +kernel
theorem dX7_follow_43 : decode cX7_follow 43 = .ok (.ifCond .ne 4, 3) := by decide +kernel
theorem dX7_follow_46 : decode cX7_follow 46 = .ok (.return_, 1) := by decide +kernel
theorem dX7_follow_47 : decode cX7_follow 47 = .ok (.aload_n 0, 1) := by decide +kernel
theorem dX7_follow_48 : decode cX7_follow 48 = .ok (.getfield 12, 3) := by decide +kernel
theorem dX7_follow_51 : decode cX7_follow 51 = .ok (.getfield 74, 3) := by decide +kernel
theorem dX7_follow_54 : decode cX7_follow 54 = .ok (.ifCond .ne 21, 3) := by decide +kernel
theorem dX7_follow_57 : decode cX7_follow 57 = .ok (.aload_n 1, 1) := by decide +kernel
theorem dX7_follow_58 : decode cX7_follow 58 = .ok (.getfield 34, 3) := by decide +kernel
theorem dX7_follow_61 : decode cX7_follow 61 = .ok (.aload_n 0, 1) := by decide +kernel
theorem dX7_follow_62 : decode cX7_follow 62 = .ok (.getfield 12, 3) := by decide +kernel
theorem dX7_follow_65 : decode cX7_follow 65 = .ok (.invokevirtual 82, 3) := by decide +kernel
theorem dX7_follow_68 : decode cX7_follow 68 = .ok (.ifCond .eq 7, 3) := by decide +kernel
theorem dX7_follow_71 : decode cX7_follow 71 = .ok (.iconst 1, 1) := by decide +kernel
theorem dX7_follow_72 : decode cX7_follow 72 = .ok (.goto 4, 3) := by decide +kernel
theorem dX7_follow_75 : decode cX7_follow 75 = .ok (.iconst 0, 1) := by decide +kernel
theorem dX7_follow_76 : decode cX7_follow 76 = .ok (.istore 4, 2) := by decide +kernel
theorem dX7_follow_78 : decode cX7_follow 78 = .ok (.aload_n 0, 1) := by decide +kernel
theorem dX7_follow_79 : decode cX7_follow 79 = .ok (.getfield 28, 3) := by decide +kernel
theorem dX7_follow_82 : decode cX7_follow 82 = .ok (.iload_n 3, 1) := by decide +kernel
theorem dX7_follow_83 : decode cX7_follow 83 = .ok (.iload 4, 2) := by decide +kernel
theorem dX7_follow_85 : decode cX7_follow 85 = .ok (.ifCond .eq 17, 3) := by decide +kernel
theorem dX7_follow_88 : decode cX7_follow 88 = .ok (.aload_n 0, 1) := by decide +kernel
theorem dX7_follow_89 : decode cX7_follow 89 = .ok (.aload_n 0, 1) := by decide +kernel
theorem dX7_follow_90 : decode cX7_follow 90 = .ok (.getfield 12, 3) := by decide +kernel
theorem dX7_follow_93 : decode cX7_follow 93 = .ok (.getfield 86, 3) := by decide +kernel
theorem dX7_follow_96 : decode cX7_follow 96 = .ok (.invokevirtual 89, 3) := by decide +kernel
theorem dX7_follow_99 : decode cX7_follow 99 = .ok (.goto 5, 3) := by decide +kernel
theorem dX7_follow_102 : decode cX7_follow 102 = .ok (.bipush (-9), 2) := by decide +kernel
theorem dX7_follow_104 : decode cX7_follow 104 = .ok (.iastore, 1) := by decide +kernel
theorem dX7_follow_105 : decode cX7_follow 105 = .ok (.aload_n 0, 1) := by decide +kernel
theorem dX7_follow_106 : decode cX7_follow 106 = .ok (.iload_n 3, 1) := by decide +kernel
theorem dX7_follow_107 : decode cX7_follow 107 = .ok (.iconst 1, 1) := by decide +kernel
theorem dX7_follow_108 : decode cX7_follow 108 = .ok (.iadd, 1) := by decide +kernel
theorem dX7_follow_109 : decode cX7_follow 109 = .ok (.putfield 71, 3) := by decide +kernel
theorem dX7_follow_112 : decode cX7_follow 112 = .ok (.iinc 3 1, 3) := by decide +kernel
theorem dX7_follow_115 : decode cX7_follow 115 = .ok (.goto (-97), 3) := by decide +kernel
theorem dX7_follow_118 : decode cX7_follow 118 = .ok (.return_, 1) := by decide +kernel
theorem dX7_indexOf_0 : decode cX7_indexOf 0 = .ok (.iconst 0, 1) := by decide +kernel
theorem dX7_indexOf_1 : decode cX7_indexOf 1 = .ok (.istore_n 2, 1) := by decide +kernel
theorem dX7_indexOf_2 : decode cX7_indexOf 2 = .ok (.iload_n 2, 1) := by decide +kernel
theorem dX7_indexOf_3 : decode cX7_indexOf 3 = .ok (.aload_n 0, 1) := by decide +kernel
theorem dX7_indexOf_4 : decode cX7_indexOf 4 = .ok (.getfield 48, 3) := by decide +kernel
theorem dX7_indexOf_7 : decode cX7_indexOf 7 = .ok (.if_icmp .ge 21, 3) := by decide +kernel
theorem dX7_indexOf_10 : decode cX7_indexOf 10 = .ok (.aload_n 0, 1) := by decide +kernel
theorem dX7_indexOf_11 : decode cX7_indexOf 11 = .ok (.getfield 18, 3) := by decide +kernel
theorem dX7_indexOf_14 : decode cX7_indexOf 14 = .ok (.iload_n 2, 1) := by decide +kernel
theorem dX7_indexOf_15 : decode cX7_indexOf 15 = .ok (.iaload, 1) := by decide +kernel
theorem dX7_indexOf_16 : decode cX7_indexOf 16 = .ok (.iload_n 1, 1) := by decide +kernel
theorem dX7_indexOf_17 : decode cX7_indexOf 17 = .ok (.if_icmp .ne 5, 3) := by decide +kernel
theorem dX7_indexOf_20 : decode cX7_indexOf 20 = .ok (.iload_n 2, 1) := by decide +kernel
theorem dX7_indexOf_21 : decode cX7_indexOf 21 = .ok (.ireturn, 1) := by decide +kernel
theorem dX7_indexOf_22 : decode cX7_indexOf 22 = .ok (.iinc 2 1, 3) := by decide +kernel
theorem dX7_indexOf_25 : decode cX7_indexOf 25 = .ok (.goto (-23), 3) := by decide +kernel
theorem dX7_indexOf_28 : decode cX7_indexOf 28 = .ok (.bipush (-9), 2) := by decide +kernel
theorem dX7_indexOf_30 : decode cX7_indexOf 30 = .ok (.ireturn, 1) := by decide +kernel
theorem dX7_valueOf_0 : decode cX7_valueOf 0 = .ok (.aload_n 0, 1) := by decide +kernel
theorem dX7_valueOf_1 : decode cX7_valueOf 1 = .ok (.getfield 22, 3) := by decide +kernel
theorem dX7_valueOf_4 : decode cX7_valueOf 4 = .ok (.iconst 0, 1) := by decide +kernel
theorem dX7_valueOf_5 : decode cX7_valueOf 5 = .ok (.aload_n 0, 1) := by decide +kernel
theorem dX7_valueOf_6 : decode cX7_valueOf 6 = .ok (.getfield 25, 3) := by decide +kernel
theorem dX7_valueOf_9 : decode cX7_valueOf 9 = .ok (.iconst 0, 1) := by decide +kernel
theorem dX7_valueOf_10 : decode cX7_valueOf 10 = .ok (.bipush 6, 2) := by decide +kernel
theorem dX7_valueOf_12 : decode cX7_valueOf 12 = .ok (.invokestatic 92, 3) := by decide +kernel
theorem dX7_valueOf_15 : decode cX7_valueOf 15 = .ok (.iconst 0, 1) := by decide +kernel
theorem dX7_valueOf_16 : decode cX7_valueOf 16 = .ok (.istore_n 2, 1) := by decide +kernel
theorem dX7_valueOf_17 : decode cX7_valueOf 17 = .ok (.iconst 0, 1) := by decide +kernel
theorem dX7_valueOf_18 : decode cX7_valueOf 18 = .ok (.istore_n 3, 1) := by decide +kernel
theorem dX7_valueOf_19 : decode cX7_valueOf 19 = .ok (.iconst 0, 1) := by decide +kernel
theorem dX7_valueOf_20 : decode cX7_valueOf 20 = .ok (.istore 4, 2) := by decide +kernel
theorem dX7_valueOf_22 : decode cX7_valueOf 22 = .ok (.iload 4, 2) := by decide +kernel
theorem dX7_valueOf_24 : decode cX7_valueOf 24 = .ok (.aload_n 0, 1) := by decide +kernel
theorem dX7_valueOf_25 : decode cX7_valueOf 25 = .ok (.getfield 71, 3) := by decide +kernel
theorem dX7_valueOf_28 : decode cX7_valueOf 28 = .ok (.if_icmp .ge 79, 3) := by decide +kernel
theorem dX7_valueOf_31 : decode cX7_valueOf 31 = .ok (.iload_n 2, 1) := by decide +kernel
theorem dX7_valueOf_32 : decode cX7_valueOf 32 = .ok (.bipush 20, 2) := by decide +kernel
theorem dX7_valueOf_34 : decode cX7_valueOf 34 = .ok (.if_icmp .ge 73, 3) := by decide +kernel
theorem dX7_valueOf_37 : decode cX7_valueOf 37 = .ok (.iload_n 3, 1) := by decide +kernel
theorem dX7_valueOf_38 : decode cX7_valueOf 38 = .ok (.bipush 99, 2) := by decide +kernel
theorem dX7_valueOf_40 : decode cX7_valueOf 40 = .ok (.if_icmp .ge 67, 3) := by decide +kernel
theorem dX7_valueOf_43 : decode cX7_valueOf 43 = .ok (.iinc 3 1, 3) := by decide +kernel
theorem dX7_valueOf_46 : decode cX7_valueOf 46 = .ok (.aload_n 0, 1) := by decide +kernel
theorem dX7_valueOf_47 : decode cX7_valueOf 47 = .ok (.getfield 28, 3) := by decide +kernel
theorem dX7_valueOf_50 : decode cX7_valueOf 50 = .ok (.iload 4, 2) := by decide +kernel
theorem dX7_valueOf_52 : decode cX7_valueOf 52 = .ok (.iaload, 1) := by decide +kernel
theorem dX7_valueOf_53 : decode cX7_valueOf 53 = .ok (.istore 5, 2) := by decide +kernel
theorem dX7_valueOf_55 : decode cX7_valueOf 55 = .ok (.iload 5, 2) := by decide +kernel
theorem dX7_valueOf_57 : decode cX7_valueOf 57 = .ok (.ifCond .lt 44, 3) := by decide +kernel
theorem dX7_valueOf_60 : decode cX7_valueOf 60 = .ok (.iload_n 1, 1) := by decide +kernel
theorem dX7_valueOf_61 : decode cX7_valueOf 61 = .ok (.iload 5, 2) := by decide +kernel
theorem dX7_valueOf_63 : decode cX7_valueOf 63 = .ok (.ishr, 1) := by decide +kernel
theorem dX7_valueOf_64 : decode cX7_valueOf 64 = .ok (.iconst 1, 1) := by decide +kernel
theorem dX7_valueOf_65 : decode cX7_valueOf 65 = .ok (.iand, 1) := by decide +kernel
theorem dX7_valueOf_66 : decode cX7_valueOf 66 = .ok (.ifCond .ne 6, 3) := by decide +kernel
theorem dX7_valueOf_69 : decode cX7_valueOf 69 = .ok (.goto 32, 3) := by decide +kernel
theorem dX7_valueOf_72 : decode cX7_valueOf 72 = .ok (.aload_n 0, 1) := by decide +kernel
theorem dX7_valueOf_73 : decode cX7_valueOf 73 = .ok (.getfield 25, 3) := by decide +kernel
theorem dX7_valueOf_76 : decode cX7_valueOf 76 = .ok (.iload 5, 2) := by decide +kernel
theorem dX7_valueOf_78 : decode cX7_valueOf 78 = .ok (.iaload, 1) := by decide +kernel
theorem dX7_valueOf_79 : decode cX7_valueOf 79 = .ok (.ifCond .le 17, 3) := by decide +kernel
theorem dX7_valueOf_82 : decode cX7_valueOf 82 = .ok (.aload_n 0, 1) := by decide +kernel
theorem dX7_valueOf_83 : decode cX7_valueOf 83 = .ok (.getfield 25, 3) := by decide +kernel
theorem dX7_valueOf_86 : decode cX7_valueOf 86 = .ok (.iload 5, 2) := by decide +kernel
theorem dX7_valueOf_88 : decode cX7_valueOf 88 = .ok (.dup2, 1) := by decide +kernel
theorem dX7_valueOf_89 : decode cX7_valueOf 89 = .ok (.iaload, 1) := by decide +kernel
theorem dX7_valueOf_90 : decode cX7_valueOf 90 = .ok (.iconst 1, 1) := by decide +kernel
theorem dX7_valueOf_91 : decode cX7_valueOf 91 = .ok (.isub, 1) := by decide +kernel
theorem dX7_valueOf_92 : decode cX7_valueOf 92 = .ok (.iastore, 1) := by decide +kernel
theorem dX7_valueOf_93 : decode cX7_valueOf 93 = .ok (.goto 8, 3) := by decide +kernel
theorem dX7_valueOf_96 : decode cX7_valueOf 96 = .ok (.iinc 2 1, 3) := by decide +kernel
theorem dX7_valueOf_99 : decode cX7_valueOf 99 = .ok (.iconst 0, 1) := by decide +kernel
theorem dX7_valueOf_100 : decode cX7_valueOf 100 = .ok (.istore_n 3, 1) := by decide +kernel
theorem dX7_valueOf_101 : decode cX7_valueOf 101 = .ok (.iinc 4 1, 3) := by decide +kernel
theorem dX7_valueOf_104 : decode cX7_valueOf 104 = .ok (.goto (-82), 3) := by decide +kernel
theorem dX7_valueOf_107 : decode cX7_valueOf 107 = .ok (.iload_n 2, 1) := by decide +kernel
theorem dX7_valueOf_108 : decode cX7_valueOf 108 = .ok (.ireturn, 1) := by decide +kernel
theorem dX7_weightedGain_0 : decode cX7_weightedGain 0 = .ok (.aload_n 0, 1) := by decide +kernel
theorem dX7_weightedGain_1 : decode cX7_weightedGain 1 = .ok (.iload_n 1, 1) := by decide +kernel
theorem dX7_weightedGain_2 : decode cX7_weightedGain 2 = .ok (.invokevirtual 89, 3) := by decide +kernel
theorem dX7_weightedGain_5 : decode cX7_weightedGain 5 = .ok (.istore_n 2, 1) := by decide +kernel
theorem dX7_weightedGain_6 : decode cX7_weightedGain 6 = .ok (.iload_n 2, 1) := by decide +kernel
theorem dX7_weightedGain_7 : decode cX7_weightedGain 7 = .ok (.ifCond .ge 5, 3) := by decide +kernel
theorem dX7_weightedGain_10 : decode cX7_weightedGain 10 = .ok (.iconst 0, 1) := by decide +kernel
theorem dX7_weightedGain_11 : decode cX7_weightedGain 11 = .ok (.ireturn, 1) := by decide +kernel
theorem dX7_weightedGain_12 : decode cX7_weightedGain 12 = .ok (.iconst 1, 1) := by decide +kernel
theorem dX7_weightedGain_13 : decode cX7_weightedGain 13 = .ok (.iload_n 2, 1) := by decide +kernel
theorem dX7_weightedGain_14 : decode cX7_weightedGain 14 = .ok (.ishl, 1) := by decide +kernel
theorem dX7_weightedGain_15 : decode cX7_weightedGain 15 = .ok (.istore_n 3, 1) := by decide +kernel
theorem dX7_weightedGain_16 : decode cX7_weightedGain 16 = .ok (.iconst 0, 1) := by decide +kernel
theorem dX7_weightedGain_17 : decode cX7_weightedGain 17 = .ok (.istore 4, 2) := by decide +kernel
theorem dX7_weightedGain_19 : decode cX7_weightedGain 19 = .ok (.iconst 0, 1) := by decide +kernel
theorem dX7_weightedGain_20 : decode cX7_weightedGain 20 = .ok (.istore 5, 2) := by decide +kernel
theorem dX7_weightedGain_22 : decode cX7_weightedGain 22 = .ok (.iload 5, 2) := by decide +kernel
theorem dX7_weightedGain_24 : decode cX7_weightedGain 24 = .ok (.iconst 1, 1) := by decide +kernel
theorem dX7_weightedGain_25 : decode cX7_weightedGain 25 = .ok (.aload_n 0, 1) := by decide +kernel
theorem dX7_weightedGain_26 : decode cX7_weightedGain 26 = .ok (.getfield 48, 3) := by decide +kernel
theorem dX7_weightedGain_29 : decode cX7_weightedGain 29 = .ok (.ishl, 1) := by decide +kernel
theorem dX7_weightedGain_30 : decode cX7_weightedGain 30 = .ok (.if_icmp .ge 68, 3) := by decide +kernel
theorem dX7_weightedGain_33 : decode cX7_weightedGain 33 = .ok (.iload 5, 2) := by decide +kernel
theorem dX7_weightedGain_35 : decode cX7_weightedGain 35 = .ok (.iload_n 3, 1) := by decide +kernel
theorem dX7_weightedGain_36 : decode cX7_weightedGain 36 = .ok (.iand, 1) := by decide +kernel
theorem dX7_weightedGain_37 : decode cX7_weightedGain 37 = .ok (.ifCond .ne 55, 3) := by decide +kernel
theorem dX7_weightedGain_40 : decode cX7_weightedGain 40 = .ok (.iload 5, 2) := by decide +kernel
theorem dX7_weightedGain_42 : decode cX7_weightedGain 42 = .ok (.invokestatic 98, 3) := by decide +kernel
theorem dX7_weightedGain_45 : decode cX7_weightedGain 45 = .ok (.istore 6, 2) := by decide +kernel
theorem dX7_weightedGain_47 : decode cX7_weightedGain 47 = .ok (.iload 6, 2) := by decide +kernel
theorem dX7_weightedGain_49 : decode cX7_weightedGain 49 = .ok (.invokestatic 103, 3) := by decide +kernel
theorem dX7_weightedGain_52 : decode cX7_weightedGain 52 = .ok (.aload_n 0, 1) := by decide +kernel
theorem dX7_weightedGain_53 : decode cX7_weightedGain 53 = .ok (.getfield 48, 3) := by decide +kernel
theorem dX7_weightedGain_56 : decode cX7_weightedGain 56 = .ok (.iconst 1, 1) := by decide +kernel
theorem dX7_weightedGain_57 : decode cX7_weightedGain 57 = .ok (.isub, 1) := by decide +kernel
theorem dX7_weightedGain_58 : decode cX7_weightedGain 58 = .ok (.iload 6, 2) := by decide +kernel
theorem dX7_weightedGain_60 : decode cX7_weightedGain 60 = .ok (.isub, 1) := by decide +kernel
theorem dX7_weightedGain_61 : decode cX7_weightedGain 61 = .ok (.invokestatic 103, 3) := by decide +kernel
theorem dX7_weightedGain_64 : decode cX7_weightedGain 64 = .ok (.imul, 1) := by decide +kernel
theorem dX7_weightedGain_65 : decode cX7_weightedGain 65 = .ok (.istore 7, 2) := by decide +kernel
theorem dX7_weightedGain_67 : decode cX7_weightedGain 67 = .ok (.iload 4, 2) := by decide +kernel
theorem dX7_weightedGain_69 : decode cX7_weightedGain 69 = .ok (.iload 7, 2) := by decide +kernel
theorem dX7_weightedGain_71 : decode cX7_weightedGain 71 = .ok (.aload_n 0, 1) := by decide +kernel
theorem dX7_weightedGain_72 : decode cX7_weightedGain 72 = .ok (.getfield 31, 3) := by decide +kernel
theorem dX7_weightedGain_75 : decode cX7_weightedGain 75 = .ok (.iload 5, 2) := by decide +kernel
theorem dX7_weightedGain_77 : decode cX7_weightedGain 77 = .ok (.iload_n 3, 1) := by decide +kernel
theorem dX7_weightedGain_78 : decode cX7_weightedGain 78 = .ok (.ior, 1) := by decide +kernel
theorem dX7_weightedGain_79 : decode cX7_weightedGain 79 = .ok (.iaload, 1) := by decide +kernel
theorem dX7_weightedGain_80 : decode cX7_weightedGain 80 = .ok (.aload_n 0, 1) := by decide +kernel
theorem dX7_weightedGain_81 : decode cX7_weightedGain 81 = .ok (.getfield 31, 3) := by decide +kernel
theorem dX7_weightedGain_84 : decode cX7_weightedGain 84 = .ok (.iload 5, 2) := by decide +kernel
theorem dX7_weightedGain_86 : decode cX7_weightedGain 86 = .ok (.iaload, 1) := by decide +kernel
theorem dX7_weightedGain_87 : decode cX7_weightedGain 87 = .ok (.isub, 1) := by decide +kernel
theorem dX7_weightedGain_88 : decode cX7_weightedGain 88 = .ok (.imul, 1) := by decide +kernel
theorem dX7_weightedGain_89 : decode cX7_weightedGain 89 = .ok (.iadd, 1) := by decide +kernel
theorem dX7_weightedGain_90 : decode cX7_weightedGain 90 = .ok (.istore 4, 2) := by decide +kernel
theorem dX7_weightedGain_92 : decode cX7_weightedGain 92 = .ok (.iinc 5 1, 3) := by decide +kernel
theorem dX7_weightedGain_95 : decode cX7_weightedGain 95 = .ok (.goto (-73), 3) := by decide +kernel
theorem dX7_weightedGain_98 : decode cX7_weightedGain 98 = .ok (.iload 4, 2) := by decide +kernel
theorem dX7_weightedGain_100 : decode cX7_weightedGain 100 = .ok (.ireturn, 1) := by decide +kernel
theorem dX7_weightOfAtLeast_0 : decode cX7_weightOfAtLeast 0 = .ok (.lconst 0, 1) := by decide +kernel
theorem dX7_weightOfAtLeast_1 : decode cX7_weightOfAtLeast 1 = .ok (.lstore_n 3, 1) := by decide +kernel
theorem dX7_weightOfAtLeast_2 : decode cX7_weightOfAtLeast 2 = .ok (.iconst 0, 1) := by decide +kernel
theorem dX7_weightOfAtLeast_3 : decode cX7_weightOfAtLeast 3 = .ok (.istore 5, 2) := by decide +kernel
theorem dX7_weightOfAtLeast_5 : decode cX7_weightOfAtLeast 5 = .ok (.iload 5, 2) := by decide +kernel
theorem dX7_weightOfAtLeast_7 : decode cX7_weightOfAtLeast 7 = .ok (.iconst 1, 1) := by decide +kernel
theorem dX7_weightOfAtLeast_8 : decode cX7_weightOfAtLeast 8 = .ok (.aload_n 0, 1) := by decide +kernel
theorem dX7_weightOfAtLeast_9 : decode cX7_weightOfAtLeast 9 = .ok (.getfield 48, 3) := by decide +kernel
theorem dX7_weightOfAtLeast_12 : decode cX7_weightOfAtLeast 12 = .ok (.ishl, 1) := by decide +kernel
theorem dX7_weightOfAtLeast_13 : decode cX7_weightOfAtLeast 13 = .ok (.if_icmp .ge 51, 3) := by decide +kernel
theorem dX7_weightOfAtLeast_16 : decode cX7_weightOfAtLeast 16 = .ok (.aload_n 0, 1) := by decide +kernel
theorem dX7_weightOfAtLeast_17 : decode cX7_weightOfAtLeast 17 = .ok (.getfield 31, 3) := by decide +kernel
theorem dX7_weightOfAtLeast_20 : decode cX7_weightOfAtLeast 20 = .ok (.iload 5, 2) := by decide +kernel
theorem dX7_weightOfAtLeast_22 : decode cX7_weightOfAtLeast 22 = .ok (.iaload, 1) := by decide +kernel
theorem dX7_weightOfAtLeast_23 : decode cX7_weightOfAtLeast 23 = .ok (.iload_n 1, 1) := by decide +kernel
theorem dX7_weightOfAtLeast_24 : decode cX7_weightOfAtLeast 24 = .ok (.if_icmp .lt 34, 3) := by decide +kernel
theorem dX7_weightOfAtLeast_27 : decode cX7_weightOfAtLeast 27 = .ok (.iload 5, 2) := by decide +kernel
theorem dX7_weightOfAtLeast_29 : decode cX7_weightOfAtLeast 29 = .ok (.invokestatic 98, 3) := by decide +kernel
theorem dX7_weightOfAtLeast_32 : decode cX7_weightOfAtLeast 32 = .ok (.istore 6, 2) := by decide +kernel
theorem dX7_weightOfAtLeast_34 : decode cX7_weightOfAtLeast 34 = .ok (.lload_n 3, 1) := by decide +kernel
theorem dX7_weightOfAtLeast_35 : decode cX7_weightOfAtLeast 35 = .ok (.bipush 10, 2) := by decide +kernel
theorem dX7_weightOfAtLeast_37 : decode cX7_weightOfAtLeast 37 = .ok (.iload_n 2, 1) := by decide +kernel
theorem dX7_weightOfAtLeast_38 : decode cX7_weightOfAtLeast 38 = .ok (.isub, 1) := by decide +kernel
theorem dX7_weightOfAtLeast_39 : decode cX7_weightOfAtLeast 39 = .ok (.iload 6, 2) := by decide +kernel
theorem dX7_weightOfAtLeast_41 : decode cX7_weightOfAtLeast 41 = .ok (.invokestatic 106, 3) := by decide +kernel
theorem dX7_weightOfAtLeast_44 : decode cX7_weightOfAtLeast 44 = .ok (.iload_n 2, 1) := by decide +kernel
theorem dX7_weightOfAtLeast_45 : decode cX7_weightOfAtLeast 45 = .ok (.aload_n 0, 1) := by decide +kernel
theorem dX7_weightOfAtLeast_46 : decode cX7_weightOfAtLeast 46 = .ok (.getfield 48, 3) := by decide +kernel
theorem dX7_weightOfAtLeast_49 : decode cX7_weightOfAtLeast 49 = .ok (.iload 6, 2) := by decide +kernel
theorem dX7_weightOfAtLeast_51 : decode cX7_weightOfAtLeast 51 = .ok (.isub, 1) := by decide +kernel
theorem dX7_weightOfAtLeast_52 : decode cX7_weightOfAtLeast 52 = .ok (.invokestatic 106, 3) := by decide +kernel
theorem dX7_weightOfAtLeast_55 : decode cX7_weightOfAtLeast 55 = .ok (.lmul, 1) := by decide +kernel
theorem dX7_weightOfAtLeast_56 : decode cX7_weightOfAtLeast 56 = .ok (.ladd, 1) := by decide +kernel
theorem dX7_weightOfAtLeast_57 : decode cX7_weightOfAtLeast 57 = .ok (.lstore_n 3, 1) := by decide +kernel
theorem dX7_weightOfAtLeast_58 : decode cX7_weightOfAtLeast 58 = .ok (.iinc 5 1, 3) := by decide +kernel
theorem dX7_weightOfAtLeast_61 : decode cX7_weightOfAtLeast 61 = .ok (.goto (-56), 3) := by decide +kernel
theorem dX7_weightOfAtLeast_64 : decode cX7_weightOfAtLeast 64 = .ok (.lload_n 3, 1) := by decide +kernel
theorem dX7_weightOfAtLeast_65 : decode cX7_weightOfAtLeast 65 = .ok (.l2i, 1) := by decide +kernel
theorem dX7_weightOfAtLeast_66 : decode cX7_weightOfAtLeast 66 = .ok (.ireturn, 1) := by decide +kernel
theorem dX8_init_0 : decode cX8_init 0 = .ok (.aload_n 0, 1) := by decide +kernel
theorem dX8_init_1 : decode cX8_init 1 = .ok (.invokespecial 3, 3) := by decide +kernel
theorem dX8_init_4 : decode cX8_init 4 = .ok (.aload_n 0, 1) := by decide +kernel
theorem dX8_init_5 : decode cX8_init 5 = .ok (.bipush 80, 2) := by decide +kernel
theorem dX8_init_7 : decode cX8_init 7 = .ok (.newarray .int, 2) := by decide +kernel
theorem dX8_init_9 : decode cX8_init 9 = .ok (.putfield 9, 3) := by decide +kernel
theorem dX8_init_12 : decode cX8_init 12 = .ok (.return_, 1) := by decide +kernel
theorem dX8_readInto_0 : decode cX8_readInto 0 = .ok (.aload_n 1, 1) := by decide +kernel
theorem dX8_readInto_1 : decode cX8_readInto 1 = .ok (.iconst 0, 1) := by decide +kernel
theorem dX8_readInto_2 : decode cX8_readInto 2 = .ok (.putfield 15, 3) := by decide +kernel
theorem dX8_readInto_5 : decode cX8_readInto 5 = .ok (.aload_n 0, 1) := by decide +kernel
theorem dX8_readInto_6 : decode cX8_readInto 6 = .ok (.getfield 21, 3) := by decide +kernel
theorem dX8_readInto_9 : decode cX8_readInto 9 = .ok (.ifCond .eq 14, 3) := by decide +kernel
theorem dX8_readInto_12 : decode cX8_readInto 12 = .ok (.aload_n 0, 1) := by decide +kernel
theorem dX8_readInto_13 : decode cX8_readInto 13 = .ok (.getfield 9, 3) := by decide +kernel
theorem dX8_readInto_16 : decode cX8_readInto 16 = .ok (.iconst 0, 1) := by decide +kernel
theorem dX8_readInto_17 : decode cX8_readInto 17 = .ok (.iaload, 1) := by decide +kernel
theorem dX8_readInto_18 : decode cX8_readInto 18 = .ok (.bipush 67, 2) := by decide +kernel
theorem dX8_readInto_20 : decode cX8_readInto 20 = .ok (.if_icmp .eq 5, 3) := by decide +kernel
theorem dX8_readInto_23 : decode cX8_readInto 23 = .ok (.iconst 0, 1) := by decide +kernel
theorem dX8_readInto_24 : decode cX8_readInto 24 = .ok (.ireturn, 1) := by decide +kernel
theorem dX8_readInto_25 : decode cX8_readInto 25 = .ok (.iconst 1, 1) := by decide +kernel
theorem dX8_readInto_26 : decode cX8_readInto 26 = .ok (.istore_n 2, 1) := by decide +kernel
theorem dX8_readInto_27 : decode cX8_readInto 27 = .ok (.iconst 0, 1) := by decide +kernel
theorem dX8_readInto_28 : decode cX8_readInto 28 = .ok (.istore_n 3, 1) := by decide +kernel
theorem dX8_readInto_29 : decode cX8_readInto 29 = .ok (.iload_n 3, 1) := by decide +kernel
theorem dX8_readInto_30 : decode cX8_readInto 30 = .ok (.bipush 16, 2) := by decide +kernel
theorem dX8_readInto_32 : decode cX8_readInto 32 = .ok (.if_icmp .gt 92, 3) := by decide +kernel
theorem dX8_readInto_35 : decode cX8_readInto 35 = .ok (.iload_n 2, 1) := by decide +kernel
theorem dX8_readInto_36 : decode cX8_readInto 36 = .ok (.aload_n 0, 1) := by decide +kernel
theorem dX8_readInto_37 : decode cX8_readInto 37 = .ok (.getfield 21, 3) := by decide +kernel
theorem dX8_readInto_40 : decode cX8_readInto 40 = .ok (.if_icmp .ge 84, 3) := by decide +kernel
theorem dX8_readInto_43 : decode cX8_readInto 43 = .ok (.aload_n 0, 1) := by decide +kernel
theorem dX8_readInto_44 : decode cX8_readInto 44 = .ok (.getfield 9, 3) := by decide +kernel
theorem dX8_readInto_47 : decode cX8_readInto 47 = .ok (.iload_n 2, 1) := by decide +kernel
theorem dX8_readInto_48 : decode cX8_readInto 48 = .ok (.iaload, 1) := by decide +kernel
theorem dX8_readInto_49 : decode cX8_readInto 49 = .ok (.istore 4, 2) := by decide +kernel
theorem dX8_readInto_51 : decode cX8_readInto 51 = .ok (.iload_n 3, 1) := by decide +kernel
theorem dX8_readInto_52 : decode cX8_readInto 52 = .ok (.bipush 16, 2) := by decide +kernel
theorem dX8_readInto_54 : decode cX8_readInto 54 = .ok (.if_icmp .eq 14, 3) := by decide +kernel
theorem dX8_readInto_57 : decode cX8_readInto 57 = .ok (.ldc 24, 2) := by decide +kernel
theorem dX8_readInto_59 : decode cX8_readInto 59 = .ok (.iload 4, 2) := by decide +kernel
theorem dX8_readInto_61 : decode cX8_readInto 61 = .ok (.i2c, 1) := by decide +kernel
theorem dX8_readInto_62 : decode cX8_readInto 62 = .ok (.invokevirtual 26, 3) := by decide +kernel
theorem dX8_readInto_65 : decode cX8_readInto 65 = .ok (.ifCond .ge 5, 3) := by decide +kernel
theorem dX8_readInto_68 : decode cX8_readInto 68 = .ok (.iload_n 2, 1) := by decide +kernel
theorem dX8_readInto_69 : decode cX8_readInto 69 = .ok (.ireturn, 1) := by decide +kernel
theorem dX8_readInto_70 : decode cX8_readInto 70 = .ok (.iload 4, 2) := by decide +kernel
theorem dX8_readInto_72 : decode cX8_readInto 72 = .ok (.invokestatic 32, 3) := by decide +kernel
theorem dX8_readInto_75 : decode cX8_readInto 75 = .ok (.astore 5, 2) := by decide +kernel
theorem dX8_readInto_77 : decode cX8_readInto 77 = .ok (.aload_n 0, 1) := by decide +kernel
theorem dX8_readInto_78 : decode cX8_readInto 78 = .ok (.iload_n 2, 1) := by decide +kernel
theorem dX8_readInto_79 : decode cX8_readInto 79 = .ok (.iconst 1, 1) := by decide +kernel
theorem dX8_readInto_80 : decode cX8_readInto 80 = .ok (.iadd, 1) := by decide +kernel
theorem dX8_readInto_81 : decode cX8_readInto 81 = .ok (.aload 5, 2) := by decide +kernel
theorem dX8_readInto_83 : decode cX8_readInto 83 = .ok (.invokevirtual 36, 3) := by decide +kernel
theorem dX8_readInto_86 : decode cX8_readInto 86 = .ok (.istore 6, 2) := by decide +kernel
theorem dX8_readInto_88 : decode cX8_readInto 88 = .ok (.iload 6, 2) := by decide +kernel
theorem dX8_readInto_90 : decode cX8_readInto 90 = .ok (.iload_n 2, 1) := by decide +kernel
theorem dX8_readInto_91 : decode cX8_readInto 91 = .ok (.iconst 1, 1) := by decide +kernel
theorem dX8_readInto_92 : decode cX8_readInto 92 = .ok (.iadd, 1) := by decide +kernel
theorem dX8_readInto_93 : decode cX8_readInto 93 = .ok (.aload 5, 2) := by decide +kernel
theorem dX8_readInto_95 : decode cX8_readInto 95 = .ok (.invokevirtual 40, 3) := by decide +kernel
theorem dX8_readInto_98 : decode cX8_readInto 98 = .ok (.iadd, 1) := by decide +kernel
theorem dX8_readInto_99 : decode cX8_readInto 99 = .ok (.if_icmp .ge 6, 3) := by decide +kernel
theorem dX8_readInto_102 : decode cX8_readInto 102 = .ok (.iload 6, 2) := by decide +kernel
theorem dX8_readInto_104 : decode cX8_readInto 104 = .ok (.ireturn, 1) := by decide +kernel
theorem dX8_readInto_105 : decode cX8_readInto 105 = .ok (.aload_n 0, 1) := by decide +kernel
theorem dX8_readInto_106 : decode cX8_readInto 106 = .ok (.iload 4, 2) := by decide +kernel
theorem dX8_readInto_108 : decode cX8_readInto 108 = .ok (.iload_n 2, 1) := by decide +kernel
theorem dX8_readInto_109 : decode cX8_readInto 109 = .ok (.iconst 1, 1) := by decide +kernel
theorem dX8_readInto_110 : decode cX8_readInto 110 = .ok (.iadd, 1) := by decide +kernel
theorem dX8_readInto_111 : decode cX8_readInto 111 = .ok (.aload_n 1, 1) := by decide +kernel
theorem dX8_readInto_112 : decode cX8_readInto 112 = .ok (.invokevirtual 43, 3) := by decide +kernel
theorem dX8_readInto_115 : decode cX8_readInto 115 = .ok (.iload 6, 2) := by decide +kernel
theorem dX8_readInto_117 : decode cX8_readInto 117 = .ok (.istore_n 2, 1) := by decide +kernel
theorem dX8_readInto_118 : decode cX8_readInto 118 = .ok (.iinc 3 1, 3) := by decide +kernel
theorem dX8_readInto_121 : decode cX8_readInto 121 = .ok (.goto (-92), 3) := by decide +kernel
theorem dX8_readInto_124 : decode cX8_readInto 124 = .ok (.bipush (-9), 2) := by decide +kernel
theorem dX8_readInto_126 : decode cX8_readInto 126 = .ok (.ireturn, 1) := by decide +kernel
theorem dX8_formOf_0 : decode cX8_formOf 0 = .ok (.iload_n 0, 1) := by decide +kernel
theorem dX8_formOf_1 : decode cX8_formOf 1 = .ok (.lookupswitch 121 #[(43, 94), (45, 97), (99, 112), (105, 91), (106, 106), (107, 115), (108, 100), (111, 118), (115, 103), (122, 109)], 91) := by decide +kernel
theorem dX8_formOf_92 : decode cX8_formOf 92 = .ok (.ldc 47, 2) := by decide +kernel
theorem dX8_formOf_94 : decode cX8_formOf 94 = .ok (.areturn, 1) := by decide +kernel
theorem dX8_formOf_95 : decode cX8_formOf 95 = .ok (.ldc 49, 2) := by decide +kernel
theorem dX8_formOf_97 : decode cX8_formOf 97 = .ok (.areturn, 1) := by decide +kernel
theorem dX8_formOf_98 : decode cX8_formOf 98 = .ok (.ldc 49, 2) := by decide +kernel
theorem dX8_formOf_100 : decode cX8_formOf 100 = .ok (.areturn, 1) := by decide +kernel
theorem dX8_formOf_101 : decode cX8_formOf 101 = .ok (.ldc 51, 2) := by decide +kernel
theorem dX8_formOf_103 : decode cX8_formOf 103 = .ok (.areturn, 1) := by decide +kernel
theorem dX8_formOf_104 : decode cX8_formOf 104 = .ok (.ldc 51, 2) := by decide +kernel
theorem dX8_formOf_106 : decode cX8_formOf 106 = .ok (.areturn, 1) := by decide +kernel
theorem dX8_formOf_107 : decode cX8_formOf 107 = .ok (.ldc 53, 2) := by decide +kernel
theorem dX8_formOf_109 : decode cX8_formOf 109 = .ok (.areturn, 1) := by decide +kernel
theorem dX8_formOf_110 : decode cX8_formOf 110 = .ok (.ldc 55, 2) := by decide +kernel
theorem dX8_formOf_112 : decode cX8_formOf 112 = .ok (.areturn, 1) := by decide +kernel
theorem dX8_formOf_113 : decode cX8_formOf 113 = .ok (.ldc 57, 2) := by decide +kernel
theorem dX8_formOf_115 : decode cX8_formOf 115 = .ok (.areturn, 1) := by decide +kernel
theorem dX8_formOf_116 : decode cX8_formOf 116 = .ok (.ldc 59, 2) := by decide +kernel
theorem dX8_formOf_118 : decode cX8_formOf 118 = .ok (.areturn, 1) := by decide +kernel
theorem dX8_formOf_119 : decode cX8_formOf 119 = .ok (.ldc 59, 2) := by decide +kernel
theorem dX8_formOf_121 : decode cX8_formOf 121 = .ok (.areturn, 1) := by decide +kernel
theorem dX8_formOf_122 : decode cX8_formOf 122 = .ok (.ldc 61, 2) := by decide +kernel
theorem dX8_formOf_124 : decode cX8_formOf 124 = .ok (.areturn, 1) := by decide +kernel
theorem dX8_endOfMatch_0 : decode cX8_endOfMatch 0 = .ok (.iconst 0, 1) := by decide +kernel
theorem dX8_endOfMatch_1 : decode cX8_endOfMatch 1 = .ok (.istore_n 3, 1) := by decide +kernel
theorem dX8_endOfMatch_2 : decode cX8_endOfMatch 2 = .ok (.iload_n 3, 1) := by decide +kernel
theorem dX8_endOfMatch_3 : decode cX8_endOfMatch 3 = .ok (.aload_n 2, 1) := by decide +kernel
theorem dX8_endOfMatch_4 : decode cX8_endOfMatch 4 = .ok (.invokevirtual 40, 3) := by decide +kernel
theorem dX8_endOfMatch_7 : decode cX8_endOfMatch 7 = .ok (.if_icmp .ge 40, 3) := by decide +kernel
theorem dX8_endOfMatch_10 : decode cX8_endOfMatch 10 = .ok (.iload_n 1, 1) := by decide +kernel
theorem dX8_endOfMatch_11 : decode cX8_endOfMatch 11 = .ok (.iload_n 3, 1) := by decide +kernel
theorem dX8_endOfMatch_12 : decode cX8_endOfMatch 12 = .ok (.iadd, 1) := by decide +kernel
theorem dX8_endOfMatch_13 : decode cX8_endOfMatch 13 = .ok (.istore 4, 2) := by decide +kernel
theorem dX8_endOfMatch_15 : decode cX8_endOfMatch 15 = .ok (.iload 4, 2) := by decide +kernel
theorem dX8_endOfMatch_17 : decode cX8_endOfMatch 17 = .ok (.aload_n 0, 1) := by decide +kernel
theorem dX8_endOfMatch_18 : decode cX8_endOfMatch 18 = .ok (.getfield 21, 3) := by decide +kernel
theorem dX8_endOfMatch_21 : decode cX8_endOfMatch 21 = .ok (.if_icmp .ge 17, 3) := by decide +kernel
theorem dX8_endOfMatch_24 : decode cX8_endOfMatch 24 = .ok (.aload_n 0, 1) := by decide +kernel
theorem dX8_endOfMatch_25 : decode cX8_endOfMatch 25 = .ok (.aload_n 2, 1) := by decide +kernel
theorem dX8_endOfMatch_26 : decode cX8_endOfMatch 26 = .ok (.iload_n 3, 1) := by decide +kernel
theorem dX8_endOfMatch_27 : decode cX8_endOfMatch 27 = .ok (.invokevirtual 63, 3) := by decide +kernel
theorem dX8_endOfMatch_30 : decode cX8_endOfMatch 30 = .ok (.iload 4, 2) := by decide +kernel
theorem dX8_endOfMatch_32 : decode cX8_endOfMatch 32 = .ok (.invokevirtual 67, 3) := by decide +kernel
theorem dX8_endOfMatch_35 : decode cX8_endOfMatch 35 = .ok (.ifCond .ne 6, 3) := by decide +kernel
theorem dX8_endOfMatch_38 : decode cX8_endOfMatch 38 = .ok (.iload 4, 2) := by decide +kernel
theorem dX8_endOfMatch_40 : decode cX8_endOfMatch 40 = .ok (.ireturn, 1) := by decide +kernel
theorem dX8_endOfMatch_41 : decode cX8_endOfMatch 41 = .ok (.iinc 3 1, 3) := by decide +kernel
theorem dX8_endOfMatch_44 : decode cX8_endOfMatch 44 = .ok (.goto (-42), 3) := by decide +kernel
theorem dX8_endOfMatch_47 : decode cX8_endOfMatch 47 = .ok (.iload_n 1, 1) := by decide +kernel
theorem dX8_endOfMatch_48 : decode cX8_endOfMatch 48 = .ok (.aload_n 2, 1) := by decide +kernel
theorem dX8_endOfMatch_49 : decode cX8_endOfMatch 49 = .ok (.invokevirtual 40, 3) := by decide +kernel
theorem dX8_endOfMatch_52 : decode cX8_endOfMatch 52 = .ok (.iadd, 1) := by decide +kernel
theorem dX8_endOfMatch_53 : decode cX8_endOfMatch 53 = .ok (.ireturn, 1) := by decide +kernel
theorem dX8_fits_0 : decode cX8_fits 0 = .ok (.aload_n 0, 1) := by decide +kernel
theorem dX8_fits_1 : decode cX8_fits 1 = .ok (.getfield 9, 3) := by decide +kernel
theorem dX8_fits_4 : decode cX8_fits 4 = .ok (.iload_n 2, 1) := by decide +kernel
theorem dX8_fits_5 : decode cX8_fits 5 = .ok (.iaload, 1) := by decide +kernel
theorem dX8_fits_6 : decode cX8_fits 6 = .ok (.istore_n 3, 1) := by decide +kernel
theorem dX8_fits_7 : decode cX8_fits 7 = .ok (.iload_n 1, 1) := by decide +kernel
theorem dX8_fits_8 : decode cX8_fits 8 = .ok (.tableswitch 160 109 117 #[88, 160, 160, 160, 160, 70, 52, 106, 124], 52) := by decide +kernel
theorem dX8_fits_60 : decode cX8_fits 60 = .ok (.iload_n 3, 1) := by decide +kernel
theorem dX8_fits_61 : decode cX8_fits 61 = .ok (.bipush 43, 2) := by decide +kernel
theorem dX8_fits_63 : decode cX8_fits 63 = .ok (.if_icmp .eq 9, 3) := by decide +kernel
theorem dX8_fits_66 : decode cX8_fits 66 = .ok (.iload_n 3, 1) := by decide +kernel
theorem dX8_fits_67 : decode cX8_fits 67 = .ok (.bipush 45, 2) := by decide +kernel
theorem dX8_fits_69 : decode cX8_fits 69 = .ok (.if_icmp .ne 7, 3) := by decide +kernel
theorem dX8_fits_72 : decode cX8_fits 72 = .ok (.iconst 1, 1) := by decide +kernel
theorem dX8_fits_73 : decode cX8_fits 73 = .ok (.goto 4, 3) := by decide +kernel
theorem dX8_fits_76 : decode cX8_fits 76 = .ok (.iconst 0, 1) := by decide +kernel
theorem dX8_fits_77 : decode cX8_fits 77 = .ok (.ireturn, 1) := by decide +kernel
theorem dX8_fits_78 : decode cX8_fits 78 = .ok (.iload_n 3, 1) := by decide +kernel
theorem dX8_fits_79 : decode cX8_fits 79 = .ok (.bipush 48, 2) := by decide +kernel
theorem dX8_fits_81 : decode cX8_fits 81 = .ok (.if_icmp .lt 13, 3) := by decide +kernel
theorem dX8_fits_84 : decode cX8_fits 84 = .ok (.iload_n 3, 1) := by decide +kernel
theorem dX8_fits_85 : decode cX8_fits 85 = .ok (.bipush 51, 2) := by decide +kernel
theorem dX8_fits_87 : decode cX8_fits 87 = .ok (.if_icmp .gt 7, 3) := by decide +kernel
theorem dX8_fits_90 : decode cX8_fits 90 = .ok (.iconst 1, 1) := by decide +kernel
theorem dX8_fits_91 : decode cX8_fits 91 = .ok (.goto 4, 3) := by decide +kernel
theorem dX8_fits_94 : decode cX8_fits 94 = .ok (.iconst 0, 1) := by decide +kernel
theorem dX8_fits_95 : decode cX8_fits 95 = .ok (.ireturn, 1) := by decide +kernel
theorem dX8_fits_96 : decode cX8_fits 96 = .ok (.iload_n 3, 1) := by decide +kernel
theorem dX8_fits_97 : decode cX8_fits 97 = .ok (.bipush 48, 2) := by decide +kernel
theorem dX8_fits_99 : decode cX8_fits 99 = .ok (.if_icmp .lt 13, 3) := by decide +kernel
theorem dX8_fits_102 : decode cX8_fits 102 = .ok (.iload_n 3, 1) := by decide +kernel
theorem dX8_fits_103 : decode cX8_fits 103 = .ok (.bipush 55, 2) := by decide +kernel
theorem dX8_fits_105 : decode cX8_fits 105 = .ok (.if_icmp .gt 7, 3) := by decide +kernel
theorem dX8_fits_108 : decode cX8_fits 108 = .ok (.iconst 1, 1) := by decide +kernel
theorem dX8_fits_109 : decode cX8_fits 109 = .ok (.goto 4, 3) := by decide +kernel
theorem dX8_fits_112 : decode cX8_fits 112 = .ok (.iconst 0, 1) := by decide +kernel
theorem dX8_fits_113 : decode cX8_fits 113 = .ok (.ireturn, 1) := by decide +kernel
theorem dX8_fits_114 : decode cX8_fits 114 = .ok (.iload_n 3, 1) := by decide +kernel
theorem dX8_fits_115 : decode cX8_fits 115 = .ok (.bipush 48, 2) := by decide +kernel
theorem dX8_fits_117 : decode cX8_fits 117 = .ok (.if_icmp .eq 9, 3) := by decide +kernel
theorem dX8_fits_120 : decode cX8_fits 120 = .ok (.iload_n 3, 1) := by decide +kernel
theorem dX8_fits_121 : decode cX8_fits 121 = .ok (.bipush 49, 2) := by decide +kernel
theorem dX8_fits_123 : decode cX8_fits 123 = .ok (.if_icmp .ne 7, 3) := by decide +kernel
theorem dX8_fits_126 : decode cX8_fits 126 = .ok (.iconst 1, 1) := by decide +kernel
theorem dX8_fits_127 : decode cX8_fits 127 = .ok (.goto 4, 3) := by decide +kernel
theorem dX8_fits_130 : decode cX8_fits 130 = .ok (.iconst 0, 1) := by decide +kernel
theorem dX8_fits_131 : decode cX8_fits 131 = .ok (.ireturn, 1) := by decide +kernel
theorem dX8_fits_132 : decode cX8_fits 132 = .ok (.iload_n 3, 1) := by decide +kernel
theorem dX8_fits_133 : decode cX8_fits 133 = .ok (.bipush 48, 2) := by decide +kernel
theorem dX8_fits_135 : decode cX8_fits 135 = .ok (.if_icmp .lt 31, 3) := by decide +kernel
theorem dX8_fits_138 : decode cX8_fits 138 = .ok (.iload_n 3, 1) := by decide +kernel
theorem dX8_fits_139 : decode cX8_fits 139 = .ok (.aload_n 0, 1) := by decide +kernel
theorem dX8_fits_140 : decode cX8_fits 140 = .ok (.getfield 9, 3) := by decide +kernel
theorem dX8_fits_143 : decode cX8_fits 143 = .ok (.iload_n 2, 1) := by decide +kernel
theorem dX8_fits_144 : decode cX8_fits 144 = .ok (.iconst 1, 1) := by decide +kernel
theorem dX8_fits_145 : decode cX8_fits 145 = .ok (.isub, 1) := by decide +kernel
theorem dX8_fits_146 : decode cX8_fits 146 = .ok (.iaload, 1) := by decide +kernel
theorem dX8_fits_147 : decode cX8_fits 147 = .ok (.bipush 49, 2) := by decide +kernel
theorem dX8_fits_149 : decode cX8_fits 149 = .ok (.if_icmp .ne 8, 3) := by decide +kernel
theorem dX8_fits_152 : decode cX8_fits 152 = .ok (.bipush 53, 2) := by decide +kernel
theorem dX8_fits_154 : decode cX8_fits 154 = .ok (.goto 5, 3) := by decide +kernel
theorem dX8_fits_157 : decode cX8_fits 157 = .ok (.bipush 57, 2) := by decide +kernel
theorem dX8_fits_159 : decode cX8_fits 159 = .ok (.if_icmp .gt 7, 3) := by decide +kernel
theorem dX8_fits_162 : decode cX8_fits 162 = .ok (.iconst 1, 1) := by decide +kernel
theorem dX8_fits_163 : decode cX8_fits 163 = .ok (.goto 4, 3) := by decide +kernel
theorem dX8_fits_166 : decode cX8_fits 166 = .ok (.iconst 0, 1) := by decide +kernel
theorem dX8_fits_167 : decode cX8_fits 167 = .ok (.ireturn, 1) := by decide +kernel
theorem dX8_fits_168 : decode cX8_fits 168 = .ok (.iload_n 3, 1) := by decide +kernel
theorem dX8_fits_169 : decode cX8_fits 169 = .ok (.bipush 48, 2) := by decide +kernel
theorem dX8_fits_171 : decode cX8_fits 171 = .ok (.if_icmp .lt 13, 3) := by decide +kernel
theorem dX8_fits_174 : decode cX8_fits 174 = .ok (.iload_n 3, 1) := by decide +kernel
theorem dX8_fits_175 : decode cX8_fits 175 = .ok (.bipush 57, 2) := by decide +kernel
theorem dX8_fits_177 : decode cX8_fits 177 = .ok (.if_icmp .gt 7, 3) := by decide +kernel
theorem dX8_fits_180 : decode cX8_fits 180 = .ok (.iconst 1, 1) := by decide +kernel
theorem dX8_fits_181 : decode cX8_fits 181 = .ok (.goto 4, 3) := by decide +kernel
theorem dX8_fits_184 : decode cX8_fits 184 = .ok (.iconst 0, 1) := by decide +kernel
theorem dX8_fits_185 : decode cX8_fits 185 = .ok (.ireturn, 1) := by decide +kernel
theorem dX8_addInstruction_0 : decode cX8_addInstruction 0 = .ok (.iload_n 1, 1) := by decide +kernel
theorem dX8_addInstruction_1 : decode cX8_addInstruction 1 = .ok (.tableswitch 222 98 122 #[174, 149, 222, 222, 222, 222, 184, 222, 115, 194, 222, 222, 222, 208, 222, 222, 222, 222, 222, 222, 222, 222, 222, 222, 129], 115) := by decide +kernel
theorem dX8_addInstruction_116 : decode cX8_addInstruction 116 = .ok (.aload_n 3, 1) := by decide +kernel
theorem dX8_addInstruction_117 : decode cX8_addInstruction 117 = .ok (.iload_n 1, 1) := by decide +kernel
theorem dX8_addInstruction_118 : decode cX8_addInstruction 118 = .ok (.iconst 0, 1) := by decide +kernel
theorem dX8_addInstruction_119 : decode cX8_addInstruction 119 = .ok (.aload_n 0, 1) := by decide +kernel
theorem dX8_addInstruction_120 : decode cX8_addInstruction 120 = .ok (.iload_n 2, 1) := by decide +kernel
theorem dX8_addInstruction_121 : decode cX8_addInstruction 121 = .ok (.invokevirtual 71, 3) := by decide +kernel
theorem dX8_addInstruction_124 : decode cX8_addInstruction 124 = .ok (.invokevirtual 74, 3) := by decide +kernel
theorem dX8_addInstruction_127 : decode cX8_addInstruction 127 = .ok (.goto 113, 3) := by decide +kernel
theorem dX8_addInstruction_130 : decode cX8_addInstruction 130 = .ok (.aload_n 3, 1) := by decide +kernel
theorem dX8_addInstruction_131 : decode cX8_addInstruction 131 = .ok (.iload_n 1, 1) := by decide +kernel
theorem dX8_addInstruction_132 : decode cX8_addInstruction 132 = .ok (.aload_n 0, 1) := by decide +kernel
theorem dX8_addInstruction_133 : decode cX8_addInstruction 133 = .ok (.iload_n 2, 1) := by decide +kernel
theorem dX8_addInstruction_134 : decode cX8_addInstruction 134 = .ok (.invokevirtual 78, 3) := by decide +kernel
theorem dX8_addInstruction_137 : decode cX8_addInstruction 137 = .ok (.aload_n 0, 1) := by decide +kernel
theorem dX8_addInstruction_138 : decode cX8_addInstruction 138 = .ok (.iload_n 2, 1) := by decide +kernel
theorem dX8_addInstruction_139 : decode cX8_addInstruction 139 = .ok (.iconst 1, 1) := by decide +kernel
theorem dX8_addInstruction_140 : decode cX8_addInstruction 140 = .ok (.iadd, 1) := by decide +kernel
theorem dX8_addInstruction_141 : decode cX8_addInstruction 141 = .ok (.invokevirtual 71, 3) := by decide +kernel
theorem dX8_addInstruction_144 : decode cX8_addInstruction 144 = .ok (.invokevirtual 74, 3) := by decide +kernel
theorem dX8_addInstruction_147 : decode cX8_addInstruction 147 = .ok (.goto 93, 3) := by decide +kernel
theorem dX8_addInstruction_150 : decode cX8_addInstruction 150 = .ok (.aload_n 3, 1) := by decide +kernel
theorem dX8_addInstruction_151 : decode cX8_addInstruction 151 = .ok (.iload_n 1, 1) := by decide +kernel
theorem dX8_addInstruction_152 : decode cX8_addInstruction 152 = .ok (.iconst 0, 1) := by decide +kernel
theorem dX8_addInstruction_153 : decode cX8_addInstruction 153 = .ok (.bipush 10, 2) := by decide +kernel
theorem dX8_addInstruction_155 : decode cX8_addInstruction 155 = .ok (.aload_n 0, 1) := by decide +kernel
theorem dX8_addInstruction_156 : decode cX8_addInstruction 156 = .ok (.iload_n 2, 1) := by decide +kernel
theorem dX8_addInstruction_157 : decode cX8_addInstruction 157 = .ok (.invokevirtual 78, 3) := by decide +kernel
theorem dX8_addInstruction_160 : decode cX8_addInstruction 160 = .ok (.imul, 1) := by decide +kernel
theorem dX8_addInstruction_161 : decode cX8_addInstruction 161 = .ok (.aload_n 0, 1) := by decide +kernel
theorem dX8_addInstruction_162 : decode cX8_addInstruction 162 = .ok (.iload_n 2, 1) := by decide +kernel
theorem dX8_addInstruction_163 : decode cX8_addInstruction 163 = .ok (.iconst 1, 1) := by decide +kernel
theorem dX8_addInstruction_164 : decode cX8_addInstruction 164 = .ok (.iadd, 1) := by decide +kernel
theorem dX8_addInstruction_165 : decode cX8_addInstruction 165 = .ok (.invokevirtual 78, 3) := by decide +kernel
theorem dX8_addInstruction_168 : decode cX8_addInstruction 168 = .ok (.iadd, 1) := by decide +kernel
theorem dX8_addInstruction_169 : decode cX8_addInstruction 169 = .ok (.invokevirtual 74, 3) := by decide +kernel
theorem dX8_addInstruction_172 : decode cX8_addInstruction 172 = .ok (.goto 68, 3) := by decide +kernel
theorem dX8_addInstruction_175 : decode cX8_addInstruction 175 = .ok (.aload_n 3, 1) := by decide +kernel
theorem dX8_addInstruction_176 : decode cX8_addInstruction 176 = .ok (.iload_n 1, 1) := by decide +kernel
theorem dX8_addInstruction_177 : decode cX8_addInstruction 177 = .ok (.iconst 0, 1) := by decide +kernel
theorem dX8_addInstruction_178 : decode cX8_addInstruction 178 = .ok (.iconst 0, 1) := by decide +kernel
theorem dX8_addInstruction_179 : decode cX8_addInstruction 179 = .ok (.invokevirtual 74, 3) := by decide +kernel
theorem dX8_addInstruction_182 : decode cX8_addInstruction 182 = .ok (.goto 58, 3) := by decide +kernel
theorem dX8_addInstruction_185 : decode cX8_addInstruction 185 = .ok (.aload_n 3, 1) := by decide +kernel
theorem dX8_addInstruction_186 : decode cX8_addInstruction 186 = .ok (.iload_n 1, 1) := by decide +kernel
theorem dX8_addInstruction_187 : decode cX8_addInstruction 187 = .ok (.iconst 0, 1) := by decide +kernel
theorem dX8_addInstruction_188 : decode cX8_addInstruction 188 = .ok (.iconst 0, 1) := by decide +kernel
theorem dX8_addInstruction_189 : decode cX8_addInstruction 189 = .ok (.invokevirtual 74, 3) := by decide +kernel
theorem dX8_addInstruction_192 : decode cX8_addInstruction 192 = .ok (.goto 48, 3) := by decide +kernel
theorem dX8_addInstruction_195 : decode cX8_addInstruction 195 = .ok (.aload_n 3, 1) := by decide +kernel
theorem dX8_addInstruction_196 : decode cX8_addInstruction 196 = .ok (.iload_n 1, 1) := by decide +kernel
theorem dX8_addInstruction_197 : decode cX8_addInstruction 197 = .ok (.aload_n 0, 1) := by decide +kernel
theorem dX8_addInstruction_198 : decode cX8_addInstruction 198 = .ok (.iload_n 2, 1) := by decide +kernel
theorem dX8_addInstruction_199 : decode cX8_addInstruction 199 = .ok (.invokevirtual 78, 3) := by decide +kernel
theorem dX8_addInstruction_202 : decode cX8_addInstruction 202 = .ok (.iconst 0, 1) := by decide +kernel
theorem dX8_addInstruction_203 : decode cX8_addInstruction 203 = .ok (.invokevirtual 74, 3) := by decide +kernel
theorem dX8_addInstruction_206 : decode cX8_addInstruction 206 = .ok (.goto 34, 3) := by decide +kernel
theorem dX8_addInstruction_209 : decode cX8_addInstruction 209 = .ok (.aload_n 3, 1) := by decide +kernel
theorem dX8_addInstruction_210 : decode cX8_addInstruction 210 = .ok (.iload_n 1, 1) := by decide +kernel
theorem dX8_addInstruction_211 : decode cX8_addInstruction 211 = .ok (.aload_n 0, 1) := by decide +kernel
theorem dX8_addInstruction_212 : decode cX8_addInstruction 212 = .ok (.iload_n 2, 1) := by decide +kernel
theorem dX8_addInstruction_213 : decode cX8_addInstruction 213 = .ok (.invokevirtual 78, 3) := by decide +kernel
theorem dX8_addInstruction_216 : decode cX8_addInstruction 216 = .ok (.iconst 0, 1) := by decide +kernel
theorem dX8_addInstruction_217 : decode cX8_addInstruction 217 = .ok (.invokevirtual 74, 3) := by decide +kernel
theorem dX8_addInstruction_220 : decode cX8_addInstruction 220 = .ok (.goto 20, 3) := by decide +kernel
theorem dX8_addInstruction_223 : decode cX8_addInstruction 223 = .ok (.aload_n 3, 1) := by decide +kernel
theorem dX8_addInstruction_224 : decode cX8_addInstruction 224 = .ok (.iload_n 1, 1) := by decide +kernel
theorem dX8_addInstruction_225 : decode cX8_addInstruction 225 = .ok (.aload_n 0, 1) := by decide +kernel
theorem dX8_addInstruction_226 : decode cX8_addInstruction 226 = .ok (.iload_n 2, 1) := by decide +kernel
theorem dX8_addInstruction_227 : decode cX8_addInstruction 227 = .ok (.invokevirtual 78, 3) := by decide +kernel
theorem dX8_addInstruction_230 : decode cX8_addInstruction 230 = .ok (.aload_n 0, 1) := by decide +kernel
theorem dX8_addInstruction_231 : decode cX8_addInstruction 231 = .ok (.iload_n 2, 1) := by decide +kernel
theorem dX8_addInstruction_232 : decode cX8_addInstruction 232 = .ok (.iconst 1, 1) := by decide +kernel
theorem dX8_addInstruction_233 : decode cX8_addInstruction 233 = .ok (.iadd, 1) := by decide +kernel
theorem dX8_addInstruction_234 : decode cX8_addInstruction 234 = .ok (.invokevirtual 78, 3) := by decide +kernel
theorem dX8_addInstruction_237 : decode cX8_addInstruction 237 = .ok (.invokevirtual 74, 3) := by decide +kernel
theorem dX8_addInstruction_240 : decode cX8_addInstruction 240 = .ok (.return_, 1) := by decide +kernel
theorem dX8_distance_0 : decode cX8_distance 0 = .ok (.aload_n 0, 1) := by decide +kernel
theorem dX8_distance_1 : decode cX8_distance 1 = .ok (.getfield 9, 3) := by decide +kernel
theorem dX8_distance_4 : decode cX8_distance 4 = .ok (.iload_n 1, 1) := by decide +kernel
theorem dX8_distance_5 : decode cX8_distance 5 = .ok (.iaload, 1) := by decide +kernel
theorem dX8_distance_6 : decode cX8_distance 6 = .ok (.bipush 45, 2) := by decide +kernel
theorem dX8_distance_8 : decode cX8_distance 8 = .ok (.if_icmp .ne 14, 3) := by decide +kernel
theorem dX8_distance_11 : decode cX8_distance 11 = .ok (.aload_n 0, 1) := by decide +kernel
theorem dX8_distance_12 : decode cX8_distance 12 = .ok (.iload_n 1, 1) := by decide +kernel
theorem dX8_distance_13 : decode cX8_distance 13 = .ok (.iconst 1, 1) := by decide +kernel
theorem dX8_distance_14 : decode cX8_distance 14 = .ok (.iadd, 1) := by decide +kernel
theorem dX8_distance_15 : decode cX8_distance 15 = .ok (.invokevirtual 78, 3) := by decide +kernel
theorem dX8_distance_18 : decode cX8_distance 18 = .ok (.ineg, 1) := by decide +kernel
theorem dX8_distance_19 : decode cX8_distance 19 = .ok (.goto 10, 3) := by decide +kernel
theorem dX8_distance_22 : decode cX8_distance 22 = .ok (.aload_n 0, 1) := by decide +kernel
theorem dX8_distance_23 : decode cX8_distance 23 = .ok (.iload_n 1, 1) := by decide +kernel
theorem dX8_distance_24 : decode cX8_distance 24 = .ok (.iconst 1, 1) := by decide +kernel
theorem dX8_distance_25 : decode cX8_distance 25 = .ok (.iadd, 1) := by decide +kernel
theorem dX8_distance_26 : decode cX8_distance 26 = .ok (.invokevirtual 78, 3) := by decide +kernel
theorem dX8_distance_29 : decode cX8_distance 29 = .ok (.ireturn, 1) := by decide +kernel
theorem dX8_digit_0 : decode cX8_digit 0 = .ok (.aload_n 0, 1) := by decide +kernel
theorem dX8_digit_1 : decode cX8_digit 1 = .ok (.getfield 9, 3) := by decide +kernel
theorem dX8_digit_4 : decode cX8_digit 4 = .ok (.iload_n 1, 1) := by decide +kernel
theorem dX8_digit_5 : decode cX8_digit 5 = .ok (.iaload, 1) := by decide +kernel
theorem dX8_digit_6 : decode cX8_digit 6 = .ok (.bipush 48, 2) := by decide +kernel
theorem dX8_digit_8 : decode cX8_digit 8 = .ok (.isub, 1) := by decide +kernel
theorem dX8_digit_9 : decode cX8_digit 9 = .ok (.ireturn, 1) := by decide +kernel
end
section
theorem dX9_init_0 : decode cX9_init 0 = .ok (.aload_n 0, 1) := by decide +kernel
theorem dX9_init_1 : decode cX9_init 1 = .ok (.invokespecial 1, 3) := by decide +kernel
theorem dX9_init_4 : decode cX9_init 4 = .ok (.aload_n 0, 1) := by decide +kernel
theorem dX9_init_5 : decode cX9_init 5 = .ok (.new 7, 3) := by decide +kernel
theorem dX9_init_8 : decode cX9_init 8 = .ok (.dup, 1) := by decide +kernel
theorem dX9_init_9 : decode cX9_init 9 = .ok (.invokespecial 9, 3) := by decide +kernel
theorem dX9_init_12 : decode cX9_init 12 = .ok (.putfield 10, 3) := by decide +kernel
theorem dX9_init_15 : decode cX9_init 15 = .ok (.aload_n 0, 1) := by decide +kernel
theorem dX9_init_16 : decode cX9_init 16 = .ok (.new 16, 3) := by decide +kernel
theorem dX9_init_19 : decode cX9_init 19 = .ok (.dup, 1) := by decide +kernel
theorem dX9_init_20 : decode cX9_init 20 = .ok (.invokespecial 18, 3) := by decide +kernel
theorem dX9_init_23 : decode cX9_init 23 = .ok (.putfield 19, 3) := by decide +kernel
theorem dX9_init_26 : decode cX9_init 26 = .ok (.aload_n 0, 1) := by decide +kernel
theorem dX9_init_27 : decode cX9_init 27 = .ok (.new 16, 3) := by decide +kernel
theorem dX9_init_30 : decode cX9_init 30 = .ok (.dup, 1) := by decide +kernel
theorem dX9_init_31 : decode cX9_init 31 = .ok (.invokespecial 18, 3) := by decide +kernel
theorem dX9_init_34 : decode cX9_init 34 = .ok (.putfield 23, 3) := by decide +kernel
theorem dX9_init_37 : decode cX9_init 37 = .ok (.aload_n 0, 1) := by decide +kernel
theorem dX9_init_38 : decode cX9_init 38 = .ok (.new 26, 3) := by decide +kernel
theorem dX9_init_41 : decode cX9_init 41 = .ok (.dup, 1) := by decide +kernel
theorem dX9_init_42 : decode cX9_init 42 = .ok (.invokespecial 28, 3) := by decide +kernel
theorem dX9_init_45 : decode cX9_init 45 = .ok (.putfield 29, 3) := by decide +kernel
theorem dX9_init_48 : decode cX9_init 48 = .ok (.aload_n 0, 1) := by decide +kernel
theorem dX9_init_49 : decode cX9_init 49 = .ok (.new 26, 3) := by decide +kernel
theorem dX9_init_52 : decode cX9_init 52 = .ok (.dup, 1) := by decide +kernel
theorem dX9_init_53 : decode cX9_init 53 = .ok (.invokespecial 28, 3) := by decide +kernel
theorem dX9_init_56 : decode cX9_init 56 = .ok (.putfield 33, 3) := by decide +kernel
theorem dX9_init_59 : decode cX9_init 59 = .ok (.aload_n 0, 1) := by decide +kernel
theorem dX9_init_60 : decode cX9_init 60 = .ok (.new 36, 3) := by decide +kernel
theorem dX9_init_63 : decode cX9_init 63 = .ok (.dup, 1) := by decide +kernel
theorem dX9_init_64 : decode cX9_init 64 = .ok (.invokespecial 38, 3) := by decide +kernel
theorem dX9_init_67 : decode cX9_init 67 = .ok (.putfield 39, 3) := by decide +kernel
theorem dX9_init_70 : decode cX9_init 70 = .ok (.aload_n 0, 1) := by decide +kernel
theorem dX9_init_71 : decode cX9_init 71 = .ok (.iconst 2, 1) := by decide +kernel
theorem dX9_init_72 : decode cX9_init 72 = .ok (.anewarray 26, 3) := by decide +kernel
theorem dX9_init_75 : decode cX9_init 75 = .ok (.putfield 43, 3) := by decide +kernel
theorem dX9_init_78 : decode cX9_init 78 = .ok (.aload_n 0, 1) := by decide +kernel
theorem dX9_init_79 : decode cX9_init 79 = .ok (.iconst 2, 1) := by decide +kernel
theorem dX9_init_80 : decode cX9_init 80 = .ok (.newarray .boolean, 2) := by decide +kernel
theorem dX9_init_82 : decode cX9_init 82 = .ok (.putfield 47, 3) := by decide +kernel
theorem dX9_init_85 : decode cX9_init 85 = .ok (.aload_n 0, 1) := by decide +kernel
theorem dX9_init_86 : decode cX9_init 86 = .ok (.new 51, 3) := by decide +kernel
theorem dX9_init_89 : decode cX9_init 89 = .ok (.dup, 1) := by decide +kernel
theorem dX9_init_90 : decode cX9_init 90 = .ok (.invokespecial 53, 3) := by decide +kernel
theorem dX9_init_93 : decode cX9_init 93 = .ok (.putfield 54, 3) := by decide +kernel
theorem dX9_init_96 : decode cX9_init 96 = .ok (.aload_n 0, 1) := by decide +kernel
theorem dX9_init_97 : decode cX9_init 97 = .ok (.new 58, 3) := by decide +kernel
theorem dX9_init_100 : decode cX9_init 100 = .ok (.dup, 1) := by decide +kernel
theorem dX9_init_101 : decode cX9_init 101 = .ok (.invokespecial 60, 3) := by decide +kernel
theorem dX9_init_104 : decode cX9_init 104 = .ok (.putfield 61, 3) := by decide +kernel
theorem dX9_init_107 : decode cX9_init 107 = .ok (.aload_n 0, 1) := by decide +kernel
theorem dX9_init_108 : decode cX9_init 108 = .ok (.new 65, 3) := by decide +kernel
theorem dX9_init_111 : decode cX9_init 111 = .ok (.dup, 1) := by decide +kernel
theorem dX9_init_112 : decode cX9_init 112 = .ok (.invokespecial 67, 3) := by decide +kernel
theorem dX9_init_115 : decode cX9_init 115 = .ok (.putfield 68, 3) := by decide +kernel
theorem dX9_init_118 : decode cX9_init 118 = .ok (.iconst 0, 1) := by decide +kernel
theorem dX9_init_119 : decode cX9_init 119 = .ok (.istore_n 1, 1) := by decide +kernel
theorem dX9_init_120 : decode cX9_init 120 = .ok (.iload_n 1, 1) := by decide +kernel
theorem dX9_init_121 : decode cX9_init 121 = .ok (.iconst 2, 1) := by decide +kernel
theorem dX9_init_122 : decode cX9_init 122 = .ok (.if_icmp .ge 22, 3) := by decide +kernel
theorem dX9_init_125 : decode cX9_init 125 = .ok (.aload_n 0, 1) := by decide +kernel
theorem dX9_init_126 : decode cX9_init 126 = .ok (.getfield 43, 3) := by decide +kernel
theorem dX9_init_129 : decode cX9_init 129 = .ok (.iload_n 1, 1) := by decide +kernel
theorem dX9_init_130 : decode cX9_init 130 = .ok (.new 26, 3) := by decide +kernel
theorem dX9_init_133 : decode cX9_init 133 = .ok (.dup, 1) := by decide +kernel
theorem dX9_init_134 : decode cX9_init 134 = .ok (.invokespecial 28, 3) := by decide +kernel
theorem dX9_init_137 : decode cX9_init 137 = .ok (.aastore, 1) := by decide +kernel
theorem dX9_init_138 : decode cX9_init 138 = .ok (.iinc 1 1, 3) := by decide +kernel
theorem dX9_init_141 : decode cX9_init 141 = .ok (.goto (-21), 3) := by decide +kernel
theorem dX9_init_144 : decode cX9_init 144 = .ok (.return_, 1) := by decide +kernel
theorem dX9_write_0 : decode cX9_write 0 = .ok (.iload_n 1, 1) := by decide +kernel
theorem dX9_write_1 : decode cX9_write 1 = .ok (.ifCond .lt 10, 3) := by decide +kernel
theorem dX9_write_4 : decode cX9_write 4 = .ok (.iload_n 1, 1) := by decide +kernel
theorem dX9_write_5 : decode cX9_write 5 = .ok (.sipush 255, 3) := by decide +kernel
theorem dX9_write_8 : decode cX9_write 8 = .ok (.if_icmp .le 6, 3) := by decide +kernel
theorem dX9_write_11 : decode cX9_write 11 = .ok (.bipush (-2), 2) := by decide +kernel
theorem dX9_write_13 : decode cX9_write 13 = .ok (.ireturn, 1) := by decide +kernel
theorem dX9_write_14 : decode cX9_write 14 = .ok (.aload_n 0, 1) := by decide +kernel
theorem dX9_write_15 : decode cX9_write 15 = .ok (.getfield 10, 3) := by decide +kernel
theorem dX9_write_18 : decode cX9_write 18 = .ok (.getfield 72, 3) := by decide +kernel
theorem dX9_write_21 : decode cX9_write 21 = .ok (.bipush 80, 2) := by decide +kernel
theorem dX9_write_23 : decode cX9_write 23 = .ok (.if_icmp .lt 6, 3) := by decide +kernel
theorem dX9_write_26 : decode cX9_write 26 = .ok (.bipush (-4), 2) := by decide +kernel
theorem dX9_write_28 : decode cX9_write 28 = .ok (.ireturn, 1) := by decide +kernel
theorem dX9_write_29 : decode cX9_write 29 = .ok (.aload_n 0, 1) := by decide +kernel
theorem dX9_write_30 : decode cX9_write 30 = .ok (.getfield 10, 3) := by decide +kernel
theorem dX9_write_33 : decode cX9_write 33 = .ok (.getfield 76, 3) := by decide +kernel
theorem dX9_write_36 : decode cX9_write 36 = .ok (.aload_n 0, 1) := by decide +kernel
theorem dX9_write_37 : decode cX9_write 37 = .ok (.getfield 10, 3) := by decide +kernel
theorem dX9_write_40 : decode cX9_write 40 = .ok (.getfield 72, 3) := by decide +kernel
theorem dX9_write_43 : decode cX9_write 43 = .ok (.iload_n 1, 1) := by decide +kernel
theorem dX9_write_44 : decode cX9_write 44 = .ok (.iastore, 1) := by decide +kernel
theorem dX9_write_45 : decode cX9_write 45 = .ok (.aload_n 0, 1) := by decide +kernel
theorem dX9_write_46 : decode cX9_write 46 = .ok (.getfield 10, 3) := by decide +kernel
theorem dX9_write_49 : decode cX9_write 49 = .ok (.dup, 1) := by decide +kernel
theorem dX9_write_50 : decode cX9_write 50 = .ok (.getfield 72, 3) := by decide +kernel
theorem dX9_write_53 : decode cX9_write 53 = .ok (.iconst 1, 1) := by decide +kernel
theorem dX9_write_54 : decode cX9_write 54 = .ok (.iadd, 1) := by decide +kernel
theorem dX9_write_55 : decode cX9_write 55 = .ok (.putfield 72, 3) := by decide +kernel
theorem dX9_write_58 : decode cX9_write 58 = .ok (.aload_n 0, 1) := by decide +kernel
theorem dX9_write_59 : decode cX9_write 59 = .ok (.getfield 10, 3) := by decide +kernel
theorem dX9_write_62 : decode cX9_write 62 = .ok (.getfield 72, 3) := by decide +kernel
theorem dX9_write_65 : decode cX9_write 65 = .ok (.ireturn, 1) := by decide +kernel
theorem dX9_wipe_0 : decode cX9_wipe 0 = .ok (.aload_n 0, 1) := by decide +kernel
theorem dX9_wipe_1 : decode cX9_wipe 1 = .ok (.getfield 10, 3) := by decide +kernel
theorem dX9_wipe_4 : decode cX9_wipe 4 = .ok (.getfield 72, 3) := by decide +kernel
theorem dX9_wipe_7 : decode cX9_wipe 7 = .ok (.istore_n 1, 1) := by decide +kernel
theorem dX9_wipe_8 : decode cX9_wipe 8 = .ok (.aload_n 0, 1) := by decide +kernel
theorem dX9_wipe_9 : decode cX9_wipe 9 = .ok (.getfield 10, 3) := by decide +kernel
theorem dX9_wipe_12 : decode cX9_wipe 12 = .ok (.iconst 0, 1) := by decide +kernel
theorem dX9_wipe_13 : decode cX9_wipe 13 = .ok (.putfield 72, 3) := by decide +kernel
theorem dX9_wipe_16 : decode cX9_wipe 16 = .ok (.iload_n 1, 1) := by decide +kernel
theorem dX9_wipe_17 : decode cX9_wipe 17 = .ok (.ireturn, 1) := by decide +kernel
theorem dX9_fault_0 : decode cX9_fault 0 = .ok (.aload_n 0, 1) := by decide +kernel
theorem dX9_fault_1 : decode cX9_fault 1 = .ok (.getfield 10, 3) := by decide +kernel
theorem dX9_fault_4 : decode cX9_fault 4 = .ok (.aload_n 0, 1) := by decide +kernel
theorem dX9_fault_5 : decode cX9_fault 5 = .ok (.getfield 23, 3) := by decide +kernel
theorem dX9_fault_8 : decode cX9_fault 8 = .ok (.invokevirtual 80, 3) := by decide +kernel
theorem dX9_fault_11 : decode cX9_fault 11 = .ok (.ireturn, 1) := by decide +kernel
theorem dX9_code_0 : decode cX9_code 0 = .ok (.aload_n 0, 1) := by decide +kernel
theorem dX9_code_1 : decode cX9_code 1 = .ok (.getfield 10, 3) := by decide +kernel
theorem dX9_code_4 : decode cX9_code 4 = .ok (.aload_n 0, 1) := by decide +kernel
theorem dX9_code_5 : decode cX9_code 5 = .ok (.getfield 23, 3) := by decide +kernel
theorem dX9_code_8 : decode cX9_code 8 = .ok (.invokevirtual 80, 3) := by decide +kernel
theorem dX9_code_11 : decode cX9_code 11 = .ok (.bipush (-9), 2) := by decide +kernel
theorem dX9_code_13 : decode cX9_code 13 = .ok (.if_icmp .eq 6, 3) := by decide +kernel
theorem dX9_code_16 : decode cX9_code 16 = .ok (.bipush (-3), 2) := by decide +kernel
theorem dX9_code_18 : decode cX9_code 18 = .ok (.ireturn, 1) := by decide +kernel
theorem dX9_code_19 : decode cX9_code 19 = .ok (.aload_n 0, 1) := by decide +kernel
theorem dX9_code_20 : decode cX9_code 20 = .ok (.getfield 10, 3) := by decide +kernel
theorem dX9_code_23 : decode cX9_code 23 = .ok (.aload_n 0, 1) := by decide +kernel
theorem dX9_code_24 : decode cX9_code 24 = .ok (.getfield 19, 3) := by decide +kernel
theorem dX9_code_27 : decode cX9_code 27 = .ok (.invokevirtual 80, 3) := by decide +kernel
theorem dX9_code_30 : decode cX9_code 30 = .ok (.pop, 1) := by decide +kernel
theorem dX9_code_31 : decode cX9_code 31 = .ok (.aload_n 0, 1) := by decide +kernel
theorem dX9_code_32 : decode cX9_code 32 = .ok (.getfield 29, 3) := by decide +kernel
theorem dX9_code_35 : decode cX9_code 35 = .ok (.invokevirtual 84, 3) := by decide +kernel
theorem dX9_code_38 : decode cX9_code 38 = .ok (.aload_n 0, 1) := by decide +kernel
theorem dX9_code_39 : decode cX9_code 39 = .ok (.getfield 39, 3) := by decide +kernel
theorem dX9_code_42 : decode cX9_code 42 = .ok (.invokevirtual 87, 3) := by decide +kernel
theorem dX9_code_45 : decode cX9_code 45 = .ok (.aload_n 0, 1) := by decide +kernel
theorem dX9_code_46 : decode cX9_code 46 = .ok (.invokevirtual 90, 3) := by decide +kernel
theorem dX9_code_49 : decode cX9_code 49 = .ok (.aload_n 0, 1) := by decide +kernel
theorem dX9_code_50 : decode cX9_code 50 = .ok (.getfield 19, 3) := by decide +kernel
theorem dX9_code_53 : decode cX9_code 53 = .ok (.getfield 93, 3) := by decide +kernel
theorem dX9_code_56 : decode cX9_code 56 = .ok (.ireturn, 1) := by decide +kernel
theorem dX9_emptySlots_0 : decode cX9_emptySlots 0 = .ok (.iconst 0, 1) := by decide +kernel
theorem dX9_emptySlots_1 : decode cX9_emptySlots 1 = .ok (.istore_n 1, 1) := by decide +kernel
theorem dX9_emptySlots_2 : decode cX9_emptySlots 2 = .ok (.iload_n 1, 1) := by decide +kernel
theorem dX9_emptySlots_3 : decode cX9_emptySlots 3 = .ok (.iconst 2, 1) := by decide +kernel
theorem dX9_emptySlots_4 : decode cX9_emptySlots 4 = .ok (.if_icmp .ge 16, 3) := by decide +kernel
theorem dX9_emptySlots_7 : decode cX9_emptySlots 7 = .ok (.aload_n 0, 1) := by decide +kernel
theorem dX9_emptySlots_8 : decode cX9_emptySlots 8 = .ok (.getfield 47, 3) := by decide +kernel
theorem dX9_emptySlots_11 : decode cX9_emptySlots 11 = .ok (.iload_n 1, 1) := by decide +kernel
theorem dX9_emptySlots_12 : decode cX9_emptySlots 12 = .ok (.iconst 0, 1) := by decide +kernel
theorem dX9_emptySlots_13 : decode cX9_emptySlots 13 = .ok (.bastore, 1) := by decide +kernel
theorem dX9_emptySlots_14 : decode cX9_emptySlots 14 = .ok (.iinc 1 1, 3) := by decide +kernel
theorem dX9_emptySlots_17 : decode cX9_emptySlots 17 = .ok (.goto (-15), 3) := by decide +kernel
theorem dX9_emptySlots_20 : decode cX9_emptySlots 20 = .ok (.return_, 1) := by decide +kernel
theorem dX9_about_0 : decode cX9_about 0 = .ok (.iload_n 1, 1) := by decide +kernel
theorem dX9_about_1 : decode cX9_about 1 = .ok (.tableswitch 221 0 14 #[75, 83, 94, 105, 124, 135, 146, 157, 165, 173, 181, 189, 197, 205, 213], 75) := by decide +kernel
theorem dX9_about_76 : decode cX9_about 76 = .ok (.aload_n 0, 1) := by decide +kernel
theorem dX9_about_77 : decode cX9_about 77 = .ok (.getfield 19, 3) := by decide +kernel
theorem dX9_about_80 : decode cX9_about 80 = .ok (.getfield 93, 3) := by decide +kernel
theorem dX9_about_83 : decode cX9_about 83 = .ok (.ireturn, 1) := by decide +kernel
theorem dX9_about_84 : decode cX9_about 84 = .ok (.aload_n 0, 1) := by decide +kernel
theorem dX9_about_85 : decode cX9_about 85 = .ok (.getfield 29, 3) := by decide +kernel
theorem dX9_about_88 : decode cX9_about 88 = .ok (.getfield 96, 3) := by decide +kernel
theorem dX9_about_91 : decode cX9_about 91 = .ok (.getfield 100, 3) := by decide +kernel
theorem dX9_about_94 : decode cX9_about 94 = .ok (.ireturn, 1) := by decide +kernel
theorem dX9_about_95 : decode cX9_about 95 = .ok (.aload_n 0, 1) := by decide +kernel
theorem dX9_about_96 : decode cX9_about 96 = .ok (.getfield 29, 3) := by decide +kernel
theorem dX9_about_99 : decode cX9_about 99 = .ok (.getfield 96, 3) := by decide +kernel
theorem dX9_about_102 : decode cX9_about 102 = .ok (.getfield 105, 3) := by decide +kernel
theorem dX9_about_105 : decode cX9_about 105 = .ok (.ireturn, 1) := by decide +kernel
theorem dX9_about_106 : decode cX9_about 106 = .ok (.aload_n 0, 1) := by decide +kernel
theorem dX9_about_107 : decode cX9_about 107 = .ok (.getfield 29, 3) := by decide +kernel
theorem dX9_about_110 : decode cX9_about 110 = .ok (.getfield 96, 3) := by decide +kernel
theorem dX9_about_113 : decode cX9_about 113 = .ok (.getfield 108, 3) := by decide +kernel
theorem dX9_about_116 : decode cX9_about 116 = .ok (.ifCond .eq 7, 3) := by decide +kernel
theorem dX9_about_119 : decode cX9_about 119 = .ok (.iconst 1, 1) := by decide +kernel
theorem dX9_about_120 : decode cX9_about 120 = .ok (.goto 4, 3) := by decide +kernel
theorem dX9_about_123 : decode cX9_about 123 = .ok (.iconst 0, 1) := by decide +kernel
theorem dX9_about_124 : decode cX9_about 124 = .ok (.ireturn, 1) := by decide +kernel
theorem dX9_about_125 : decode cX9_about 125 = .ok (.aload_n 0, 1) := by decide +kernel
theorem dX9_about_126 : decode cX9_about 126 = .ok (.getfield 29, 3) := by decide +kernel
theorem dX9_about_129 : decode cX9_about 129 = .ok (.getfield 96, 3) := by decide +kernel
theorem dX9_about_132 : decode cX9_about 132 = .ok (.getfield 112, 3) := by decide +kernel
theorem dX9_about_135 : decode cX9_about 135 = .ok (.ireturn, 1) := by decide +kernel
theorem dX9_about_136 : decode cX9_about 136 = .ok (.aload_n 0, 1) := by decide +kernel
theorem dX9_about_137 : decode cX9_about 137 = .ok (.getfield 29, 3) := by decide +kernel
theorem dX9_about_140 : decode cX9_about 140 = .ok (.getfield 96, 3) := by decide +kernel
theorem dX9_about_143 : decode cX9_about 143 = .ok (.getfield 115, 3) := by decide +kernel
theorem dX9_about_146 : decode cX9_about 146 = .ok (.ireturn, 1) := by decide +kernel
theorem dX9_about_147 : decode cX9_about 147 = .ok (.aload_n 0, 1) := by decide +kernel
theorem dX9_about_148 : decode cX9_about 148 = .ok (.getfield 29, 3) := by decide +kernel
theorem dX9_about_151 : decode cX9_about 151 = .ok (.getfield 118, 3) := by decide +kernel
theorem dX9_about_154 : decode cX9_about 154 = .ok (.invokevirtual 122, 3) := by decide +kernel
theorem dX9_about_157 : decode cX9_about 157 = .ok (.ireturn, 1) := by decide +kernel
theorem dX9_about_158 : decode cX9_about 158 = .ok (.aload_n 0, 1) := by decide +kernel
theorem dX9_about_159 : decode cX9_about 159 = .ok (.getfield 29, 3) := by decide +kernel
theorem dX9_about_162 : decode cX9_about 162 = .ok (.getfield 128, 3) := by decide +kernel
theorem dX9_about_165 : decode cX9_about 165 = .ok (.ireturn, 1) := by decide +kernel
theorem dX9_about_166 : decode cX9_about 166 = .ok (.aload_n 0, 1) := by decide +kernel
theorem dX9_about_167 : decode cX9_about 167 = .ok (.getfield 29, 3) := by decide +kernel
theorem dX9_about_170 : decode cX9_about 170 = .ok (.getfield 131, 3) := by decide +kernel
theorem dX9_about_173 : decode cX9_about 173 = .ok (.ireturn, 1) := by decide +kernel
theorem dX9_about_174 : decode cX9_about 174 = .ok (.aload_n 0, 1) := by decide +kernel
theorem dX9_about_175 : decode cX9_about 175 = .ok (.getfield 29, 3) := by decide +kernel
theorem dX9_about_178 : decode cX9_about 178 = .ok (.getfield 134, 3) := by decide +kernel
theorem dX9_about_181 : decode cX9_about 181 = .ok (.ireturn, 1) := by decide +kernel
theorem dX9_about_182 : decode cX9_about 182 = .ok (.aload_n 0, 1) := by decide +kernel
theorem dX9_about_183 : decode cX9_about 183 = .ok (.getfield 29, 3) := by decide +kernel
theorem dX9_about_186 : decode cX9_about 186 = .ok (.getfield 137, 3) := by decide +kernel
theorem dX9_about_189 : decode cX9_about 189 = .ok (.ireturn, 1) := by decide +kernel
theorem dX9_about_190 : decode cX9_about 190 = .ok (.aload_n 0, 1) := by decide +kernel
theorem dX9_about_191 : decode cX9_about 191 = .ok (.getfield 19, 3) := by decide +kernel
theorem dX9_about_194 : decode cX9_about 194 = .ok (.invokevirtual 140, 3) := by decide +kernel
theorem dX9_about_197 : decode cX9_about 197 = .ok (.ireturn, 1) := by decide +kernel
theorem dX9_about_198 : decode cX9_about 198 = .ok (.aload_n 0, 1) := by decide +kernel
theorem dX9_about_199 : decode cX9_about 199 = .ok (.getfield 39, 3) := by decide +kernel
theorem dX9_about_202 : decode cX9_about 202 = .ok (.getfield 143, 3) := by decide +kernel
theorem dX9_about_205 : decode cX9_about 205 = .ok (.ireturn, 1) := by decide +kernel
theorem dX9_about_206 : decode cX9_about 206 = .ok (.aload_n 0, 1) := by decide +kernel
theorem dX9_about_207 : decode cX9_about 207 = .ok (.getfield 54, 3) := by decide +kernel
theorem dX9_about_210 : decode cX9_about 210 = .ok (.getfield 146, 3) := by decide +kernel
theorem dX9_about_213 : decode cX9_about 213 = .ok (.ireturn, 1) := by decide +kernel
theorem dX9_about_214 : decode cX9_about 214 = .ok (.aload_n 0, 1) := by decide +kernel
theorem dX9_about_215 : decode cX9_about 215 = .ok (.getfield 10, 3) := by decide +kernel
theorem dX9_about_218 : decode cX9_about 218 = .ok (.getfield 72, 3) := by decide +kernel
theorem dX9_about_221 : decode cX9_about 221 = .ok (.ireturn, 1) := by decide +kernel
theorem dX9_about_222 : decode cX9_about 222 = .ok (.bipush (-2), 2) := by decide +kernel
theorem dX9_about_224 : decode cX9_about 224 = .ok (.ireturn, 1) := by decide +kernel
theorem dX9_register_0 : decode cX9_register 0 = .ok (.iload_n 1, 1) := by decide +kernel
theorem dX9_register_1 : decode cX9_register 1 = .ok (.invokestatic 149, 3) := by decide +kernel
theorem dX9_register_4 : decode cX9_register 4 = .ok (.ifCond .eq 18, 3) := by decide +kernel
theorem dX9_register_7 : decode cX9_register 7 = .ok (.aload_n 0, 1) := by decide +kernel
theorem dX9_register_8 : decode cX9_register 8 = .ok (.getfield 29, 3) := by decide +kernel
theorem dX9_register_11 : decode cX9_register 11 = .ok (.getfield 96, 3) := by decide +kernel
theorem dX9_register_14 : decode cX9_register 14 = .ok (.getfield 153, 3) := by decide +kernel
theorem dX9_register_17 : decode cX9_register 17 = .ok (.iload_n 1, 1) := by decide +kernel
theorem dX9_register_18 : decode cX9_register 18 = .ok (.iaload, 1) := by decide +kernel
theorem dX9_register_19 : decode cX9_register 19 = .ok (.goto 4, 3) := by decide +kernel
theorem dX9_register_22 : decode cX9_register 22 = .ok (.iconst (-1), 1) := by decide +kernel
theorem dX9_register_23 : decode cX9_register 23 = .ok (.ireturn, 1) := by decide +kernel
theorem dX9_cell_0 : decode cX9_cell 0 = .ok (.iload_n 1, 1) := by decide +kernel
theorem dX9_cell_1 : decode cX9_cell 1 = .ok (.invokestatic 156, 3) := by decide +kernel
theorem dX9_cell_4 : decode cX9_cell 4 = .ok (.ifCond .eq 18, 3) := by decide +kernel
theorem dX9_cell_7 : decode cX9_cell 7 = .ok (.aload_n 0, 1) := by decide +kernel
theorem dX9_cell_8 : decode cX9_cell 8 = .ok (.getfield 29, 3) := by decide +kernel
theorem dX9_cell_11 : decode cX9_cell 11 = .ok (.getfield 96, 3) := by decide +kernel
theorem dX9_cell_14 : decode cX9_cell 14 = .ok (.getfield 159, 3) := by decide +kernel
theorem dX9_cell_17 : decode cX9_cell 17 = .ok (.iload_n 1, 1) := by decide +kernel
theorem dX9_cell_18 : decode cX9_cell 18 = .ok (.iaload, 1) := by decide +kernel
theorem dX9_cell_19 : decode cX9_cell 19 = .ok (.goto 4, 3) := by decide +kernel
theorem dX9_cell_22 : decode cX9_cell 22 = .ok (.iconst (-1), 1) := by decide +kernel
theorem dX9_cell_23 : decode cX9_cell 23 = .ok (.ireturn, 1) := by decide +kernel
theorem dX9_stack_0 : decode cX9_stack 0 = .ok (.iload_n 1, 1) := by decide +kernel
theorem dX9_stack_1 : decode cX9_stack 1 = .ok (.ifCond .lt 32, 3) := by decide +kernel
theorem dX9_stack_4 : decode cX9_stack 4 = .ok (.iload_n 1, 1) := by decide +kernel
theorem dX9_stack_5 : decode cX9_stack 5 = .ok (.aload_n 0, 1) := by decide +kernel
theorem dX9_stack_6 : decode cX9_stack 6 = .ok (.getfield 29, 3) := by decide +kernel
theorem dX9_stack_9 : decode cX9_stack 9 = .ok (.getfield 96, 3) := by decide +kernel
theorem dX9_stack_12 : decode cX9_stack 12 = .ok (.getfield 105, 3) := by decide +kernel
theorem dX9_stack_15 : decode cX9_stack 15 = .ok (.if_icmp .ge 18, 3) := by decide +kernel
theorem dX9_stack_18 : decode cX9_stack 18 = .ok (.aload_n 0, 1) := by decide +kernel
theorem dX9_stack_19 : decode cX9_stack 19 = .ok (.getfield 29, 3) := by decide +kernel
theorem dX9_stack_22 : decode cX9_stack 22 = .ok (.getfield 96, 3) := by decide +kernel
theorem dX9_stack_25 : decode cX9_stack 25 = .ok (.getfield 162, 3) := by decide +kernel
theorem dX9_stack_28 : decode cX9_stack 28 = .ok (.iload_n 1, 1) := by decide +kernel
theorem dX9_stack_29 : decode cX9_stack 29 = .ok (.iaload, 1) := by decide +kernel
theorem dX9_stack_30 : decode cX9_stack 30 = .ok (.goto 5, 3) := by decide +kernel
theorem dX9_stack_33 : decode cX9_stack 33 = .ok (.bipush (-9), 2) := by decide +kernel
theorem dX9_stack_35 : decode cX9_stack 35 = .ok (.ireturn, 1) := by decide +kernel
theorem dX9_broken_0 : decode cX9_broken 0 = .ok (.aload_n 0, 1) := by decide +kernel
theorem dX9_broken_1 : decode cX9_broken 1 = .ok (.getfield 19, 3) := by decide +kernel
theorem dX9_broken_4 : decode cX9_broken 4 = .ok (.iload_n 1, 1) := by decide +kernel
theorem dX9_broken_5 : decode cX9_broken 5 = .ok (.invokevirtual 165, 3) := by decide +kernel
theorem dX9_broken_8 : decode cX9_broken 8 = .ok (.ifCond .ne 5, 3) := by decide +kernel
theorem dX9_broken_11 : decode cX9_broken 11 = .ok (.iconst (-1), 1) := by decide +kernel
theorem dX9_broken_12 : decode cX9_broken 12 = .ok (.ireturn, 1) := by decide +kernel
theorem dX9_broken_13 : decode cX9_broken 13 = .ok (.iload_n 2, 1) := by decide +kernel
theorem dX9_broken_14 : decode cX9_broken 14 = .ok (.ifCond .lt 9, 3) := by decide +kernel
theorem dX9_broken_17 : decode cX9_broken 17 = .ok (.iload_n 2, 1) := by decide +kernel
theorem dX9_broken_18 : decode cX9_broken 18 = .ok (.bipush 6, 2) := by decide +kernel
theorem dX9_broken_20 : decode cX9_broken 20 = .ok (.if_icmp .lt 6, 3) := by decide +kernel
theorem dX9_broken_23 : decode cX9_broken 23 = .ok (.bipush (-2), 2) := by decide +kernel
theorem dX9_broken_25 : decode cX9_broken 25 = .ok (.ireturn, 1) := by decide +kernel
theorem dX9_broken_26 : decode cX9_broken 26 = .ok (.aload_n 0, 1) := by decide +kernel
theorem dX9_broken_27 : decode cX9_broken 27 = .ok (.getfield 29, 3) := by decide +kernel
theorem dX9_broken_30 : decode cX9_broken 30 = .ok (.getfield 118, 3) := by decide +kernel
theorem dX9_broken_33 : decode cX9_broken 33 = .ok (.iload_n 1, 1) := by decide +kernel
theorem dX9_broken_34 : decode cX9_broken 34 = .ok (.iload_n 2, 1) := by decide +kernel
theorem dX9_broken_35 : decode cX9_broken 35 = .ok (.invokevirtual 168, 3) := by decide +kernel
theorem dX9_broken_38 : decode cX9_broken 38 = .ok (.ireturn, 1) := by decide +kernel
theorem dX9_copy_0 : decode cX9_copy 0 = .ok (.iload_n 1, 1) := by decide +kernel
theorem dX9_copy_1 : decode cX9_copy 1 = .ok (.ifCond .lt 26, 3) := by decide +kernel
theorem dX9_copy_4 : decode cX9_copy 4 = .ok (.iload_n 1, 1) := by decide +kernel
theorem dX9_copy_5 : decode cX9_copy 5 = .ok (.aload_n 0, 1) := by decide +kernel
theorem dX9_copy_6 : decode cX9_copy 6 = .ok (.getfield 29, 3) := by decide +kernel
theorem dX9_copy_9 : decode cX9_copy 9 = .ok (.getfield 131, 3) := by decide +kernel
theorem dX9_copy_12 : decode cX9_copy 12 = .ok (.if_icmp .ge 15, 3) := by decide +kernel
theorem dX9_copy_15 : decode cX9_copy 15 = .ok (.aload_n 0, 1) := by decide +kernel
theorem dX9_copy_16 : decode cX9_copy 16 = .ok (.getfield 29, 3) := by decide +kernel
theorem dX9_copy_19 : decode cX9_copy 19 = .ok (.getfield 172, 3) := by decide +kernel
theorem dX9_copy_22 : decode cX9_copy 22 = .ok (.iload_n 1, 1) := by decide +kernel
theorem dX9_copy_23 : decode cX9_copy 23 = .ok (.iaload, 1) := by decide +kernel
theorem dX9_copy_24 : decode cX9_copy 24 = .ok (.goto 5, 3) := by decide +kernel
theorem dX9_copy_27 : decode cX9_copy 27 = .ok (.bipush (-9), 2) := by decide +kernel
theorem dX9_copy_29 : decode cX9_copy 29 = .ok (.ireturn, 1) := by decide +kernel
theorem dX9_plan_0 : decode cX9_plan 0 = .ok (.iload_n 1, 1) := by decide +kernel
theorem dX9_plan_1 : decode cX9_plan 1 = .ok (.ifCond .lt 8, 3) := by decide +kernel
theorem dX9_plan_4 : decode cX9_plan 4 = .ok (.iload_n 1, 1) := by decide +kernel
theorem dX9_plan_5 : decode cX9_plan 5 = .ok (.iconst 3, 1) := by decide +kernel
theorem dX9_plan_6 : decode cX9_plan 6 = .ok (.if_icmp .le 6, 3) := by decide +kernel
theorem dX9_plan_9 : decode cX9_plan 9 = .ok (.bipush (-2), 2) := by decide +kernel
theorem dX9_plan_11 : decode cX9_plan 11 = .ok (.ireturn, 1) := by decide +kernel
theorem dX9_plan_12 : decode cX9_plan 12 = .ok (.aload_n 0, 1) := by decide +kernel
theorem dX9_plan_13 : decode cX9_plan 13 = .ok (.getfield 29, 3) := by decide +kernel
theorem dX9_plan_16 : decode cX9_plan 16 = .ok (.iload_n 1, 1) := by decide +kernel
theorem dX9_plan_17 : decode cX9_plan 17 = .ok (.invokevirtual 175, 3) := by decide +kernel
theorem dX9_plan_20 : decode cX9_plan 20 = .ok (.ifCond .ne 6, 3) := by decide +kernel
theorem dX9_plan_23 : decode cX9_plan 23 = .ok (.bipush (-3), 2) := by decide +kernel
theorem dX9_plan_25 : decode cX9_plan 25 = .ok (.ireturn, 1) := by decide +kernel
theorem dX9_plan_26 : decode cX9_plan 26 = .ok (.aload_n 0, 1) := by decide +kernel
theorem dX9_plan_27 : decode cX9_plan 27 = .ok (.getfield 39, 3) := by decide +kernel
theorem dX9_plan_30 : decode cX9_plan 30 = .ok (.aload_n 0, 1) := by decide +kernel
theorem dX9_plan_31 : decode cX9_plan 31 = .ok (.getfield 29, 3) := by decide +kernel
theorem dX9_plan_34 : decode cX9_plan 34 = .ok (.invokevirtual 178, 3) := by decide +kernel
theorem dX9_plan_37 : decode cX9_plan 37 = .ok (.aload_n 0, 1) := by decide +kernel
theorem dX9_plan_38 : decode cX9_plan 38 = .ok (.getfield 29, 3) := by decide +kernel
theorem dX9_plan_41 : decode cX9_plan 41 = .ok (.iload_n 1, 1) := by decide +kernel
theorem dX9_plan_42 : decode cX9_plan 42 = .ok (.aload_n 0, 1) := by decide +kernel
theorem dX9_plan_43 : decode cX9_plan 43 = .ok (.getfield 19, 3) := by decide +kernel
theorem dX9_plan_46 : decode cX9_plan 46 = .ok (.invokevirtual 182, 3) := by decide +kernel
theorem dX9_plan_49 : decode cX9_plan 49 = .ok (.ireturn, 1) := by decide +kernel
theorem dX9_set_0 : decode cX9_set 0 = .ok (.iload_n 1, 1) := by decide +kernel
theorem dX9_set_1 : decode cX9_set 1 = .ok (.tableswitch 108 0 2 #[27, 55, 83], 27) := by decide +kernel
theorem dX9_set_28 : decode cX9_set 28 = .ok (.iload_n 2, 1) := by decide +kernel
theorem dX9_set_29 : decode cX9_set 29 = .ok (.invokestatic 149, 3) := by decide +kernel
theorem dX9_set_32 : decode cX9_set 32 = .ok (.ifCond .eq 22, 3) := by decide +kernel
theorem dX9_set_35 : decode cX9_set 35 = .ok (.aload_n 0, 1) := by decide +kernel
theorem dX9_set_36 : decode cX9_set 36 = .ok (.aload_n 0, 1) := by decide +kernel
theorem dX9_set_37 : decode cX9_set 37 = .ok (.getfield 29, 3) := by decide +kernel
theorem dX9_set_40 : decode cX9_set 40 = .ok (.getfield 96, 3) := by decide +kernel
theorem dX9_set_43 : decode cX9_set 43 = .ok (.getfield 153, 3) := by decide +kernel
theorem dX9_set_46 : decode cX9_set 46 = .ok (.iload_n 2, 1) := by decide +kernel
theorem dX9_set_47 : decode cX9_set 47 = .ok (.iload_n 3, 1) := by decide +kernel
theorem dX9_set_48 : decode cX9_set 48 = .ok (.invokevirtual 186, 3) := by decide +kernel
theorem dX9_set_51 : decode cX9_set 51 = .ok (.goto 4, 3) := by decide +kernel
theorem dX9_set_54 : decode cX9_set 54 = .ok (.iconst (-1), 1) := by decide +kernel
theorem dX9_set_55 : decode cX9_set 55 = .ok (.ireturn, 1) := by decide +kernel
theorem dX9_set_56 : decode cX9_set 56 = .ok (.iload_n 2, 1) := by decide +kernel
theorem dX9_set_57 : decode cX9_set 57 = .ok (.invokestatic 156, 3) := by decide +kernel
theorem dX9_set_60 : decode cX9_set 60 = .ok (.ifCond .eq 22, 3) := by decide +kernel
theorem dX9_set_63 : decode cX9_set 63 = .ok (.aload_n 0, 1) := by decide +kernel
theorem dX9_set_64 : decode cX9_set 64 = .ok (.aload_n 0, 1) := by decide +kernel
theorem dX9_set_65 : decode cX9_set 65 = .ok (.getfield 29, 3) := by decide +kernel
theorem dX9_set_68 : decode cX9_set 68 = .ok (.getfield 96, 3) := by decide +kernel
theorem dX9_set_71 : decode cX9_set 71 = .ok (.getfield 159, 3) := by decide +kernel
theorem dX9_set_74 : decode cX9_set 74 = .ok (.iload_n 2, 1) := by decide +kernel
theorem dX9_set_75 : decode cX9_set 75 = .ok (.iload_n 3, 1) := by decide +kernel
theorem dX9_set_76 : decode cX9_set 76 = .ok (.invokevirtual 186, 3) := by decide +kernel
theorem dX9_set_79 : decode cX9_set 79 = .ok (.goto 4, 3) := by decide +kernel
theorem dX9_set_82 : decode cX9_set 82 = .ok (.iconst (-1), 1) := by decide +kernel
theorem dX9_set_83 : decode cX9_set 83 = .ok (.ireturn, 1) := by decide +kernel
theorem dX9_set_84 : decode cX9_set 84 = .ok (.iload_n 2, 1) := by decide +kernel
theorem dX9_set_85 : decode cX9_set 85 = .ok (.ifCond .ne 22, 3) := by decide +kernel
theorem dX9_set_88 : decode cX9_set 88 = .ok (.aload_n 0, 1) := by decide +kernel
theorem dX9_set_89 : decode cX9_set 89 = .ok (.getfield 19, 3) := by decide +kernel
theorem dX9_set_92 : decode cX9_set 92 = .ok (.iload_n 3, 1) := by decide +kernel
theorem dX9_set_93 : decode cX9_set 93 = .ok (.invokevirtual 165, 3) := by decide +kernel
theorem dX9_set_96 : decode cX9_set 96 = .ok (.ifCond .eq 11, 3) := by decide +kernel
theorem dX9_set_99 : decode cX9_set 99 = .ok (.aload_n 0, 1) := by decide +kernel
theorem dX9_set_100 : decode cX9_set 100 = .ok (.iload_n 3, 1) := by decide +kernel
theorem dX9_set_101 : decode cX9_set 101 = .ok (.invokevirtual 190, 3) := by decide +kernel
theorem dX9_set_104 : decode cX9_set 104 = .ok (.goto 4, 3) := by decide +kernel
theorem dX9_set_107 : decode cX9_set 107 = .ok (.iconst (-1), 1) := by decide +kernel
theorem dX9_set_108 : decode cX9_set 108 = .ok (.ireturn, 1) := by decide +kernel
theorem dX9_set_109 : decode cX9_set 109 = .ok (.bipush (-2), 2) := by decide +kernel
theorem dX9_set_111 : decode cX9_set 111 = .ok (.ireturn, 1) := by decide +kernel
theorem dX9_exchange_0 : decode cX9_exchange 0 = .ok (.aload_n 0, 1) := by decide +kernel
theorem dX9_exchange_1 : decode cX9_exchange 1 = .ok (.getfield 39, 3) := by decide +kernel
theorem dX9_exchange_4 : decode cX9_exchange 4 = .ok (.aload_n 0, 1) := by decide +kernel
theorem dX9_exchange_5 : decode cX9_exchange 5 = .ok (.getfield 29, 3) := by decide +kernel
theorem dX9_exchange_8 : decode cX9_exchange 8 = .ok (.invokevirtual 178, 3) := by decide +kernel
theorem dX9_exchange_11 : decode cX9_exchange 11 = .ok (.aload_n 1, 1) := by decide +kernel
theorem dX9_exchange_12 : decode cX9_exchange 12 = .ok (.iload_n 2, 1) := by decide +kernel
theorem dX9_exchange_13 : decode cX9_exchange 13 = .ok (.iaload, 1) := by decide +kernel
theorem dX9_exchange_14 : decode cX9_exchange 14 = .ok (.istore 4, 2) := by decide +kernel
theorem dX9_exchange_16 : decode cX9_exchange 16 = .ok (.aload_n 1, 1) := by decide +kernel
theorem dX9_exchange_17 : decode cX9_exchange 17 = .ok (.iload_n 2, 1) := by decide +kernel
theorem dX9_exchange_18 : decode cX9_exchange 18 = .ok (.iload_n 3, 1) := by decide +kernel
theorem dX9_exchange_19 : decode cX9_exchange 19 = .ok (.iastore, 1) := by decide +kernel
theorem dX9_exchange_20 : decode cX9_exchange 20 = .ok (.iload 4, 2) := by decide +kernel
theorem dX9_exchange_22 : decode cX9_exchange 22 = .ok (.ireturn, 1) := by decide +kernel
theorem dX9_moveCounter_0 : decode cX9_moveCounter 0 = .ok (.aload_n 0, 1) := by decide +kernel
theorem dX9_moveCounter_1 : decode cX9_moveCounter 1 = .ok (.getfield 39, 3) := by decide +kernel
theorem dX9_moveCounter_4 : decode cX9_moveCounter 4 = .ok (.aload_n 0, 1) := by decide +kernel
theorem dX9_moveCounter_5 : decode cX9_moveCounter 5 = .ok (.getfield 29, 3) := by decide +kernel
theorem dX9_moveCounter_8 : decode cX9_moveCounter 8 = .ok (.invokevirtual 178, 3) := by decide +kernel
theorem dX9_moveCounter_11 : decode cX9_moveCounter 11 = .ok (.aload_n 0, 1) := by decide +kernel
theorem dX9_moveCounter_12 : decode cX9_moveCounter 12 = .ok (.getfield 29, 3) := by decide +kernel
theorem dX9_moveCounter_15 : decode cX9_moveCounter 15 = .ok (.getfield 96, 3) := by decide +kernel
theorem dX9_moveCounter_18 : decode cX9_moveCounter 18 = .ok (.getfield 100, 3) := by decide +kernel
theorem dX9_moveCounter_21 : decode cX9_moveCounter 21 = .ok (.istore_n 2, 1) := by decide +kernel
theorem dX9_moveCounter_22 : decode cX9_moveCounter 22 = .ok (.aload_n 0, 1) := by decide +kernel
theorem dX9_moveCounter_23 : decode cX9_moveCounter 23 = .ok (.getfield 29, 3) := by decide +kernel
theorem dX9_moveCounter_26 : decode cX9_moveCounter 26 = .ok (.getfield 96, 3) := by decide +kernel
theorem dX9_moveCounter_29 : decode cX9_moveCounter 29 = .ok (.iload_n 1, 1) := by decide +kernel
theorem dX9_moveCounter_30 : decode cX9_moveCounter 30 = .ok (.putfield 100, 3) := by decide +kernel
theorem dX9_moveCounter_33 : decode cX9_moveCounter 33 = .ok (.aload_n 0, 1) := by decide +kernel
theorem dX9_moveCounter_34 : decode cX9_moveCounter 34 = .ok (.getfield 29, 3) := by decide +kernel
theorem dX9_moveCounter_37 : decode cX9_moveCounter 37 = .ok (.getfield 96, 3) := by decide +kernel
theorem dX9_moveCounter_40 : decode cX9_moveCounter 40 = .ok (.iconst 0, 1) := by decide +kernel
theorem dX9_moveCounter_41 : decode cX9_moveCounter 41 = .ok (.putfield 108, 3) := by decide +kernel
theorem dX9_moveCounter_44 : decode cX9_moveCounter 44 = .ok (.iload_n 2, 1) := by decide +kernel
theorem dX9_moveCounter_45 : decode cX9_moveCounter 45 = .ok (.ireturn, 1) := by decide +kernel
theorem dX9_smash_0 : decode cX9_smash 0 = .ok (.aload_n 0, 1) := by decide +kernel
theorem dX9_smash_1 : decode cX9_smash 1 = .ok (.getfield 19, 3) := by decide +kernel
theorem dX9_smash_4 : decode cX9_smash 4 = .ok (.iload_n 1, 1) := by decide +kernel
theorem dX9_smash_5 : decode cX9_smash 5 = .ok (.invokevirtual 165, 3) := by decide +kernel
theorem dX9_smash_8 : decode cX9_smash 8 = .ok (.ifCond .ne 5, 3) := by decide +kernel
theorem dX9_smash_11 : decode cX9_smash 11 = .ok (.iconst (-1), 1) := by decide +kernel
theorem dX9_smash_12 : decode cX9_smash 12 = .ok (.ireturn, 1) := by decide +kernel
theorem dX9_smash_13 : decode cX9_smash 13 = .ok (.iload_n 2, 1) := by decide +kernel
theorem dX9_smash_14 : decode cX9_smash 14 = .ok (.bipush (-9), 2) := by decide +kernel
theorem dX9_smash_16 : decode cX9_smash 16 = .ok (.if_icmp .eq 31, 3) := by decide +kernel
theorem dX9_smash_19 : decode cX9_smash 19 = .ok (.iload_n 2, 1) := by decide +kernel
theorem dX9_smash_20 : decode cX9_smash 20 = .ok (.invokestatic 149, 3) := by decide +kernel
theorem dX9_smash_23 : decode cX9_smash 23 = .ok (.ifCond .eq 28, 3) := by decide +kernel
theorem dX9_smash_26 : decode cX9_smash 26 = .ok (.iload_n 3, 1) := by decide +kernel
theorem dX9_smash_27 : decode cX9_smash 27 = .ok (.ifCond .lt 24, 3) := by decide +kernel
theorem dX9_smash_30 : decode cX9_smash 30 = .ok (.iload_n 3, 1) := by decide +kernel
theorem dX9_smash_31 : decode cX9_smash 31 = .ok (.iconst 2, 1) := by decide +kernel
theorem dX9_smash_32 : decode cX9_smash 32 = .ok (.if_icmp .gt 19, 3) := by decide +kernel
theorem dX9_smash_35 : decode cX9_smash 35 = .ok (.iload 4, 2) := by decide +kernel
theorem dX9_smash_37 : decode cX9_smash 37 = .ok (.ifCond .lt 14, 3) := by decide +kernel
theorem dX9_smash_40 : decode cX9_smash 40 = .ok (.iload 4, 2) := by decide +kernel
theorem dX9_smash_42 : decode cX9_smash 42 = .ok (.bipush 9, 2) := by decide +kernel
theorem dX9_smash_44 : decode cX9_smash 44 = .ok (.if_icmp .gt 7, 3) := by decide +kernel
theorem dX9_smash_47 : decode cX9_smash 47 = .ok (.iconst 1, 1) := by decide +kernel
theorem dX9_smash_48 : decode cX9_smash 48 = .ok (.goto 4, 3) := by decide +kernel
theorem dX9_smash_51 : decode cX9_smash 51 = .ok (.iconst 0, 1) := by decide +kernel
theorem dX9_smash_52 : decode cX9_smash 52 = .ok (.istore 6, 2) := by decide +kernel
theorem dX9_smash_54 : decode cX9_smash 54 = .ok (.iload 6, 2) := by decide +kernel
theorem dX9_smash_56 : decode cX9_smash 56 = .ok (.ifCond .eq 15, 3) := by decide +kernel
theorem dX9_smash_59 : decode cX9_smash 59 = .ok (.iload 5, 2) := by decide +kernel
theorem dX9_smash_61 : decode cX9_smash 61 = .ok (.ifCond .lt 10, 3) := by decide +kernel
theorem dX9_smash_64 : decode cX9_smash 64 = .ok (.iload 5, 2) := by decide +kernel
theorem dX9_smash_66 : decode cX9_smash 66 = .ok (.bipush 9, 2) := by decide +kernel
theorem dX9_smash_68 : decode cX9_smash 68 = .ok (.if_icmp .le 6, 3) := by decide +kernel
theorem dX9_smash_71 : decode cX9_smash 71 = .ok (.bipush (-2), 2) := by decide +kernel
theorem dX9_smash_73 : decode cX9_smash 73 = .ok (.ireturn, 1) := by decide +kernel
theorem dX9_smash_74 : decode cX9_smash 74 = .ok (.aload_n 0, 1) := by decide +kernel
theorem dX9_smash_75 : decode cX9_smash 75 = .ok (.getfield 29, 3) := by decide +kernel
theorem dX9_smash_78 : decode cX9_smash 78 = .ok (.getfield 118, 3) := by decide +kernel
theorem dX9_smash_81 : decode cX9_smash 81 = .ok (.iload_n 1, 1) := by decide +kernel
theorem dX9_smash_82 : decode cX9_smash 82 = .ok (.invokevirtual 194, 3) := by decide +kernel
theorem dX9_smash_85 : decode cX9_smash 85 = .ok (.ifCond .eq 6, 3) := by decide +kernel
theorem dX9_smash_88 : decode cX9_smash 88 = .ok (.bipush (-4), 2) := by decide +kernel
theorem dX9_smash_90 : decode cX9_smash 90 = .ok (.ireturn, 1) := by decide +kernel
theorem dX9_smash_91 : decode cX9_smash 91 = .ok (.aload_n 0, 1) := by decide +kernel
theorem dX9_smash_92 : decode cX9_smash 92 = .ok (.getfield 39, 3) := by decide +kernel
theorem dX9_smash_95 : decode cX9_smash 95 = .ok (.aload_n 0, 1) := by decide +kernel
theorem dX9_smash_96 : decode cX9_smash 96 = .ok (.getfield 29, 3) := by decide +kernel
theorem dX9_smash_99 : decode cX9_smash 99 = .ok (.invokevirtual 178, 3) := by decide +kernel
theorem dX9_smash_102 : decode cX9_smash 102 = .ok (.aload_n 0, 1) := by decide +kernel
theorem dX9_smash_103 : decode cX9_smash 103 = .ok (.getfield 29, 3) := by decide +kernel
theorem dX9_smash_106 : decode cX9_smash 106 = .ok (.getfield 118, 3) := by decide +kernel
theorem dX9_smash_109 : decode cX9_smash 109 = .ok (.iload_n 1, 1) := by decide +kernel
theorem dX9_smash_110 : decode cX9_smash 110 = .ok (.iload_n 2, 1) := by decide +kernel
theorem dX9_smash_111 : decode cX9_smash 111 = .ok (.iload_n 3, 1) := by decide +kernel
theorem dX9_smash_112 : decode cX9_smash 112 = .ok (.iload 4, 2) := by decide +kernel
theorem dX9_smash_114 : decode cX9_smash 114 = .ok (.iload 5, 2) := by decide +kernel
theorem dX9_smash_116 : decode cX9_smash 116 = .ok (.invokevirtual 197, 3) := by decide +kernel
theorem dX9_smash_119 : decode cX9_smash 119 = .ok (.aload_n 0, 1) := by decide +kernel
theorem dX9_smash_120 : decode cX9_smash 120 = .ok (.getfield 29, 3) := by decide +kernel
theorem dX9_smash_123 : decode cX9_smash 123 = .ok (.getfield 118, 3) := by decide +kernel
theorem dX9_smash_126 : decode cX9_smash 126 = .ok (.iload_n 1, 1) := by decide +kernel
theorem dX9_smash_127 : decode cX9_smash 127 = .ok (.iconst 0, 1) := by decide +kernel
theorem dX9_smash_128 : decode cX9_smash 128 = .ok (.invokevirtual 168, 3) := by decide +kernel
theorem dX9_smash_131 : decode cX9_smash 131 = .ok (.ireturn, 1) := by decide +kernel
theorem dX9_lift_0 : decode cX9_lift 0 = .ok (.aload_n 0, 1) := by decide +kernel
theorem dX9_lift_1 : decode cX9_lift 1 = .ok (.getfield 19, 3) := by decide +kernel
theorem dX9_lift_4 : decode cX9_lift 4 = .ok (.iload_n 1, 1) := by decide +kernel
theorem dX9_lift_5 : decode cX9_lift 5 = .ok (.invokevirtual 165, 3) := by decide +kernel
theorem dX9_lift_8 : decode cX9_lift 8 = .ok (.ifCond .ne 5, 3) := by decide +kernel
theorem dX9_lift_11 : decode cX9_lift 11 = .ok (.iconst (-1), 1) := by decide +kernel
theorem dX9_lift_12 : decode cX9_lift 12 = .ok (.ireturn, 1) := by decide +kernel
theorem dX9_lift_13 : decode cX9_lift 13 = .ok (.aload_n 0, 1) := by decide +kernel
theorem dX9_lift_14 : decode cX9_lift 14 = .ok (.getfield 29, 3) := by decide +kernel
theorem dX9_lift_17 : decode cX9_lift 17 = .ok (.getfield 118, 3) := by decide +kernel
theorem dX9_lift_20 : decode cX9_lift 20 = .ok (.iload_n 1, 1) := by decide +kernel
theorem dX9_lift_21 : decode cX9_lift 21 = .ok (.invokevirtual 201, 3) := by decide +kernel
theorem dX9_lift_24 : decode cX9_lift 24 = .ok (.ifCond .ne 6, 3) := by decide +kernel
theorem dX9_lift_27 : decode cX9_lift 27 = .ok (.bipush (-3), 2) := by decide +kernel
theorem dX9_lift_29 : decode cX9_lift 29 = .ok (.ireturn, 1) := by decide +kernel
theorem dX9_lift_30 : decode cX9_lift 30 = .ok (.aload_n 0, 1) := by decide +kernel
theorem dX9_lift_31 : decode cX9_lift 31 = .ok (.getfield 39, 3) := by decide +kernel
theorem dX9_lift_34 : decode cX9_lift 34 = .ok (.aload_n 0, 1) := by decide +kernel
theorem dX9_lift_35 : decode cX9_lift 35 = .ok (.getfield 29, 3) := by decide +kernel
theorem dX9_lift_38 : decode cX9_lift 38 = .ok (.invokevirtual 178, 3) := by decide +kernel
theorem dX9_lift_41 : decode cX9_lift 41 = .ok (.aload_n 0, 1) := by decide +kernel
theorem dX9_lift_42 : decode cX9_lift 42 = .ok (.getfield 29, 3) := by decide +kernel
theorem dX9_lift_45 : decode cX9_lift 45 = .ok (.getfield 118, 3) := by decide +kernel
theorem dX9_lift_48 : decode cX9_lift 48 = .ok (.iload_n 1, 1) := by decide +kernel
theorem dX9_lift_49 : decode cX9_lift 49 = .ok (.invokevirtual 204, 3) := by decide +kernel
theorem dX9_lift_52 : decode cX9_lift 52 = .ok (.aload_n 0, 1) := by decide +kernel
theorem dX9_lift_53 : decode cX9_lift 53 = .ok (.getfield 29, 3) := by decide +kernel
theorem dX9_lift_56 : decode cX9_lift 56 = .ok (.getfield 118, 3) := by decide +kernel
theorem dX9_lift_59 : decode cX9_lift 59 = .ok (.iload_n 1, 1) := by decide +kernel
theorem dX9_lift_60 : decode cX9_lift 60 = .ok (.iconst 0, 1) := by decide +kernel
theorem dX9_lift_61 : decode cX9_lift 61 = .ok (.invokevirtual 168, 3) := by decide +kernel
theorem dX9_lift_64 : decode cX9_lift 64 = .ok (.ireturn, 1) := by decide +kernel
theorem dX9_watch_0 : decode cX9_watch 0 = .ok (.iload_n 1, 1) := by decide +kernel
theorem dX9_watch_1 : decode cX9_watch 1 = .ok (.invokestatic 156, 3) := by decide +kernel
theorem dX9_watch_4 : decode cX9_watch 4 = .ok (.ifCond .ne 5, 3) := by decide +kernel
theorem dX9_watch_7 : decode cX9_watch 7 = .ok (.iconst (-1), 1) := by decide +kernel
theorem dX9_watch_8 : decode cX9_watch 8 = .ok (.ireturn, 1) := by decide +kernel
theorem dX9_watch_9 : decode cX9_watch 9 = .ok (.aload_n 0, 1) := by decide +kernel
theorem dX9_watch_10 : decode cX9_watch 10 = .ok (.getfield 39, 3) := by decide +kernel
theorem dX9_watch_13 : decode cX9_watch 13 = .ok (.aload_n 0, 1) := by decide +kernel
theorem dX9_watch_14 : decode cX9_watch 14 = .ok (.getfield 29, 3) := by decide +kernel
theorem dX9_watch_17 : decode cX9_watch 17 = .ok (.invokevirtual 178, 3) := by decide +kernel
theorem dX9_watch_20 : decode cX9_watch 20 = .ok (.aload_n 0, 1) := by decide +kernel
theorem dX9_watch_21 : decode cX9_watch 21 = .ok (.getfield 29, 3) := by decide +kernel
theorem dX9_watch_24 : decode cX9_watch 24 = .ok (.iload_n 1, 1) := by decide +kernel
theorem dX9_watch_25 : decode cX9_watch 25 = .ok (.invokevirtual 208, 3) := by decide +kernel
theorem dX9_watch_28 : decode cX9_watch 28 = .ok (.pop, 1) := by decide +kernel
theorem dX9_watch_29 : decode cX9_watch 29 = .ok (.aload_n 0, 1) := by decide +kernel
theorem dX9_watch_30 : decode cX9_watch 30 = .ok (.getfield 29, 3) := by decide +kernel
theorem dX9_watch_33 : decode cX9_watch 33 = .ok (.iload_n 1, 1) := by decide +kernel
theorem dX9_watch_34 : decode cX9_watch 34 = .ok (.invokevirtual 211, 3) := by decide +kernel
theorem dX9_watch_37 : decode cX9_watch 37 = .ok (.ifCond .eq 7, 3) := by decide +kernel
theorem dX9_watch_40 : decode cX9_watch 40 = .ok (.iconst 1, 1) := by decide +kernel
theorem dX9_watch_41 : decode cX9_watch 41 = .ok (.goto 4, 3) := by decide +kernel
theorem dX9_watch_44 : decode cX9_watch 44 = .ok (.iconst 0, 1) := by decide +kernel
theorem dX9_watch_45 : decode cX9_watch 45 = .ok (.ireturn, 1) := by decide +kernel
theorem dX9_undo_0 : decode cX9_undo 0 = .ok (.aload_n 0, 1) := by decide +kernel
theorem dX9_undo_1 : decode cX9_undo 1 = .ok (.getfield 39, 3) := by decide +kernel
theorem dX9_undo_4 : decode cX9_undo 4 = .ok (.getfield 143, 3) := by decide +kernel
theorem dX9_undo_7 : decode cX9_undo 7 = .ok (.ifCond .ne 6, 3) := by decide +kernel
theorem dX9_undo_10 : decode cX9_undo 10 = .ok (.bipush (-3), 2) := by decide +kernel
theorem dX9_undo_12 : decode cX9_undo 12 = .ok (.ireturn, 1) := by decide +kernel
theorem dX9_undo_13 : decode cX9_undo 13 = .ok (.aload_n 0, 1) := by decide +kernel
theorem dX9_undo_14 : decode cX9_undo 14 = .ok (.getfield 39, 3) := by decide +kernel
theorem dX9_undo_17 : decode cX9_undo 17 = .ok (.aload_n 0, 1) := by decide +kernel
theorem dX9_undo_18 : decode cX9_undo 18 = .ok (.getfield 29, 3) := by decide +kernel
theorem dX9_undo_21 : decode cX9_undo 21 = .ok (.invokevirtual 214, 3) := by decide +kernel
theorem dX9_undo_24 : decode cX9_undo 24 = .ok (.aload_n 0, 1) := by decide +kernel
theorem dX9_undo_25 : decode cX9_undo 25 = .ok (.getfield 39, 3) := by decide +kernel
theorem dX9_undo_28 : decode cX9_undo 28 = .ok (.getfield 143, 3) := by decide +kernel
theorem dX9_undo_31 : decode cX9_undo 31 = .ok (.ireturn, 1) := by decide +kernel
theorem dX9_aside_0 : decode cX9_aside 0 = .ok (.aload_n 0, 1) := by decide +kernel
theorem dX9_aside_1 : decode cX9_aside 1 = .ok (.getfield 19, 3) := by decide +kernel
theorem dX9_aside_4 : decode cX9_aside 4 = .ok (.iload_n 1, 1) := by decide +kernel
theorem dX9_aside_5 : decode cX9_aside 5 = .ok (.invokevirtual 165, 3) := by decide +kernel
theorem dX9_aside_8 : decode cX9_aside 8 = .ok (.ifCond .ne 5, 3) := by decide +kernel
theorem dX9_aside_11 : decode cX9_aside 11 = .ok (.iconst (-1), 1) := by decide +kernel
theorem dX9_aside_12 : decode cX9_aside 12 = .ok (.ireturn, 1) := by decide +kernel
theorem dX9_aside_13 : decode cX9_aside 13 = .ok (.aload_n 0, 1) := by decide +kernel
theorem dX9_aside_14 : decode cX9_aside 14 = .ok (.getfield 19, 3) := by decide +kernel
theorem dX9_aside_17 : decode cX9_aside 17 = .ok (.getfield 217, 3) := by decide +kernel
theorem dX9_aside_20 : decode cX9_aside 20 = .ok (.iload_n 1, 1) := by decide +kernel
theorem dX9_aside_21 : decode cX9_aside 21 = .ok (.iaload, 1) := by decide +kernel
theorem dX9_aside_22 : decode cX9_aside 22 = .ok (.istore_n 3, 1) := by decide +kernel
theorem dX9_aside_23 : decode cX9_aside 23 = .ok (.iload_n 2, 1) := by decide +kernel
theorem dX9_aside_24 : decode cX9_aside 24 = .ok (.tableswitch 86 0 3 #[32, 38, 67, 81], 32) := by decide +kernel
theorem dX9_aside_56 : decode cX9_aside 56 = .ok (.aload_n 0, 1) := by decide +kernel
theorem dX9_aside_57 : decode cX9_aside 57 = .ok (.iload_n 1, 1) := by decide +kernel
theorem dX9_aside_58 : decode cX9_aside 58 = .ok (.invokevirtual 220, 3) := by decide +kernel
theorem dX9_aside_61 : decode cX9_aside 61 = .ok (.ireturn, 1) := by decide +kernel
theorem dX9_aside_62 : decode cX9_aside 62 = .ok (.iload_n 3, 1) := by decide +kernel
theorem dX9_aside_63 : decode cX9_aside 63 = .ok (.bipush 99, 2) := by decide +kernel
theorem dX9_aside_65 : decode cX9_aside 65 = .ok (.if_icmp .ne 23, 3) := by decide +kernel
theorem dX9_aside_68 : decode cX9_aside 68 = .ok (.aload_n 0, 1) := by decide +kernel
theorem dX9_aside_69 : decode cX9_aside 69 = .ok (.getfield 29, 3) := by decide +kernel
theorem dX9_aside_72 : decode cX9_aside 72 = .ok (.getfield 96, 3) := by decide +kernel
theorem dX9_aside_75 : decode cX9_aside 75 = .ok (.getfield 105, 3) := by decide +kernel
theorem dX9_aside_78 : decode cX9_aside 78 = .ok (.bipush 8, 2) := by decide +kernel
theorem dX9_aside_80 : decode cX9_aside 80 = .ok (.if_icmp .ge 8, 3) := by decide +kernel
theorem dX9_aside_83 : decode cX9_aside 83 = .ok (.bipush 21, 2) := by decide +kernel
theorem dX9_aside_85 : decode cX9_aside 85 = .ok (.goto 5, 3) := by decide +kernel
theorem dX9_aside_88 : decode cX9_aside 88 = .ok (.bipush (-9), 2) := by decide +kernel
theorem dX9_aside_90 : decode cX9_aside 90 = .ok (.ireturn, 1) := by decide +kernel
theorem dX9_aside_91 : decode cX9_aside 91 = .ok (.iload_n 3, 1) := by decide +kernel
theorem dX9_aside_92 : decode cX9_aside 92 = .ok (.bipush 107, 2) := by decide +kernel
theorem dX9_aside_94 : decode cX9_aside 94 = .ok (.if_icmp .ne 8, 3) := by decide +kernel
theorem dX9_aside_97 : decode cX9_aside 97 = .ok (.bipush 21, 2) := by decide +kernel
theorem dX9_aside_99 : decode cX9_aside 99 = .ok (.goto 5, 3) := by decide +kernel
theorem dX9_aside_102 : decode cX9_aside 102 = .ok (.bipush (-9), 2) := by decide +kernel
theorem dX9_aside_104 : decode cX9_aside 104 = .ok (.ireturn, 1) := by decide +kernel
theorem dX9_aside_105 : decode cX9_aside 105 = .ok (.iload_n 3, 1) := by decide +kernel
theorem dX9_aside_106 : decode cX9_aside 106 = .ok (.invokestatic 223, 3) := by decide +kernel
theorem dX9_aside_109 : decode cX9_aside 109 = .ok (.ireturn, 1) := by decide +kernel
theorem dX9_aside_110 : decode cX9_aside 110 = .ok (.bipush (-2), 2) := by decide +kernel
theorem dX9_aside_112 : decode cX9_aside 112 = .ok (.ireturn, 1) := by decide +kernel
theorem dX9_followsAside_0 : decode cX9_followsAside 0 = .ok (.aload_n 0, 1) := by decide +kernel
theorem dX9_followsAside_1 : decode cX9_followsAside 1 = .ok (.getfield 29, 3) := by decide +kernel
theorem dX9_followsAside_4 : decode cX9_followsAside 4 = .ok (.getfield 96, 3) := by decide +kernel
theorem dX9_followsAside_7 : decode cX9_followsAside 7 = .ok (.astore_n 2, 1) := by decide +kernel
theorem dX9_followsAside_8 : decode cX9_followsAside 8 = .ok (.aload_n 0, 1) := by decide +kernel
theorem dX9_followsAside_9 : decode cX9_followsAside 9 = .ok (.getfield 19, 3) := by decide +kernel
theorem dX9_followsAside_12 : decode cX9_followsAside 12 = .ok (.getfield 226, 3) := by decide +kernel
theorem dX9_followsAside_15 : decode cX9_followsAside 15 = .ok (.iload_n 1, 1) := by decide +kernel
theorem dX9_followsAside_16 : decode cX9_followsAside 16 = .ok (.iaload, 1) := by decide +kernel
theorem dX9_followsAside_17 : decode cX9_followsAside 17 = .ok (.istore_n 3, 1) := by decide +kernel
theorem dX9_followsAside_18 : decode cX9_followsAside 18 = .ok (.aload_n 0, 1) := by decide +kernel
theorem dX9_followsAside_19 : decode cX9_followsAside 19 = .ok (.getfield 19, 3) := by decide +kernel
theorem dX9_followsAside_22 : decode cX9_followsAside 22 = .ok (.getfield 217, 3) := by decide +kernel
theorem dX9_followsAside_25 : decode cX9_followsAside 25 = .ok (.iload_n 1, 1) := by decide +kernel
theorem dX9_followsAside_26 : decode cX9_followsAside 26 = .ok (.iaload, 1) := by decide +kernel
theorem dX9_followsAside_27 : decode cX9_followsAside 27 = .ok (.lookupswitch 124 #[(98, 97), (99, 81), (104, 121), (106, 49), (122, 54)], 49) := by decide +kernel
theorem dX9_followsAside_76 : decode cX9_followsAside 76 = .ok (.bipush 20, 2) := by decide +kernel
theorem dX9_followsAside_78 : decode cX9_followsAside 78 = .ok (.iload_n 3, 1) := by decide +kernel
theorem dX9_followsAside_79 : decode cX9_followsAside 79 = .ok (.iadd, 1) := by decide +kernel
theorem dX9_followsAside_80 : decode cX9_followsAside 80 = .ok (.ireturn, 1) := by decide +kernel
theorem dX9_followsAside_81 : decode cX9_followsAside 81 = .ok (.aload_n 2, 1) := by decide +kernel
theorem dX9_followsAside_82 : decode cX9_followsAside 82 = .ok (.getfield 153, 3) := by decide +kernel
theorem dX9_followsAside_85 : decode cX9_followsAside 85 = .ok (.aload_n 0, 1) := by decide +kernel
theorem dX9_followsAside_86 : decode cX9_followsAside 86 = .ok (.getfield 19, 3) := by decide +kernel
theorem dX9_followsAside_89 : decode cX9_followsAside 89 = .ok (.getfield 229, 3) := by decide +kernel
theorem dX9_followsAside_92 : decode cX9_followsAside 92 = .ok (.iload_n 1, 1) := by decide +kernel
theorem dX9_followsAside_93 : decode cX9_followsAside 93 = .ok (.iaload, 1) := by decide +kernel
theorem dX9_followsAside_94 : decode cX9_followsAside 94 = .ok (.iaload, 1) := by decide +kernel
theorem dX9_followsAside_95 : decode cX9_followsAside 95 = .ok (.ifCond .ne 10, 3) := by decide +kernel
theorem dX9_followsAside_98 : decode cX9_followsAside 98 = .ok (.bipush 20, 2) := by decide +kernel
theorem dX9_followsAside_100 : decode cX9_followsAside 100 = .ok (.iload_n 3, 1) := by decide +kernel
theorem dX9_followsAside_101 : decode cX9_followsAside 101 = .ok (.iadd, 1) := by decide +kernel
theorem dX9_followsAside_102 : decode cX9_followsAside 102 = .ok (.goto 5, 3) := by decide +kernel
theorem dX9_followsAside_105 : decode cX9_followsAside 105 = .ok (.bipush 21, 2) := by decide +kernel
theorem dX9_followsAside_107 : decode cX9_followsAside 107 = .ok (.ireturn, 1) := by decide +kernel
theorem dX9_followsAside_108 : decode cX9_followsAside 108 = .ok (.aload_n 2, 1) := by decide +kernel
theorem dX9_followsAside_109 : decode cX9_followsAside 109 = .ok (.getfield 105, 3) := by decide +kernel
theorem dX9_followsAside_112 : decode cX9_followsAside 112 = .ok (.bipush 8, 2) := by decide +kernel
theorem dX9_followsAside_114 : decode cX9_followsAside 114 = .ok (.if_icmp .ge 7, 3) := by decide +kernel
theorem dX9_followsAside_117 : decode cX9_followsAside 117 = .ok (.iload_n 3, 1) := by decide +kernel
theorem dX9_followsAside_118 : decode cX9_followsAside 118 = .ok (.goto 5, 3) := by decide +kernel
theorem dX9_followsAside_121 : decode cX9_followsAside 121 = .ok (.bipush (-9), 2) := by decide +kernel
theorem dX9_followsAside_123 : decode cX9_followsAside 123 = .ok (.ireturn, 1) := by decide +kernel
theorem dX9_followsAside_124 : decode cX9_followsAside 124 = .ok (.aload_n 2, 1) := by decide +kernel
theorem dX9_followsAside_125 : decode cX9_followsAside 125 = .ok (.getfield 105, 3) := by decide +kernel
theorem dX9_followsAside_128 : decode cX9_followsAside 128 = .ok (.ifCond .le 17, 3) := by decide +kernel
theorem dX9_followsAside_131 : decode cX9_followsAside 131 = .ok (.aload_n 2, 1) := by decide +kernel
theorem dX9_followsAside_132 : decode cX9_followsAside 132 = .ok (.getfield 162, 3) := by decide +kernel
theorem dX9_followsAside_135 : decode cX9_followsAside 135 = .ok (.aload_n 2, 1) := by decide +kernel
theorem dX9_followsAside_136 : decode cX9_followsAside 136 = .ok (.getfield 105, 3) := by decide +kernel
theorem dX9_followsAside_139 : decode cX9_followsAside 139 = .ok (.iconst 1, 1) := by decide +kernel
theorem dX9_followsAside_140 : decode cX9_followsAside 140 = .ok (.isub, 1) := by decide +kernel
theorem dX9_followsAside_141 : decode cX9_followsAside 141 = .ok (.iaload, 1) := by decide +kernel
theorem dX9_followsAside_142 : decode cX9_followsAside 142 = .ok (.goto 5, 3) := by decide +kernel
theorem dX9_followsAside_145 : decode cX9_followsAside 145 = .ok (.bipush (-9), 2) := by decide +kernel
theorem dX9_followsAside_147 : decode cX9_followsAside 147 = .ok (.ireturn, 1) := by decide +kernel
theorem dX9_followsAside_148 : decode cX9_followsAside 148 = .ok (.bipush 20, 2) := by decide +kernel
theorem dX9_followsAside_150 : decode cX9_followsAside 150 = .ok (.ireturn, 1) := by decide +kernel
theorem dX9_followsAside_151 : decode cX9_followsAside 151 = .ok (.bipush 21, 2) := by decide +kernel
theorem dX9_followsAside_153 : decode cX9_followsAside 153 = .ok (.ireturn, 1) := by decide +kernel
theorem dX9_corrections_0 : decode cX9_corrections 0 = .ok (.iload_n 0, 1) := by decide +kernel
theorem dX9_corrections_1 : decode cX9_corrections 1 = .ok (.tableswitch 63 98 107 #[57, 55, 63, 63, 63, 63, 59, 63, 63, 61], 55) := by decide +kernel
theorem dX9_corrections_56 : decode cX9_corrections 56 = .ok (.iconst 2, 1) := by decide +kernel
theorem dX9_corrections_57 : decode cX9_corrections 57 = .ok (.ireturn, 1) := by decide +kernel
theorem dX9_corrections_58 : decode cX9_corrections 58 = .ok (.iconst 0, 1) := by decide +kernel
theorem dX9_corrections_59 : decode cX9_corrections 59 = .ok (.ireturn, 1) := by decide +kernel
theorem dX9_corrections_60 : decode cX9_corrections 60 = .ok (.iconst 0, 1) := by decide +kernel
theorem dX9_corrections_61 : decode cX9_corrections 61 = .ok (.ireturn, 1) := by decide +kernel
theorem dX9_corrections_62 : decode cX9_corrections 62 = .ok (.iconst 5, 1) := by decide +kernel
theorem dX9_corrections_63 : decode cX9_corrections 63 = .ok (.ireturn, 1) := by decide +kernel
theorem dX9_corrections_64 : decode cX9_corrections 64 = .ok (.iconst 1, 1) := by decide +kernel
theorem dX9_corrections_65 : decode cX9_corrections 65 = .ok (.ireturn, 1) := by decide +kernel
theorem dX9_free_0 : decode cX9_free 0 = .ok (.iload_n 1, 1) := by decide +kernel
theorem dX9_free_1 : decode cX9_free 1 = .ok (.ifCond .lt 8, 3) := by decide +kernel
theorem dX9_free_4 : decode cX9_free 4 = .ok (.iload_n 1, 1) := by decide +kernel
theorem dX9_free_5 : decode cX9_free 5 = .ok (.iconst 3, 1) := by decide +kernel
theorem dX9_free_6 : decode cX9_free 6 = .ok (.if_icmp .le 6, 3) := by decide +kernel
theorem dX9_free_9 : decode cX9_free 9 = .ok (.bipush (-2), 2) := by decide +kernel
theorem dX9_free_11 : decode cX9_free 11 = .ok (.ireturn, 1) := by decide +kernel
theorem dX9_free_12 : decode cX9_free 12 = .ok (.aload_n 0, 1) := by decide +kernel
theorem dX9_free_13 : decode cX9_free 13 = .ok (.getfield 61, 3) := by decide +kernel
theorem dX9_free_16 : decode cX9_free 16 = .ok (.aload_n 0, 1) := by decide +kernel
theorem dX9_free_17 : decode cX9_free 17 = .ok (.getfield 29, 3) := by decide +kernel
theorem dX9_free_20 : decode cX9_free 20 = .ok (.getfield 96, 3) := by decide +kernel
theorem dX9_free_23 : decode cX9_free 23 = .ok (.invokevirtual 232, 3) := by decide +kernel
theorem dX9_free_26 : decode cX9_free 26 = .ok (.aload_n 0, 1) := by decide +kernel
theorem dX9_free_27 : decode cX9_free 27 = .ok (.getfield 61, 3) := by decide +kernel
theorem dX9_free_30 : decode cX9_free 30 = .ok (.aload_n 0, 1) := by decide +kernel
theorem dX9_free_31 : decode cX9_free 31 = .ok (.getfield 19, 3) := by decide +kernel
theorem dX9_free_34 : decode cX9_free 34 = .ok (.bipush (-9), 2) := by decide +kernel
theorem dX9_free_36 : decode cX9_free 36 = .ok (.invokevirtual 236, 3) := by decide +kernel
theorem dX9_free_39 : decode cX9_free 39 = .ok (.iload_n 1, 1) := by decide +kernel
theorem dX9_free_40 : decode cX9_free 40 = .ok (.tableswitch 55 0 2 #[28, 36, 44], 28) := by decide +kernel
theorem dX9_free_68 : decode cX9_free 68 = .ok (.aload_n 0, 1) := by decide +kernel
theorem dX9_free_69 : decode cX9_free 69 = .ok (.getfield 61, 3) := by decide +kernel
theorem dX9_free_72 : decode cX9_free 72 = .ok (.getfield 240, 3) := by decide +kernel
theorem dX9_free_75 : decode cX9_free 75 = .ok (.ireturn, 1) := by decide +kernel
theorem dX9_free_76 : decode cX9_free 76 = .ok (.aload_n 0, 1) := by decide +kernel
theorem dX9_free_77 : decode cX9_free 77 = .ok (.getfield 61, 3) := by decide +kernel
theorem dX9_free_80 : decode cX9_free 80 = .ok (.getfield 243, 3) := by decide +kernel
theorem dX9_free_83 : decode cX9_free 83 = .ok (.ireturn, 1) := by decide +kernel
theorem dX9_free_84 : decode cX9_free 84 = .ok (.aload_n 0, 1) := by decide +kernel
theorem dX9_free_85 : decode cX9_free 85 = .ok (.getfield 61, 3) := by decide +kernel
theorem dX9_free_88 : decode cX9_free 88 = .ok (.getfield 246, 3) := by decide +kernel
theorem dX9_free_91 : decode cX9_free 91 = .ok (.getfield 112, 3) := by decide +kernel
theorem dX9_free_94 : decode cX9_free 94 = .ok (.ireturn, 1) := by decide +kernel
theorem dX9_free_95 : decode cX9_free 95 = .ok (.aload_n 0, 1) := by decide +kernel
theorem dX9_free_96 : decode cX9_free 96 = .ok (.getfield 61, 3) := by decide +kernel
theorem dX9_free_99 : decode cX9_free 99 = .ok (.getfield 246, 3) := by decide +kernel
theorem dX9_free_102 : decode cX9_free 102 = .ok (.getfield 115, 3) := by decide +kernel
theorem dX9_free_105 : decode cX9_free 105 = .ok (.ireturn, 1) := by decide +kernel
theorem dX9_judge_0 : decode cX9_judge 0 = .ok (.iload_n 1, 1) := by decide +kernel
theorem dX9_judge_1 : decode cX9_judge 1 = .ok (.iconst 1, 1) := by decide +kernel
theorem dX9_judge_2 : decode cX9_judge 2 = .ok (.if_icmp .lt 26, 3) := by decide +kernel
theorem dX9_judge_5 : decode cX9_judge 5 = .ok (.iload_n 1, 1) := by decide +kernel
theorem dX9_judge_6 : decode cX9_judge 6 = .ok (.iconst 4, 1) := by decide +kernel
theorem dX9_judge_7 : decode cX9_judge 7 = .ok (.if_icmp .gt 21, 3) := by decide +kernel
theorem dX9_judge_10 : decode cX9_judge 10 = .ok (.lload_n 2, 1) := by decide +kernel
theorem dX9_judge_11 : decode cX9_judge 11 = .ok (.lconst 0, 1) := by decide +kernel
theorem dX9_judge_12 : decode cX9_judge 12 = .ok (.lcmp, 1) := by decide +kernel
theorem dX9_judge_13 : decode cX9_judge 13 = .ok (.ifCond .lt 15, 3) := by decide +kernel
theorem dX9_judge_16 : decode cX9_judge 16 = .ok (.lload_n 2, 1) := by decide +kernel
theorem dX9_judge_17 : decode cX9_judge 17 = .ok (.sipush 1000, 3) := by decide +kernel
theorem dX9_judge_20 : decode cX9_judge 20 = .ok (.iload_n 1, 1) := by decide +kernel
theorem dX9_judge_21 : decode cX9_judge 21 = .ok (.invokestatic 247, 3) := by decide +kernel
theorem dX9_judge_24 : decode cX9_judge 24 = .ok (.lcmp, 1) := by decide +kernel
theorem dX9_judge_25 : decode cX9_judge 25 = .ok (.ifCond .lt 6, 3) := by decide +kernel
theorem dX9_judge_28 : decode cX9_judge 28 = .ok (.bipush (-2), 2) := by decide +kernel
theorem dX9_judge_30 : decode cX9_judge 30 = .ok (.ireturn, 1) := by decide +kernel
theorem dX9_judge_31 : decode cX9_judge 31 = .ok (.aload_n 0, 1) := by decide +kernel
theorem dX9_judge_32 : decode cX9_judge 32 = .ok (.getfield 33, 3) := by decide +kernel
theorem dX9_judge_35 : decode cX9_judge 35 = .ok (.aload_n 0, 1) := by decide +kernel
theorem dX9_judge_36 : decode cX9_judge 36 = .ok (.getfield 29, 3) := by decide +kernel
theorem dX9_judge_39 : decode cX9_judge 39 = .ok (.invokevirtual 251, 3) := by decide +kernel
theorem dX9_judge_42 : decode cX9_judge 42 = .ok (.iconst 0, 1) := by decide +kernel
theorem dX9_judge_43 : decode cX9_judge 43 = .ok (.istore 4, 2) := by decide +kernel
theorem dX9_judge_45 : decode cX9_judge 45 = .ok (.iload 4, 2) := by decide +kernel
theorem dX9_judge_47 : decode cX9_judge 47 = .ok (.iload_n 1, 1) := by decide +kernel
theorem dX9_judge_48 : decode cX9_judge 48 = .ok (.if_icmp .ge 49, 3) := by decide +kernel
theorem dX9_judge_51 : decode cX9_judge 51 = .ok (.lload_n 2, 1) := by decide +kernel
theorem dX9_judge_52 : decode cX9_judge 52 = .ok (.iload_n 1, 1) := by decide +kernel
theorem dX9_judge_53 : decode cX9_judge 53 = .ok (.iconst 1, 1) := by decide +kernel
theorem dX9_judge_54 : decode cX9_judge 54 = .ok (.isub, 1) := by decide +kernel
theorem dX9_judge_55 : decode cX9_judge 55 = .ok (.iload 4, 2) := by decide +kernel
theorem dX9_judge_57 : decode cX9_judge 57 = .ok (.isub, 1) := by decide +kernel
theorem dX9_judge_58 : decode cX9_judge 58 = .ok (.invokestatic 254, 3) := by decide +kernel
theorem dX9_judge_61 : decode cX9_judge 61 = .ok (.istore 5, 2) := by decide +kernel
theorem dX9_judge_63 : decode cX9_judge 63 = .ok (.aload_n 0, 1) := by decide +kernel
theorem dX9_judge_64 : decode cX9_judge 64 = .ok (.iload 5, 2) := by decide +kernel
theorem dX9_judge_66 : decode cX9_judge 66 = .ok (.bipush 100, 2) := by decide +kernel
theorem dX9_judge_68 : decode cX9_judge 68 = .ok (.idiv, 1) := by decide +kernel
theorem dX9_judge_69 : decode cX9_judge 69 = .ok (.iload 5, 2) := by decide +kernel
theorem dX9_judge_71 : decode cX9_judge 71 = .ok (.bipush 10, 2) := by decide +kernel
theorem dX9_judge_73 : decode cX9_judge 73 = .ok (.idiv, 1) := by decide +kernel
theorem dX9_judge_74 : decode cX9_judge 74 = .ok (.bipush 10, 2) := by decide +kernel
theorem dX9_judge_76 : decode cX9_judge 76 = .ok (.irem, 1) := by decide +kernel
theorem dX9_judge_77 : decode cX9_judge 77 = .ok (.iload 5, 2) := by decide +kernel
theorem dX9_judge_79 : decode cX9_judge 79 = .ok (.bipush 10, 2) := by decide +kernel
theorem dX9_judge_81 : decode cX9_judge 81 = .ok (.irem, 1) := by decide +kernel
theorem dX9_judge_82 : decode cX9_judge 82 = .ok (.invokevirtual 258, 3) := by decide +kernel
theorem dX9_judge_85 : decode cX9_judge 85 = .ok (.ifCond .ne 6, 3) := by decide +kernel
theorem dX9_judge_88 : decode cX9_judge 88 = .ok (.iload 4, 2) := by decide +kernel
theorem dX9_judge_90 : decode cX9_judge 90 = .ok (.ireturn, 1) := by decide +kernel
theorem dX9_judge_91 : decode cX9_judge 91 = .ok (.iinc 4 1, 3) := by decide +kernel
theorem dX9_judge_94 : decode cX9_judge 94 = .ok (.goto (-49), 3) := by decide +kernel
theorem dX9_judge_97 : decode cX9_judge 97 = .ok (.bipush (-9), 2) := by decide +kernel
theorem dX9_judge_99 : decode cX9_judge 99 = .ok (.ireturn, 1) := by decide +kernel
theorem dX9_statementAt_0 : decode cX9_statementAt 0 = .ok (.lload_n 0, 1) := by decide +kernel
theorem dX9_statementAt_1 : decode cX9_statementAt 1 = .ok (.lstore_n 3, 1) := by decide +kernel
theorem dX9_statementAt_2 : decode cX9_statementAt 2 = .ok (.iconst 0, 1) := by decide +kernel
theorem dX9_statementAt_3 : decode cX9_statementAt 3 = .ok (.istore 5, 2) := by decide +kernel
theorem dX9_statementAt_5 : decode cX9_statementAt 5 = .ok (.iload 5, 2) := by decide +kernel
theorem dX9_statementAt_7 : decode cX9_statementAt 7 = .ok (.iload_n 2, 1) := by decide +kernel
theorem dX9_statementAt_8 : decode cX9_statementAt 8 = .ok (.if_icmp .ge 15, 3) := by decide +kernel
theorem dX9_statementAt_11 : decode cX9_statementAt 11 = .ok (.lload_n 3, 1) := by decide +kernel
theorem dX9_statementAt_12 : decode cX9_statementAt 12 = .ok (.ldc2_w 262, 3) := by decide +kernel
theorem dX9_statementAt_15 : decode cX9_statementAt 15 = .ok (.ldiv, 1) := by decide +kernel
theorem dX9_statementAt_16 : decode cX9_statementAt 16 = .ok (.lstore_n 3, 1) := by decide +kernel
theorem dX9_statementAt_17 : decode cX9_statementAt 17 = .ok (.iinc 5 1, 3) := by decide +kernel
theorem dX9_statementAt_20 : decode cX9_statementAt 20 = .ok (.goto (-15), 3) := by decide +kernel
theorem dX9_statementAt_23 : decode cX9_statementAt 23 = .ok (.lload_n 3, 1) := by decide +kernel
theorem dX9_statementAt_24 : decode cX9_statementAt 24 = .ok (.ldc2_w 262, 3) := by decide +kernel
theorem dX9_statementAt_27 : decode cX9_statementAt 27 = .ok (.lrem, 1) := by decide +kernel
theorem dX9_statementAt_28 : decode cX9_statementAt 28 = .ok (.l2i, 1) := by decide +kernel
theorem dX9_statementAt_29 : decode cX9_statementAt 29 = .ok (.ireturn, 1) := by decide +kernel
theorem dX9_holds_0 : decode cX9_holds 0 = .ok (.bipush 10, 2) := by decide +kernel
theorem dX9_holds_2 : decode cX9_holds 2 = .ok (.iload_n 2, 1) := by decide +kernel
theorem dX9_holds_3 : decode cX9_holds 3 = .ok (.imul, 1) := by decide +kernel
theorem dX9_holds_4 : decode cX9_holds 4 = .ok (.iload_n 3, 1) := by decide +kernel
theorem dX9_holds_5 : decode cX9_holds 5 = .ok (.iadd, 1) := by decide +kernel
theorem dX9_holds_6 : decode cX9_holds 6 = .ok (.istore 4, 2) := by decide +kernel
theorem dX9_holds_8 : decode cX9_holds 8 = .ok (.iload_n 1, 1) := by decide +kernel
theorem dX9_holds_9 : decode cX9_holds 9 = .ok (.tableswitch 226 1 7 #[43, 76, 103, 124, 153, 181, 205], 43) := by decide +kernel
theorem dX9_holds_52 : decode cX9_holds 52 = .ok (.iload_n 2, 1) := by decide +kernel
theorem dX9_holds_53 : decode cX9_holds 53 = .ok (.ifCond .ne 30, 3) := by decide +kernel
theorem dX9_holds_56 : decode cX9_holds 56 = .ok (.iload_n 3, 1) := by decide +kernel
theorem dX9_holds_57 : decode cX9_holds 57 = .ok (.iconst 3, 1) := by decide +kernel
theorem dX9_holds_58 : decode cX9_holds 58 = .ok (.if_icmp .gt 25, 3) := by decide +kernel
theorem dX9_holds_61 : decode cX9_holds 61 = .ok (.aload_n 0, 1) := by decide +kernel
theorem dX9_holds_62 : decode cX9_holds 62 = .ok (.getfield 33, 3) := by decide +kernel
theorem dX9_holds_65 : decode cX9_holds 65 = .ok (.iload_n 3, 1) := by decide +kernel
theorem dX9_holds_66 : decode cX9_holds 66 = .ok (.aload_n 0, 1) := by decide +kernel
theorem dX9_holds_67 : decode cX9_holds 67 = .ok (.getfield 19, 3) := by decide +kernel
theorem dX9_holds_70 : decode cX9_holds 70 = .ok (.invokevirtual 182, 3) := by decide +kernel
theorem dX9_holds_73 : decode cX9_holds 73 = .ok (.invokestatic 264, 3) := by decide +kernel
theorem dX9_holds_76 : decode cX9_holds 76 = .ok (.ifCond .eq 7, 3) := by decide +kernel
theorem dX9_holds_79 : decode cX9_holds 79 = .ok (.iconst 1, 1) := by decide +kernel
theorem dX9_holds_80 : decode cX9_holds 80 = .ok (.goto 4, 3) := by decide +kernel
theorem dX9_holds_83 : decode cX9_holds 83 = .ok (.iconst 0, 1) := by decide +kernel
theorem dX9_holds_84 : decode cX9_holds 84 = .ok (.ireturn, 1) := by decide +kernel
theorem dX9_holds_85 : decode cX9_holds 85 = .ok (.aload_n 0, 1) := by decide +kernel
theorem dX9_holds_86 : decode cX9_holds 86 = .ok (.getfield 19, 3) := by decide +kernel
theorem dX9_holds_89 : decode cX9_holds 89 = .ok (.iload 4, 2) := by decide +kernel
theorem dX9_holds_91 : decode cX9_holds 91 = .ok (.invokevirtual 165, 3) := by decide +kernel
theorem dX9_holds_94 : decode cX9_holds 94 = .ok (.ifCond .eq 16, 3) := by decide +kernel
theorem dX9_holds_97 : decode cX9_holds 97 = .ok (.aload_n 0, 1) := by decide +kernel
theorem dX9_holds_98 : decode cX9_holds 98 = .ok (.iload 4, 2) := by decide +kernel
theorem dX9_holds_100 : decode cX9_holds 100 = .ok (.invokevirtual 267, 3) := by decide +kernel
theorem dX9_holds_103 : decode cX9_holds 103 = .ok (.ifCond .eq 7, 3) := by decide +kernel
theorem dX9_holds_106 : decode cX9_holds 106 = .ok (.iconst 1, 1) := by decide +kernel
theorem dX9_holds_107 : decode cX9_holds 107 = .ok (.goto 4, 3) := by decide +kernel
theorem dX9_holds_110 : decode cX9_holds 110 = .ok (.iconst 0, 1) := by decide +kernel
theorem dX9_holds_111 : decode cX9_holds 111 = .ok (.ireturn, 1) := by decide +kernel
theorem dX9_holds_112 : decode cX9_holds 112 = .ok (.aload_n 0, 1) := by decide +kernel
theorem dX9_holds_113 : decode cX9_holds 113 = .ok (.getfield 33, 3) := by decide +kernel
theorem dX9_holds_116 : decode cX9_holds 116 = .ok (.getfield 96, 3) := by decide +kernel
theorem dX9_holds_119 : decode cX9_holds 119 = .ok (.getfield 100, 3) := by decide +kernel
theorem dX9_holds_122 : decode cX9_holds 122 = .ok (.iload 4, 2) := by decide +kernel
theorem dX9_holds_124 : decode cX9_holds 124 = .ok (.if_icmp .ne 7, 3) := by decide +kernel
theorem dX9_holds_127 : decode cX9_holds 127 = .ok (.iconst 1, 1) := by decide +kernel
theorem dX9_holds_128 : decode cX9_holds 128 = .ok (.goto 4, 3) := by decide +kernel
theorem dX9_holds_131 : decode cX9_holds 131 = .ok (.iconst 0, 1) := by decide +kernel
theorem dX9_holds_132 : decode cX9_holds 132 = .ok (.ireturn, 1) := by decide +kernel
theorem dX9_holds_133 : decode cX9_holds 133 = .ok (.iload_n 2, 1) := by decide +kernel
theorem dX9_holds_134 : decode cX9_holds 134 = .ok (.invokestatic 149, 3) := by decide +kernel
theorem dX9_holds_137 : decode cX9_holds 137 = .ok (.ifCond .eq 23, 3) := by decide +kernel
theorem dX9_holds_140 : decode cX9_holds 140 = .ok (.aload_n 0, 1) := by decide +kernel
theorem dX9_holds_141 : decode cX9_holds 141 = .ok (.getfield 33, 3) := by decide +kernel
theorem dX9_holds_144 : decode cX9_holds 144 = .ok (.getfield 96, 3) := by decide +kernel
theorem dX9_holds_147 : decode cX9_holds 147 = .ok (.getfield 153, 3) := by decide +kernel
theorem dX9_holds_150 : decode cX9_holds 150 = .ok (.iload_n 2, 1) := by decide +kernel
theorem dX9_holds_151 : decode cX9_holds 151 = .ok (.iaload, 1) := by decide +kernel
theorem dX9_holds_152 : decode cX9_holds 152 = .ok (.iload_n 3, 1) := by decide +kernel
theorem dX9_holds_153 : decode cX9_holds 153 = .ok (.if_icmp .ne 7, 3) := by decide +kernel
theorem dX9_holds_156 : decode cX9_holds 156 = .ok (.iconst 1, 1) := by decide +kernel
theorem dX9_holds_157 : decode cX9_holds 157 = .ok (.goto 4, 3) := by decide +kernel
theorem dX9_holds_160 : decode cX9_holds 160 = .ok (.iconst 0, 1) := by decide +kernel
theorem dX9_holds_161 : decode cX9_holds 161 = .ok (.ireturn, 1) := by decide +kernel
theorem dX9_holds_162 : decode cX9_holds 162 = .ok (.iload_n 2, 1) := by decide +kernel
theorem dX9_holds_163 : decode cX9_holds 163 = .ok (.ifCond .ne 25, 3) := by decide +kernel
theorem dX9_holds_166 : decode cX9_holds 166 = .ok (.iload_n 3, 1) := by decide +kernel
theorem dX9_holds_167 : decode cX9_holds 167 = .ok (.invokestatic 156, 3) := by decide +kernel
theorem dX9_holds_170 : decode cX9_holds 170 = .ok (.ifCond .eq 18, 3) := by decide +kernel
theorem dX9_holds_173 : decode cX9_holds 173 = .ok (.aload_n 0, 1) := by decide +kernel
theorem dX9_holds_174 : decode cX9_holds 174 = .ok (.getfield 33, 3) := by decide +kernel
theorem dX9_holds_177 : decode cX9_holds 177 = .ok (.iload_n 3, 1) := by decide +kernel
theorem dX9_holds_178 : decode cX9_holds 178 = .ok (.invokevirtual 208, 3) := by decide +kernel
theorem dX9_holds_181 : decode cX9_holds 181 = .ok (.ifCond .eq 7, 3) := by decide +kernel
theorem dX9_holds_184 : decode cX9_holds 184 = .ok (.iconst 1, 1) := by decide +kernel
theorem dX9_holds_185 : decode cX9_holds 185 = .ok (.goto 4, 3) := by decide +kernel
theorem dX9_holds_188 : decode cX9_holds 188 = .ok (.iconst 0, 1) := by decide +kernel
theorem dX9_holds_189 : decode cX9_holds 189 = .ok (.ireturn, 1) := by decide +kernel
theorem dX9_holds_190 : decode cX9_holds 190 = .ok (.iload_n 2, 1) := by decide +kernel
theorem dX9_holds_191 : decode cX9_holds 191 = .ok (.ifCond .ne 21, 3) := by decide +kernel
theorem dX9_holds_194 : decode cX9_holds 194 = .ok (.aload_n 0, 1) := by decide +kernel
theorem dX9_holds_195 : decode cX9_holds 195 = .ok (.getfield 33, 3) := by decide +kernel
theorem dX9_holds_198 : decode cX9_holds 198 = .ok (.getfield 96, 3) := by decide +kernel
theorem dX9_holds_201 : decode cX9_holds 201 = .ok (.getfield 105, 3) := by decide +kernel
theorem dX9_holds_204 : decode cX9_holds 204 = .ok (.iload_n 3, 1) := by decide +kernel
theorem dX9_holds_205 : decode cX9_holds 205 = .ok (.if_icmp .ne 7, 3) := by decide +kernel
theorem dX9_holds_208 : decode cX9_holds 208 = .ok (.iconst 1, 1) := by decide +kernel
theorem dX9_holds_209 : decode cX9_holds 209 = .ok (.goto 4, 3) := by decide +kernel
theorem dX9_holds_212 : decode cX9_holds 212 = .ok (.iconst 0, 1) := by decide +kernel
theorem dX9_holds_213 : decode cX9_holds 213 = .ok (.ireturn, 1) := by decide +kernel
theorem dX9_holds_214 : decode cX9_holds 214 = .ok (.aload_n 0, 1) := by decide +kernel
theorem dX9_holds_215 : decode cX9_holds 215 = .ok (.getfield 33, 3) := by decide +kernel
theorem dX9_holds_218 : decode cX9_holds 218 = .ok (.getfield 96, 3) := by decide +kernel
theorem dX9_holds_221 : decode cX9_holds 221 = .ok (.getfield 112, 3) := by decide +kernel
theorem dX9_holds_224 : decode cX9_holds 224 = .ok (.iload 4, 2) := by decide +kernel
theorem dX9_holds_226 : decode cX9_holds 226 = .ok (.if_icmp .ne 7, 3) := by decide +kernel
theorem dX9_holds_229 : decode cX9_holds 229 = .ok (.iconst 1, 1) := by decide +kernel
theorem dX9_holds_230 : decode cX9_holds 230 = .ok (.goto 4, 3) := by decide +kernel
theorem dX9_holds_233 : decode cX9_holds 233 = .ok (.iconst 0, 1) := by decide +kernel
theorem dX9_holds_234 : decode cX9_holds 234 = .ok (.ireturn, 1) := by decide +kernel
theorem dX9_holds_235 : decode cX9_holds 235 = .ok (.iconst 0, 1) := by decide +kernel
theorem dX9_holds_236 : decode cX9_holds 236 = .ok (.ireturn, 1) := by decide +kernel
theorem dX9_isGood_0 : decode cX9_isGood 0 = .ok (.iload_n 0, 1) := by decide +kernel
theorem dX9_isGood_1 : decode cX9_isGood 1 = .ok (.ifCond .eq 8, 3) := by decide +kernel
theorem dX9_isGood_4 : decode cX9_isGood 4 = .ok (.iload_n 0, 1) := by decide +kernel
theorem dX9_isGood_5 : decode cX9_isGood 5 = .ok (.iconst 1, 1) := by decide +kernel
theorem dX9_isGood_6 : decode cX9_isGood 6 = .ok (.if_icmp .ne 7, 3) := by decide +kernel
theorem dX9_isGood_9 : decode cX9_isGood 9 = .ok (.iconst 1, 1) := by decide +kernel
theorem dX9_isGood_10 : decode cX9_isGood 10 = .ok (.goto 4, 3) := by decide +kernel
theorem dX9_isGood_13 : decode cX9_isGood 13 = .ok (.iconst 0, 1) := by decide +kernel
theorem dX9_isGood_14 : decode cX9_isGood 14 = .ok (.ireturn, 1) := by decide +kernel
theorem dX9_takesBreak_0 : decode cX9_takesBreak 0 = .ok (.aload_n 0, 1) := by decide +kernel
theorem dX9_takesBreak_1 : decode cX9_takesBreak 1 = .ok (.getfield 33, 3) := by decide +kernel
theorem dX9_takesBreak_4 : decode cX9_takesBreak 4 = .ok (.getfield 118, 3) := by decide +kernel
theorem dX9_takesBreak_7 : decode cX9_takesBreak 7 = .ok (.iload_n 1, 1) := by decide +kernel
theorem dX9_takesBreak_8 : decode cX9_takesBreak 8 = .ok (.invokevirtual 194, 3) := by decide +kernel
theorem dX9_takesBreak_11 : decode cX9_takesBreak 11 = .ok (.ifCond .eq 5, 3) := by decide +kernel
theorem dX9_takesBreak_14 : decode cX9_takesBreak 14 = .ok (.iconst 0, 1) := by decide +kernel
theorem dX9_takesBreak_15 : decode cX9_takesBreak 15 = .ok (.ireturn, 1) := by decide +kernel
theorem dX9_takesBreak_16 : decode cX9_takesBreak 16 = .ok (.aload_n 0, 1) := by decide +kernel
theorem dX9_takesBreak_17 : decode cX9_takesBreak 17 = .ok (.getfield 33, 3) := by decide +kernel
theorem dX9_takesBreak_20 : decode cX9_takesBreak 20 = .ok (.getfield 118, 3) := by decide +kernel
theorem dX9_takesBreak_23 : decode cX9_takesBreak 23 = .ok (.iload_n 1, 1) := by decide +kernel
theorem dX9_takesBreak_24 : decode cX9_takesBreak 24 = .ok (.bipush (-9), 2) := by decide +kernel
theorem dX9_takesBreak_26 : decode cX9_takesBreak 26 = .ok (.bipush (-9), 2) := by decide +kernel
theorem dX9_takesBreak_28 : decode cX9_takesBreak 28 = .ok (.bipush (-9), 2) := by decide +kernel
theorem dX9_takesBreak_30 : decode cX9_takesBreak 30 = .ok (.iconst 0, 1) := by decide +kernel
theorem dX9_takesBreak_31 : decode cX9_takesBreak 31 = .ok (.invokevirtual 197, 3) := by decide +kernel
theorem dX9_takesBreak_34 : decode cX9_takesBreak 34 = .ok (.iconst 1, 1) := by decide +kernel
theorem dX9_takesBreak_35 : decode cX9_takesBreak 35 = .ok (.ireturn, 1) := by decide +kernel
theorem dX9_see_0 : decode cX9_see 0 = .ok (.iload_n 1, 1) := by decide +kernel
theorem dX9_see_1 : decode cX9_see 1 = .ok (.ifCond .lt 18, 3) := by decide +kernel
theorem dX9_see_4 : decode cX9_see 4 = .ok (.iload_n 1, 1) := by decide +kernel
theorem dX9_see_5 : decode cX9_see 5 = .ok (.bipush 99, 2) := by decide +kernel
theorem dX9_see_7 : decode cX9_see 7 = .ok (.if_icmp .gt 12, 3) := by decide +kernel
theorem dX9_see_10 : decode cX9_see 10 = .ok (.iload_n 2, 1) := by decide +kernel
theorem dX9_see_11 : decode cX9_see 11 = .ok (.ifCond .lt 8, 3) := by decide +kernel
theorem dX9_see_14 : decode cX9_see 14 = .ok (.iload_n 2, 1) := by decide +kernel
theorem dX9_see_15 : decode cX9_see 15 = .ok (.iconst 1, 1) := by decide +kernel
theorem dX9_see_16 : decode cX9_see 16 = .ok (.if_icmp .le 6, 3) := by decide +kernel
theorem dX9_see_19 : decode cX9_see 19 = .ok (.bipush (-2), 2) := by decide +kernel
theorem dX9_see_21 : decode cX9_see 21 = .ok (.ireturn, 1) := by decide +kernel
theorem dX9_see_22 : decode cX9_see 22 = .ok (.aload_n 0, 1) := by decide +kernel
theorem dX9_see_23 : decode cX9_see 23 = .ok (.getfield 54, 3) := by decide +kernel
theorem dX9_see_26 : decode cX9_see 26 = .ok (.getfield 146, 3) := by decide +kernel
theorem dX9_see_29 : decode cX9_see 29 = .ok (.bipush 6, 2) := by decide +kernel
theorem dX9_see_31 : decode cX9_see 31 = .ok (.if_icmp .lt 6, 3) := by decide +kernel
theorem dX9_see_34 : decode cX9_see 34 = .ok (.bipush (-4), 2) := by decide +kernel
theorem dX9_see_36 : decode cX9_see 36 = .ok (.ireturn, 1) := by decide +kernel
theorem dX9_see_37 : decode cX9_see 37 = .ok (.aload_n 0, 1) := by decide +kernel
theorem dX9_see_38 : decode cX9_see 38 = .ok (.getfield 54, 3) := by decide +kernel
theorem dX9_see_41 : decode cX9_see 41 = .ok (.iload_n 1, 1) := by decide +kernel
theorem dX9_see_42 : decode cX9_see 42 = .ok (.iload_n 2, 1) := by decide +kernel
theorem dX9_see_43 : decode cX9_see 43 = .ok (.iconst 1, 1) := by decide +kernel
theorem dX9_see_44 : decode cX9_see 44 = .ok (.if_icmp .ne 7, 3) := by decide +kernel
theorem dX9_see_47 : decode cX9_see 47 = .ok (.iconst 1, 1) := by decide +kernel
theorem dX9_see_48 : decode cX9_see 48 = .ok (.goto 4, 3) := by decide +kernel
theorem dX9_see_51 : decode cX9_see 51 = .ok (.iconst 0, 1) := by decide +kernel
theorem dX9_see_52 : decode cX9_see 52 = .ok (.invokevirtual 270, 3) := by decide +kernel
theorem dX9_see_55 : decode cX9_see 55 = .ok (.aload_n 0, 1) := by decide +kernel
theorem dX9_see_56 : decode cX9_see 56 = .ok (.getfield 54, 3) := by decide +kernel
theorem dX9_see_59 : decode cX9_see 59 = .ok (.getfield 146, 3) := by decide +kernel
theorem dX9_see_62 : decode cX9_see 62 = .ok (.ireturn, 1) := by decide +kernel
theorem dX9_unsee_0 : decode cX9_unsee 0 = .ok (.aload_n 0, 1) := by decide +kernel
theorem dX9_unsee_1 : decode cX9_unsee 1 = .ok (.getfield 54, 3) := by decide +kernel
theorem dX9_unsee_4 : decode cX9_unsee 4 = .ok (.getfield 146, 3) := by decide +kernel
theorem dX9_unsee_7 : decode cX9_unsee 7 = .ok (.istore_n 1, 1) := by decide +kernel
theorem dX9_unsee_8 : decode cX9_unsee 8 = .ok (.aload_n 0, 1) := by decide +kernel
theorem dX9_unsee_9 : decode cX9_unsee 9 = .ok (.getfield 54, 3) := by decide +kernel
theorem dX9_unsee_12 : decode cX9_unsee 12 = .ok (.iconst 0, 1) := by decide +kernel
theorem dX9_unsee_13 : decode cX9_unsee 13 = .ok (.putfield 146, 3) := by decide +kernel
theorem dX9_unsee_16 : decode cX9_unsee 16 = .ok (.iload_n 1, 1) := by decide +kernel
theorem dX9_unsee_17 : decode cX9_unsee 17 = .ok (.ireturn, 1) := by decide +kernel
theorem dX9_which_0 : decode cX9_which 0 = .ok (.iconst 0, 1) := by decide +kernel
theorem dX9_which_1 : decode cX9_which 1 = .ok (.istore_n 1, 1) := by decide +kernel
theorem dX9_which_2 : decode cX9_which 2 = .ok (.iconst 0, 1) := by decide +kernel
theorem dX9_which_3 : decode cX9_which 3 = .ok (.istore_n 2, 1) := by decide +kernel
theorem dX9_which_4 : decode cX9_which 4 = .ok (.iload_n 2, 1) := by decide +kernel
theorem dX9_which_5 : decode cX9_which 5 = .ok (.aload_n 0, 1) := by decide +kernel
theorem dX9_which_6 : decode cX9_which 6 = .ok (.getfield 19, 3) := by decide +kernel
theorem dX9_which_9 : decode cX9_which 9 = .ok (.getfield 93, 3) := by decide +kernel
theorem dX9_which_12 : decode cX9_which 12 = .ok (.if_icmp .ge 61, 3) := by decide +kernel
theorem dX9_which_15 : decode cX9_which 15 = .ok (.aload_n 0, 1) := by decide +kernel
theorem dX9_which_16 : decode cX9_which 16 = .ok (.getfield 61, 3) := by decide +kernel
theorem dX9_which_19 : decode cX9_which 19 = .ok (.aload_n 0, 1) := by decide +kernel
theorem dX9_which_20 : decode cX9_which 20 = .ok (.getfield 29, 3) := by decide +kernel
theorem dX9_which_23 : decode cX9_which 23 = .ok (.getfield 96, 3) := by decide +kernel
theorem dX9_which_26 : decode cX9_which 26 = .ok (.invokevirtual 232, 3) := by decide +kernel
theorem dX9_which_29 : decode cX9_which 29 = .ok (.aload_n 0, 1) := by decide +kernel
theorem dX9_which_30 : decode cX9_which 30 = .ok (.getfield 61, 3) := by decide +kernel
theorem dX9_which_33 : decode cX9_which 33 = .ok (.aload_n 0, 1) := by decide +kernel
theorem dX9_which_34 : decode cX9_which 34 = .ok (.getfield 19, 3) := by decide +kernel
theorem dX9_which_37 : decode cX9_which 37 = .ok (.iload_n 2, 1) := by decide +kernel
theorem dX9_which_38 : decode cX9_which 38 = .ok (.invokevirtual 236, 3) := by decide +kernel
theorem dX9_which_41 : decode cX9_which 41 = .ok (.aload_n 0, 1) := by decide +kernel
theorem dX9_which_42 : decode cX9_which 42 = .ok (.getfield 54, 3) := by decide +kernel
theorem dX9_which_45 : decode cX9_which 45 = .ok (.aload_n 0, 1) := by decide +kernel
theorem dX9_which_46 : decode cX9_which 46 = .ok (.getfield 61, 3) := by decide +kernel
theorem dX9_which_49 : decode cX9_which 49 = .ok (.getfield 246, 3) := by decide +kernel
theorem dX9_which_52 : decode cX9_which 52 = .ok (.getfield 112, 3) := by decide +kernel
theorem dX9_which_55 : decode cX9_which 55 = .ok (.invokevirtual 273, 3) := by decide +kernel
theorem dX9_which_58 : decode cX9_which 58 = .ok (.ifCond .eq 9, 3) := by decide +kernel
theorem dX9_which_61 : decode cX9_which 61 = .ok (.iload_n 1, 1) := by decide +kernel
theorem dX9_which_62 : decode cX9_which 62 = .ok (.iconst 1, 1) := by decide +kernel
theorem dX9_which_63 : decode cX9_which 63 = .ok (.iload_n 2, 1) := by decide +kernel
theorem dX9_which_64 : decode cX9_which 64 = .ok (.ishl, 1) := by decide +kernel
theorem dX9_which_65 : decode cX9_which 65 = .ok (.ior, 1) := by decide +kernel
theorem dX9_which_66 : decode cX9_which 66 = .ok (.istore_n 1, 1) := by decide +kernel
theorem dX9_which_67 : decode cX9_which 67 = .ok (.iinc 2 1, 3) := by decide +kernel
theorem dX9_which_70 : decode cX9_which 70 = .ok (.goto (-66), 3) := by decide +kernel
theorem dX9_which_73 : decode cX9_which 73 = .ok (.iload_n 1, 1) := by decide +kernel
theorem dX9_which_74 : decode cX9_which 74 = .ok (.ireturn, 1) := by decide +kernel
theorem dX9_share_0 : decode cX9_share 0 = .ok (.aload_n 0, 1) := by decide +kernel
theorem dX9_share_1 : decode cX9_share 1 = .ok (.getfield 19, 3) := by decide +kernel
theorem dX9_share_4 : decode cX9_share 4 = .ok (.iload_n 1, 1) := by decide +kernel
theorem dX9_share_5 : decode cX9_share 5 = .ok (.invokevirtual 165, 3) := by decide +kernel
theorem dX9_share_8 : decode cX9_share 8 = .ok (.ifCond .ne 5, 3) := by decide +kernel
theorem dX9_share_11 : decode cX9_share 11 = .ok (.iconst (-1), 1) := by decide +kernel
theorem dX9_share_12 : decode cX9_share 12 = .ok (.ireturn, 1) := by decide +kernel
theorem dX9_share_13 : decode cX9_share 13 = .ok (.aload_n 0, 1) := by decide +kernel
theorem dX9_share_14 : decode cX9_share 14 = .ok (.getfield 29, 3) := by decide +kernel
theorem dX9_share_17 : decode cX9_share 17 = .ok (.getfield 118, 3) := by decide +kernel
theorem dX9_share_20 : decode cX9_share 20 = .ok (.iload_n 1, 1) := by decide +kernel
theorem dX9_share_21 : decode cX9_share 21 = .ok (.invokevirtual 201, 3) := by decide +kernel
theorem dX9_share_24 : decode cX9_share 24 = .ok (.ifCond .eq 18, 3) := by decide +kernel
theorem dX9_share_27 : decode cX9_share 27 = .ok (.aload_n 0, 1) := by decide +kernel
theorem dX9_share_28 : decode cX9_share 28 = .ok (.getfield 29, 3) := by decide +kernel
theorem dX9_share_31 : decode cX9_share 31 = .ok (.getfield 118, 3) := by decide +kernel
theorem dX9_share_34 : decode cX9_share 34 = .ok (.invokevirtual 276, 3) := by decide +kernel
theorem dX9_share_37 : decode cX9_share 37 = .ok (.bipush 6, 2) := by decide +kernel
theorem dX9_share_39 : decode cX9_share 39 = .ok (.if_icmp .le 6, 3) := by decide +kernel
theorem dX9_share_42 : decode cX9_share 42 = .ok (.bipush (-3), 2) := by decide +kernel
theorem dX9_share_44 : decode cX9_share 44 = .ok (.ireturn, 1) := by decide +kernel
theorem dX9_share_45 : decode cX9_share 45 = .ok (.aload_n 0, 1) := by decide +kernel
theorem dX9_share_46 : decode cX9_share 46 = .ok (.getfield 68, 3) := by decide +kernel
theorem dX9_share_49 : decode cX9_share 49 = .ok (.aload_n 0, 1) := by decide +kernel
theorem dX9_share_50 : decode cX9_share 50 = .ok (.getfield 29, 3) := by decide +kernel
theorem dX9_share_53 : decode cX9_share 53 = .ok (.aload_n 0, 1) := by decide +kernel
theorem dX9_share_54 : decode cX9_share 54 = .ok (.getfield 19, 3) := by decide +kernel
theorem dX9_share_57 : decode cX9_share 57 = .ok (.invokevirtual 279, 3) := by decide +kernel
theorem dX9_share_60 : decode cX9_share 60 = .ok (.aload_n 0, 1) := by decide +kernel
theorem dX9_share_61 : decode cX9_share 61 = .ok (.getfield 68, 3) := by decide +kernel
theorem dX9_share_64 : decode cX9_share 64 = .ok (.getfield 283, 3) := by decide +kernel
theorem dX9_share_67 : decode cX9_share 67 = .ok (.invokestatic 284, 3) := by decide +kernel
theorem dX9_share_70 : decode cX9_share 70 = .ok (.istore_n 3, 1) := by decide +kernel
theorem dX9_share_71 : decode cX9_share 71 = .ok (.aload_n 0, 1) := by decide +kernel
theorem dX9_share_72 : decode cX9_share 72 = .ok (.getfield 68, 3) := by decide +kernel
theorem dX9_share_75 : decode cX9_share 75 = .ok (.iload_n 1, 1) := by decide +kernel
theorem dX9_share_76 : decode cX9_share 76 = .ok (.invokevirtual 287, 3) := by decide +kernel
theorem dX9_share_79 : decode cX9_share 79 = .ok (.iload_n 3, 1) := by decide +kernel
theorem dX9_share_80 : decode cX9_share 80 = .ok (.iload_n 2, 1) := by decide +kernel
theorem dX9_share_81 : decode cX9_share 81 = .ok (.invokestatic 290, 3) := by decide +kernel
theorem dX9_share_84 : decode cX9_share 84 = .ok (.ireturn, 1) := by decide +kernel
theorem dX9_chance_0 : decode cX9_chance 0 = .ok (.iload_n 1, 1) := by decide +kernel
theorem dX9_chance_1 : decode cX9_chance 1 = .ok (.ifCond .lt 19, 3) := by decide +kernel
theorem dX9_chance_4 : decode cX9_chance 4 = .ok (.iload_n 1, 1) := by decide +kernel
theorem dX9_chance_5 : decode cX9_chance 5 = .ok (.bipush 20, 2) := by decide +kernel
theorem dX9_chance_7 : decode cX9_chance 7 = .ok (.if_icmp .gt 13, 3) := by decide +kernel
theorem dX9_chance_10 : decode cX9_chance 10 = .ok (.iload_n 2, 1) := by decide +kernel
theorem dX9_chance_11 : decode cX9_chance 11 = .ok (.ifCond .lt 9, 3) := by decide +kernel
theorem dX9_chance_14 : decode cX9_chance 14 = .ok (.iload_n 2, 1) := by decide +kernel
theorem dX9_chance_15 : decode cX9_chance 15 = .ok (.bipush 10, 2) := by decide +kernel
theorem dX9_chance_17 : decode cX9_chance 17 = .ok (.if_icmp .le 6, 3) := by decide +kernel
theorem dX9_chance_20 : decode cX9_chance 20 = .ok (.bipush (-2), 2) := by decide +kernel
theorem dX9_chance_22 : decode cX9_chance 22 = .ok (.ireturn, 1) := by decide +kernel
theorem dX9_chance_23 : decode cX9_chance 23 = .ok (.aload_n 0, 1) := by decide +kernel
theorem dX9_chance_24 : decode cX9_chance 24 = .ok (.getfield 29, 3) := by decide +kernel
theorem dX9_chance_27 : decode cX9_chance 27 = .ok (.getfield 118, 3) := by decide +kernel
theorem dX9_chance_30 : decode cX9_chance 30 = .ok (.invokevirtual 276, 3) := by decide +kernel
theorem dX9_chance_33 : decode cX9_chance 33 = .ok (.bipush 6, 2) := by decide +kernel
theorem dX9_chance_35 : decode cX9_chance 35 = .ok (.if_icmp .le 6, 3) := by decide +kernel
theorem dX9_chance_38 : decode cX9_chance 38 = .ok (.bipush (-3), 2) := by decide +kernel
theorem dX9_chance_40 : decode cX9_chance 40 = .ok (.ireturn, 1) := by decide +kernel
theorem dX9_chance_41 : decode cX9_chance 41 = .ok (.aload_n 0, 1) := by decide +kernel
theorem dX9_chance_42 : decode cX9_chance 42 = .ok (.getfield 68, 3) := by decide +kernel
theorem dX9_chance_45 : decode cX9_chance 45 = .ok (.aload_n 0, 1) := by decide +kernel
theorem dX9_chance_46 : decode cX9_chance 46 = .ok (.getfield 29, 3) := by decide +kernel
theorem dX9_chance_49 : decode cX9_chance 49 = .ok (.aload_n 0, 1) := by decide +kernel
theorem dX9_chance_50 : decode cX9_chance 50 = .ok (.getfield 19, 3) := by decide +kernel
theorem dX9_chance_53 : decode cX9_chance 53 = .ok (.invokevirtual 279, 3) := by decide +kernel
theorem dX9_chance_56 : decode cX9_chance 56 = .ok (.bipush 10, 2) := by decide +kernel
theorem dX9_chance_58 : decode cX9_chance 58 = .ok (.aload_n 0, 1) := by decide +kernel
theorem dX9_chance_59 : decode cX9_chance 59 = .ok (.getfield 68, 3) := by decide +kernel
theorem dX9_chance_62 : decode cX9_chance 62 = .ok (.getfield 283, 3) := by decide +kernel
theorem dX9_chance_65 : decode cX9_chance 65 = .ok (.invokestatic 247, 3) := by decide +kernel
theorem dX9_chance_68 : decode cX9_chance 68 = .ok (.l2i, 1) := by decide +kernel
theorem dX9_chance_69 : decode cX9_chance 69 = .ok (.istore 4, 2) := by decide +kernel
theorem dX9_chance_71 : decode cX9_chance 71 = .ok (.aload_n 0, 1) := by decide +kernel
theorem dX9_chance_72 : decode cX9_chance 72 = .ok (.getfield 68, 3) := by decide +kernel
theorem dX9_chance_75 : decode cX9_chance 75 = .ok (.iload_n 1, 1) := by decide +kernel
theorem dX9_chance_76 : decode cX9_chance 76 = .ok (.iload_n 2, 1) := by decide +kernel
theorem dX9_chance_77 : decode cX9_chance 77 = .ok (.invokevirtual 294, 3) := by decide +kernel
theorem dX9_chance_80 : decode cX9_chance 80 = .ok (.iload 4, 2) := by decide +kernel
theorem dX9_chance_82 : decode cX9_chance 82 = .ok (.iload_n 3, 1) := by decide +kernel
theorem dX9_chance_83 : decode cX9_chance 83 = .ok (.invokestatic 290, 3) := by decide +kernel
theorem dX9_chance_86 : decode cX9_chance 86 = .ok (.ireturn, 1) := by decide +kernel
theorem dX9_seed_0 : decode cX9_seed 0 = .ok (.aload_n 0, 1) := by decide +kernel
theorem dX9_seed_1 : decode cX9_seed 1 = .ok (.getfield 297, 3) := by decide +kernel
theorem dX9_seed_4 : decode cX9_seed 4 = .ok (.lstore_n 3, 1) := by decide +kernel
theorem dX9_seed_5 : decode cX9_seed 5 = .ok (.aload_n 0, 1) := by decide +kernel
theorem dX9_seed_6 : decode cX9_seed 6 = .ok (.lload_n 1, 1) := by decide +kernel
theorem dX9_seed_7 : decode cX9_seed 7 = .ok (.putfield 297, 3) := by decide +kernel
theorem dX9_seed_10 : decode cX9_seed 10 = .ok (.lload_n 3, 1) := by decide +kernel
theorem dX9_seed_11 : decode cX9_seed 11 = .ok (.lreturn, 1) := by decide +kernel
theorem dX9_drawn_0 : decode cX9_drawn 0 = .ok (.iload_n 1, 1) := by decide +kernel
theorem dX9_drawn_1 : decode cX9_drawn 1 = .ok (.iconst 1, 1) := by decide +kernel
theorem dX9_drawn_2 : decode cX9_drawn 2 = .ok (.if_icmp .lt 9, 3) := by decide +kernel
theorem dX9_drawn_5 : decode cX9_drawn 5 = .ok (.iload_n 1, 1) := by decide +kernel
theorem dX9_drawn_6 : decode cX9_drawn 6 = .ok (.bipush 10, 2) := by decide +kernel
theorem dX9_drawn_8 : decode cX9_drawn 8 = .ok (.if_icmp .le 6, 3) := by decide +kernel
theorem dX9_drawn_11 : decode cX9_drawn 11 = .ok (.bipush (-2), 2) := by decide +kernel
theorem dX9_drawn_13 : decode cX9_drawn 13 = .ok (.ireturn, 1) := by decide +kernel
theorem dX9_drawn_14 : decode cX9_drawn 14 = .ok (.iconst 0, 1) := by decide +kernel
theorem dX9_drawn_15 : decode cX9_drawn 15 = .ok (.istore_n 2, 1) := by decide +kernel
theorem dX9_drawn_16 : decode cX9_drawn 16 = .ok (.iconst 0, 1) := by decide +kernel
theorem dX9_drawn_17 : decode cX9_drawn 17 = .ok (.istore_n 3, 1) := by decide +kernel
theorem dX9_drawn_18 : decode cX9_drawn 18 = .ok (.iload_n 3, 1) := by decide +kernel
theorem dX9_drawn_19 : decode cX9_drawn 19 = .ok (.iload_n 1, 1) := by decide +kernel
theorem dX9_drawn_20 : decode cX9_drawn 20 = .ok (.if_icmp .ge 80, 3) := by decide +kernel
theorem dX9_drawn_23 : decode cX9_drawn 23 = .ok (.aload_n 0, 1) := by decide +kernel
theorem dX9_drawn_24 : decode cX9_drawn 24 = .ok (.aload_n 0, 1) := by decide +kernel
theorem dX9_drawn_25 : decode cX9_drawn 25 = .ok (.getfield 297, 3) := by decide +kernel
theorem dX9_drawn_28 : decode cX9_drawn 28 = .ok (.ldc2_w 301, 3) := by decide +kernel
theorem dX9_drawn_31 : decode cX9_drawn 31 = .ok (.lmul, 1) := by decide +kernel
theorem dX9_drawn_32 : decode cX9_drawn 32 = .ok (.ldc2_w 303, 3) := by decide +kernel
theorem dX9_drawn_35 : decode cX9_drawn 35 = .ok (.ladd, 1) := by decide +kernel
theorem dX9_drawn_36 : decode cX9_drawn 36 = .ok (.putfield 297, 3) := by decide +kernel
theorem dX9_drawn_39 : decode cX9_drawn 39 = .ok (.aload_n 0, 1) := by decide +kernel
theorem dX9_drawn_40 : decode cX9_drawn 40 = .ok (.getfield 61, 3) := by decide +kernel
theorem dX9_drawn_43 : decode cX9_drawn 43 = .ok (.aload_n 0, 1) := by decide +kernel
theorem dX9_drawn_44 : decode cX9_drawn 44 = .ok (.getfield 29, 3) := by decide +kernel
theorem dX9_drawn_47 : decode cX9_drawn 47 = .ok (.getfield 96, 3) := by decide +kernel
theorem dX9_drawn_50 : decode cX9_drawn 50 = .ok (.invokevirtual 232, 3) := by decide +kernel
theorem dX9_drawn_53 : decode cX9_drawn 53 = .ok (.aload_n 0, 1) := by decide +kernel
theorem dX9_drawn_54 : decode cX9_drawn 54 = .ok (.getfield 61, 3) := by decide +kernel
theorem dX9_drawn_57 : decode cX9_drawn 57 = .ok (.getfield 246, 3) := by decide +kernel
theorem dX9_drawn_60 : decode cX9_drawn 60 = .ok (.aload_n 0, 1) := by decide +kernel
theorem dX9_drawn_61 : decode cX9_drawn 61 = .ok (.getfield 297, 3) := by decide +kernel
theorem dX9_drawn_64 : decode cX9_drawn 64 = .ok (.bipush 33, 2) := by decide +kernel
theorem dX9_drawn_66 : decode cX9_drawn 66 = .ok (.lushr, 1) := by decide +kernel
theorem dX9_drawn_67 : decode cX9_drawn 67 = .ok (.l2i, 1) := by decide +kernel
theorem dX9_drawn_68 : decode cX9_drawn 68 = .ok (.invokevirtual 305, 3) := by decide +kernel
theorem dX9_drawn_71 : decode cX9_drawn 71 = .ok (.aload_n 0, 1) := by decide +kernel
theorem dX9_drawn_72 : decode cX9_drawn 72 = .ok (.getfield 61, 3) := by decide +kernel
theorem dX9_drawn_75 : decode cX9_drawn 75 = .ok (.aload_n 0, 1) := by decide +kernel
theorem dX9_drawn_76 : decode cX9_drawn 76 = .ok (.getfield 19, 3) := by decide +kernel
theorem dX9_drawn_79 : decode cX9_drawn 79 = .ok (.bipush (-9), 2) := by decide +kernel
theorem dX9_drawn_81 : decode cX9_drawn 81 = .ok (.invokevirtual 236, 3) := by decide +kernel
theorem dX9_drawn_84 : decode cX9_drawn 84 = .ok (.iload_n 2, 1) := by decide +kernel
theorem dX9_drawn_85 : decode cX9_drawn 85 = .ok (.aload_n 0, 1) := by decide +kernel
theorem dX9_drawn_86 : decode cX9_drawn 86 = .ok (.getfield 61, 3) := by decide +kernel
theorem dX9_drawn_89 : decode cX9_drawn 89 = .ok (.getfield 243, 3) := by decide +kernel
theorem dX9_drawn_92 : decode cX9_drawn 92 = .ok (.iadd, 1) := by decide +kernel
theorem dX9_drawn_93 : decode cX9_drawn 93 = .ok (.istore_n 2, 1) := by decide +kernel
theorem dX9_drawn_94 : decode cX9_drawn 94 = .ok (.iinc 3 1, 3) := by decide +kernel
theorem dX9_drawn_97 : decode cX9_drawn 97 = .ok (.goto (-79), 3) := by decide +kernel
theorem dX9_drawn_100 : decode cX9_drawn 100 = .ok (.iload_n 2, 1) := by decide +kernel
theorem dX9_drawn_101 : decode cX9_drawn 101 = .ok (.ireturn, 1) := by decide +kernel
theorem dX9_keep_0 : decode cX9_keep 0 = .ok (.iload_n 1, 1) := by decide +kernel
theorem dX9_keep_1 : decode cX9_keep 1 = .ok (.invokestatic 308, 3) := by decide +kernel
theorem dX9_keep_4 : decode cX9_keep 4 = .ok (.ifCond .ne 5, 3) := by decide +kernel
theorem dX9_keep_7 : decode cX9_keep 7 = .ok (.iconst (-1), 1) := by decide +kernel
theorem dX9_keep_8 : decode cX9_keep 8 = .ok (.ireturn, 1) := by decide +kernel
theorem dX9_keep_9 : decode cX9_keep 9 = .ok (.aload_n 0, 1) := by decide +kernel
theorem dX9_keep_10 : decode cX9_keep 10 = .ok (.getfield 43, 3) := by decide +kernel
theorem dX9_keep_13 : decode cX9_keep 13 = .ok (.iload_n 1, 1) := by decide +kernel
theorem dX9_keep_14 : decode cX9_keep 14 = .ok (.aaload, 1) := by decide +kernel
theorem dX9_keep_15 : decode cX9_keep 15 = .ok (.aload_n 0, 1) := by decide +kernel
theorem dX9_keep_16 : decode cX9_keep 16 = .ok (.getfield 29, 3) := by decide +kernel
theorem dX9_keep_19 : decode cX9_keep 19 = .ok (.invokevirtual 251, 3) := by decide +kernel
theorem dX9_keep_22 : decode cX9_keep 22 = .ok (.aload_n 0, 1) := by decide +kernel
theorem dX9_keep_23 : decode cX9_keep 23 = .ok (.getfield 47, 3) := by decide +kernel
theorem dX9_keep_26 : decode cX9_keep 26 = .ok (.iload_n 1, 1) := by decide +kernel
theorem dX9_keep_27 : decode cX9_keep 27 = .ok (.iconst 1, 1) := by decide +kernel
theorem dX9_keep_28 : decode cX9_keep 28 = .ok (.bastore, 1) := by decide +kernel
theorem dX9_keep_29 : decode cX9_keep 29 = .ok (.aload_n 0, 1) := by decide +kernel
theorem dX9_keep_30 : decode cX9_keep 30 = .ok (.getfield 29, 3) := by decide +kernel
theorem dX9_keep_33 : decode cX9_keep 33 = .ok (.getfield 137, 3) := by decide +kernel
theorem dX9_keep_36 : decode cX9_keep 36 = .ok (.ireturn, 1) := by decide +kernel
theorem dX9_again_0 : decode cX9_again 0 = .ok (.iload_n 1, 1) := by decide +kernel
theorem dX9_again_1 : decode cX9_again 1 = .ok (.invokestatic 308, 3) := by decide +kernel
theorem dX9_again_4 : decode cX9_again 4 = .ok (.ifCond .ne 5, 3) := by decide +kernel
theorem dX9_again_7 : decode cX9_again 7 = .ok (.iconst (-1), 1) := by decide +kernel
theorem dX9_again_8 : decode cX9_again 8 = .ok (.ireturn, 1) := by decide +kernel
theorem dX9_again_9 : decode cX9_again 9 = .ok (.aload_n 0, 1) := by decide +kernel
theorem dX9_again_10 : decode cX9_again 10 = .ok (.getfield 47, 3) := by decide +kernel
theorem dX9_again_13 : decode cX9_again 13 = .ok (.iload_n 1, 1) := by decide +kernel
theorem dX9_again_14 : decode cX9_again 14 = .ok (.baload, 1) := by decide +kernel
theorem dX9_again_15 : decode cX9_again 15 = .ok (.ifCond .ne 6, 3) := by decide +kernel
theorem dX9_again_18 : decode cX9_again 18 = .ok (.bipush (-3), 2) := by decide +kernel
theorem dX9_again_20 : decode cX9_again 20 = .ok (.ireturn, 1) := by decide +kernel
theorem dX9_again_21 : decode cX9_again 21 = .ok (.aload_n 0, 1) := by decide +kernel
theorem dX9_again_22 : decode cX9_again 22 = .ok (.getfield 29, 3) := by decide +kernel
theorem dX9_again_25 : decode cX9_again 25 = .ok (.aload_n 0, 1) := by decide +kernel
theorem dX9_again_26 : decode cX9_again 26 = .ok (.getfield 43, 3) := by decide +kernel
theorem dX9_again_29 : decode cX9_again 29 = .ok (.iload_n 1, 1) := by decide +kernel
theorem dX9_again_30 : decode cX9_again 30 = .ok (.aaload, 1) := by decide +kernel
theorem dX9_again_31 : decode cX9_again 31 = .ok (.invokevirtual 251, 3) := by decide +kernel
theorem dX9_again_34 : decode cX9_again 34 = .ok (.aload_n 0, 1) := by decide +kernel
theorem dX9_again_35 : decode cX9_again 35 = .ok (.getfield 39, 3) := by decide +kernel
theorem dX9_again_38 : decode cX9_again 38 = .ok (.invokevirtual 87, 3) := by decide +kernel
theorem dX9_again_41 : decode cX9_again 41 = .ok (.aload_n 0, 1) := by decide +kernel
theorem dX9_again_42 : decode cX9_again 42 = .ok (.getfield 29, 3) := by decide +kernel
theorem dX9_again_45 : decode cX9_again 45 = .ok (.getfield 137, 3) := by decide +kernel
theorem dX9_again_48 : decode cX9_again 48 = .ok (.ireturn, 1) := by decide +kernel
theorem dX9_isRegister_0 : decode cX9_isRegister 0 = .ok (.iload_n 0, 1) := by decide +kernel
theorem dX9_isRegister_1 : decode cX9_isRegister 1 = .ok (.ifCond .lt 12, 3) := by decide +kernel
theorem dX9_isRegister_4 : decode cX9_isRegister 4 = .ok (.iload_n 0, 1) := by decide +kernel
theorem dX9_isRegister_5 : decode cX9_isRegister 5 = .ok (.iconst 4, 1) := by decide +kernel
theorem dX9_isRegister_6 : decode cX9_isRegister 6 = .ok (.if_icmp .ge 7, 3) := by decide +kernel
theorem dX9_isRegister_9 : decode cX9_isRegister 9 = .ok (.iconst 1, 1) := by decide +kernel
theorem dX9_isRegister_10 : decode cX9_isRegister 10 = .ok (.goto 4, 3) := by decide +kernel
theorem dX9_isRegister_13 : decode cX9_isRegister 13 = .ok (.iconst 0, 1) := by decide +kernel
theorem dX9_isRegister_14 : decode cX9_isRegister 14 = .ok (.ireturn, 1) := by decide +kernel
theorem dX9_isCell_0 : decode cX9_isCell 0 = .ok (.iload_n 0, 1) := by decide +kernel
theorem dX9_isCell_1 : decode cX9_isCell 1 = .ok (.ifCond .lt 13, 3) := by decide +kernel
theorem dX9_isCell_4 : decode cX9_isCell 4 = .ok (.iload_n 0, 1) := by decide +kernel
theorem dX9_isCell_5 : decode cX9_isCell 5 = .ok (.bipush 8, 2) := by decide +kernel
theorem dX9_isCell_7 : decode cX9_isCell 7 = .ok (.if_icmp .ge 7, 3) := by decide +kernel
theorem dX9_isCell_10 : decode cX9_isCell 10 = .ok (.iconst 1, 1) := by decide +kernel
theorem dX9_isCell_11 : decode cX9_isCell 11 = .ok (.goto 4, 3) := by decide +kernel
theorem dX9_isCell_14 : decode cX9_isCell 14 = .ok (.iconst 0, 1) := by decide +kernel
theorem dX9_isCell_15 : decode cX9_isCell 15 = .ok (.ireturn, 1) := by decide +kernel
theorem dX9_isSlot_0 : decode cX9_isSlot 0 = .ok (.iload_n 0, 1) := by decide +kernel
theorem dX9_isSlot_1 : decode cX9_isSlot 1 = .ok (.ifCond .lt 12, 3) := by decide +kernel
theorem dX9_isSlot_4 : decode cX9_isSlot 4 = .ok (.iload_n 0, 1) := by decide +kernel
theorem dX9_isSlot_5 : decode cX9_isSlot 5 = .ok (.iconst 2, 1) := by decide +kernel
theorem dX9_isSlot_6 : decode cX9_isSlot 6 = .ok (.if_icmp .ge 7, 3) := by decide +kernel
theorem dX9_isSlot_9 : decode cX9_isSlot 9 = .ok (.iconst 1, 1) := by decide +kernel
theorem dX9_isSlot_10 : decode cX9_isSlot 10 = .ok (.goto 4, 3) := by decide +kernel
theorem dX9_isSlot_13 : decode cX9_isSlot 13 = .ok (.iconst 0, 1) := by decide +kernel
theorem dX9_isSlot_14 : decode cX9_isSlot 14 = .ok (.ireturn, 1) := by decide +kernel
theorem dX9_power_0 : decode cX9_power 0 = .ok (.lconst 1, 1) := by decide +kernel
theorem dX9_power_1 : decode cX9_power 1 = .ok (.lstore_n 2, 1) := by decide +kernel
theorem dX9_power_2 : decode cX9_power 2 = .ok (.iconst 0, 1) := by decide +kernel
theorem dX9_power_3 : decode cX9_power 3 = .ok (.istore 4, 2) := by decide +kernel
theorem dX9_power_5 : decode cX9_power 5 = .ok (.iload 4, 2) := by decide +kernel
theorem dX9_power_7 : decode cX9_power 7 = .ok (.iload_n 1, 1) := by decide +kernel
theorem dX9_power_8 : decode cX9_power 8 = .ok (.if_icmp .ge 14, 3) := by decide +kernel
theorem dX9_power_11 : decode cX9_power 11 = .ok (.lload_n 2, 1) := by decide +kernel
theorem dX9_power_12 : decode cX9_power 12 = .ok (.iload_n 0, 1) := by decide +kernel
theorem dX9_power_13 : decode cX9_power 13 = .ok (.i2l, 1) := by decide +kernel
theorem dX9_power_14 : decode cX9_power 14 = .ok (.lmul, 1) := by decide +kernel
theorem dX9_power_15 : decode cX9_power 15 = .ok (.lstore_n 2, 1) := by decide +kernel
theorem dX9_power_16 : decode cX9_power 16 = .ok (.iinc 4 1, 3) := by decide +kernel
theorem dX9_power_19 : decode cX9_power 19 = .ok (.goto (-14), 3) := by decide +kernel
theorem dX9_power_22 : decode cX9_power 22 = .ok (.lload_n 2, 1) := by decide +kernel
theorem dX9_power_23 : decode cX9_power 23 = .ok (.lreturn, 1) := by decide +kernel
theorem dX9_factorial_0 : decode cX9_factorial 0 = .ok (.iconst 1, 1) := by decide +kernel
theorem dX9_factorial_1 : decode cX9_factorial 1 = .ok (.istore_n 1, 1) := by decide +kernel
theorem dX9_factorial_2 : decode cX9_factorial 2 = .ok (.iconst 2, 1) := by decide +kernel
theorem dX9_factorial_3 : decode cX9_factorial 3 = .ok (.istore_n 2, 1) := by decide +kernel
theorem dX9_factorial_4 : decode cX9_factorial 4 = .ok (.iload_n 2, 1) := by decide +kernel
theorem dX9_factorial_5 : decode cX9_factorial 5 = .ok (.iload_n 0, 1) := by decide +kernel
theorem dX9_factorial_6 : decode cX9_factorial 6 = .ok (.if_icmp .gt 13, 3) := by decide +kernel
theorem dX9_factorial_9 : decode cX9_factorial 9 = .ok (.iload_n 1, 1) := by decide +kernel
theorem dX9_factorial_10 : decode cX9_factorial 10 = .ok (.iload_n 2, 1) := by decide +kernel
theorem dX9_factorial_11 : decode cX9_factorial 11 = .ok (.imul, 1) := by decide +kernel
theorem dX9_factorial_12 : decode cX9_factorial 12 = .ok (.istore_n 1, 1) := by decide +kernel
theorem dX9_factorial_13 : decode cX9_factorial 13 = .ok (.iinc 2 1, 3) := by decide +kernel
theorem dX9_factorial_16 : decode cX9_factorial 16 = .ok (.goto (-12), 3) := by decide +kernel
theorem dX9_factorial_19 : decode cX9_factorial 19 = .ok (.iload_n 1, 1) := by decide +kernel
theorem dX9_factorial_20 : decode cX9_factorial 20 = .ok (.ireturn, 1) := by decide +kernel
theorem dX9_partOf_0 : decode cX9_partOf 0 = .ok (.iload_n 0, 1) := by decide +kernel
theorem dX9_partOf_1 : decode cX9_partOf 1 = .ok (.invokestatic 311, 3) := by decide +kernel
theorem dX9_partOf_4 : decode cX9_partOf 4 = .ok (.iload_n 1, 1) := by decide +kernel
theorem dX9_partOf_5 : decode cX9_partOf 5 = .ok (.invokestatic 316, 3) := by decide +kernel
theorem dX9_partOf_8 : decode cX9_partOf 8 = .ok (.istore_n 3, 1) := by decide +kernel
theorem dX9_partOf_9 : decode cX9_partOf 9 = .ok (.iload_n 3, 1) := by decide +kernel
theorem dX9_partOf_10 : decode cX9_partOf 10 = .ok (.ifCond .ne 5, 3) := by decide +kernel
theorem dX9_partOf_13 : decode cX9_partOf 13 = .ok (.iconst 0, 1) := by decide +kernel
theorem dX9_partOf_14 : decode cX9_partOf 14 = .ok (.ireturn, 1) := by decide +kernel
theorem dX9_partOf_15 : decode cX9_partOf 15 = .ok (.iload_n 2, 1) := by decide +kernel
theorem dX9_partOf_16 : decode cX9_partOf 16 = .ok (.ifCond .eq 9, 3) := by decide +kernel
theorem dX9_partOf_19 : decode cX9_partOf 19 = .ok (.iload_n 0, 1) := by decide +kernel
theorem dX9_partOf_20 : decode cX9_partOf 20 = .ok (.iload_n 3, 1) := by decide +kernel
theorem dX9_partOf_21 : decode cX9_partOf 21 = .ok (.idiv, 1) := by decide +kernel
theorem dX9_partOf_22 : decode cX9_partOf 22 = .ok (.goto 6, 3) := by decide +kernel
theorem dX9_partOf_25 : decode cX9_partOf 25 = .ok (.iload_n 1, 1) := by decide +kernel
theorem dX9_partOf_26 : decode cX9_partOf 26 = .ok (.iload_n 3, 1) := by decide +kernel
theorem dX9_partOf_27 : decode cX9_partOf 27 = .ok (.idiv, 1) := by decide +kernel
theorem dX9_partOf_28 : decode cX9_partOf 28 = .ok (.ireturn, 1) := by decide +kernel
theorem dX9_commonDivisor_0 : decode cX9_commonDivisor 0 = .ok (.iload_n 0, 1) := by decide +kernel
theorem dX9_commonDivisor_1 : decode cX9_commonDivisor 1 = .ok (.istore_n 2, 1) := by decide +kernel
theorem dX9_commonDivisor_2 : decode cX9_commonDivisor 2 = .ok (.iload_n 1, 1) := by decide +kernel
theorem dX9_commonDivisor_3 : decode cX9_commonDivisor 3 = .ok (.istore_n 3, 1) := by decide +kernel
theorem dX9_commonDivisor_4 : decode cX9_commonDivisor 4 = .ok (.iconst 0, 1) := by decide +kernel
theorem dX9_commonDivisor_5 : decode cX9_commonDivisor 5 = .ok (.istore 4, 2) := by decide +kernel
theorem dX9_commonDivisor_7 : decode cX9_commonDivisor 7 = .ok (.iload 4, 2) := by decide +kernel
theorem dX9_commonDivisor_9 : decode cX9_commonDivisor 9 = .ok (.bipush 50, 2) := by decide +kernel
theorem dX9_commonDivisor_11 : decode cX9_commonDivisor 11 = .ok (.if_icmp .ge 23, 3) := by decide +kernel
theorem dX9_commonDivisor_14 : decode cX9_commonDivisor 14 = .ok (.iload_n 3, 1) := by decide +kernel
theorem dX9_commonDivisor_15 : decode cX9_commonDivisor 15 = .ok (.ifCond .eq 19, 3) := by decide +kernel
theorem dX9_commonDivisor_18 : decode cX9_commonDivisor 18 = .ok (.iload_n 2, 1) := by decide +kernel
theorem dX9_commonDivisor_19 : decode cX9_commonDivisor 19 = .ok (.iload_n 3, 1) := by decide +kernel
theorem dX9_commonDivisor_20 : decode cX9_commonDivisor 20 = .ok (.irem, 1) := by decide +kernel
theorem dX9_commonDivisor_21 : decode cX9_commonDivisor 21 = .ok (.istore 5, 2) := by decide +kernel
theorem dX9_commonDivisor_23 : decode cX9_commonDivisor 23 = .ok (.iload_n 3, 1) := by decide +kernel
theorem dX9_commonDivisor_24 : decode cX9_commonDivisor 24 = .ok (.istore_n 2, 1) := by decide +kernel
theorem dX9_commonDivisor_25 : decode cX9_commonDivisor 25 = .ok (.iload 5, 2) := by decide +kernel
theorem dX9_commonDivisor_27 : decode cX9_commonDivisor 27 = .ok (.istore_n 3, 1) := by decide +kernel
theorem dX9_commonDivisor_28 : decode cX9_commonDivisor 28 = .ok (.iinc 4 1, 3) := by decide +kernel
theorem dX9_commonDivisor_31 : decode cX9_commonDivisor 31 = .ok (.goto (-24), 3) := by decide +kernel
theorem dX9_commonDivisor_34 : decode cX9_commonDivisor 34 = .ok (.iload_n 2, 1) := by decide +kernel
theorem dX9_commonDivisor_35 : decode cX9_commonDivisor 35 = .ok (.ireturn, 1) := by decide +kernel
end
section
theorem dX10_init_0 : decode cX10_init 0 = .ok (.aload_n 0, 1) := by decide +kernel
theorem dX10_init_1 : decode cX10_init 1 = .ok (.invokespecial 1, 3) := by decide +kernel
theorem dX10_init_4 : decode cX10_init 4 = .ok (.aload_n 0, 1) := by decide +kernel
theorem dX10_init_5 : decode cX10_init 5 = .ok (.bipush 80, 2) := by decide +kernel
theorem dX10_init_7 : decode cX10_init 7 = .ok (.newarray .int, 2) := by decide +kernel
theorem dX10_init_9 : decode cX10_init 9 = .ok (.putfield 7, 3) := by decide +kernel
theorem dX10_init_12 : decode cX10_init 12 = .ok (.aload_n 0, 1) := by decide +kernel
theorem dX10_init_13 : decode cX10_init 13 = .ok (.bipush 16, 2) := by decide +kernel
theorem dX10_init_15 : decode cX10_init 15 = .ok (.newarray .int, 2) := by decide +kernel
theorem dX10_init_17 : decode cX10_init 17 = .ok (.putfield 13, 3) := by decide +kernel
theorem dX10_init_20 : decode cX10_init 20 = .ok (.aload_n 0, 1) := by decide +kernel
theorem dX10_init_21 : decode cX10_init 21 = .ok (.bipush 16, 2) := by decide +kernel
theorem dX10_init_23 : decode cX10_init 23 = .ok (.newarray .int, 2) := by decide +kernel
theorem dX10_init_25 : decode cX10_init 25 = .ok (.putfield 16, 3) := by decide +kernel
theorem dX10_init_28 : decode cX10_init 28 = .ok (.aload_n 0, 1) := by decide +kernel
theorem dX10_init_29 : decode cX10_init 29 = .ok (.bipush 16, 2) := by decide +kernel
theorem dX10_init_31 : decode cX10_init 31 = .ok (.newarray .int, 2) := by decide +kernel
theorem dX10_init_33 : decode cX10_init 33 = .ok (.putfield 19, 3) := by decide +kernel
theorem dX10_init_36 : decode cX10_init 36 = .ok (.aload_n 0, 1) := by decide +kernel
theorem dX10_init_37 : decode cX10_init 37 = .ok (.sipush 128, 3) := by decide +kernel
theorem dX10_init_40 : decode cX10_init 40 = .ok (.newarray .int, 2) := by decide +kernel
theorem dX10_init_42 : decode cX10_init 42 = .ok (.putfield 22, 3) := by decide +kernel
theorem dX10_init_45 : decode cX10_init 45 = .ok (.aload_n 0, 1) := by decide +kernel
theorem dX10_init_46 : decode cX10_init 46 = .ok (.sipush 128, 3) := by decide +kernel
theorem dX10_init_49 : decode cX10_init 49 = .ok (.newarray .int, 2) := by decide +kernel
theorem dX10_init_51 : decode cX10_init 51 = .ok (.putfield 25, 3) := by decide +kernel
theorem dX10_init_54 : decode cX10_init 54 = .ok (.aload_n 0, 1) := by decide +kernel
theorem dX10_init_55 : decode cX10_init 55 = .ok (.sipush 1792, 3) := by decide +kernel
theorem dX10_init_58 : decode cX10_init 58 = .ok (.newarray .int, 2) := by decide +kernel
theorem dX10_init_60 : decode cX10_init 60 = .ok (.putfield 28, 3) := by decide +kernel
theorem dX10_init_63 : decode cX10_init 63 = .ok (.aload_n 0, 1) := by decide +kernel
theorem dX10_init_64 : decode cX10_init 64 = .ok (.sipush 256, 3) := by decide +kernel
theorem dX10_init_67 : decode cX10_init 67 = .ok (.newarray .int, 2) := by decide +kernel
theorem dX10_init_69 : decode cX10_init 69 = .ok (.putfield 31, 3) := by decide +kernel
theorem dX10_init_72 : decode cX10_init 72 = .ok (.aload_n 0, 1) := by decide +kernel
theorem dX10_init_73 : decode cX10_init 73 = .ok (.iconst 2, 1) := by decide +kernel
theorem dX10_init_74 : decode cX10_init 74 = .ok (.newarray .boolean, 2) := by decide +kernel
theorem dX10_init_76 : decode cX10_init 76 = .ok (.putfield 34, 3) := by decide +kernel
theorem dX10_init_79 : decode cX10_init 79 = .ok (.aload_n 0, 1) := by decide +kernel
theorem dX10_init_80 : decode cX10_init 80 = .ok (.bipush 6, 2) := by decide +kernel
theorem dX10_init_82 : decode cX10_init 82 = .ok (.newarray .int, 2) := by decide +kernel
theorem dX10_init_84 : decode cX10_init 84 = .ok (.putfield 38, 3) := by decide +kernel
theorem dX10_init_87 : decode cX10_init 87 = .ok (.aload_n 0, 1) := by decide +kernel
theorem dX10_init_88 : decode cX10_init 88 = .ok (.bipush 6, 2) := by decide +kernel
theorem dX10_init_90 : decode cX10_init 90 = .ok (.newarray .int, 2) := by decide +kernel
theorem dX10_init_92 : decode cX10_init 92 = .ok (.putfield 41, 3) := by decide +kernel
theorem dX10_init_95 : decode cX10_init 95 = .ok (.aload_n 0, 1) := by decide +kernel
theorem dX10_init_96 : decode cX10_init 96 = .ok (.bipush 8, 2) := by decide +kernel
theorem dX10_init_98 : decode cX10_init 98 = .ok (.newarray .int, 2) := by decide +kernel
theorem dX10_init_100 : decode cX10_init 100 = .ok (.putfield 44, 3) := by decide +kernel
theorem dX10_init_103 : decode cX10_init 103 = .ok (.aload_n 0, 1) := by decide +kernel
theorem dX10_init_104 : decode cX10_init 104 = .ok (.bipush 6, 2) := by decide +kernel
theorem dX10_init_106 : decode cX10_init 106 = .ok (.newarray .int, 2) := by decide +kernel
theorem dX10_init_108 : decode cX10_init 108 = .ok (.putfield 47, 3) := by decide +kernel
theorem dX10_init_111 : decode cX10_init 111 = .ok (.aload_n 0, 1) := by decide +kernel
theorem dX10_init_112 : decode cX10_init 112 = .ok (.bipush 64, 2) := by decide +kernel
theorem dX10_init_114 : decode cX10_init 114 = .ok (.newarray .int, 2) := by decide +kernel
theorem dX10_init_116 : decode cX10_init 116 = .ok (.putfield 50, 3) := by decide +kernel
theorem dX10_init_119 : decode cX10_init 119 = .ok (.aload_n 0, 1) := by decide +kernel
theorem dX10_init_120 : decode cX10_init 120 = .ok (.bipush 16, 2) := by decide +kernel
theorem dX10_init_122 : decode cX10_init 122 = .ok (.newarray .int, 2) := by decide +kernel
theorem dX10_init_124 : decode cX10_init 124 = .ok (.putfield 53, 3) := by decide +kernel
theorem dX10_init_127 : decode cX10_init 127 = .ok (.aload_n 0, 1) := by decide +kernel
theorem dX10_init_128 : decode cX10_init 128 = .ok (.bipush 16, 2) := by decide +kernel
theorem dX10_init_130 : decode cX10_init 130 = .ok (.newarray .int, 2) := by decide +kernel
theorem dX10_init_132 : decode cX10_init 132 = .ok (.putfield 56, 3) := by decide +kernel
theorem dX10_init_135 : decode cX10_init 135 = .ok (.aload_n 0, 1) := by decide +kernel
theorem dX10_init_136 : decode cX10_init 136 = .ok (.bipush 16, 2) := by decide +kernel
theorem dX10_init_138 : decode cX10_init 138 = .ok (.newarray .int, 2) := by decide +kernel
theorem dX10_init_140 : decode cX10_init 140 = .ok (.putfield 59, 3) := by decide +kernel
theorem dX10_init_143 : decode cX10_init 143 = .ok (.aload_n 0, 1) := by decide +kernel
theorem dX10_init_144 : decode cX10_init 144 = .ok (.bipush (-9), 2) := by decide +kernel
theorem dX10_init_146 : decode cX10_init 146 = .ok (.putfield 62, 3) := by decide +kernel
theorem dX10_init_149 : decode cX10_init 149 = .ok (.aload_n 0, 1) := by decide +kernel
theorem dX10_init_150 : decode cX10_init 150 = .ok (.getfield 22, 3) := by decide +kernel
theorem dX10_init_153 : decode cX10_init 153 = .ok (.invokestatic 66, 3) := by decide +kernel
theorem dX10_init_156 : decode cX10_init 156 = .ok (.return_, 1) := by decide +kernel
theorem dX10_clear_0 : decode cX10_clear 0 = .ok (.iconst 0, 1) := by decide +kernel
theorem dX10_clear_1 : decode cX10_clear 1 = .ok (.istore_n 1, 1) := by decide +kernel
theorem dX10_clear_2 : decode cX10_clear 2 = .ok (.iload_n 1, 1) := by decide +kernel
theorem dX10_clear_3 : decode cX10_clear 3 = .ok (.sipush 128, 3) := by decide +kernel
theorem dX10_clear_6 : decode cX10_clear 6 = .ok (.if_icmp .ge 13, 3) := by decide +kernel
theorem dX10_clear_9 : decode cX10_clear 9 = .ok (.aload_n 0, 1) := by decide +kernel
theorem dX10_clear_10 : decode cX10_clear 10 = .ok (.iload_n 1, 1) := by decide +kernel
theorem dX10_clear_11 : decode cX10_clear 11 = .ok (.iconst 0, 1) := by decide +kernel
theorem dX10_clear_12 : decode cX10_clear 12 = .ok (.iastore, 1) := by decide +kernel
theorem dX10_clear_13 : decode cX10_clear 13 = .ok (.iinc 1 1, 3) := by decide +kernel
theorem dX10_clear_16 : decode cX10_clear 16 = .ok (.goto (-14), 3) := by decide +kernel
theorem dX10_clear_19 : decode cX10_clear 19 = .ok (.return_, 1) := by decide +kernel
theorem dX10_copyRow_0 : decode cX10_copyRow 0 = .ok (.iconst 0, 1) := by decide +kernel
theorem dX10_copyRow_1 : decode cX10_copyRow 1 = .ok (.istore_n 2, 1) := by decide +kernel
theorem dX10_copyRow_2 : decode cX10_copyRow 2 = .ok (.iload_n 2, 1) := by decide +kernel
theorem dX10_copyRow_3 : decode cX10_copyRow 3 = .ok (.sipush 128, 3) := by decide +kernel
theorem dX10_copyRow_6 : decode cX10_copyRow 6 = .ok (.if_icmp .ge 15, 3) := by decide +kernel
theorem dX10_copyRow_9 : decode cX10_copyRow 9 = .ok (.aload_n 1, 1) := by decide +kernel
theorem dX10_copyRow_10 : decode cX10_copyRow 10 = .ok (.iload_n 2, 1) := by decide +kernel
theorem dX10_copyRow_11 : decode cX10_copyRow 11 = .ok (.aload_n 0, 1) := by decide +kernel
theorem dX10_copyRow_12 : decode cX10_copyRow 12 = .ok (.iload_n 2, 1) := by decide +kernel
theorem dX10_copyRow_13 : decode cX10_copyRow 13 = .ok (.iaload, 1) := by decide +kernel
theorem dX10_copyRow_14 : decode cX10_copyRow 14 = .ok (.iastore, 1) := by decide +kernel
theorem dX10_copyRow_15 : decode cX10_copyRow 15 = .ok (.iinc 2 1, 3) := by decide +kernel
theorem dX10_copyRow_18 : decode cX10_copyRow 18 = .ok (.goto (-16), 3) := by decide +kernel
theorem dX10_copyRow_21 : decode cX10_copyRow 21 = .ok (.return_, 1) := by decide +kernel
theorem dX10_in_0 : decode cX10_in 0 = .ok (.lload_n 0, 1) := by decide +kernel
theorem dX10_in_1 : decode cX10_in 1 = .ok (.lload_n 2, 1) := by decide +kernel
theorem dX10_in_2 : decode cX10_in 2 = .ok (.lcmp, 1) := by decide +kernel
theorem dX10_in_3 : decode cX10_in 3 = .ok (.ifCond .lt 14, 3) := by decide +kernel
theorem dX10_in_6 : decode cX10_in 6 = .ok (.lload_n 0, 1) := by decide +kernel
theorem dX10_in_7 : decode cX10_in 7 = .ok (.lload 4, 2) := by decide +kernel
theorem dX10_in_9 : decode cX10_in 9 = .ok (.lcmp, 1) := by decide +kernel
theorem dX10_in_10 : decode cX10_in 10 = .ok (.ifCond .gt 7, 3) := by decide +kernel
theorem dX10_in_13 : decode cX10_in 13 = .ok (.iconst 1, 1) := by decide +kernel
theorem dX10_in_14 : decode cX10_in 14 = .ok (.goto 4, 3) := by decide +kernel
theorem dX10_in_17 : decode cX10_in 17 = .ok (.iconst 0, 1) := by decide +kernel
theorem dX10_in_18 : decode cX10_in 18 = .ok (.ireturn, 1) := by decide +kernel
theorem dX10_has_0 : decode cX10_has 0 = .ok (.iload_n 0, 1) := by decide +kernel
theorem dX10_has_1 : decode cX10_has 1 = .ok (.iload_n 1, 1) := by decide +kernel
theorem dX10_has_2 : decode cX10_has 2 = .ok (.ishr, 1) := by decide +kernel
theorem dX10_has_3 : decode cX10_has 3 = .ok (.iconst 1, 1) := by decide +kernel
theorem dX10_has_4 : decode cX10_has 4 = .ok (.iand, 1) := by decide +kernel
theorem dX10_has_5 : decode cX10_has 5 = .ok (.iconst 1, 1) := by decide +kernel
theorem dX10_has_6 : decode cX10_has 6 = .ok (.if_icmp .ne 7, 3) := by decide +kernel
theorem dX10_has_9 : decode cX10_has 9 = .ok (.iconst 1, 1) := by decide +kernel
theorem dX10_has_10 : decode cX10_has 10 = .ok (.goto 4, 3) := by decide +kernel
theorem dX10_has_13 : decode cX10_has 13 = .ok (.iconst 0, 1) := by decide +kernel
theorem dX10_has_14 : decode cX10_has 14 = .ok (.ireturn, 1) := by decide +kernel
theorem dX10_ones_0 : decode cX10_ones 0 = .ok (.iconst 0, 1) := by decide +kernel
theorem dX10_ones_1 : decode cX10_ones 1 = .ok (.istore_n 1, 1) := by decide +kernel
theorem dX10_ones_2 : decode cX10_ones 2 = .ok (.iconst 0, 1) := by decide +kernel
theorem dX10_ones_3 : decode cX10_ones 3 = .ok (.istore_n 2, 1) := by decide +kernel
theorem dX10_ones_4 : decode cX10_ones 4 = .ok (.iload_n 2, 1) := by decide +kernel
theorem dX10_ones_5 : decode cX10_ones 5 = .ok (.bipush 16, 2) := by decide +kernel
theorem dX10_ones_7 : decode cX10_ones 7 = .ok (.if_icmp .ge 17, 3) := by decide +kernel
theorem dX10_ones_10 : decode cX10_ones 10 = .ok (.iload_n 1, 1) := by decide +kernel
theorem dX10_ones_11 : decode cX10_ones 11 = .ok (.iload_n 0, 1) := by decide +kernel
theorem dX10_ones_12 : decode cX10_ones 12 = .ok (.iload_n 2, 1) := by decide +kernel
theorem dX10_ones_13 : decode cX10_ones 13 = .ok (.ishr, 1) := by decide +kernel
theorem dX10_ones_14 : decode cX10_ones 14 = .ok (.iconst 1, 1) := by decide +kernel
theorem dX10_ones_15 : decode cX10_ones 15 = .ok (.iand, 1) := by decide +kernel
theorem dX10_ones_16 : decode cX10_ones 16 = .ok (.iadd, 1) := by decide +kernel
theorem dX10_ones_17 : decode cX10_ones 17 = .ok (.istore_n 1, 1) := by decide +kernel
theorem dX10_ones_18 : decode cX10_ones 18 = .ok (.iinc 2 1, 3) := by decide +kernel
theorem dX10_ones_21 : decode cX10_ones 21 = .ok (.goto (-17), 3) := by decide +kernel
theorem dX10_ones_24 : decode cX10_ones 24 = .ok (.iload_n 1, 1) := by decide +kernel
theorem dX10_ones_25 : decode cX10_ones 25 = .ok (.ireturn, 1) := by decide +kernel
theorem dX10_power_0 : decode cX10_power 0 = .ok (.iconst 1, 1) := by decide +kernel
theorem dX10_power_1 : decode cX10_power 1 = .ok (.istore_n 2, 1) := by decide +kernel
theorem dX10_power_2 : decode cX10_power 2 = .ok (.iconst 0, 1) := by decide +kernel
theorem dX10_power_3 : decode cX10_power 3 = .ok (.istore_n 3, 1) := by decide +kernel
theorem dX10_power_4 : decode cX10_power 4 = .ok (.iload_n 3, 1) := by decide +kernel
theorem dX10_power_5 : decode cX10_power 5 = .ok (.iload_n 1, 1) := by decide +kernel
theorem dX10_power_6 : decode cX10_power 6 = .ok (.if_icmp .ge 13, 3) := by decide +kernel
theorem dX10_power_9 : decode cX10_power 9 = .ok (.iload_n 2, 1) := by decide +kernel
theorem dX10_power_10 : decode cX10_power 10 = .ok (.iload_n 0, 1) := by decide +kernel
theorem dX10_power_11 : decode cX10_power 11 = .ok (.imul, 1) := by decide +kernel
theorem dX10_power_12 : decode cX10_power 12 = .ok (.istore_n 2, 1) := by decide +kernel
theorem dX10_power_13 : decode cX10_power 13 = .ok (.iinc 3 1, 3) := by decide +kernel
theorem dX10_power_16 : decode cX10_power 16 = .ok (.goto (-12), 3) := by decide +kernel
theorem dX10_power_19 : decode cX10_power 19 = .ok (.iload_n 2, 1) := by decide +kernel
theorem dX10_power_20 : decode cX10_power 20 = .ok (.ireturn, 1) := by decide +kernel
theorem dX10_factorial_0 : decode cX10_factorial 0 = .ok (.iconst 1, 1) := by decide +kernel
theorem dX10_factorial_1 : decode cX10_factorial 1 = .ok (.istore_n 1, 1) := by decide +kernel
theorem dX10_factorial_2 : decode cX10_factorial 2 = .ok (.iconst 2, 1) := by decide +kernel
theorem dX10_factorial_3 : decode cX10_factorial 3 = .ok (.istore_n 2, 1) := by decide +kernel
theorem dX10_factorial_4 : decode cX10_factorial 4 = .ok (.iload_n 2, 1) := by decide +kernel
theorem dX10_factorial_5 : decode cX10_factorial 5 = .ok (.iload_n 0, 1) := by decide +kernel
theorem dX10_factorial_6 : decode cX10_factorial 6 = .ok (.if_icmp .gt 13, 3) := by decide +kernel
theorem dX10_factorial_9 : decode cX10_factorial 9 = .ok (.iload_n 1, 1) := by decide +kernel
theorem dX10_factorial_10 : decode cX10_factorial 10 = .ok (.iload_n 2, 1) := by decide +kernel
theorem dX10_factorial_11 : decode cX10_factorial 11 = .ok (.imul, 1) := by decide +kernel
theorem dX10_factorial_12 : decode cX10_factorial 12 = .ok (.istore_n 1, 1) := by decide +kernel
theorem dX10_factorial_13 : decode cX10_factorial 13 = .ok (.iinc 2 1, 3) := by decide +kernel
theorem dX10_factorial_16 : decode cX10_factorial 16 = .ok (.goto (-12), 3) := by decide +kernel
theorem dX10_factorial_19 : decode cX10_factorial 19 = .ok (.iload_n 1, 1) := by decide +kernel
theorem dX10_factorial_20 : decode cX10_factorial 20 = .ok (.ireturn, 1) := by decide +kernel
theorem dX10_fraction_0 : decode cX10_fraction 0 = .ok (.iload_n 0, 1) := by decide +kernel
theorem dX10_fraction_1 : decode cX10_fraction 1 = .ok (.ifCond .ge 8, 3) := by decide +kernel
theorem dX10_fraction_4 : decode cX10_fraction 4 = .ok (.iload_n 0, 1) := by decide +kernel
theorem dX10_fraction_5 : decode cX10_fraction 5 = .ok (.ineg, 1) := by decide +kernel
theorem dX10_fraction_6 : decode cX10_fraction 6 = .ok (.goto 4, 3) := by decide +kernel
theorem dX10_fraction_9 : decode cX10_fraction 9 = .ok (.iload_n 0, 1) := by decide +kernel
theorem dX10_fraction_10 : decode cX10_fraction 10 = .ok (.istore_n 3, 1) := by decide +kernel
theorem dX10_fraction_11 : decode cX10_fraction 11 = .ok (.iload_n 1, 1) := by decide +kernel
theorem dX10_fraction_12 : decode cX10_fraction 12 = .ok (.istore 4, 2) := by decide +kernel
theorem dX10_fraction_14 : decode cX10_fraction 14 = .ok (.iload 4, 2) := by decide +kernel
theorem dX10_fraction_16 : decode cX10_fraction 16 = .ok (.ifCond .eq 19, 3) := by decide +kernel
theorem dX10_fraction_19 : decode cX10_fraction 19 = .ok (.iload_n 3, 1) := by decide +kernel
theorem dX10_fraction_20 : decode cX10_fraction 20 = .ok (.iload 4, 2) := by decide +kernel
theorem dX10_fraction_22 : decode cX10_fraction 22 = .ok (.irem, 1) := by decide +kernel
theorem dX10_fraction_23 : decode cX10_fraction 23 = .ok (.istore 5, 2) := by decide +kernel
theorem dX10_fraction_25 : decode cX10_fraction 25 = .ok (.iload 4, 2) := by decide +kernel
theorem dX10_fraction_27 : decode cX10_fraction 27 = .ok (.istore_n 3, 1) := by decide +kernel
theorem dX10_fraction_28 : decode cX10_fraction 28 = .ok (.iload 5, 2) := by decide +kernel
theorem dX10_fraction_30 : decode cX10_fraction 30 = .ok (.istore 4, 2) := by decide +kernel
theorem dX10_fraction_32 : decode cX10_fraction 32 = .ok (.goto (-18), 3) := by decide +kernel
theorem dX10_fraction_35 : decode cX10_fraction 35 = .ok (.iload_n 2, 1) := by decide +kernel
theorem dX10_fraction_36 : decode cX10_fraction 36 = .ok (.ifCond .eq 9, 3) := by decide +kernel
theorem dX10_fraction_39 : decode cX10_fraction 39 = .ok (.iload_n 0, 1) := by decide +kernel
theorem dX10_fraction_40 : decode cX10_fraction 40 = .ok (.iload_n 3, 1) := by decide +kernel
theorem dX10_fraction_41 : decode cX10_fraction 41 = .ok (.idiv, 1) := by decide +kernel
theorem dX10_fraction_42 : decode cX10_fraction 42 = .ok (.goto 6, 3) := by decide +kernel
theorem dX10_fraction_45 : decode cX10_fraction 45 = .ok (.iload_n 1, 1) := by decide +kernel
theorem dX10_fraction_46 : decode cX10_fraction 46 = .ok (.iload_n 3, 1) := by decide +kernel
theorem dX10_fraction_47 : decode cX10_fraction 47 = .ok (.idiv, 1) := by decide +kernel
theorem dX10_fraction_48 : decode cX10_fraction 48 = .ok (.ireturn, 1) := by decide +kernel
theorem dX10_isPlace_0 : decode cX10_isPlace 0 = .ok (.iload_n 1, 1) := by decide +kernel
theorem dX10_isPlace_1 : decode cX10_isPlace 1 = .ok (.i2l, 1) := by decide +kernel
theorem dX10_isPlace_2 : decode cX10_isPlace 2 = .ok (.lconst 0, 1) := by decide +kernel
theorem dX10_isPlace_3 : decode cX10_isPlace 3 = .ok (.aload_n 0, 1) := by decide +kernel
theorem dX10_isPlace_4 : decode cX10_isPlace 4 = .ok (.getfield 70, 3) := by decide +kernel
theorem dX10_isPlace_7 : decode cX10_isPlace 7 = .ok (.iconst 1, 1) := by decide +kernel
theorem dX10_isPlace_8 : decode cX10_isPlace 8 = .ok (.isub, 1) := by decide +kernel
theorem dX10_isPlace_9 : decode cX10_isPlace 9 = .ok (.i2l, 1) := by decide +kernel
theorem dX10_isPlace_10 : decode cX10_isPlace 10 = .ok (.invokestatic 73, 3) := by decide +kernel
theorem dX10_isPlace_13 : decode cX10_isPlace 13 = .ok (.ireturn, 1) := by decide +kernel
theorem dX10_write_0 : decode cX10_write 0 = .ok (.iload_n 1, 1) := by decide +kernel
theorem dX10_write_1 : decode cX10_write 1 = .ok (.i2l, 1) := by decide +kernel
theorem dX10_write_2 : decode cX10_write 2 = .ok (.lconst 0, 1) := by decide +kernel
theorem dX10_write_3 : decode cX10_write 3 = .ok (.ldc2_w 77, 3) := by decide +kernel
theorem dX10_write_6 : decode cX10_write 6 = .ok (.invokestatic 73, 3) := by decide +kernel
theorem dX10_write_9 : decode cX10_write 9 = .ok (.ifCond .ne 6, 3) := by decide +kernel
theorem dX10_write_12 : decode cX10_write 12 = .ok (.bipush (-2), 2) := by decide +kernel
theorem dX10_write_14 : decode cX10_write 14 = .ok (.ireturn, 1) := by decide +kernel
theorem dX10_write_15 : decode cX10_write 15 = .ok (.aload_n 0, 1) := by decide +kernel
theorem dX10_write_16 : decode cX10_write 16 = .ok (.getfield 79, 3) := by decide +kernel
theorem dX10_write_19 : decode cX10_write 19 = .ok (.bipush 80, 2) := by decide +kernel
theorem dX10_write_21 : decode cX10_write 21 = .ok (.if_icmp .ne 6, 3) := by decide +kernel
theorem dX10_write_24 : decode cX10_write 24 = .ok (.bipush (-4), 2) := by decide +kernel
theorem dX10_write_26 : decode cX10_write 26 = .ok (.ireturn, 1) := by decide +kernel
theorem dX10_write_27 : decode cX10_write 27 = .ok (.aload_n 0, 1) := by decide +kernel
theorem dX10_write_28 : decode cX10_write 28 = .ok (.getfield 7, 3) := by decide +kernel
theorem dX10_write_31 : decode cX10_write 31 = .ok (.aload_n 0, 1) := by decide +kernel
theorem dX10_write_32 : decode cX10_write 32 = .ok (.getfield 79, 3) := by decide +kernel
theorem dX10_write_35 : decode cX10_write 35 = .ok (.iload_n 1, 1) := by decide +kernel
theorem dX10_write_36 : decode cX10_write 36 = .ok (.iastore, 1) := by decide +kernel
theorem dX10_write_37 : decode cX10_write 37 = .ok (.aload_n 0, 1) := by decide +kernel
theorem dX10_write_38 : decode cX10_write 38 = .ok (.dup, 1) := by decide +kernel
theorem dX10_write_39 : decode cX10_write 39 = .ok (.getfield 79, 3) := by decide +kernel
theorem dX10_write_42 : decode cX10_write 42 = .ok (.iconst 1, 1) := by decide +kernel
theorem dX10_write_43 : decode cX10_write 43 = .ok (.iadd, 1) := by decide +kernel
theorem dX10_write_44 : decode cX10_write 44 = .ok (.putfield 79, 3) := by decide +kernel
theorem dX10_write_47 : decode cX10_write 47 = .ok (.aload_n 0, 1) := by decide +kernel
theorem dX10_write_48 : decode cX10_write 48 = .ok (.getfield 79, 3) := by decide +kernel
theorem dX10_write_51 : decode cX10_write 51 = .ok (.ireturn, 1) := by decide +kernel
theorem dX10_wipe_0 : decode cX10_wipe 0 = .ok (.aload_n 0, 1) := by decide +kernel
theorem dX10_wipe_1 : decode cX10_wipe 1 = .ok (.getfield 79, 3) := by decide +kernel
theorem dX10_wipe_4 : decode cX10_wipe 4 = .ok (.istore_n 1, 1) := by decide +kernel
theorem dX10_wipe_5 : decode cX10_wipe 5 = .ok (.aload_n 0, 1) := by decide +kernel
theorem dX10_wipe_6 : decode cX10_wipe 6 = .ok (.iconst 0, 1) := by decide +kernel
theorem dX10_wipe_7 : decode cX10_wipe 7 = .ok (.putfield 79, 3) := by decide +kernel
theorem dX10_wipe_10 : decode cX10_wipe 10 = .ok (.iload_n 1, 1) := by decide +kernel
theorem dX10_wipe_11 : decode cX10_wipe 11 = .ok (.ireturn, 1) := by decide +kernel
theorem dX10_kindOf_0 : decode cX10_kindOf 0 = .ok (.iload_n 0, 1) := by decide +kernel
theorem dX10_kindOf_1 : decode cX10_kindOf 1 = .ok (.lookupswitch 137 #[(43, 109), (45, 111), (98, 125), (99, 122), (104, 134), (105, 107), (106, 117), (107, 128), (108, 113), (111, 131), (115, 115), (122, 119)], 107) := by decide +kernel
theorem dX10_kindOf_108 : decode cX10_kindOf 108 = .ok (.iconst 0, 1) := by decide +kernel
theorem dX10_kindOf_109 : decode cX10_kindOf 109 = .ok (.ireturn, 1) := by decide +kernel
theorem dX10_kindOf_110 : decode cX10_kindOf 110 = .ok (.iconst 1, 1) := by decide +kernel
theorem dX10_kindOf_111 : decode cX10_kindOf 111 = .ok (.ireturn, 1) := by decide +kernel
theorem dX10_kindOf_112 : decode cX10_kindOf 112 = .ok (.iconst 2, 1) := by decide +kernel
theorem dX10_kindOf_113 : decode cX10_kindOf 113 = .ok (.ireturn, 1) := by decide +kernel
theorem dX10_kindOf_114 : decode cX10_kindOf 114 = .ok (.iconst 3, 1) := by decide +kernel
theorem dX10_kindOf_115 : decode cX10_kindOf 115 = .ok (.ireturn, 1) := by decide +kernel
theorem dX10_kindOf_116 : decode cX10_kindOf 116 = .ok (.iconst 4, 1) := by decide +kernel
theorem dX10_kindOf_117 : decode cX10_kindOf 117 = .ok (.ireturn, 1) := by decide +kernel
theorem dX10_kindOf_118 : decode cX10_kindOf 118 = .ok (.iconst 5, 1) := by decide +kernel
theorem dX10_kindOf_119 : decode cX10_kindOf 119 = .ok (.ireturn, 1) := by decide +kernel
theorem dX10_kindOf_120 : decode cX10_kindOf 120 = .ok (.bipush 6, 2) := by decide +kernel
theorem dX10_kindOf_122 : decode cX10_kindOf 122 = .ok (.ireturn, 1) := by decide +kernel
theorem dX10_kindOf_123 : decode cX10_kindOf 123 = .ok (.bipush 7, 2) := by decide +kernel
theorem dX10_kindOf_125 : decode cX10_kindOf 125 = .ok (.ireturn, 1) := by decide +kernel
theorem dX10_kindOf_126 : decode cX10_kindOf 126 = .ok (.bipush 8, 2) := by decide +kernel
theorem dX10_kindOf_128 : decode cX10_kindOf 128 = .ok (.ireturn, 1) := by decide +kernel
theorem dX10_kindOf_129 : decode cX10_kindOf 129 = .ok (.bipush 9, 2) := by decide +kernel
theorem dX10_kindOf_131 : decode cX10_kindOf 131 = .ok (.ireturn, 1) := by decide +kernel
theorem dX10_kindOf_132 : decode cX10_kindOf 132 = .ok (.bipush 10, 2) := by decide +kernel
theorem dX10_kindOf_134 : decode cX10_kindOf 134 = .ok (.ireturn, 1) := by decide +kernel
theorem dX10_kindOf_135 : decode cX10_kindOf 135 = .ok (.bipush 11, 2) := by decide +kernel
theorem dX10_kindOf_137 : decode cX10_kindOf 137 = .ok (.ireturn, 1) := by decide +kernel
theorem dX10_kindOf_138 : decode cX10_kindOf 138 = .ok (.bipush (-9), 2) := by decide +kernel
theorem dX10_kindOf_140 : decode cX10_kindOf 140 = .ok (.ireturn, 1) := by decide +kernel
theorem dX10_takeSign_0 : decode cX10_takeSign 0 = .ok (.iload_n 1, 1) := by decide +kernel
theorem dX10_takeSign_1 : decode cX10_takeSign 1 = .ok (.invokestatic 82, 3) := by decide +kernel
theorem dX10_takeSign_4 : decode cX10_takeSign 4 = .ok (.istore_n 2, 1) := by decide +kernel
theorem dX10_takeSign_5 : decode cX10_takeSign 5 = .ok (.iload_n 2, 1) := by decide +kernel
theorem dX10_takeSign_6 : decode cX10_takeSign 6 = .ok (.bipush (-9), 2) := by decide +kernel
theorem dX10_takeSign_8 : decode cX10_takeSign 8 = .ok (.if_icmp .eq 12, 3) := by decide +kernel
theorem dX10_takeSign_11 : decode cX10_takeSign 11 = .ok (.aload_n 0, 1) := by decide +kernel
theorem dX10_takeSign_12 : decode cX10_takeSign 12 = .ok (.getfield 86, 3) := by decide +kernel
theorem dX10_takeSign_15 : decode cX10_takeSign 15 = .ok (.bipush 16, 2) := by decide +kernel
theorem dX10_takeSign_17 : decode cX10_takeSign 17 = .ok (.if_icmp .ne 5, 3) := by decide +kernel
theorem dX10_takeSign_20 : decode cX10_takeSign 20 = .ok (.iconst 0, 1) := by decide +kernel
theorem dX10_takeSign_21 : decode cX10_takeSign 21 = .ok (.ireturn, 1) := by decide +kernel
theorem dX10_takeSign_22 : decode cX10_takeSign 22 = .ok (.aload_n 0, 1) := by decide +kernel
theorem dX10_takeSign_23 : decode cX10_takeSign 23 = .ok (.getfield 53, 3) := by decide +kernel
theorem dX10_takeSign_26 : decode cX10_takeSign 26 = .ok (.aload_n 0, 1) := by decide +kernel
theorem dX10_takeSign_27 : decode cX10_takeSign 27 = .ok (.getfield 86, 3) := by decide +kernel
theorem dX10_takeSign_30 : decode cX10_takeSign 30 = .ok (.iload_n 2, 1) := by decide +kernel
theorem dX10_takeSign_31 : decode cX10_takeSign 31 = .ok (.iastore, 1) := by decide +kernel
theorem dX10_takeSign_32 : decode cX10_takeSign 32 = .ok (.aload_n 0, 1) := by decide +kernel
theorem dX10_takeSign_33 : decode cX10_takeSign 33 = .ok (.getfield 56, 3) := by decide +kernel
theorem dX10_takeSign_36 : decode cX10_takeSign 36 = .ok (.aload_n 0, 1) := by decide +kernel
theorem dX10_takeSign_37 : decode cX10_takeSign 37 = .ok (.getfield 86, 3) := by decide +kernel
theorem dX10_takeSign_40 : decode cX10_takeSign 40 = .ok (.iconst 0, 1) := by decide +kernel
theorem dX10_takeSign_41 : decode cX10_takeSign 41 = .ok (.iastore, 1) := by decide +kernel
theorem dX10_takeSign_42 : decode cX10_takeSign 42 = .ok (.aload_n 0, 1) := by decide +kernel
theorem dX10_takeSign_43 : decode cX10_takeSign 43 = .ok (.getfield 59, 3) := by decide +kernel
theorem dX10_takeSign_46 : decode cX10_takeSign 46 = .ok (.aload_n 0, 1) := by decide +kernel
theorem dX10_takeSign_47 : decode cX10_takeSign 47 = .ok (.getfield 86, 3) := by decide +kernel
theorem dX10_takeSign_50 : decode cX10_takeSign 50 = .ok (.iconst 0, 1) := by decide +kernel
theorem dX10_takeSign_51 : decode cX10_takeSign 51 = .ok (.iastore, 1) := by decide +kernel
theorem dX10_takeSign_52 : decode cX10_takeSign 52 = .ok (.iload_n 2, 1) := by decide +kernel
theorem dX10_takeSign_53 : decode cX10_takeSign 53 = .ok (.bipush 8, 2) := by decide +kernel
theorem dX10_takeSign_55 : decode cX10_takeSign 55 = .ok (.if_icmp .eq 9, 3) := by decide +kernel
theorem dX10_takeSign_58 : decode cX10_takeSign 58 = .ok (.iload_n 2, 1) := by decide +kernel
theorem dX10_takeSign_59 : decode cX10_takeSign 59 = .ok (.bipush 11, 2) := by decide +kernel
theorem dX10_takeSign_61 : decode cX10_takeSign 61 = .ok (.if_icmp .ne 16, 3) := by decide +kernel
theorem dX10_takeSign_64 : decode cX10_takeSign 64 = .ok (.aload_n 0, 1) := by decide +kernel
theorem dX10_takeSign_65 : decode cX10_takeSign 65 = .ok (.dup, 1) := by decide +kernel
theorem dX10_takeSign_66 : decode cX10_takeSign 66 = .ok (.getfield 86, 3) := by decide +kernel
theorem dX10_takeSign_69 : decode cX10_takeSign 69 = .ok (.iconst 1, 1) := by decide +kernel
theorem dX10_takeSign_70 : decode cX10_takeSign 70 = .ok (.iadd, 1) := by decide +kernel
theorem dX10_takeSign_71 : decode cX10_takeSign 71 = .ok (.putfield 86, 3) := by decide +kernel
theorem dX10_takeSign_74 : decode cX10_takeSign 74 = .ok (.goto 8, 3) := by decide +kernel
theorem dX10_takeSign_77 : decode cX10_takeSign 77 = .ok (.aload_n 0, 1) := by decide +kernel
theorem dX10_takeSign_78 : decode cX10_takeSign 78 = .ok (.iconst 1, 1) := by decide +kernel
theorem dX10_takeSign_79 : decode cX10_takeSign 79 = .ok (.putfield 89, 3) := by decide +kernel
theorem dX10_takeSign_82 : decode cX10_takeSign 82 = .ok (.iconst 1, 1) := by decide +kernel
theorem dX10_takeSign_83 : decode cX10_takeSign 83 = .ok (.ireturn, 1) := by decide +kernel
theorem dX10_ended_0 : decode cX10_ended 0 = .ok (.aload_n 0, 1) := by decide +kernel
theorem dX10_ended_1 : decode cX10_ended 1 = .ok (.dup, 1) := by decide +kernel
theorem dX10_ended_2 : decode cX10_ended 2 = .ok (.getfield 86, 3) := by decide +kernel
theorem dX10_ended_5 : decode cX10_ended 5 = .ok (.iconst 1, 1) := by decide +kernel
theorem dX10_ended_6 : decode cX10_ended 6 = .ok (.iadd, 1) := by decide +kernel
theorem dX10_ended_7 : decode cX10_ended 7 = .ok (.putfield 86, 3) := by decide +kernel
theorem dX10_ended_10 : decode cX10_ended 10 = .ok (.aload_n 0, 1) := by decide +kernel
theorem dX10_ended_11 : decode cX10_ended 11 = .ok (.iconst 0, 1) := by decide +kernel
theorem dX10_ended_12 : decode cX10_ended 12 = .ok (.putfield 89, 3) := by decide +kernel
theorem dX10_ended_15 : decode cX10_ended 15 = .ok (.iload_n 1, 1) := by decide +kernel
theorem dX10_ended_16 : decode cX10_ended 16 = .ok (.ireturn, 1) := by decide +kernel
theorem dX10_takeFar_0 : decode cX10_takeFar 0 = .ok (.aload_n 0, 1) := by decide +kernel
theorem dX10_takeFar_1 : decode cX10_takeFar 1 = .ok (.getfield 92, 3) := by decide +kernel
theorem dX10_takeFar_4 : decode cX10_takeFar 4 = .ok (.ifCond .ne 36, 3) := by decide +kernel
theorem dX10_takeFar_7 : decode cX10_takeFar 7 = .ok (.aload_n 0, 1) := by decide +kernel
theorem dX10_takeFar_8 : decode cX10_takeFar 8 = .ok (.iload_n 1, 1) := by decide +kernel
theorem dX10_takeFar_9 : decode cX10_takeFar 9 = .ok (.bipush 43, 2) := by decide +kernel
theorem dX10_takeFar_11 : decode cX10_takeFar 11 = .ok (.if_icmp .ne 7, 3) := by decide +kernel
theorem dX10_takeFar_14 : decode cX10_takeFar 14 = .ok (.iconst 1, 1) := by decide +kernel
theorem dX10_takeFar_15 : decode cX10_takeFar 15 = .ok (.goto 4, 3) := by decide +kernel
theorem dX10_takeFar_18 : decode cX10_takeFar 18 = .ok (.iconst (-1), 1) := by decide +kernel
theorem dX10_takeFar_19 : decode cX10_takeFar 19 = .ok (.putfield 92, 3) := by decide +kernel
theorem dX10_takeFar_22 : decode cX10_takeFar 22 = .ok (.iload_n 1, 1) := by decide +kernel
theorem dX10_takeFar_23 : decode cX10_takeFar 23 = .ok (.bipush 43, 2) := by decide +kernel
theorem dX10_takeFar_25 : decode cX10_takeFar 25 = .ok (.if_icmp .eq 9, 3) := by decide +kernel
theorem dX10_takeFar_28 : decode cX10_takeFar 28 = .ok (.iload_n 1, 1) := by decide +kernel
theorem dX10_takeFar_29 : decode cX10_takeFar 29 = .ok (.bipush 45, 2) := by decide +kernel
theorem dX10_takeFar_31 : decode cX10_takeFar 31 = .ok (.if_icmp .ne 7, 3) := by decide +kernel
theorem dX10_takeFar_34 : decode cX10_takeFar 34 = .ok (.iconst 1, 1) := by decide +kernel
theorem dX10_takeFar_35 : decode cX10_takeFar 35 = .ok (.goto 4, 3) := by decide +kernel
theorem dX10_takeFar_38 : decode cX10_takeFar 38 = .ok (.iconst 0, 1) := by decide +kernel
theorem dX10_takeFar_39 : decode cX10_takeFar 39 = .ok (.ireturn, 1) := by decide +kernel
theorem dX10_takeFar_40 : decode cX10_takeFar 40 = .ok (.aload_n 0, 1) := by decide +kernel
theorem dX10_takeFar_41 : decode cX10_takeFar 41 = .ok (.getfield 59, 3) := by decide +kernel
theorem dX10_takeFar_44 : decode cX10_takeFar 44 = .ok (.aload_n 0, 1) := by decide +kernel
theorem dX10_takeFar_45 : decode cX10_takeFar 45 = .ok (.getfield 86, 3) := by decide +kernel
theorem dX10_takeFar_48 : decode cX10_takeFar 48 = .ok (.aload_n 0, 1) := by decide +kernel
theorem dX10_takeFar_49 : decode cX10_takeFar 49 = .ok (.getfield 92, 3) := by decide +kernel
theorem dX10_takeFar_52 : decode cX10_takeFar 52 = .ok (.iload_n 1, 1) := by decide +kernel
theorem dX10_takeFar_53 : decode cX10_takeFar 53 = .ok (.bipush 48, 2) := by decide +kernel
theorem dX10_takeFar_55 : decode cX10_takeFar 55 = .ok (.isub, 1) := by decide +kernel
theorem dX10_takeFar_56 : decode cX10_takeFar 56 = .ok (.imul, 1) := by decide +kernel
theorem dX10_takeFar_57 : decode cX10_takeFar 57 = .ok (.iastore, 1) := by decide +kernel
theorem dX10_takeFar_58 : decode cX10_takeFar 58 = .ok (.aload_n 0, 1) := by decide +kernel
theorem dX10_takeFar_59 : decode cX10_takeFar 59 = .ok (.iconst 0, 1) := by decide +kernel
theorem dX10_takeFar_60 : decode cX10_takeFar 60 = .ok (.putfield 92, 3) := by decide +kernel
theorem dX10_takeFar_63 : decode cX10_takeFar 63 = .ok (.aload_n 0, 1) := by decide +kernel
theorem dX10_takeFar_64 : decode cX10_takeFar 64 = .ok (.iload_n 1, 1) := by decide +kernel
theorem dX10_takeFar_65 : decode cX10_takeFar 65 = .ok (.i2l, 1) := by decide +kernel
theorem dX10_takeFar_66 : decode cX10_takeFar 66 = .ok (.ldc2_w 95, 3) := by decide +kernel
theorem dX10_takeFar_69 : decode cX10_takeFar 69 = .ok (.ldc2_w 97, 3) := by decide +kernel
theorem dX10_takeFar_72 : decode cX10_takeFar 72 = .ok (.invokestatic 73, 3) := by decide +kernel
theorem dX10_takeFar_75 : decode cX10_takeFar 75 = .ok (.invokevirtual 99, 3) := by decide +kernel
theorem dX10_takeFar_78 : decode cX10_takeFar 78 = .ok (.ireturn, 1) := by decide +kernel
theorem dX10_takeCall_0 : decode cX10_takeCall 0 = .ok (.aload_n 0, 1) := by decide +kernel
theorem dX10_takeCall_1 : decode cX10_takeCall 1 = .ok (.getfield 89, 3) := by decide +kernel
theorem dX10_takeCall_4 : decode cX10_takeCall 4 = .ok (.iconst 1, 1) := by decide +kernel
theorem dX10_takeCall_5 : decode cX10_takeCall 5 = .ok (.if_icmp .ne 26, 3) := by decide +kernel
theorem dX10_takeCall_8 : decode cX10_takeCall 8 = .ok (.aload_n 0, 1) := by decide +kernel
theorem dX10_takeCall_9 : decode cX10_takeCall 9 = .ok (.getfield 56, 3) := by decide +kernel
theorem dX10_takeCall_12 : decode cX10_takeCall 12 = .ok (.aload_n 0, 1) := by decide +kernel
theorem dX10_takeCall_13 : decode cX10_takeCall 13 = .ok (.getfield 86, 3) := by decide +kernel
theorem dX10_takeCall_16 : decode cX10_takeCall 16 = .ok (.iload_n 1, 1) := by decide +kernel
theorem dX10_takeCall_17 : decode cX10_takeCall 17 = .ok (.iastore, 1) := by decide +kernel
theorem dX10_takeCall_18 : decode cX10_takeCall 18 = .ok (.aload_n 0, 1) := by decide +kernel
theorem dX10_takeCall_19 : decode cX10_takeCall 19 = .ok (.iconst 2, 1) := by decide +kernel
theorem dX10_takeCall_20 : decode cX10_takeCall 20 = .ok (.putfield 89, 3) := by decide +kernel
theorem dX10_takeCall_23 : decode cX10_takeCall 23 = .ok (.iload_n 1, 1) := by decide +kernel
theorem dX10_takeCall_24 : decode cX10_takeCall 24 = .ok (.i2l, 1) := by decide +kernel
theorem dX10_takeCall_25 : decode cX10_takeCall 25 = .ok (.lconst 0, 1) := by decide +kernel
theorem dX10_takeCall_26 : decode cX10_takeCall 26 = .ok (.lconst 1, 1) := by decide +kernel
theorem dX10_takeCall_27 : decode cX10_takeCall 27 = .ok (.invokestatic 73, 3) := by decide +kernel
theorem dX10_takeCall_30 : decode cX10_takeCall 30 = .ok (.ireturn, 1) := by decide +kernel
theorem dX10_takeCall_31 : decode cX10_takeCall 31 = .ok (.aload_n 0, 1) := by decide +kernel
theorem dX10_takeCall_32 : decode cX10_takeCall 32 = .ok (.getfield 56, 3) := by decide +kernel
theorem dX10_takeCall_35 : decode cX10_takeCall 35 = .ok (.aload_n 0, 1) := by decide +kernel
theorem dX10_takeCall_36 : decode cX10_takeCall 36 = .ok (.getfield 86, 3) := by decide +kernel
theorem dX10_takeCall_39 : decode cX10_takeCall 39 = .ok (.iaload, 1) := by decide +kernel
theorem dX10_takeCall_40 : decode cX10_takeCall 40 = .ok (.istore_n 2, 1) := by decide +kernel
theorem dX10_takeCall_41 : decode cX10_takeCall 41 = .ok (.aload_n 0, 1) := by decide +kernel
theorem dX10_takeCall_42 : decode cX10_takeCall 42 = .ok (.getfield 56, 3) := by decide +kernel
theorem dX10_takeCall_45 : decode cX10_takeCall 45 = .ok (.aload_n 0, 1) := by decide +kernel
theorem dX10_takeCall_46 : decode cX10_takeCall 46 = .ok (.getfield 86, 3) := by decide +kernel
theorem dX10_takeCall_49 : decode cX10_takeCall 49 = .ok (.bipush 10, 2) := by decide +kernel
theorem dX10_takeCall_51 : decode cX10_takeCall 51 = .ok (.iload_n 2, 1) := by decide +kernel
theorem dX10_takeCall_52 : decode cX10_takeCall 52 = .ok (.imul, 1) := by decide +kernel
theorem dX10_takeCall_53 : decode cX10_takeCall 53 = .ok (.iload_n 1, 1) := by decide +kernel
theorem dX10_takeCall_54 : decode cX10_takeCall 54 = .ok (.iadd, 1) := by decide +kernel
theorem dX10_takeCall_55 : decode cX10_takeCall 55 = .ok (.iastore, 1) := by decide +kernel
theorem dX10_takeCall_56 : decode cX10_takeCall 56 = .ok (.aload_n 0, 1) := by decide +kernel
theorem dX10_takeCall_57 : decode cX10_takeCall 57 = .ok (.iload_n 1, 1) := by decide +kernel
theorem dX10_takeCall_58 : decode cX10_takeCall 58 = .ok (.i2l, 1) := by decide +kernel
theorem dX10_takeCall_59 : decode cX10_takeCall 59 = .ok (.lconst 0, 1) := by decide +kernel
theorem dX10_takeCall_60 : decode cX10_takeCall 60 = .ok (.iload_n 2, 1) := by decide +kernel
theorem dX10_takeCall_61 : decode cX10_takeCall 61 = .ok (.ifCond .ne 9, 3) := by decide +kernel
theorem dX10_takeCall_64 : decode cX10_takeCall 64 = .ok (.ldc2_w 103, 3) := by decide +kernel
theorem dX10_takeCall_67 : decode cX10_takeCall 67 = .ok (.goto 6, 3) := by decide +kernel
theorem dX10_takeCall_70 : decode cX10_takeCall 70 = .ok (.ldc2_w 105, 3) := by decide +kernel
theorem dX10_takeCall_73 : decode cX10_takeCall 73 = .ok (.invokestatic 73, 3) := by decide +kernel
theorem dX10_takeCall_76 : decode cX10_takeCall 76 = .ok (.invokevirtual 99, 3) := by decide +kernel
theorem dX10_takeCall_79 : decode cX10_takeCall 79 = .ok (.ireturn, 1) := by decide +kernel
theorem dX10_takeFirst_0 : decode cX10_takeFirst 0 = .ok (.aload_n 0, 1) := by decide +kernel
theorem dX10_takeFirst_1 : decode cX10_takeFirst 1 = .ok (.getfield 56, 3) := by decide +kernel
theorem dX10_takeFirst_4 : decode cX10_takeFirst 4 = .ok (.aload_n 0, 1) := by decide +kernel
theorem dX10_takeFirst_5 : decode cX10_takeFirst 5 = .ok (.getfield 86, 3) := by decide +kernel
theorem dX10_takeFirst_8 : decode cX10_takeFirst 8 = .ok (.iload_n 2, 1) := by decide +kernel
theorem dX10_takeFirst_9 : decode cX10_takeFirst 9 = .ok (.iastore, 1) := by decide +kernel
theorem dX10_takeFirst_10 : decode cX10_takeFirst 10 = .ok (.iload_n 1, 1) := by decide +kernel
theorem dX10_takeFirst_11 : decode cX10_takeFirst 11 = .ok (.bipush 9, 2) := by decide +kernel
theorem dX10_takeFirst_13 : decode cX10_takeFirst 13 = .ok (.if_icmp .eq 9, 3) := by decide +kernel
theorem dX10_takeFirst_16 : decode cX10_takeFirst 16 = .ok (.iload_n 1, 1) := by decide +kernel
theorem dX10_takeFirst_17 : decode cX10_takeFirst 17 = .ok (.bipush 10, 2) := by decide +kernel
theorem dX10_takeFirst_19 : decode cX10_takeFirst 19 = .ok (.if_icmp .ne 17, 3) := by decide +kernel
theorem dX10_takeFirst_22 : decode cX10_takeFirst 22 = .ok (.aload_n 0, 1) := by decide +kernel
theorem dX10_takeFirst_23 : decode cX10_takeFirst 23 = .ok (.iload_n 2, 1) := by decide +kernel
theorem dX10_takeFirst_24 : decode cX10_takeFirst 24 = .ok (.i2l, 1) := by decide +kernel
theorem dX10_takeFirst_25 : decode cX10_takeFirst 25 = .ok (.lconst 0, 1) := by decide +kernel
theorem dX10_takeFirst_26 : decode cX10_takeFirst 26 = .ok (.ldc2_w 107, 3) := by decide +kernel
theorem dX10_takeFirst_29 : decode cX10_takeFirst 29 = .ok (.invokestatic 73, 3) := by decide +kernel
theorem dX10_takeFirst_32 : decode cX10_takeFirst 32 = .ok (.invokevirtual 99, 3) := by decide +kernel
theorem dX10_takeFirst_35 : decode cX10_takeFirst 35 = .ok (.ireturn, 1) := by decide +kernel
theorem dX10_takeFirst_36 : decode cX10_takeFirst 36 = .ok (.aload_n 0, 1) := by decide +kernel
theorem dX10_takeFirst_37 : decode cX10_takeFirst 37 = .ok (.iconst 2, 1) := by decide +kernel
theorem dX10_takeFirst_38 : decode cX10_takeFirst 38 = .ok (.putfield 89, 3) := by decide +kernel
theorem dX10_takeFirst_41 : decode cX10_takeFirst 41 = .ok (.iload_n 2, 1) := by decide +kernel
theorem dX10_takeFirst_42 : decode cX10_takeFirst 42 = .ok (.i2l, 1) := by decide +kernel
theorem dX10_takeFirst_43 : decode cX10_takeFirst 43 = .ok (.lconst 0, 1) := by decide +kernel
theorem dX10_takeFirst_44 : decode cX10_takeFirst 44 = .ok (.ldc2_w 107, 3) := by decide +kernel
theorem dX10_takeFirst_47 : decode cX10_takeFirst 47 = .ok (.invokestatic 73, 3) := by decide +kernel
theorem dX10_takeFirst_50 : decode cX10_takeFirst 50 = .ok (.ireturn, 1) := by decide +kernel
theorem dX10_takeOf_0 : decode cX10_takeOf 0 = .ok (.aload_n 0, 1) := by decide +kernel
theorem dX10_takeOf_1 : decode cX10_takeOf 1 = .ok (.getfield 53, 3) := by decide +kernel
theorem dX10_takeOf_4 : decode cX10_takeOf 4 = .ok (.aload_n 0, 1) := by decide +kernel
theorem dX10_takeOf_5 : decode cX10_takeOf 5 = .ok (.getfield 86, 3) := by decide +kernel
theorem dX10_takeOf_8 : decode cX10_takeOf 8 = .ok (.iaload, 1) := by decide +kernel
theorem dX10_takeOf_9 : decode cX10_takeOf 9 = .ok (.istore_n 2, 1) := by decide +kernel
theorem dX10_takeOf_10 : decode cX10_takeOf 10 = .ok (.iload_n 1, 1) := by decide +kernel
theorem dX10_takeOf_11 : decode cX10_takeOf 11 = .ok (.bipush 48, 2) := by decide +kernel
theorem dX10_takeOf_13 : decode cX10_takeOf 13 = .ok (.isub, 1) := by decide +kernel
theorem dX10_takeOf_14 : decode cX10_takeOf 14 = .ok (.istore_n 3, 1) := by decide +kernel
theorem dX10_takeOf_15 : decode cX10_takeOf 15 = .ok (.iload_n 2, 1) := by decide +kernel
theorem dX10_takeOf_16 : decode cX10_takeOf 16 = .ok (.iconst 5, 1) := by decide +kernel
theorem dX10_takeOf_17 : decode cX10_takeOf 17 = .ok (.if_icmp .eq 17, 3) := by decide +kernel
theorem dX10_takeOf_20 : decode cX10_takeOf 20 = .ok (.iload_n 2, 1) := by decide +kernel
theorem dX10_takeOf_21 : decode cX10_takeOf 21 = .ok (.bipush 6, 2) := by decide +kernel
theorem dX10_takeOf_23 : decode cX10_takeOf 23 = .ok (.if_icmp .ne 17, 3) := by decide +kernel
theorem dX10_takeOf_26 : decode cX10_takeOf 26 = .ok (.aload_n 0, 1) := by decide +kernel
theorem dX10_takeOf_27 : decode cX10_takeOf 27 = .ok (.getfield 89, 3) := by decide +kernel
theorem dX10_takeOf_30 : decode cX10_takeOf 30 = .ok (.iconst 2, 1) := by decide +kernel
theorem dX10_takeOf_31 : decode cX10_takeOf 31 = .ok (.if_icmp .ne 9, 3) := by decide +kernel
theorem dX10_takeOf_34 : decode cX10_takeOf 34 = .ok (.aload_n 0, 1) := by decide +kernel
theorem dX10_takeOf_35 : decode cX10_takeOf 35 = .ok (.iload_n 1, 1) := by decide +kernel
theorem dX10_takeOf_36 : decode cX10_takeOf 36 = .ok (.invokevirtual 109, 3) := by decide +kernel
theorem dX10_takeOf_39 : decode cX10_takeOf 39 = .ok (.ireturn, 1) := by decide +kernel
theorem dX10_takeOf_40 : decode cX10_takeOf 40 = .ok (.iload_n 2, 1) := by decide +kernel
theorem dX10_takeOf_41 : decode cX10_takeOf 41 = .ok (.bipush 7, 2) := by decide +kernel
theorem dX10_takeOf_43 : decode cX10_takeOf 43 = .ok (.if_icmp .ne 9, 3) := by decide +kernel
theorem dX10_takeOf_46 : decode cX10_takeOf 46 = .ok (.aload_n 0, 1) := by decide +kernel
theorem dX10_takeOf_47 : decode cX10_takeOf 47 = .ok (.iload_n 3, 1) := by decide +kernel
theorem dX10_takeOf_48 : decode cX10_takeOf 48 = .ok (.invokevirtual 113, 3) := by decide +kernel
theorem dX10_takeOf_51 : decode cX10_takeOf 51 = .ok (.ireturn, 1) := by decide +kernel
theorem dX10_takeOf_52 : decode cX10_takeOf 52 = .ok (.aload_n 0, 1) := by decide +kernel
theorem dX10_takeOf_53 : decode cX10_takeOf 53 = .ok (.getfield 89, 3) := by decide +kernel
theorem dX10_takeOf_56 : decode cX10_takeOf 56 = .ok (.iconst 1, 1) := by decide +kernel
theorem dX10_takeOf_57 : decode cX10_takeOf 57 = .ok (.if_icmp .ne 10, 3) := by decide +kernel
theorem dX10_takeOf_60 : decode cX10_takeOf 60 = .ok (.aload_n 0, 1) := by decide +kernel
theorem dX10_takeOf_61 : decode cX10_takeOf 61 = .ok (.iload_n 2, 1) := by decide +kernel
theorem dX10_takeOf_62 : decode cX10_takeOf 62 = .ok (.iload_n 3, 1) := by decide +kernel
theorem dX10_takeOf_63 : decode cX10_takeOf 63 = .ok (.invokevirtual 116, 3) := by decide +kernel
theorem dX10_takeOf_66 : decode cX10_takeOf 66 = .ok (.ireturn, 1) := by decide +kernel
theorem dX10_takeOf_67 : decode cX10_takeOf 67 = .ok (.aload_n 0, 1) := by decide +kernel
theorem dX10_takeOf_68 : decode cX10_takeOf 68 = .ok (.getfield 59, 3) := by decide +kernel
theorem dX10_takeOf_71 : decode cX10_takeOf 71 = .ok (.aload_n 0, 1) := by decide +kernel
theorem dX10_takeOf_72 : decode cX10_takeOf 72 = .ok (.getfield 86, 3) := by decide +kernel
theorem dX10_takeOf_75 : decode cX10_takeOf 75 = .ok (.iload_n 3, 1) := by decide +kernel
theorem dX10_takeOf_76 : decode cX10_takeOf 76 = .ok (.iastore, 1) := by decide +kernel
theorem dX10_takeOf_77 : decode cX10_takeOf 77 = .ok (.aload_n 0, 1) := by decide +kernel
theorem dX10_takeOf_78 : decode cX10_takeOf 78 = .ok (.iload_n 3, 1) := by decide +kernel
theorem dX10_takeOf_79 : decode cX10_takeOf 79 = .ok (.i2l, 1) := by decide +kernel
theorem dX10_takeOf_80 : decode cX10_takeOf 80 = .ok (.lconst 0, 1) := by decide +kernel
theorem dX10_takeOf_81 : decode cX10_takeOf 81 = .ok (.iload_n 2, 1) := by decide +kernel
theorem dX10_takeOf_82 : decode cX10_takeOf 82 = .ok (.ifCond .ne 9, 3) := by decide +kernel
theorem dX10_takeOf_85 : decode cX10_takeOf 85 = .ok (.ldc2_w 103, 3) := by decide +kernel
theorem dX10_takeOf_88 : decode cX10_takeOf 88 = .ok (.goto 22, 3) := by decide +kernel
theorem dX10_takeOf_91 : decode cX10_takeOf 91 = .ok (.iload_n 2, 1) := by decide +kernel
theorem dX10_takeOf_92 : decode cX10_takeOf 92 = .ok (.iconst 1, 1) := by decide +kernel
theorem dX10_takeOf_93 : decode cX10_takeOf 93 = .ok (.if_icmp .eq 8, 3) := by decide +kernel
theorem dX10_takeOf_96 : decode cX10_takeOf 96 = .ok (.iload_n 2, 1) := by decide +kernel
theorem dX10_takeOf_97 : decode cX10_takeOf 97 = .ok (.iconst 2, 1) := by decide +kernel
theorem dX10_takeOf_98 : decode cX10_takeOf 98 = .ok (.if_icmp .ne 9, 3) := by decide +kernel
theorem dX10_takeOf_101 : decode cX10_takeOf 101 = .ok (.ldc2_w 107, 3) := by decide +kernel
theorem dX10_takeOf_104 : decode cX10_takeOf 104 = .ok (.goto 6, 3) := by decide +kernel
theorem dX10_takeOf_107 : decode cX10_takeOf 107 = .ok (.ldc2_w 120, 3) := by decide +kernel
theorem dX10_takeOf_110 : decode cX10_takeOf 110 = .ok (.invokestatic 73, 3) := by decide +kernel
theorem dX10_takeOf_113 : decode cX10_takeOf 113 = .ok (.invokevirtual 99, 3) := by decide +kernel
theorem dX10_takeOf_116 : decode cX10_takeOf 116 = .ok (.ireturn, 1) := by decide +kernel
theorem dX10_readText_0 : decode cX10_readText 0 = .ok (.aload_n 0, 1) := by decide +kernel
theorem dX10_readText_1 : decode cX10_readText 1 = .ok (.iconst 0, 1) := by decide +kernel
theorem dX10_readText_2 : decode cX10_readText 2 = .ok (.putfield 86, 3) := by decide +kernel
theorem dX10_readText_5 : decode cX10_readText 5 = .ok (.aload_n 0, 1) := by decide +kernel
theorem dX10_readText_6 : decode cX10_readText 6 = .ok (.iconst 0, 1) := by decide +kernel
theorem dX10_readText_7 : decode cX10_readText 7 = .ok (.putfield 89, 3) := by decide +kernel
theorem dX10_readText_10 : decode cX10_readText 10 = .ok (.aload_n 0, 1) := by decide +kernel
theorem dX10_readText_11 : decode cX10_readText 11 = .ok (.iconst 0, 1) := by decide +kernel
theorem dX10_readText_12 : decode cX10_readText 12 = .ok (.putfield 92, 3) := by decide +kernel
theorem dX10_readText_15 : decode cX10_readText 15 = .ok (.aload_n 0, 1) := by decide +kernel
theorem dX10_readText_16 : decode cX10_readText 16 = .ok (.getfield 79, 3) := by decide +kernel
theorem dX10_readText_19 : decode cX10_readText 19 = .ok (.ifCond .eq 14, 3) := by decide +kernel
theorem dX10_readText_22 : decode cX10_readText 22 = .ok (.aload_n 0, 1) := by decide +kernel
theorem dX10_readText_23 : decode cX10_readText 23 = .ok (.getfield 7, 3) := by decide +kernel
theorem dX10_readText_26 : decode cX10_readText 26 = .ok (.iconst 0, 1) := by decide +kernel
theorem dX10_readText_27 : decode cX10_readText 27 = .ok (.iaload, 1) := by decide +kernel
theorem dX10_readText_28 : decode cX10_readText 28 = .ok (.bipush 67, 2) := by decide +kernel
theorem dX10_readText_30 : decode cX10_readText 30 = .ok (.if_icmp .eq 5, 3) := by decide +kernel
theorem dX10_readText_33 : decode cX10_readText 33 = .ok (.iconst 0, 1) := by decide +kernel
theorem dX10_readText_34 : decode cX10_readText 34 = .ok (.ireturn, 1) := by decide +kernel
theorem dX10_readText_35 : decode cX10_readText 35 = .ok (.iconst 1, 1) := by decide +kernel
theorem dX10_readText_36 : decode cX10_readText 36 = .ok (.istore_n 1, 1) := by decide +kernel
theorem dX10_readText_37 : decode cX10_readText 37 = .ok (.iload_n 1, 1) := by decide +kernel
theorem dX10_readText_38 : decode cX10_readText 38 = .ok (.aload_n 0, 1) := by decide +kernel
theorem dX10_readText_39 : decode cX10_readText 39 = .ok (.getfield 79, 3) := by decide +kernel
theorem dX10_readText_42 : decode cX10_readText 42 = .ok (.if_icmp .ge 47, 3) := by decide +kernel
theorem dX10_readText_45 : decode cX10_readText 45 = .ok (.aload_n 0, 1) := by decide +kernel
theorem dX10_readText_46 : decode cX10_readText 46 = .ok (.getfield 89, 3) := by decide +kernel
theorem dX10_readText_49 : decode cX10_readText 49 = .ok (.ifCond .ne 19, 3) := by decide +kernel
theorem dX10_readText_52 : decode cX10_readText 52 = .ok (.aload_n 0, 1) := by decide +kernel
theorem dX10_readText_53 : decode cX10_readText 53 = .ok (.aload_n 0, 1) := by decide +kernel
theorem dX10_readText_54 : decode cX10_readText 54 = .ok (.getfield 7, 3) := by decide +kernel
theorem dX10_readText_57 : decode cX10_readText 57 = .ok (.iload_n 1, 1) := by decide +kernel
theorem dX10_readText_58 : decode cX10_readText 58 = .ok (.iaload, 1) := by decide +kernel
theorem dX10_readText_59 : decode cX10_readText 59 = .ok (.invokevirtual 122, 3) := by decide +kernel
theorem dX10_readText_62 : decode cX10_readText 62 = .ok (.ifCond .eq 19, 3) := by decide +kernel
theorem dX10_readText_65 : decode cX10_readText 65 = .ok (.goto 18, 3) := by decide +kernel
theorem dX10_readText_68 : decode cX10_readText 68 = .ok (.aload_n 0, 1) := by decide +kernel
theorem dX10_readText_69 : decode cX10_readText 69 = .ok (.aload_n 0, 1) := by decide +kernel
theorem dX10_readText_70 : decode cX10_readText 70 = .ok (.getfield 7, 3) := by decide +kernel
theorem dX10_readText_73 : decode cX10_readText 73 = .ok (.iload_n 1, 1) := by decide +kernel
theorem dX10_readText_74 : decode cX10_readText 74 = .ok (.iaload, 1) := by decide +kernel
theorem dX10_readText_75 : decode cX10_readText 75 = .ok (.invokevirtual 125, 3) := by decide +kernel
theorem dX10_readText_78 : decode cX10_readText 78 = .ok (.ifCond .ne 5, 3) := by decide +kernel
theorem dX10_readText_81 : decode cX10_readText 81 = .ok (.iload_n 1, 1) := by decide +kernel
theorem dX10_readText_82 : decode cX10_readText 82 = .ok (.ireturn, 1) := by decide +kernel
theorem dX10_readText_83 : decode cX10_readText 83 = .ok (.iinc 1 1, 3) := by decide +kernel
theorem dX10_readText_86 : decode cX10_readText 86 = .ok (.goto (-49), 3) := by decide +kernel
theorem dX10_readText_89 : decode cX10_readText 89 = .ok (.aload_n 0, 1) := by decide +kernel
theorem dX10_readText_90 : decode cX10_readText 90 = .ok (.getfield 89, 3) := by decide +kernel
theorem dX10_readText_93 : decode cX10_readText 93 = .ok (.ifCond .ne 8, 3) := by decide +kernel
theorem dX10_readText_96 : decode cX10_readText 96 = .ok (.bipush (-9), 2) := by decide +kernel
theorem dX10_readText_98 : decode cX10_readText 98 = .ok (.goto 7, 3) := by decide +kernel
theorem dX10_readText_101 : decode cX10_readText 101 = .ok (.aload_n 0, 1) := by decide +kernel
theorem dX10_readText_102 : decode cX10_readText 102 = .ok (.getfield 79, 3) := by decide +kernel
theorem dX10_readText_105 : decode cX10_readText 105 = .ok (.ireturn, 1) := by decide +kernel
theorem dX10_fault_0 : decode cX10_fault 0 = .ok (.aload_n 0, 1) := by decide +kernel
theorem dX10_fault_1 : decode cX10_fault 1 = .ok (.invokevirtual 128, 3) := by decide +kernel
theorem dX10_fault_4 : decode cX10_fault 4 = .ok (.ireturn, 1) := by decide +kernel
theorem dX10_code_0 : decode cX10_code 0 = .ok (.aload_n 0, 1) := by decide +kernel
theorem dX10_code_1 : decode cX10_code 1 = .ok (.invokevirtual 128, 3) := by decide +kernel
theorem dX10_code_4 : decode cX10_code 4 = .ok (.bipush (-9), 2) := by decide +kernel
theorem dX10_code_6 : decode cX10_code 6 = .ok (.if_icmp .eq 6, 3) := by decide +kernel
theorem dX10_code_9 : decode cX10_code 9 = .ok (.bipush (-3), 2) := by decide +kernel
theorem dX10_code_11 : decode cX10_code 11 = .ok (.ireturn, 1) := by decide +kernel
theorem dX10_code_12 : decode cX10_code 12 = .ok (.aload_n 0, 1) := by decide +kernel
theorem dX10_code_13 : decode cX10_code 13 = .ok (.getfield 22, 3) := by decide +kernel
theorem dX10_code_16 : decode cX10_code 16 = .ok (.invokestatic 66, 3) := by decide +kernel
theorem dX10_code_19 : decode cX10_code 19 = .ok (.aload_n 0, 1) := by decide +kernel
theorem dX10_code_20 : decode cX10_code 20 = .ok (.aload_n 0, 1) := by decide +kernel
theorem dX10_code_21 : decode cX10_code 21 = .ok (.getfield 86, 3) := by decide +kernel
theorem dX10_code_24 : decode cX10_code 24 = .ok (.putfield 70, 3) := by decide +kernel
theorem dX10_code_27 : decode cX10_code 27 = .ok (.iconst 0, 1) := by decide +kernel
theorem dX10_code_28 : decode cX10_code 28 = .ok (.istore_n 1, 1) := by decide +kernel
theorem dX10_code_29 : decode cX10_code 29 = .ok (.iload_n 1, 1) := by decide +kernel
theorem dX10_code_30 : decode cX10_code 30 = .ok (.aload_n 0, 1) := by decide +kernel
theorem dX10_code_31 : decode cX10_code 31 = .ok (.getfield 70, 3) := by decide +kernel
theorem dX10_code_34 : decode cX10_code 34 = .ok (.if_icmp .ge 45, 3) := by decide +kernel
theorem dX10_code_37 : decode cX10_code 37 = .ok (.aload_n 0, 1) := by decide +kernel
theorem dX10_code_38 : decode cX10_code 38 = .ok (.getfield 13, 3) := by decide +kernel
theorem dX10_code_41 : decode cX10_code 41 = .ok (.iload_n 1, 1) := by decide +kernel
theorem dX10_code_42 : decode cX10_code 42 = .ok (.aload_n 0, 1) := by decide +kernel
theorem dX10_code_43 : decode cX10_code 43 = .ok (.getfield 53, 3) := by decide +kernel
theorem dX10_code_46 : decode cX10_code 46 = .ok (.iload_n 1, 1) := by decide +kernel
theorem dX10_code_47 : decode cX10_code 47 = .ok (.iaload, 1) := by decide +kernel
theorem dX10_code_48 : decode cX10_code 48 = .ok (.iastore, 1) := by decide +kernel
theorem dX10_code_49 : decode cX10_code 49 = .ok (.aload_n 0, 1) := by decide +kernel
theorem dX10_code_50 : decode cX10_code 50 = .ok (.getfield 16, 3) := by decide +kernel
theorem dX10_code_53 : decode cX10_code 53 = .ok (.iload_n 1, 1) := by decide +kernel
theorem dX10_code_54 : decode cX10_code 54 = .ok (.aload_n 0, 1) := by decide +kernel
theorem dX10_code_55 : decode cX10_code 55 = .ok (.getfield 56, 3) := by decide +kernel
theorem dX10_code_58 : decode cX10_code 58 = .ok (.iload_n 1, 1) := by decide +kernel
theorem dX10_code_59 : decode cX10_code 59 = .ok (.iaload, 1) := by decide +kernel
theorem dX10_code_60 : decode cX10_code 60 = .ok (.iastore, 1) := by decide +kernel
theorem dX10_code_61 : decode cX10_code 61 = .ok (.aload_n 0, 1) := by decide +kernel
theorem dX10_code_62 : decode cX10_code 62 = .ok (.getfield 19, 3) := by decide +kernel
theorem dX10_code_65 : decode cX10_code 65 = .ok (.iload_n 1, 1) := by decide +kernel
theorem dX10_code_66 : decode cX10_code 66 = .ok (.aload_n 0, 1) := by decide +kernel
theorem dX10_code_67 : decode cX10_code 67 = .ok (.getfield 59, 3) := by decide +kernel
theorem dX10_code_70 : decode cX10_code 70 = .ok (.iload_n 1, 1) := by decide +kernel
theorem dX10_code_71 : decode cX10_code 71 = .ok (.iaload, 1) := by decide +kernel
theorem dX10_code_72 : decode cX10_code 72 = .ok (.iastore, 1) := by decide +kernel
theorem dX10_code_73 : decode cX10_code 73 = .ok (.iinc 1 1, 3) := by decide +kernel
theorem dX10_code_76 : decode cX10_code 76 = .ok (.goto (-47), 3) := by decide +kernel
theorem dX10_code_79 : decode cX10_code 79 = .ok (.aload_n 0, 1) := by decide +kernel
theorem dX10_code_80 : decode cX10_code 80 = .ok (.iconst 0, 1) := by decide +kernel
theorem dX10_code_81 : decode cX10_code 81 = .ok (.putfield 132, 3) := by decide +kernel
theorem dX10_code_84 : decode cX10_code 84 = .ok (.aload_n 0, 1) := by decide +kernel
theorem dX10_code_85 : decode cX10_code 85 = .ok (.getfield 34, 3) := by decide +kernel
theorem dX10_code_88 : decode cX10_code 88 = .ok (.iconst 0, 1) := by decide +kernel
theorem dX10_code_89 : decode cX10_code 89 = .ok (.iconst 0, 1) := by decide +kernel
theorem dX10_code_90 : decode cX10_code 90 = .ok (.bastore, 1) := by decide +kernel
theorem dX10_code_91 : decode cX10_code 91 = .ok (.aload_n 0, 1) := by decide +kernel
theorem dX10_code_92 : decode cX10_code 92 = .ok (.getfield 34, 3) := by decide +kernel
theorem dX10_code_95 : decode cX10_code 95 = .ok (.iconst 1, 1) := by decide +kernel
theorem dX10_code_96 : decode cX10_code 96 = .ok (.iconst 0, 1) := by decide +kernel
theorem dX10_code_97 : decode cX10_code 97 = .ok (.bastore, 1) := by decide +kernel
theorem dX10_code_98 : decode cX10_code 98 = .ok (.aload_n 0, 1) := by decide +kernel
theorem dX10_code_99 : decode cX10_code 99 = .ok (.getfield 70, 3) := by decide +kernel
theorem dX10_code_102 : decode cX10_code 102 = .ok (.ireturn, 1) := by decide +kernel
theorem dX10_doesFault_0 : decode cX10_doesFault 0 = .ok (.aload_n 0, 1) := by decide +kernel
theorem dX10_doesFault_1 : decode cX10_doesFault 1 = .ok (.iload_n 2, 1) := by decide +kernel
theorem dX10_doesFault_2 : decode cX10_doesFault 2 = .ok (.invokevirtual 135, 3) := by decide +kernel
theorem dX10_doesFault_5 : decode cX10_doesFault 5 = .ok (.ifCond .eq 41, 3) := by decide +kernel
theorem dX10_doesFault_8 : decode cX10_doesFault 8 = .ok (.aload_n 0, 1) := by decide +kernel
theorem dX10_doesFault_9 : decode cX10_doesFault 9 = .ok (.getfield 13, 3) := by decide +kernel
theorem dX10_doesFault_12 : decode cX10_doesFault 12 = .ok (.iload_n 2, 1) := by decide +kernel
theorem dX10_doesFault_13 : decode cX10_doesFault 13 = .ok (.iaload, 1) := by decide +kernel
theorem dX10_doesFault_14 : decode cX10_doesFault 14 = .ok (.bipush 7, 2) := by decide +kernel
theorem dX10_doesFault_16 : decode cX10_doesFault 16 = .ok (.if_icmp .ne 12, 3) := by decide +kernel
theorem dX10_doesFault_19 : decode cX10_doesFault 19 = .ok (.aload_n 1, 1) := by decide +kernel
theorem dX10_doesFault_20 : decode cX10_doesFault 20 = .ok (.bipush 20, 2) := by decide +kernel
theorem dX10_doesFault_22 : decode cX10_doesFault 22 = .ok (.iaload, 1) := by decide +kernel
theorem dX10_doesFault_23 : decode cX10_doesFault 23 = .ok (.bipush 8, 2) := by decide +kernel
theorem dX10_doesFault_25 : decode cX10_doesFault 25 = .ok (.if_icmp .eq 21, 3) := by decide +kernel
theorem dX10_doesFault_28 : decode cX10_doesFault 28 = .ok (.aload_n 0, 1) := by decide +kernel
theorem dX10_doesFault_29 : decode cX10_doesFault 29 = .ok (.getfield 13, 3) := by decide +kernel
theorem dX10_doesFault_32 : decode cX10_doesFault 32 = .ok (.iload_n 2, 1) := by decide +kernel
theorem dX10_doesFault_33 : decode cX10_doesFault 33 = .ok (.iaload, 1) := by decide +kernel
theorem dX10_doesFault_34 : decode cX10_doesFault 34 = .ok (.bipush 8, 2) := by decide +kernel
theorem dX10_doesFault_36 : decode cX10_doesFault 36 = .ok (.if_icmp .ne 14, 3) := by decide +kernel
theorem dX10_doesFault_39 : decode cX10_doesFault 39 = .ok (.aload_n 1, 1) := by decide +kernel
theorem dX10_doesFault_40 : decode cX10_doesFault 40 = .ok (.bipush 20, 2) := by decide +kernel
theorem dX10_doesFault_42 : decode cX10_doesFault 42 = .ok (.iaload, 1) := by decide +kernel
theorem dX10_doesFault_43 : decode cX10_doesFault 43 = .ok (.ifCond .ne 7, 3) := by decide +kernel
theorem dX10_doesFault_46 : decode cX10_doesFault 46 = .ok (.iconst 1, 1) := by decide +kernel
theorem dX10_doesFault_47 : decode cX10_doesFault 47 = .ok (.goto 4, 3) := by decide +kernel
theorem dX10_doesFault_50 : decode cX10_doesFault 50 = .ok (.iconst 0, 1) := by decide +kernel
theorem dX10_doesFault_51 : decode cX10_doesFault 51 = .ok (.ireturn, 1) := by decide +kernel
theorem dX10_perform_0 : decode cX10_perform 0 = .ok (.aload_n 0, 1) := by decide +kernel
theorem dX10_perform_1 : decode cX10_perform 1 = .ok (.getfield 16, 3) := by decide +kernel
theorem dX10_perform_4 : decode cX10_perform 4 = .ok (.iload_n 2, 1) := by decide +kernel
theorem dX10_perform_5 : decode cX10_perform 5 = .ok (.iaload, 1) := by decide +kernel
theorem dX10_perform_6 : decode cX10_perform 6 = .ok (.istore 4, 2) := by decide +kernel
theorem dX10_perform_8 : decode cX10_perform 8 = .ok (.aload_n 0, 1) := by decide +kernel
theorem dX10_perform_9 : decode cX10_perform 9 = .ok (.getfield 19, 3) := by decide +kernel
theorem dX10_perform_12 : decode cX10_perform 12 = .ok (.iload_n 2, 1) := by decide +kernel
theorem dX10_perform_13 : decode cX10_perform 13 = .ok (.iaload, 1) := by decide +kernel
theorem dX10_perform_14 : decode cX10_perform 14 = .ok (.istore 5, 2) := by decide +kernel
theorem dX10_perform_16 : decode cX10_perform 16 = .ok (.aload_n 0, 1) := by decide +kernel
theorem dX10_perform_17 : decode cX10_perform 17 = .ok (.getfield 13, 3) := by decide +kernel
theorem dX10_perform_20 : decode cX10_perform 20 = .ok (.iload_n 2, 1) := by decide +kernel
theorem dX10_perform_21 : decode cX10_perform 21 = .ok (.iaload, 1) := by decide +kernel
theorem dX10_perform_22 : decode cX10_perform 22 = .ok (.tableswitch 229 0 10 #[58, 68, 83, 98, 112, 126, 131, 149, 172, 190, 201], 58) := by decide +kernel
theorem dX10_perform_80 : decode cX10_perform 80 = .ok (.aload_n 1, 1) := by decide +kernel
theorem dX10_perform_81 : decode cX10_perform 81 = .ok (.iload 4, 2) := by decide +kernel
theorem dX10_perform_83 : decode cX10_perform 83 = .ok (.iload 5, 2) := by decide +kernel
theorem dX10_perform_85 : decode cX10_perform 85 = .ok (.iastore, 1) := by decide +kernel
theorem dX10_perform_86 : decode cX10_perform 86 = .ok (.iload_n 3, 1) := by decide +kernel
theorem dX10_perform_87 : decode cX10_perform 87 = .ok (.iconst 1, 1) := by decide +kernel
theorem dX10_perform_88 : decode cX10_perform 88 = .ok (.iadd, 1) := by decide +kernel
theorem dX10_perform_89 : decode cX10_perform 89 = .ok (.ireturn, 1) := by decide +kernel
theorem dX10_perform_90 : decode cX10_perform 90 = .ok (.aload_n 1, 1) := by decide +kernel
theorem dX10_perform_91 : decode cX10_perform 91 = .ok (.iload 4, 2) := by decide +kernel
theorem dX10_perform_93 : decode cX10_perform 93 = .ok (.dup2, 1) := by decide +kernel
theorem dX10_perform_94 : decode cX10_perform 94 = .ok (.iaload, 1) := by decide +kernel
theorem dX10_perform_95 : decode cX10_perform 95 = .ok (.aload_n 1, 1) := by decide +kernel
theorem dX10_perform_96 : decode cX10_perform 96 = .ok (.iload 5, 2) := by decide +kernel
theorem dX10_perform_98 : decode cX10_perform 98 = .ok (.iaload, 1) := by decide +kernel
theorem dX10_perform_99 : decode cX10_perform 99 = .ok (.iadd, 1) := by decide +kernel
theorem dX10_perform_100 : decode cX10_perform 100 = .ok (.iastore, 1) := by decide +kernel
theorem dX10_perform_101 : decode cX10_perform 101 = .ok (.iload_n 3, 1) := by decide +kernel
theorem dX10_perform_102 : decode cX10_perform 102 = .ok (.iconst 1, 1) := by decide +kernel
theorem dX10_perform_103 : decode cX10_perform 103 = .ok (.iadd, 1) := by decide +kernel
theorem dX10_perform_104 : decode cX10_perform 104 = .ok (.ireturn, 1) := by decide +kernel
theorem dX10_perform_105 : decode cX10_perform 105 = .ok (.aload_n 1, 1) := by decide +kernel
theorem dX10_perform_106 : decode cX10_perform 106 = .ok (.iload 4, 2) := by decide +kernel
theorem dX10_perform_108 : decode cX10_perform 108 = .ok (.dup2, 1) := by decide +kernel
theorem dX10_perform_109 : decode cX10_perform 109 = .ok (.iaload, 1) := by decide +kernel
theorem dX10_perform_110 : decode cX10_perform 110 = .ok (.aload_n 1, 1) := by decide +kernel
theorem dX10_perform_111 : decode cX10_perform 111 = .ok (.iload 5, 2) := by decide +kernel
theorem dX10_perform_113 : decode cX10_perform 113 = .ok (.iaload, 1) := by decide +kernel
theorem dX10_perform_114 : decode cX10_perform 114 = .ok (.isub, 1) := by decide +kernel
theorem dX10_perform_115 : decode cX10_perform 115 = .ok (.iastore, 1) := by decide +kernel
theorem dX10_perform_116 : decode cX10_perform 116 = .ok (.iload_n 3, 1) := by decide +kernel
theorem dX10_perform_117 : decode cX10_perform 117 = .ok (.iconst 1, 1) := by decide +kernel
theorem dX10_perform_118 : decode cX10_perform 118 = .ok (.iadd, 1) := by decide +kernel
theorem dX10_perform_119 : decode cX10_perform 119 = .ok (.ireturn, 1) := by decide +kernel
theorem dX10_perform_120 : decode cX10_perform 120 = .ok (.aload_n 1, 1) := by decide +kernel
theorem dX10_perform_121 : decode cX10_perform 121 = .ok (.iload 4, 2) := by decide +kernel
theorem dX10_perform_123 : decode cX10_perform 123 = .ok (.aload_n 1, 1) := by decide +kernel
theorem dX10_perform_124 : decode cX10_perform 124 = .ok (.iconst 4, 1) := by decide +kernel
theorem dX10_perform_125 : decode cX10_perform 125 = .ok (.iload 5, 2) := by decide +kernel
theorem dX10_perform_127 : decode cX10_perform 127 = .ok (.iadd, 1) := by decide +kernel
theorem dX10_perform_128 : decode cX10_perform 128 = .ok (.iaload, 1) := by decide +kernel
theorem dX10_perform_129 : decode cX10_perform 129 = .ok (.iastore, 1) := by decide +kernel
theorem dX10_perform_130 : decode cX10_perform 130 = .ok (.iload_n 3, 1) := by decide +kernel
theorem dX10_perform_131 : decode cX10_perform 131 = .ok (.iconst 1, 1) := by decide +kernel
theorem dX10_perform_132 : decode cX10_perform 132 = .ok (.iadd, 1) := by decide +kernel
theorem dX10_perform_133 : decode cX10_perform 133 = .ok (.ireturn, 1) := by decide +kernel
theorem dX10_perform_134 : decode cX10_perform 134 = .ok (.aload_n 1, 1) := by decide +kernel
theorem dX10_perform_135 : decode cX10_perform 135 = .ok (.iconst 4, 1) := by decide +kernel
theorem dX10_perform_136 : decode cX10_perform 136 = .ok (.iload 5, 2) := by decide +kernel
theorem dX10_perform_138 : decode cX10_perform 138 = .ok (.iadd, 1) := by decide +kernel
theorem dX10_perform_139 : decode cX10_perform 139 = .ok (.aload_n 1, 1) := by decide +kernel
theorem dX10_perform_140 : decode cX10_perform 140 = .ok (.iload 4, 2) := by decide +kernel
theorem dX10_perform_142 : decode cX10_perform 142 = .ok (.iaload, 1) := by decide +kernel
theorem dX10_perform_143 : decode cX10_perform 143 = .ok (.iastore, 1) := by decide +kernel
theorem dX10_perform_144 : decode cX10_perform 144 = .ok (.iload_n 3, 1) := by decide +kernel
theorem dX10_perform_145 : decode cX10_perform 145 = .ok (.iconst 1, 1) := by decide +kernel
theorem dX10_perform_146 : decode cX10_perform 146 = .ok (.iadd, 1) := by decide +kernel
theorem dX10_perform_147 : decode cX10_perform 147 = .ok (.ireturn, 1) := by decide +kernel
theorem dX10_perform_148 : decode cX10_perform 148 = .ok (.iload_n 3, 1) := by decide +kernel
theorem dX10_perform_149 : decode cX10_perform 149 = .ok (.iload 5, 2) := by decide +kernel
theorem dX10_perform_151 : decode cX10_perform 151 = .ok (.iadd, 1) := by decide +kernel
theorem dX10_perform_152 : decode cX10_perform 152 = .ok (.ireturn, 1) := by decide +kernel
theorem dX10_perform_153 : decode cX10_perform 153 = .ok (.aload_n 1, 1) := by decide +kernel
theorem dX10_perform_154 : decode cX10_perform 154 = .ok (.iload 4, 2) := by decide +kernel
theorem dX10_perform_156 : decode cX10_perform 156 = .ok (.iaload, 1) := by decide +kernel
theorem dX10_perform_157 : decode cX10_perform 157 = .ok (.ifCond .ne 10, 3) := by decide +kernel
theorem dX10_perform_160 : decode cX10_perform 160 = .ok (.iload_n 3, 1) := by decide +kernel
theorem dX10_perform_161 : decode cX10_perform 161 = .ok (.iload 5, 2) := by decide +kernel
theorem dX10_perform_163 : decode cX10_perform 163 = .ok (.iadd, 1) := by decide +kernel
theorem dX10_perform_164 : decode cX10_perform 164 = .ok (.goto 6, 3) := by decide +kernel
theorem dX10_perform_167 : decode cX10_perform 167 = .ok (.iload_n 3, 1) := by decide +kernel
theorem dX10_perform_168 : decode cX10_perform 168 = .ok (.iconst 1, 1) := by decide +kernel
theorem dX10_perform_169 : decode cX10_perform 169 = .ok (.iadd, 1) := by decide +kernel
theorem dX10_perform_170 : decode cX10_perform 170 = .ok (.ireturn, 1) := by decide +kernel
theorem dX10_perform_171 : decode cX10_perform 171 = .ok (.aload_n 1, 1) := by decide +kernel
theorem dX10_perform_172 : decode cX10_perform 172 = .ok (.bipush 12, 2) := by decide +kernel
theorem dX10_perform_174 : decode cX10_perform 174 = .ok (.aload_n 1, 1) := by decide +kernel
theorem dX10_perform_175 : decode cX10_perform 175 = .ok (.bipush 20, 2) := by decide +kernel
theorem dX10_perform_177 : decode cX10_perform 177 = .ok (.iaload, 1) := by decide +kernel
theorem dX10_perform_178 : decode cX10_perform 178 = .ok (.iadd, 1) := by decide +kernel
theorem dX10_perform_179 : decode cX10_perform 179 = .ok (.iload_n 3, 1) := by decide +kernel
theorem dX10_perform_180 : decode cX10_perform 180 = .ok (.iconst 1, 1) := by decide +kernel
theorem dX10_perform_181 : decode cX10_perform 181 = .ok (.iadd, 1) := by decide +kernel
theorem dX10_perform_182 : decode cX10_perform 182 = .ok (.iastore, 1) := by decide +kernel
theorem dX10_perform_183 : decode cX10_perform 183 = .ok (.aload_n 1, 1) := by decide +kernel
theorem dX10_perform_184 : decode cX10_perform 184 = .ok (.bipush 20, 2) := by decide +kernel
theorem dX10_perform_186 : decode cX10_perform 186 = .ok (.dup2, 1) := by decide +kernel
theorem dX10_perform_187 : decode cX10_perform 187 = .ok (.iaload, 1) := by decide +kernel
theorem dX10_perform_188 : decode cX10_perform 188 = .ok (.iconst 1, 1) := by decide +kernel
theorem dX10_perform_189 : decode cX10_perform 189 = .ok (.iadd, 1) := by decide +kernel
theorem dX10_perform_190 : decode cX10_perform 190 = .ok (.iastore, 1) := by decide +kernel
theorem dX10_perform_191 : decode cX10_perform 191 = .ok (.iload 4, 2) := by decide +kernel
theorem dX10_perform_193 : decode cX10_perform 193 = .ok (.ireturn, 1) := by decide +kernel
theorem dX10_perform_194 : decode cX10_perform 194 = .ok (.aload_n 1, 1) := by decide +kernel
theorem dX10_perform_195 : decode cX10_perform 195 = .ok (.bipush 20, 2) := by decide +kernel
theorem dX10_perform_197 : decode cX10_perform 197 = .ok (.dup2, 1) := by decide +kernel
theorem dX10_perform_198 : decode cX10_perform 198 = .ok (.iaload, 1) := by decide +kernel
theorem dX10_perform_199 : decode cX10_perform 199 = .ok (.iconst 1, 1) := by decide +kernel
theorem dX10_perform_200 : decode cX10_perform 200 = .ok (.isub, 1) := by decide +kernel
theorem dX10_perform_201 : decode cX10_perform 201 = .ok (.iastore, 1) := by decide +kernel
theorem dX10_perform_202 : decode cX10_perform 202 = .ok (.aload_n 1, 1) := by decide +kernel
theorem dX10_perform_203 : decode cX10_perform 203 = .ok (.bipush 12, 2) := by decide +kernel
theorem dX10_perform_205 : decode cX10_perform 205 = .ok (.aload_n 1, 1) := by decide +kernel
theorem dX10_perform_206 : decode cX10_perform 206 = .ok (.bipush 20, 2) := by decide +kernel
theorem dX10_perform_208 : decode cX10_perform 208 = .ok (.iaload, 1) := by decide +kernel
theorem dX10_perform_209 : decode cX10_perform 209 = .ok (.iadd, 1) := by decide +kernel
theorem dX10_perform_210 : decode cX10_perform 210 = .ok (.iaload, 1) := by decide +kernel
theorem dX10_perform_211 : decode cX10_perform 211 = .ok (.ireturn, 1) := by decide +kernel
theorem dX10_perform_212 : decode cX10_perform 212 = .ok (.aload_n 1, 1) := by decide +kernel
theorem dX10_perform_213 : decode cX10_perform 213 = .ok (.iload 4, 2) := by decide +kernel
theorem dX10_perform_215 : decode cX10_perform 215 = .ok (.iload_n 3, 1) := by decide +kernel
theorem dX10_perform_216 : decode cX10_perform 216 = .ok (.iconst 1, 1) := by decide +kernel
theorem dX10_perform_217 : decode cX10_perform 217 = .ok (.iadd, 1) := by decide +kernel
theorem dX10_perform_218 : decode cX10_perform 218 = .ok (.iastore, 1) := by decide +kernel
theorem dX10_perform_219 : decode cX10_perform 219 = .ok (.iload_n 3, 1) := by decide +kernel
theorem dX10_perform_220 : decode cX10_perform 220 = .ok (.iconst 1, 1) := by decide +kernel
theorem dX10_perform_221 : decode cX10_perform 221 = .ok (.iadd, 1) := by decide +kernel
theorem dX10_perform_222 : decode cX10_perform 222 = .ok (.ireturn, 1) := by decide +kernel
theorem dX10_perform_223 : decode cX10_perform 223 = .ok (.aload_n 1, 1) := by decide +kernel
theorem dX10_perform_224 : decode cX10_perform 224 = .ok (.bipush 23, 2) := by decide +kernel
theorem dX10_perform_226 : decode cX10_perform 226 = .ok (.dup2, 1) := by decide +kernel
theorem dX10_perform_227 : decode cX10_perform 227 = .ok (.iaload, 1) := by decide +kernel
theorem dX10_perform_228 : decode cX10_perform 228 = .ok (.iconst 1, 1) := by decide +kernel
theorem dX10_perform_229 : decode cX10_perform 229 = .ok (.iadd, 1) := by decide +kernel
theorem dX10_perform_230 : decode cX10_perform 230 = .ok (.iastore, 1) := by decide +kernel
theorem dX10_perform_231 : decode cX10_perform 231 = .ok (.aload_n 1, 1) := by decide +kernel
theorem dX10_perform_232 : decode cX10_perform 232 = .ok (.bipush 24, 2) := by decide +kernel
theorem dX10_perform_234 : decode cX10_perform 234 = .ok (.bipush 31, 2) := by decide +kernel
theorem dX10_perform_236 : decode cX10_perform 236 = .ok (.aload_n 1, 1) := by decide +kernel
theorem dX10_perform_237 : decode cX10_perform 237 = .ok (.bipush 24, 2) := by decide +kernel
theorem dX10_perform_239 : decode cX10_perform 239 = .ok (.iaload, 1) := by decide +kernel
theorem dX10_perform_240 : decode cX10_perform 240 = .ok (.imul, 1) := by decide +kernel
theorem dX10_perform_241 : decode cX10_perform 241 = .ok (.aload_n 1, 1) := by decide +kernel
theorem dX10_perform_242 : decode cX10_perform 242 = .ok (.iload 4, 2) := by decide +kernel
theorem dX10_perform_244 : decode cX10_perform 244 = .ok (.iaload, 1) := by decide +kernel
theorem dX10_perform_245 : decode cX10_perform 245 = .ok (.iadd, 1) := by decide +kernel
theorem dX10_perform_246 : decode cX10_perform 246 = .ok (.iastore, 1) := by decide +kernel
theorem dX10_perform_247 : decode cX10_perform 247 = .ok (.iload_n 3, 1) := by decide +kernel
theorem dX10_perform_248 : decode cX10_perform 248 = .ok (.iconst 1, 1) := by decide +kernel
theorem dX10_perform_249 : decode cX10_perform 249 = .ok (.iadd, 1) := by decide +kernel
theorem dX10_perform_250 : decode cX10_perform 250 = .ok (.ireturn, 1) := by decide +kernel
theorem dX10_perform_251 : decode cX10_perform 251 = .ok (.aload_n 1, 1) := by decide +kernel
theorem dX10_perform_252 : decode cX10_perform 252 = .ok (.bipush 22, 2) := by decide +kernel
theorem dX10_perform_254 : decode cX10_perform 254 = .ok (.iconst 1, 1) := by decide +kernel
theorem dX10_perform_255 : decode cX10_perform 255 = .ok (.iastore, 1) := by decide +kernel
theorem dX10_perform_256 : decode cX10_perform 256 = .ok (.iload_n 3, 1) := by decide +kernel
theorem dX10_perform_257 : decode cX10_perform 257 = .ok (.ireturn, 1) := by decide +kernel
theorem dX10_bareStep_0 : decode cX10_bareStep 0 = .ok (.aload_n 1, 1) := by decide +kernel
theorem dX10_bareStep_1 : decode cX10_bareStep 1 = .ok (.bipush 21, 2) := by decide +kernel
theorem dX10_bareStep_3 : decode cX10_bareStep 3 = .ok (.iaload, 1) := by decide +kernel
theorem dX10_bareStep_4 : decode cX10_bareStep 4 = .ok (.istore_n 2, 1) := by decide +kernel
theorem dX10_bareStep_5 : decode cX10_bareStep 5 = .ok (.iload_n 2, 1) := by decide +kernel
theorem dX10_bareStep_6 : decode cX10_bareStep 6 = .ok (.aload_n 0, 1) := by decide +kernel
theorem dX10_bareStep_7 : decode cX10_bareStep 7 = .ok (.getfield 62, 3) := by decide +kernel
theorem dX10_bareStep_10 : decode cX10_bareStep 10 = .ok (.if_icmp .ne 20, 3) := by decide +kernel
theorem dX10_bareStep_13 : decode cX10_bareStep 13 = .ok (.aload_n 0, 1) := by decide +kernel
theorem dX10_bareStep_14 : decode cX10_bareStep 14 = .ok (.iload_n 2, 1) := by decide +kernel
theorem dX10_bareStep_15 : decode cX10_bareStep 15 = .ok (.invokevirtual 135, 3) := by decide +kernel
theorem dX10_bareStep_18 : decode cX10_bareStep 18 = .ok (.ifCond .eq 12, 3) := by decide +kernel
theorem dX10_bareStep_21 : decode cX10_bareStep 21 = .ok (.aload_n 1, 1) := by decide +kernel
theorem dX10_bareStep_22 : decode cX10_bareStep 22 = .ok (.bipush 21, 2) := by decide +kernel
theorem dX10_bareStep_24 : decode cX10_bareStep 24 = .ok (.iload_n 2, 1) := by decide +kernel
theorem dX10_bareStep_25 : decode cX10_bareStep 25 = .ok (.iconst 1, 1) := by decide +kernel
theorem dX10_bareStep_26 : decode cX10_bareStep 26 = .ok (.iadd, 1) := by decide +kernel
theorem dX10_bareStep_27 : decode cX10_bareStep 27 = .ok (.iastore, 1) := by decide +kernel
theorem dX10_bareStep_28 : decode cX10_bareStep 28 = .ok (.iconst 1, 1) := by decide +kernel
theorem dX10_bareStep_29 : decode cX10_bareStep 29 = .ok (.ireturn, 1) := by decide +kernel
theorem dX10_bareStep_30 : decode cX10_bareStep 30 = .ok (.aload_n 0, 1) := by decide +kernel
theorem dX10_bareStep_31 : decode cX10_bareStep 31 = .ok (.aload_n 1, 1) := by decide +kernel
theorem dX10_bareStep_32 : decode cX10_bareStep 32 = .ok (.iload_n 2, 1) := by decide +kernel
theorem dX10_bareStep_33 : decode cX10_bareStep 33 = .ok (.invokevirtual 138, 3) := by decide +kernel
theorem dX10_bareStep_36 : decode cX10_bareStep 36 = .ok (.ifCond .eq 5, 3) := by decide +kernel
theorem dX10_bareStep_39 : decode cX10_bareStep 39 = .ok (.iconst 0, 1) := by decide +kernel
theorem dX10_bareStep_40 : decode cX10_bareStep 40 = .ok (.ireturn, 1) := by decide +kernel
theorem dX10_bareStep_41 : decode cX10_bareStep 41 = .ok (.aload_n 1, 1) := by decide +kernel
theorem dX10_bareStep_42 : decode cX10_bareStep 42 = .ok (.bipush 21, 2) := by decide +kernel
theorem dX10_bareStep_44 : decode cX10_bareStep 44 = .ok (.aload_n 0, 1) := by decide +kernel
theorem dX10_bareStep_45 : decode cX10_bareStep 45 = .ok (.aload_n 1, 1) := by decide +kernel
theorem dX10_bareStep_46 : decode cX10_bareStep 46 = .ok (.iload_n 2, 1) := by decide +kernel
theorem dX10_bareStep_47 : decode cX10_bareStep 47 = .ok (.iload_n 2, 1) := by decide +kernel
theorem dX10_bareStep_48 : decode cX10_bareStep 48 = .ok (.invokevirtual 142, 3) := by decide +kernel
theorem dX10_bareStep_51 : decode cX10_bareStep 51 = .ok (.iastore, 1) := by decide +kernel
theorem dX10_bareStep_52 : decode cX10_bareStep 52 = .ok (.iconst 1, 1) := by decide +kernel
theorem dX10_bareStep_53 : decode cX10_bareStep 53 = .ok (.ireturn, 1) := by decide +kernel
theorem dX10_areAlike_0 : decode cX10_areAlike 0 = .ok (.aload_n 0, 1) := by decide +kernel
theorem dX10_areAlike_1 : decode cX10_areAlike 1 = .ok (.getfield 13, 3) := by decide +kernel
theorem dX10_areAlike_4 : decode cX10_areAlike 4 = .ok (.iload_n 1, 1) := by decide +kernel
theorem dX10_areAlike_5 : decode cX10_areAlike 5 = .ok (.iaload, 1) := by decide +kernel
theorem dX10_areAlike_6 : decode cX10_areAlike 6 = .ok (.aload_n 0, 1) := by decide +kernel
theorem dX10_areAlike_7 : decode cX10_areAlike 7 = .ok (.getfield 13, 3) := by decide +kernel
theorem dX10_areAlike_10 : decode cX10_areAlike 10 = .ok (.iload_n 2, 1) := by decide +kernel
theorem dX10_areAlike_11 : decode cX10_areAlike 11 = .ok (.iaload, 1) := by decide +kernel
theorem dX10_areAlike_12 : decode cX10_areAlike 12 = .ok (.if_icmp .ne 37, 3) := by decide +kernel
theorem dX10_areAlike_15 : decode cX10_areAlike 15 = .ok (.aload_n 0, 1) := by decide +kernel
theorem dX10_areAlike_16 : decode cX10_areAlike 16 = .ok (.getfield 16, 3) := by decide +kernel
theorem dX10_areAlike_19 : decode cX10_areAlike 19 = .ok (.iload_n 1, 1) := by decide +kernel
theorem dX10_areAlike_20 : decode cX10_areAlike 20 = .ok (.iaload, 1) := by decide +kernel
theorem dX10_areAlike_21 : decode cX10_areAlike 21 = .ok (.aload_n 0, 1) := by decide +kernel
theorem dX10_areAlike_22 : decode cX10_areAlike 22 = .ok (.getfield 16, 3) := by decide +kernel
theorem dX10_areAlike_25 : decode cX10_areAlike 25 = .ok (.iload_n 2, 1) := by decide +kernel
theorem dX10_areAlike_26 : decode cX10_areAlike 26 = .ok (.iaload, 1) := by decide +kernel
theorem dX10_areAlike_27 : decode cX10_areAlike 27 = .ok (.if_icmp .ne 22, 3) := by decide +kernel
theorem dX10_areAlike_30 : decode cX10_areAlike 30 = .ok (.aload_n 0, 1) := by decide +kernel
theorem dX10_areAlike_31 : decode cX10_areAlike 31 = .ok (.getfield 19, 3) := by decide +kernel
theorem dX10_areAlike_34 : decode cX10_areAlike 34 = .ok (.iload_n 1, 1) := by decide +kernel
theorem dX10_areAlike_35 : decode cX10_areAlike 35 = .ok (.iaload, 1) := by decide +kernel
theorem dX10_areAlike_36 : decode cX10_areAlike 36 = .ok (.aload_n 0, 1) := by decide +kernel
theorem dX10_areAlike_37 : decode cX10_areAlike 37 = .ok (.getfield 19, 3) := by decide +kernel
theorem dX10_areAlike_40 : decode cX10_areAlike 40 = .ok (.iload_n 2, 1) := by decide +kernel
theorem dX10_areAlike_41 : decode cX10_areAlike 41 = .ok (.iaload, 1) := by decide +kernel
theorem dX10_areAlike_42 : decode cX10_areAlike 42 = .ok (.if_icmp .ne 7, 3) := by decide +kernel
theorem dX10_areAlike_45 : decode cX10_areAlike 45 = .ok (.iconst 1, 1) := by decide +kernel
theorem dX10_areAlike_46 : decode cX10_areAlike 46 = .ok (.goto 4, 3) := by decide +kernel
theorem dX10_areAlike_49 : decode cX10_areAlike 49 = .ok (.iconst 0, 1) := by decide +kernel
theorem dX10_areAlike_50 : decode cX10_areAlike 50 = .ok (.ireturn, 1) := by decide +kernel
theorem dX10_leastAlike_0 : decode cX10_leastAlike 0 = .ok (.iload_n 1, 1) := by decide +kernel
theorem dX10_leastAlike_1 : decode cX10_leastAlike 1 = .ok (.istore_n 2, 1) := by decide +kernel
theorem dX10_leastAlike_2 : decode cX10_leastAlike 2 = .ok (.iload_n 1, 1) := by decide +kernel
theorem dX10_leastAlike_3 : decode cX10_leastAlike 3 = .ok (.iconst 1, 1) := by decide +kernel
theorem dX10_leastAlike_4 : decode cX10_leastAlike 4 = .ok (.isub, 1) := by decide +kernel
theorem dX10_leastAlike_5 : decode cX10_leastAlike 5 = .ok (.istore_n 3, 1) := by decide +kernel
theorem dX10_leastAlike_6 : decode cX10_leastAlike 6 = .ok (.iload_n 3, 1) := by decide +kernel
theorem dX10_leastAlike_7 : decode cX10_leastAlike 7 = .ok (.ifCond .lt 24, 3) := by decide +kernel
theorem dX10_leastAlike_10 : decode cX10_leastAlike 10 = .ok (.aload_n 0, 1) := by decide +kernel
theorem dX10_leastAlike_11 : decode cX10_leastAlike 11 = .ok (.iload_n 1, 1) := by decide +kernel
theorem dX10_leastAlike_12 : decode cX10_leastAlike 12 = .ok (.iload_n 3, 1) := by decide +kernel
theorem dX10_leastAlike_13 : decode cX10_leastAlike 13 = .ok (.invokevirtual 146, 3) := by decide +kernel
theorem dX10_leastAlike_16 : decode cX10_leastAlike 16 = .ok (.ifCond .eq 7, 3) := by decide +kernel
theorem dX10_leastAlike_19 : decode cX10_leastAlike 19 = .ok (.iload_n 3, 1) := by decide +kernel
theorem dX10_leastAlike_20 : decode cX10_leastAlike 20 = .ok (.goto 4, 3) := by decide +kernel
theorem dX10_leastAlike_23 : decode cX10_leastAlike 23 = .ok (.iload_n 2, 1) := by decide +kernel
theorem dX10_leastAlike_24 : decode cX10_leastAlike 24 = .ok (.istore_n 2, 1) := by decide +kernel
theorem dX10_leastAlike_25 : decode cX10_leastAlike 25 = .ok (.iinc 3 (-1), 3) := by decide +kernel
theorem dX10_leastAlike_28 : decode cX10_leastAlike 28 = .ok (.goto (-22), 3) := by decide +kernel
theorem dX10_leastAlike_31 : decode cX10_leastAlike 31 = .ok (.iload_n 2, 1) := by decide +kernel
theorem dX10_leastAlike_32 : decode cX10_leastAlike 32 = .ok (.ireturn, 1) := by decide +kernel
theorem dX10_keepCopy_0 : decode cX10_keepCopy 0 = .ok (.aload_n 0, 1) := by decide +kernel
theorem dX10_keepCopy_1 : decode cX10_keepCopy 1 = .ok (.iload_n 2, 1) := by decide +kernel
theorem dX10_keepCopy_2 : decode cX10_keepCopy 2 = .ok (.invokevirtual 149, 3) := by decide +kernel
theorem dX10_keepCopy_5 : decode cX10_keepCopy 5 = .ok (.istore_n 3, 1) := by decide +kernel
theorem dX10_keepCopy_6 : decode cX10_keepCopy 6 = .ok (.iconst 0, 1) := by decide +kernel
theorem dX10_keepCopy_7 : decode cX10_keepCopy 7 = .ok (.istore 4, 2) := by decide +kernel
theorem dX10_keepCopy_9 : decode cX10_keepCopy 9 = .ok (.iload 4, 2) := by decide +kernel
theorem dX10_keepCopy_11 : decode cX10_keepCopy 11 = .ok (.aload_n 1, 1) := by decide +kernel
theorem dX10_keepCopy_12 : decode cX10_keepCopy 12 = .ok (.bipush 122, 2) := by decide +kernel
theorem dX10_keepCopy_14 : decode cX10_keepCopy 14 = .ok (.iaload, 1) := by decide +kernel
theorem dX10_keepCopy_15 : decode cX10_keepCopy 15 = .ok (.if_icmp .ge 21, 3) := by decide +kernel
theorem dX10_keepCopy_18 : decode cX10_keepCopy 18 = .ok (.aload_n 1, 1) := by decide +kernel
theorem dX10_keepCopy_19 : decode cX10_keepCopy 19 = .ok (.bipush 123, 2) := by decide +kernel
theorem dX10_keepCopy_21 : decode cX10_keepCopy 21 = .ok (.iload 4, 2) := by decide +kernel
theorem dX10_keepCopy_23 : decode cX10_keepCopy 23 = .ok (.iadd, 1) := by decide +kernel
theorem dX10_keepCopy_24 : decode cX10_keepCopy 24 = .ok (.iaload, 1) := by decide +kernel
theorem dX10_keepCopy_25 : decode cX10_keepCopy 25 = .ok (.iload_n 3, 1) := by decide +kernel
theorem dX10_keepCopy_26 : decode cX10_keepCopy 26 = .ok (.if_icmp .ne 4, 3) := by decide +kernel
theorem dX10_keepCopy_29 : decode cX10_keepCopy 29 = .ok (.return_, 1) := by decide +kernel
theorem dX10_keepCopy_30 : decode cX10_keepCopy 30 = .ok (.iinc 4 1, 3) := by decide +kernel
theorem dX10_keepCopy_33 : decode cX10_keepCopy 33 = .ok (.goto (-24), 3) := by decide +kernel
theorem dX10_keepCopy_36 : decode cX10_keepCopy 36 = .ok (.aload_n 1, 1) := by decide +kernel
theorem dX10_keepCopy_37 : decode cX10_keepCopy 37 = .ok (.bipush 122, 2) := by decide +kernel
theorem dX10_keepCopy_39 : decode cX10_keepCopy 39 = .ok (.iaload, 1) := by decide +kernel
theorem dX10_keepCopy_40 : decode cX10_keepCopy 40 = .ok (.iconst 3, 1) := by decide +kernel
theorem dX10_keepCopy_41 : decode cX10_keepCopy 41 = .ok (.if_icmp .ne 27, 3) := by decide +kernel
theorem dX10_keepCopy_44 : decode cX10_keepCopy 44 = .ok (.aload_n 1, 1) := by decide +kernel
theorem dX10_keepCopy_45 : decode cX10_keepCopy 45 = .ok (.bipush 123, 2) := by decide +kernel
theorem dX10_keepCopy_47 : decode cX10_keepCopy 47 = .ok (.aload_n 1, 1) := by decide +kernel
theorem dX10_keepCopy_48 : decode cX10_keepCopy 48 = .ok (.bipush 124, 2) := by decide +kernel
theorem dX10_keepCopy_50 : decode cX10_keepCopy 50 = .ok (.iaload, 1) := by decide +kernel
theorem dX10_keepCopy_51 : decode cX10_keepCopy 51 = .ok (.iastore, 1) := by decide +kernel
theorem dX10_keepCopy_52 : decode cX10_keepCopy 52 = .ok (.aload_n 1, 1) := by decide +kernel
theorem dX10_keepCopy_53 : decode cX10_keepCopy 53 = .ok (.bipush 124, 2) := by decide +kernel
theorem dX10_keepCopy_55 : decode cX10_keepCopy 55 = .ok (.aload_n 1, 1) := by decide +kernel
theorem dX10_keepCopy_56 : decode cX10_keepCopy 56 = .ok (.bipush 125, 2) := by decide +kernel
theorem dX10_keepCopy_58 : decode cX10_keepCopy 58 = .ok (.iaload, 1) := by decide +kernel
theorem dX10_keepCopy_59 : decode cX10_keepCopy 59 = .ok (.iastore, 1) := by decide +kernel
theorem dX10_keepCopy_60 : decode cX10_keepCopy 60 = .ok (.aload_n 1, 1) := by decide +kernel
theorem dX10_keepCopy_61 : decode cX10_keepCopy 61 = .ok (.bipush 122, 2) := by decide +kernel
theorem dX10_keepCopy_63 : decode cX10_keepCopy 63 = .ok (.dup2, 1) := by decide +kernel
theorem dX10_keepCopy_64 : decode cX10_keepCopy 64 = .ok (.iaload, 1) := by decide +kernel
theorem dX10_keepCopy_65 : decode cX10_keepCopy 65 = .ok (.iconst 1, 1) := by decide +kernel
theorem dX10_keepCopy_66 : decode cX10_keepCopy 66 = .ok (.isub, 1) := by decide +kernel
theorem dX10_keepCopy_67 : decode cX10_keepCopy 67 = .ok (.iastore, 1) := by decide +kernel
theorem dX10_keepCopy_68 : decode cX10_keepCopy 68 = .ok (.aload_n 1, 1) := by decide +kernel
theorem dX10_keepCopy_69 : decode cX10_keepCopy 69 = .ok (.bipush 123, 2) := by decide +kernel
theorem dX10_keepCopy_71 : decode cX10_keepCopy 71 = .ok (.aload_n 1, 1) := by decide +kernel
theorem dX10_keepCopy_72 : decode cX10_keepCopy 72 = .ok (.bipush 122, 2) := by decide +kernel
theorem dX10_keepCopy_74 : decode cX10_keepCopy 74 = .ok (.iaload, 1) := by decide +kernel
theorem dX10_keepCopy_75 : decode cX10_keepCopy 75 = .ok (.iadd, 1) := by decide +kernel
theorem dX10_keepCopy_76 : decode cX10_keepCopy 76 = .ok (.iload_n 3, 1) := by decide +kernel
theorem dX10_keepCopy_77 : decode cX10_keepCopy 77 = .ok (.iastore, 1) := by decide +kernel
theorem dX10_keepCopy_78 : decode cX10_keepCopy 78 = .ok (.aload_n 1, 1) := by decide +kernel
theorem dX10_keepCopy_79 : decode cX10_keepCopy 79 = .ok (.bipush 122, 2) := by decide +kernel
theorem dX10_keepCopy_81 : decode cX10_keepCopy 81 = .ok (.dup2, 1) := by decide +kernel
theorem dX10_keepCopy_82 : decode cX10_keepCopy 82 = .ok (.iaload, 1) := by decide +kernel
theorem dX10_keepCopy_83 : decode cX10_keepCopy 83 = .ok (.iconst 1, 1) := by decide +kernel
theorem dX10_keepCopy_84 : decode cX10_keepCopy 84 = .ok (.iadd, 1) := by decide +kernel
theorem dX10_keepCopy_85 : decode cX10_keepCopy 85 = .ok (.iastore, 1) := by decide +kernel
theorem dX10_keepCopy_86 : decode cX10_keepCopy 86 = .ok (.return_, 1) := by decide +kernel
theorem dX10_step_0 : decode cX10_step 0 = .ok (.aload_n 1, 1) := by decide +kernel
theorem dX10_step_1 : decode cX10_step 1 = .ok (.bipush 21, 2) := by decide +kernel
theorem dX10_step_3 : decode cX10_step 3 = .ok (.iaload, 1) := by decide +kernel
theorem dX10_step_4 : decode cX10_step 4 = .ok (.istore_n 2, 1) := by decide +kernel
theorem dX10_step_5 : decode cX10_step 5 = .ok (.aload_n 0, 1) := by decide +kernel
theorem dX10_step_6 : decode cX10_step 6 = .ok (.aload_n 1, 1) := by decide +kernel
theorem dX10_step_7 : decode cX10_step 7 = .ok (.invokevirtual 152, 3) := by decide +kernel
theorem dX10_step_10 : decode cX10_step 10 = .ok (.ifCond .ne 5, 3) := by decide +kernel
theorem dX10_step_13 : decode cX10_step 13 = .ok (.iconst 0, 1) := by decide +kernel
theorem dX10_step_14 : decode cX10_step 14 = .ok (.ireturn, 1) := by decide +kernel
theorem dX10_step_15 : decode cX10_step 15 = .ok (.aload_n 1, 1) := by decide +kernel
theorem dX10_step_16 : decode cX10_step 16 = .ok (.bipush 26, 2) := by decide +kernel
theorem dX10_step_18 : decode cX10_step 18 = .ok (.iload_n 2, 1) := by decide +kernel
theorem dX10_step_19 : decode cX10_step 19 = .ok (.iadd, 1) := by decide +kernel
theorem dX10_step_20 : decode cX10_step 20 = .ok (.iaload, 1) := by decide +kernel
theorem dX10_step_21 : decode cX10_step 21 = .ok (.ifCond .le 17, 3) := by decide +kernel
theorem dX10_step_24 : decode cX10_step 24 = .ok (.aload_n 1, 1) := by decide +kernel
theorem dX10_step_25 : decode cX10_step 25 = .ok (.bipush 126, 2) := by decide +kernel
theorem dX10_step_27 : decode cX10_step 27 = .ok (.dup2, 1) := by decide +kernel
theorem dX10_step_28 : decode cX10_step 28 = .ok (.iaload, 1) := by decide +kernel
theorem dX10_step_29 : decode cX10_step 29 = .ok (.iconst 3, 1) := by decide +kernel
theorem dX10_step_30 : decode cX10_step 30 = .ok (.iadd, 1) := by decide +kernel
theorem dX10_step_31 : decode cX10_step 31 = .ok (.iastore, 1) := by decide +kernel
theorem dX10_step_32 : decode cX10_step 32 = .ok (.aload_n 0, 1) := by decide +kernel
theorem dX10_step_33 : decode cX10_step 33 = .ok (.aload_n 1, 1) := by decide +kernel
theorem dX10_step_34 : decode cX10_step 34 = .ok (.iload_n 2, 1) := by decide +kernel
theorem dX10_step_35 : decode cX10_step 35 = .ok (.invokevirtual 156, 3) := by decide +kernel
theorem dX10_step_38 : decode cX10_step 38 = .ok (.aload_n 1, 1) := by decide +kernel
theorem dX10_step_39 : decode cX10_step 39 = .ok (.bipush 126, 2) := by decide +kernel
theorem dX10_step_41 : decode cX10_step 41 = .ok (.dup2, 1) := by decide +kernel
theorem dX10_step_42 : decode cX10_step 42 = .ok (.iaload, 1) := by decide +kernel
theorem dX10_step_43 : decode cX10_step 43 = .ok (.aload_n 1, 1) := by decide +kernel
theorem dX10_step_44 : decode cX10_step 44 = .ok (.bipush 25, 2) := by decide +kernel
theorem dX10_step_46 : decode cX10_step 46 = .ok (.iaload, 1) := by decide +kernel
theorem dX10_step_47 : decode cX10_step 47 = .ok (.invokestatic 160, 3) := by decide +kernel
theorem dX10_step_50 : decode cX10_step 50 = .ok (.iconst 2, 1) := by decide +kernel
theorem dX10_step_51 : decode cX10_step 51 = .ok (.if_icmp .le 8, 3) := by decide +kernel
theorem dX10_step_54 : decode cX10_step 54 = .ok (.bipush 10, 2) := by decide +kernel
theorem dX10_step_56 : decode cX10_step 56 = .ok (.goto 4, 3) := by decide +kernel
theorem dX10_step_59 : decode cX10_step 59 = .ok (.iconst 1, 1) := by decide +kernel
theorem dX10_step_60 : decode cX10_step 60 = .ok (.iadd, 1) := by decide +kernel
theorem dX10_step_61 : decode cX10_step 61 = .ok (.iastore, 1) := by decide +kernel
theorem dX10_step_62 : decode cX10_step 62 = .ok (.aload_n 1, 1) := by decide +kernel
theorem dX10_step_63 : decode cX10_step 63 = .ok (.bipush 127, 2) := by decide +kernel
theorem dX10_step_65 : decode cX10_step 65 = .ok (.dup2, 1) := by decide +kernel
theorem dX10_step_66 : decode cX10_step 66 = .ok (.iaload, 1) := by decide +kernel
theorem dX10_step_67 : decode cX10_step 67 = .ok (.iconst 1, 1) := by decide +kernel
theorem dX10_step_68 : decode cX10_step 68 = .ok (.iadd, 1) := by decide +kernel
theorem dX10_step_69 : decode cX10_step 69 = .ok (.iastore, 1) := by decide +kernel
theorem dX10_step_70 : decode cX10_step 70 = .ok (.iconst 1, 1) := by decide +kernel
theorem dX10_step_71 : decode cX10_step 71 = .ok (.ireturn, 1) := by decide +kernel
theorem dX10_applies_0 : decode cX10_applies 0 = .ok (.aload_n 0, 1) := by decide +kernel
theorem dX10_applies_1 : decode cX10_applies 1 = .ok (.iload_n 2, 1) := by decide +kernel
theorem dX10_applies_2 : decode cX10_applies 2 = .ok (.invokevirtual 135, 3) := by decide +kernel
theorem dX10_applies_5 : decode cX10_applies 5 = .ok (.ifCond .eq 12, 3) := by decide +kernel
theorem dX10_applies_8 : decode cX10_applies 8 = .ok (.aload_n 1, 1) := by decide +kernel
theorem dX10_applies_9 : decode cX10_applies 9 = .ok (.bipush 26, 2) := by decide +kernel
theorem dX10_applies_11 : decode cX10_applies 11 = .ok (.iload_n 2, 1) := by decide +kernel
theorem dX10_applies_12 : decode cX10_applies 12 = .ok (.iadd, 1) := by decide +kernel
theorem dX10_applies_13 : decode cX10_applies 13 = .ok (.iaload, 1) := by decide +kernel
theorem dX10_applies_14 : decode cX10_applies 14 = .ok (.ifCond .ne 5, 3) := by decide +kernel
theorem dX10_applies_17 : decode cX10_applies 17 = .ok (.iconst 0, 1) := by decide +kernel
theorem dX10_applies_18 : decode cX10_applies 18 = .ok (.ireturn, 1) := by decide +kernel
theorem dX10_applies_19 : decode cX10_applies 19 = .ok (.aload_n 1, 1) := by decide +kernel
theorem dX10_applies_20 : decode cX10_applies 20 = .ok (.bipush 42, 2) := by decide +kernel
theorem dX10_applies_22 : decode cX10_applies 22 = .ok (.iload_n 2, 1) := by decide +kernel
theorem dX10_applies_23 : decode cX10_applies 23 = .ok (.iadd, 1) := by decide +kernel
theorem dX10_applies_24 : decode cX10_applies 24 = .ok (.iaload, 1) := by decide +kernel
theorem dX10_applies_25 : decode cX10_applies 25 = .ok (.istore_n 3, 1) := by decide +kernel
theorem dX10_applies_26 : decode cX10_applies 26 = .ok (.iload_n 3, 1) := by decide +kernel
theorem dX10_applies_27 : decode cX10_applies 27 = .ok (.bipush (-9), 2) := by decide +kernel
theorem dX10_applies_29 : decode cX10_applies 29 = .ok (.if_icmp .ne 5, 3) := by decide +kernel
theorem dX10_applies_32 : decode cX10_applies 32 = .ok (.iconst 1, 1) := by decide +kernel
theorem dX10_applies_33 : decode cX10_applies 33 = .ok (.ireturn, 1) := by decide +kernel
theorem dX10_applies_34 : decode cX10_applies 34 = .ok (.aload_n 1, 1) := by decide +kernel
theorem dX10_applies_35 : decode cX10_applies 35 = .ok (.iload_n 3, 1) := by decide +kernel
theorem dX10_applies_36 : decode cX10_applies 36 = .ok (.iaload, 1) := by decide +kernel
theorem dX10_applies_37 : decode cX10_applies 37 = .ok (.istore 4, 2) := by decide +kernel
theorem dX10_applies_39 : decode cX10_applies 39 = .ok (.aload_n 1, 1) := by decide +kernel
theorem dX10_applies_40 : decode cX10_applies 40 = .ok (.bipush 74, 2) := by decide +kernel
theorem dX10_applies_42 : decode cX10_applies 42 = .ok (.iload_n 2, 1) := by decide +kernel
theorem dX10_applies_43 : decode cX10_applies 43 = .ok (.iadd, 1) := by decide +kernel
theorem dX10_applies_44 : decode cX10_applies 44 = .ok (.iaload, 1) := by decide +kernel
theorem dX10_applies_45 : decode cX10_applies 45 = .ok (.istore 5, 2) := by decide +kernel
theorem dX10_applies_47 : decode cX10_applies 47 = .ok (.aload_n 1, 1) := by decide +kernel
theorem dX10_applies_48 : decode cX10_applies 48 = .ok (.bipush 58, 2) := by decide +kernel
theorem dX10_applies_50 : decode cX10_applies 50 = .ok (.iload_n 2, 1) := by decide +kernel
theorem dX10_applies_51 : decode cX10_applies 51 = .ok (.iadd, 1) := by decide +kernel
theorem dX10_applies_52 : decode cX10_applies 52 = .ok (.iaload, 1) := by decide +kernel
theorem dX10_applies_53 : decode cX10_applies 53 = .ok (.istore 6, 2) := by decide +kernel
theorem dX10_applies_55 : decode cX10_applies 55 = .ok (.iload 6, 2) := by decide +kernel
theorem dX10_applies_57 : decode cX10_applies 57 = .ok (.ifCond .ne 18, 3) := by decide +kernel
theorem dX10_applies_60 : decode cX10_applies 60 = .ok (.iload 4, 2) := by decide +kernel
theorem dX10_applies_62 : decode cX10_applies 62 = .ok (.iload 5, 2) := by decide +kernel
theorem dX10_applies_64 : decode cX10_applies 64 = .ok (.if_icmp .ge 7, 3) := by decide +kernel
theorem dX10_applies_67 : decode cX10_applies 67 = .ok (.iconst 1, 1) := by decide +kernel
theorem dX10_applies_68 : decode cX10_applies 68 = .ok (.goto 40, 3) := by decide +kernel
theorem dX10_applies_71 : decode cX10_applies 71 = .ok (.iconst 0, 1) := by decide +kernel
theorem dX10_applies_72 : decode cX10_applies 72 = .ok (.goto 36, 3) := by decide +kernel
theorem dX10_applies_75 : decode cX10_applies 75 = .ok (.iload 6, 2) := by decide +kernel
theorem dX10_applies_77 : decode cX10_applies 77 = .ok (.iconst 1, 1) := by decide +kernel
theorem dX10_applies_78 : decode cX10_applies 78 = .ok (.if_icmp .ne 18, 3) := by decide +kernel
theorem dX10_applies_81 : decode cX10_applies 81 = .ok (.iload 4, 2) := by decide +kernel
theorem dX10_applies_83 : decode cX10_applies 83 = .ok (.iload 5, 2) := by decide +kernel
theorem dX10_applies_85 : decode cX10_applies 85 = .ok (.if_icmp .ne 7, 3) := by decide +kernel
theorem dX10_applies_88 : decode cX10_applies 88 = .ok (.iconst 1, 1) := by decide +kernel
theorem dX10_applies_89 : decode cX10_applies 89 = .ok (.goto 19, 3) := by decide +kernel
theorem dX10_applies_92 : decode cX10_applies 92 = .ok (.iconst 0, 1) := by decide +kernel
theorem dX10_applies_93 : decode cX10_applies 93 = .ok (.goto 15, 3) := by decide +kernel
theorem dX10_applies_96 : decode cX10_applies 96 = .ok (.iload 4, 2) := by decide +kernel
theorem dX10_applies_98 : decode cX10_applies 98 = .ok (.iload 5, 2) := by decide +kernel
theorem dX10_applies_100 : decode cX10_applies 100 = .ok (.if_icmp .le 7, 3) := by decide +kernel
theorem dX10_applies_103 : decode cX10_applies 103 = .ok (.iconst 1, 1) := by decide +kernel
theorem dX10_applies_104 : decode cX10_applies 104 = .ok (.goto 4, 3) := by decide +kernel
theorem dX10_applies_107 : decode cX10_applies 107 = .ok (.iconst 0, 1) := by decide +kernel
theorem dX10_applies_108 : decode cX10_applies 108 = .ok (.ireturn, 1) := by decide +kernel
theorem dX10_isChanged_0 : decode cX10_isChanged 0 = .ok (.iconst 0, 1) := by decide +kernel
theorem dX10_isChanged_1 : decode cX10_isChanged 1 = .ok (.istore_n 2, 1) := by decide +kernel
theorem dX10_isChanged_2 : decode cX10_isChanged 2 = .ok (.iconst 0, 1) := by decide +kernel
theorem dX10_isChanged_3 : decode cX10_isChanged 3 = .ok (.istore_n 3, 1) := by decide +kernel
theorem dX10_isChanged_4 : decode cX10_isChanged 4 = .ok (.iload_n 3, 1) := by decide +kernel
theorem dX10_isChanged_5 : decode cX10_isChanged 5 = .ok (.bipush 8, 2) := by decide +kernel
theorem dX10_isChanged_7 : decode cX10_isChanged 7 = .ok (.if_icmp .ge 44, 3) := by decide +kernel
theorem dX10_isChanged_10 : decode cX10_isChanged 10 = .ok (.iload_n 2, 1) := by decide +kernel
theorem dX10_isChanged_11 : decode cX10_isChanged 11 = .ok (.ifCond .ne 28, 3) := by decide +kernel
theorem dX10_isChanged_14 : decode cX10_isChanged 14 = .ok (.aload_n 1, 1) := by decide +kernel
theorem dX10_isChanged_15 : decode cX10_isChanged 15 = .ok (.bipush 25, 2) := by decide +kernel
theorem dX10_isChanged_17 : decode cX10_isChanged 17 = .ok (.iaload, 1) := by decide +kernel
theorem dX10_isChanged_18 : decode cX10_isChanged 18 = .ok (.iload_n 3, 1) := by decide +kernel
theorem dX10_isChanged_19 : decode cX10_isChanged 19 = .ok (.invokestatic 163, 3) := by decide +kernel
theorem dX10_isChanged_22 : decode cX10_isChanged 22 = .ok (.ifCond .eq 21, 3) := by decide +kernel
theorem dX10_isChanged_25 : decode cX10_isChanged 25 = .ok (.aload_n 1, 1) := by decide +kernel
theorem dX10_isChanged_26 : decode cX10_isChanged 26 = .ok (.iconst 4, 1) := by decide +kernel
theorem dX10_isChanged_27 : decode cX10_isChanged 27 = .ok (.iload_n 3, 1) := by decide +kernel
theorem dX10_isChanged_28 : decode cX10_isChanged 28 = .ok (.iadd, 1) := by decide +kernel
theorem dX10_isChanged_29 : decode cX10_isChanged 29 = .ok (.iaload, 1) := by decide +kernel
theorem dX10_isChanged_30 : decode cX10_isChanged 30 = .ok (.aload_n 0, 1) := by decide +kernel
theorem dX10_isChanged_31 : decode cX10_isChanged 31 = .ok (.getfield 44, 3) := by decide +kernel
theorem dX10_isChanged_34 : decode cX10_isChanged 34 = .ok (.iload_n 3, 1) := by decide +kernel
theorem dX10_isChanged_35 : decode cX10_isChanged 35 = .ok (.iaload, 1) := by decide +kernel
theorem dX10_isChanged_36 : decode cX10_isChanged 36 = .ok (.if_icmp .eq 7, 3) := by decide +kernel
theorem dX10_isChanged_39 : decode cX10_isChanged 39 = .ok (.iconst 1, 1) := by decide +kernel
theorem dX10_isChanged_40 : decode cX10_isChanged 40 = .ok (.goto 4, 3) := by decide +kernel
theorem dX10_isChanged_43 : decode cX10_isChanged 43 = .ok (.iconst 0, 1) := by decide +kernel
theorem dX10_isChanged_44 : decode cX10_isChanged 44 = .ok (.istore_n 2, 1) := by decide +kernel
theorem dX10_isChanged_45 : decode cX10_isChanged 45 = .ok (.iinc 3 1, 3) := by decide +kernel
theorem dX10_isChanged_48 : decode cX10_isChanged 48 = .ok (.goto (-44), 3) := by decide +kernel
theorem dX10_isChanged_51 : decode cX10_isChanged 51 = .ok (.iload_n 2, 1) := by decide +kernel
theorem dX10_isChanged_52 : decode cX10_isChanged 52 = .ok (.ireturn, 1) := by decide +kernel
theorem dX10_isStopped_0 : decode cX10_isStopped 0 = .ok (.aload_n 1, 1) := by decide +kernel
theorem dX10_isStopped_1 : decode cX10_isStopped 1 = .ok (.bipush 21, 2) := by decide +kernel
theorem dX10_isStopped_3 : decode cX10_isStopped 3 = .ok (.iaload, 1) := by decide +kernel
theorem dX10_isStopped_4 : decode cX10_isStopped 4 = .ok (.istore_n 2, 1) := by decide +kernel
theorem dX10_isStopped_5 : decode cX10_isStopped 5 = .ok (.aload_n 0, 1) := by decide +kernel
theorem dX10_isStopped_6 : decode cX10_isStopped 6 = .ok (.aload_n 1, 1) := by decide +kernel
theorem dX10_isStopped_7 : decode cX10_isStopped 7 = .ok (.iload_n 2, 1) := by decide +kernel
theorem dX10_isStopped_8 : decode cX10_isStopped 8 = .ok (.invokevirtual 166, 3) := by decide +kernel
theorem dX10_isStopped_11 : decode cX10_isStopped 11 = .ok (.ifCond .ne 5, 3) := by decide +kernel
theorem dX10_isStopped_14 : decode cX10_isStopped 14 = .ok (.iconst 0, 1) := by decide +kernel
theorem dX10_isStopped_15 : decode cX10_isStopped 15 = .ok (.ireturn, 1) := by decide +kernel
theorem dX10_isStopped_16 : decode cX10_isStopped 16 = .ok (.aload_n 1, 1) := by decide +kernel
theorem dX10_isStopped_17 : decode cX10_isStopped 17 = .ok (.bipush 90, 2) := by decide +kernel
theorem dX10_isStopped_19 : decode cX10_isStopped 19 = .ok (.iload_n 2, 1) := by decide +kernel
theorem dX10_isStopped_20 : decode cX10_isStopped 20 = .ok (.iadd, 1) := by decide +kernel
theorem dX10_isStopped_21 : decode cX10_isStopped 21 = .ok (.iaload, 1) := by decide +kernel
theorem dX10_isStopped_22 : decode cX10_isStopped 22 = .ok (.ifCond .le 15, 3) := by decide +kernel
theorem dX10_isStopped_25 : decode cX10_isStopped 25 = .ok (.aload_n 1, 1) := by decide +kernel
theorem dX10_isStopped_26 : decode cX10_isStopped 26 = .ok (.bipush 90, 2) := by decide +kernel
theorem dX10_isStopped_28 : decode cX10_isStopped 28 = .ok (.iload_n 2, 1) := by decide +kernel
theorem dX10_isStopped_29 : decode cX10_isStopped 29 = .ok (.iadd, 1) := by decide +kernel
theorem dX10_isStopped_30 : decode cX10_isStopped 30 = .ok (.dup2, 1) := by decide +kernel
theorem dX10_isStopped_31 : decode cX10_isStopped 31 = .ok (.iaload, 1) := by decide +kernel
theorem dX10_isStopped_32 : decode cX10_isStopped 32 = .ok (.iconst 1, 1) := by decide +kernel
theorem dX10_isStopped_33 : decode cX10_isStopped 33 = .ok (.isub, 1) := by decide +kernel
theorem dX10_isStopped_34 : decode cX10_isStopped 34 = .ok (.iastore, 1) := by decide +kernel
theorem dX10_isStopped_35 : decode cX10_isStopped 35 = .ok (.iconst 0, 1) := by decide +kernel
theorem dX10_isStopped_36 : decode cX10_isStopped 36 = .ok (.ireturn, 1) := by decide +kernel
theorem dX10_isStopped_37 : decode cX10_isStopped 37 = .ok (.aload_n 1, 1) := by decide +kernel
theorem dX10_isStopped_38 : decode cX10_isStopped 38 = .ok (.bipush 106, 2) := by decide +kernel
theorem dX10_isStopped_40 : decode cX10_isStopped 40 = .ok (.iload_n 2, 1) := by decide +kernel
theorem dX10_isStopped_41 : decode cX10_isStopped 41 = .ok (.iadd, 1) := by decide +kernel
theorem dX10_isStopped_42 : decode cX10_isStopped 42 = .ok (.dup2, 1) := by decide +kernel
theorem dX10_isStopped_43 : decode cX10_isStopped 43 = .ok (.iaload, 1) := by decide +kernel
theorem dX10_isStopped_44 : decode cX10_isStopped 44 = .ok (.iconst 1, 1) := by decide +kernel
theorem dX10_isStopped_45 : decode cX10_isStopped 45 = .ok (.iadd, 1) := by decide +kernel
theorem dX10_isStopped_46 : decode cX10_isStopped 46 = .ok (.iastore, 1) := by decide +kernel
theorem dX10_isStopped_47 : decode cX10_isStopped 47 = .ok (.iconst 1, 1) := by decide +kernel
theorem dX10_isStopped_48 : decode cX10_isStopped 48 = .ok (.ireturn, 1) := by decide +kernel
theorem dX10_isThrough_0 : decode cX10_isThrough 0 = .ok (.iload_n 0, 1) := by decide +kernel
theorem dX10_isThrough_1 : decode cX10_isThrough 1 = .ok (.ifCond .eq 23, 3) := by decide +kernel
theorem dX10_isThrough_4 : decode cX10_isThrough 4 = .ok (.iload_n 0, 1) := by decide +kernel
theorem dX10_isThrough_5 : decode cX10_isThrough 5 = .ok (.iconst 1, 1) := by decide +kernel
theorem dX10_isThrough_6 : decode cX10_isThrough 6 = .ok (.if_icmp .ne 8, 3) := by decide +kernel
theorem dX10_isThrough_9 : decode cX10_isThrough 9 = .ok (.iload_n 2, 1) := by decide +kernel
theorem dX10_isThrough_10 : decode cX10_isThrough 10 = .ok (.iload_n 1, 1) := by decide +kernel
theorem dX10_isThrough_11 : decode cX10_isThrough 11 = .ok (.if_icmp .le 13, 3) := by decide +kernel
theorem dX10_isThrough_14 : decode cX10_isThrough 14 = .ok (.iload_n 0, 1) := by decide +kernel
theorem dX10_isThrough_15 : decode cX10_isThrough 15 = .ok (.iconst 2, 1) := by decide +kernel
theorem dX10_isThrough_16 : decode cX10_isThrough 16 = .ok (.if_icmp .ne 12, 3) := by decide +kernel
theorem dX10_isThrough_19 : decode cX10_isThrough 19 = .ok (.iload_n 2, 1) := by decide +kernel
theorem dX10_isThrough_20 : decode cX10_isThrough 20 = .ok (.iload_n 1, 1) := by decide +kernel
theorem dX10_isThrough_21 : decode cX10_isThrough 21 = .ok (.if_icmp .ge 7, 3) := by decide +kernel
theorem dX10_isThrough_24 : decode cX10_isThrough 24 = .ok (.iconst 1, 1) := by decide +kernel
theorem dX10_isThrough_25 : decode cX10_isThrough 25 = .ok (.goto 4, 3) := by decide +kernel
theorem dX10_isThrough_28 : decode cX10_isThrough 28 = .ok (.iconst 0, 1) := by decide +kernel
theorem dX10_isThrough_29 : decode cX10_isThrough 29 = .ok (.ireturn, 1) := by decide +kernel
theorem dX10_reason_0 : decode cX10_reason 0 = .ok (.aload_n 1, 1) := by decide +kernel
theorem dX10_reason_1 : decode cX10_reason 1 = .ok (.bipush 22, 2) := by decide +kernel
theorem dX10_reason_3 : decode cX10_reason 3 = .ok (.iaload, 1) := by decide +kernel
theorem dX10_reason_4 : decode cX10_reason 4 = .ok (.iconst 1, 1) := by decide +kernel
theorem dX10_reason_5 : decode cX10_reason 5 = .ok (.if_icmp .ne 5, 3) := by decide +kernel
theorem dX10_reason_8 : decode cX10_reason 8 = .ok (.iconst 3, 1) := by decide +kernel
theorem dX10_reason_9 : decode cX10_reason 9 = .ok (.ireturn, 1) := by decide +kernel
theorem dX10_reason_10 : decode cX10_reason 10 = .ok (.aload_n 0, 1) := by decide +kernel
theorem dX10_reason_11 : decode cX10_reason 11 = .ok (.aload_n 1, 1) := by decide +kernel
theorem dX10_reason_12 : decode cX10_reason 12 = .ok (.invokevirtual 169, 3) := by decide +kernel
theorem dX10_reason_15 : decode cX10_reason 15 = .ok (.ifCond .eq 5, 3) := by decide +kernel
theorem dX10_reason_18 : decode cX10_reason 18 = .ok (.iconst 2, 1) := by decide +kernel
theorem dX10_reason_19 : decode cX10_reason 19 = .ok (.ireturn, 1) := by decide +kernel
theorem dX10_reason_20 : decode cX10_reason 20 = .ok (.aload_n 0, 1) := by decide +kernel
theorem dX10_reason_21 : decode cX10_reason 21 = .ok (.aload_n 1, 1) := by decide +kernel
theorem dX10_reason_22 : decode cX10_reason 22 = .ok (.invokevirtual 172, 3) := by decide +kernel
theorem dX10_reason_25 : decode cX10_reason 25 = .ok (.ifCond .eq 5, 3) := by decide +kernel
theorem dX10_reason_28 : decode cX10_reason 28 = .ok (.iconst 1, 1) := by decide +kernel
theorem dX10_reason_29 : decode cX10_reason 29 = .ok (.ireturn, 1) := by decide +kernel
theorem dX10_reason_30 : decode cX10_reason 30 = .ok (.iload_n 2, 1) := by decide +kernel
theorem dX10_reason_31 : decode cX10_reason 31 = .ok (.iload_n 3, 1) := by decide +kernel
theorem dX10_reason_32 : decode cX10_reason 32 = .ok (.aload_n 1, 1) := by decide +kernel
theorem dX10_reason_33 : decode cX10_reason 33 = .ok (.bipush 20, 2) := by decide +kernel
theorem dX10_reason_35 : decode cX10_reason 35 = .ok (.iaload, 1) := by decide +kernel
theorem dX10_reason_36 : decode cX10_reason 36 = .ok (.invokestatic 175, 3) := by decide +kernel
theorem dX10_reason_39 : decode cX10_reason 39 = .ok (.ifCond .eq 5, 3) := by decide +kernel
theorem dX10_reason_42 : decode cX10_reason 42 = .ok (.iconst 0, 1) := by decide +kernel
theorem dX10_reason_43 : decode cX10_reason 43 = .ok (.ireturn, 1) := by decide +kernel
theorem dX10_reason_44 : decode cX10_reason 44 = .ok (.iload 4, 2) := by decide +kernel
theorem dX10_reason_46 : decode cX10_reason 46 = .ok (.bipush 99, 2) := by decide +kernel
theorem dX10_reason_48 : decode cX10_reason 48 = .ok (.if_icmp .ne 7, 3) := by decide +kernel
theorem dX10_reason_51 : decode cX10_reason 51 = .ok (.iconst 5, 1) := by decide +kernel
theorem dX10_reason_52 : decode cX10_reason 52 = .ok (.goto 5, 3) := by decide +kernel
theorem dX10_reason_55 : decode cX10_reason 55 = .ok (.bipush (-9), 2) := by decide +kernel
theorem dX10_reason_57 : decode cX10_reason 57 = .ok (.ireturn, 1) := by decide +kernel
theorem dX10_planOn_0 : decode cX10_planOn 0 = .ok (.aload_n 1, 1) := by decide +kernel
theorem dX10_planOn_1 : decode cX10_planOn 1 = .ok (.bipush 22, 2) := by decide +kernel
theorem dX10_planOn_3 : decode cX10_planOn 3 = .ok (.iaload, 1) := by decide +kernel
theorem dX10_planOn_4 : decode cX10_planOn 4 = .ok (.iconst 1, 1) := by decide +kernel
theorem dX10_planOn_5 : decode cX10_planOn 5 = .ok (.if_icmp .ne 5, 3) := by decide +kernel
theorem dX10_planOn_8 : decode cX10_planOn 8 = .ok (.iconst 3, 1) := by decide +kernel
theorem dX10_planOn_9 : decode cX10_planOn 9 = .ok (.ireturn, 1) := by decide +kernel
theorem dX10_planOn_10 : decode cX10_planOn 10 = .ok (.aload_n 1, 1) := by decide +kernel
theorem dX10_planOn_11 : decode cX10_planOn 11 = .ok (.bipush 20, 2) := by decide +kernel
theorem dX10_planOn_13 : decode cX10_planOn 13 = .ok (.iaload, 1) := by decide +kernel
theorem dX10_planOn_14 : decode cX10_planOn 14 = .ok (.istore_n 3, 1) := by decide +kernel
theorem dX10_planOn_15 : decode cX10_planOn 15 = .ok (.iconst 1, 1) := by decide +kernel
theorem dX10_planOn_16 : decode cX10_planOn 16 = .ok (.istore 4, 2) := by decide +kernel
theorem dX10_planOn_18 : decode cX10_planOn 18 = .ok (.iload 4, 2) := by decide +kernel
theorem dX10_planOn_20 : decode cX10_planOn 20 = .ok (.bipush 100, 2) := by decide +kernel
theorem dX10_planOn_22 : decode cX10_planOn 22 = .ok (.if_icmp .ge 69, 3) := by decide +kernel
theorem dX10_planOn_25 : decode cX10_planOn 25 = .ok (.iconst 0, 1) := by decide +kernel
theorem dX10_planOn_26 : decode cX10_planOn 26 = .ok (.istore 5, 2) := by decide +kernel
theorem dX10_planOn_28 : decode cX10_planOn 28 = .ok (.iload 5, 2) := by decide +kernel
theorem dX10_planOn_30 : decode cX10_planOn 30 = .ok (.bipush 8, 2) := by decide +kernel
theorem dX10_planOn_32 : decode cX10_planOn 32 = .ok (.if_icmp .ge 22, 3) := by decide +kernel
theorem dX10_planOn_35 : decode cX10_planOn 35 = .ok (.aload_n 0, 1) := by decide +kernel
theorem dX10_planOn_36 : decode cX10_planOn 36 = .ok (.getfield 44, 3) := by decide +kernel
theorem dX10_planOn_39 : decode cX10_planOn 39 = .ok (.iload 5, 2) := by decide +kernel
theorem dX10_planOn_41 : decode cX10_planOn 41 = .ok (.aload_n 1, 1) := by decide +kernel
theorem dX10_planOn_42 : decode cX10_planOn 42 = .ok (.iconst 4, 1) := by decide +kernel
theorem dX10_planOn_43 : decode cX10_planOn 43 = .ok (.iload 5, 2) := by decide +kernel
theorem dX10_planOn_45 : decode cX10_planOn 45 = .ok (.iadd, 1) := by decide +kernel
theorem dX10_planOn_46 : decode cX10_planOn 46 = .ok (.iaload, 1) := by decide +kernel
theorem dX10_planOn_47 : decode cX10_planOn 47 = .ok (.iastore, 1) := by decide +kernel
theorem dX10_planOn_48 : decode cX10_planOn 48 = .ok (.iinc 5 1, 3) := by decide +kernel
theorem dX10_planOn_51 : decode cX10_planOn 51 = .ok (.goto (-23), 3) := by decide +kernel
theorem dX10_planOn_54 : decode cX10_planOn 54 = .ok (.aload_n 0, 1) := by decide +kernel
theorem dX10_planOn_55 : decode cX10_planOn 55 = .ok (.aload_n 1, 1) := by decide +kernel
theorem dX10_planOn_56 : decode cX10_planOn 56 = .ok (.invokevirtual 179, 3) := by decide +kernel
theorem dX10_planOn_59 : decode cX10_planOn 59 = .ok (.ifCond .ne 5, 3) := by decide +kernel
theorem dX10_planOn_62 : decode cX10_planOn 62 = .ok (.iconst 4, 1) := by decide +kernel
theorem dX10_planOn_63 : decode cX10_planOn 63 = .ok (.ireturn, 1) := by decide +kernel
theorem dX10_planOn_64 : decode cX10_planOn 64 = .ok (.aload_n 0, 1) := by decide +kernel
theorem dX10_planOn_65 : decode cX10_planOn 65 = .ok (.aload_n 1, 1) := by decide +kernel
theorem dX10_planOn_66 : decode cX10_planOn 66 = .ok (.iload_n 2, 1) := by decide +kernel
theorem dX10_planOn_67 : decode cX10_planOn 67 = .ok (.iload_n 3, 1) := by decide +kernel
theorem dX10_planOn_68 : decode cX10_planOn 68 = .ok (.iload 4, 2) := by decide +kernel
theorem dX10_planOn_70 : decode cX10_planOn 70 = .ok (.invokevirtual 182, 3) := by decide +kernel
theorem dX10_planOn_73 : decode cX10_planOn 73 = .ok (.istore 5, 2) := by decide +kernel
theorem dX10_planOn_75 : decode cX10_planOn 75 = .ok (.iload 5, 2) := by decide +kernel
theorem dX10_planOn_77 : decode cX10_planOn 77 = .ok (.bipush (-9), 2) := by decide +kernel
theorem dX10_planOn_79 : decode cX10_planOn 79 = .ok (.if_icmp .eq 6, 3) := by decide +kernel
theorem dX10_planOn_82 : decode cX10_planOn 82 = .ok (.iload 5, 2) := by decide +kernel
theorem dX10_planOn_84 : decode cX10_planOn 84 = .ok (.ireturn, 1) := by decide +kernel
theorem dX10_planOn_85 : decode cX10_planOn 85 = .ok (.iinc 4 1, 3) := by decide +kernel
theorem dX10_planOn_88 : decode cX10_planOn 88 = .ok (.goto (-70), 3) := by decide +kernel
theorem dX10_planOn_91 : decode cX10_planOn 91 = .ok (.iconst 5, 1) := by decide +kernel
theorem dX10_planOn_92 : decode cX10_planOn 92 = .ok (.ireturn, 1) := by decide +kernel
theorem dX10_freeOn_0 : decode cX10_freeOn 0 = .ok (.aload_n 0, 1) := by decide +kernel
theorem dX10_freeOn_1 : decode cX10_freeOn 1 = .ok (.iconst 0, 1) := by decide +kernel
theorem dX10_freeOn_2 : decode cX10_freeOn 2 = .ok (.putfield 186, 3) := by decide +kernel
theorem dX10_freeOn_5 : decode cX10_freeOn 5 = .ok (.aload_n 0, 1) := by decide +kernel
theorem dX10_freeOn_6 : decode cX10_freeOn 6 = .ok (.getfield 25, 3) := by decide +kernel
theorem dX10_freeOn_9 : decode cX10_freeOn 9 = .ok (.bipush 22, 2) := by decide +kernel
theorem dX10_freeOn_11 : decode cX10_freeOn 11 = .ok (.iaload, 1) := by decide +kernel
theorem dX10_freeOn_12 : decode cX10_freeOn 12 = .ok (.ifCond .ne 39, 3) := by decide +kernel
theorem dX10_freeOn_15 : decode cX10_freeOn 15 = .ok (.aload_n 0, 1) := by decide +kernel
theorem dX10_freeOn_16 : decode cX10_freeOn 16 = .ok (.getfield 186, 3) := by decide +kernel
theorem dX10_freeOn_19 : decode cX10_freeOn 19 = .ok (.sipush 300, 3) := by decide +kernel
theorem dX10_freeOn_22 : decode cX10_freeOn 22 = .ok (.if_icmp .ge 29, 3) := by decide +kernel
theorem dX10_freeOn_25 : decode cX10_freeOn 25 = .ok (.aload_n 0, 1) := by decide +kernel
theorem dX10_freeOn_26 : decode cX10_freeOn 26 = .ok (.aload_n 0, 1) := by decide +kernel
theorem dX10_freeOn_27 : decode cX10_freeOn 27 = .ok (.getfield 25, 3) := by decide +kernel
theorem dX10_freeOn_30 : decode cX10_freeOn 30 = .ok (.invokevirtual 152, 3) := by decide +kernel
theorem dX10_freeOn_33 : decode cX10_freeOn 33 = .ok (.ifCond .ne 5, 3) := by decide +kernel
theorem dX10_freeOn_36 : decode cX10_freeOn 36 = .ok (.iconst 4, 1) := by decide +kernel
theorem dX10_freeOn_37 : decode cX10_freeOn 37 = .ok (.ireturn, 1) := by decide +kernel
theorem dX10_freeOn_38 : decode cX10_freeOn 38 = .ok (.aload_n 0, 1) := by decide +kernel
theorem dX10_freeOn_39 : decode cX10_freeOn 39 = .ok (.dup, 1) := by decide +kernel
theorem dX10_freeOn_40 : decode cX10_freeOn 40 = .ok (.getfield 186, 3) := by decide +kernel
theorem dX10_freeOn_43 : decode cX10_freeOn 43 = .ok (.iconst 1, 1) := by decide +kernel
theorem dX10_freeOn_44 : decode cX10_freeOn 44 = .ok (.iadd, 1) := by decide +kernel
theorem dX10_freeOn_45 : decode cX10_freeOn 45 = .ok (.putfield 186, 3) := by decide +kernel
theorem dX10_freeOn_48 : decode cX10_freeOn 48 = .ok (.goto (-43), 3) := by decide +kernel
theorem dX10_freeOn_51 : decode cX10_freeOn 51 = .ok (.aload_n 0, 1) := by decide +kernel
theorem dX10_freeOn_52 : decode cX10_freeOn 52 = .ok (.getfield 25, 3) := by decide +kernel
theorem dX10_freeOn_55 : decode cX10_freeOn 55 = .ok (.bipush 22, 2) := by decide +kernel
theorem dX10_freeOn_57 : decode cX10_freeOn 57 = .ok (.iaload, 1) := by decide +kernel
theorem dX10_freeOn_58 : decode cX10_freeOn 58 = .ok (.iconst 1, 1) := by decide +kernel
theorem dX10_freeOn_59 : decode cX10_freeOn 59 = .ok (.if_icmp .ne 7, 3) := by decide +kernel
theorem dX10_freeOn_62 : decode cX10_freeOn 62 = .ok (.iconst 3, 1) := by decide +kernel
theorem dX10_freeOn_63 : decode cX10_freeOn 63 = .ok (.goto 4, 3) := by decide +kernel
theorem dX10_freeOn_66 : decode cX10_freeOn 66 = .ok (.iconst 5, 1) := by decide +kernel
theorem dX10_freeOn_67 : decode cX10_freeOn 67 = .ok (.ireturn, 1) := by decide +kernel
theorem dX10_counted_0 : decode cX10_counted 0 = .ok (.iconst 0, 1) := by decide +kernel
theorem dX10_counted_1 : decode cX10_counted 1 = .ok (.istore_n 1, 1) := by decide +kernel
theorem dX10_counted_2 : decode cX10_counted 2 = .ok (.iconst 0, 1) := by decide +kernel
theorem dX10_counted_3 : decode cX10_counted 3 = .ok (.istore_n 2, 1) := by decide +kernel
theorem dX10_counted_4 : decode cX10_counted 4 = .ok (.iload_n 2, 1) := by decide +kernel
theorem dX10_counted_5 : decode cX10_counted 5 = .ok (.aload_n 0, 1) := by decide +kernel
theorem dX10_counted_6 : decode cX10_counted 6 = .ok (.getfield 70, 3) := by decide +kernel
theorem dX10_counted_9 : decode cX10_counted 9 = .ok (.if_icmp .ge 31, 3) := by decide +kernel
theorem dX10_counted_12 : decode cX10_counted 12 = .ok (.iload_n 1, 1) := by decide +kernel
theorem dX10_counted_13 : decode cX10_counted 13 = .ok (.aload_n 0, 1) := by decide +kernel
theorem dX10_counted_14 : decode cX10_counted 14 = .ok (.getfield 22, 3) := by decide +kernel
theorem dX10_counted_17 : decode cX10_counted 17 = .ok (.bipush 26, 2) := by decide +kernel
theorem dX10_counted_19 : decode cX10_counted 19 = .ok (.iload_n 2, 1) := by decide +kernel
theorem dX10_counted_20 : decode cX10_counted 20 = .ok (.iadd, 1) := by decide +kernel
theorem dX10_counted_21 : decode cX10_counted 21 = .ok (.iaload, 1) := by decide +kernel
theorem dX10_counted_22 : decode cX10_counted 22 = .ok (.ifCond .le 9, 3) := by decide +kernel
theorem dX10_counted_25 : decode cX10_counted 25 = .ok (.iconst 1, 1) := by decide +kernel
theorem dX10_counted_26 : decode cX10_counted 26 = .ok (.iload_n 2, 1) := by decide +kernel
theorem dX10_counted_27 : decode cX10_counted 27 = .ok (.ishl, 1) := by decide +kernel
theorem dX10_counted_28 : decode cX10_counted 28 = .ok (.goto 4, 3) := by decide +kernel
theorem dX10_counted_31 : decode cX10_counted 31 = .ok (.iconst 0, 1) := by decide +kernel
theorem dX10_counted_32 : decode cX10_counted 32 = .ok (.ior, 1) := by decide +kernel
theorem dX10_counted_33 : decode cX10_counted 33 = .ok (.istore_n 1, 1) := by decide +kernel
theorem dX10_counted_34 : decode cX10_counted 34 = .ok (.iinc 2 1, 3) := by decide +kernel
theorem dX10_counted_37 : decode cX10_counted 37 = .ok (.goto (-33), 3) := by decide +kernel
theorem dX10_counted_40 : decode cX10_counted 40 = .ok (.iload_n 1, 1) := by decide +kernel
theorem dX10_counted_41 : decode cX10_counted 41 = .ok (.ireturn, 1) := by decide +kernel
theorem dX10_unlike_0 : decode cX10_unlike 0 = .ok (.iconst 0, 1) := by decide +kernel
theorem dX10_unlike_1 : decode cX10_unlike 1 = .ok (.istore_n 1, 1) := by decide +kernel
theorem dX10_unlike_2 : decode cX10_unlike 2 = .ok (.iconst 0, 1) := by decide +kernel
theorem dX10_unlike_3 : decode cX10_unlike 3 = .ok (.istore_n 2, 1) := by decide +kernel
theorem dX10_unlike_4 : decode cX10_unlike 4 = .ok (.iload_n 2, 1) := by decide +kernel
theorem dX10_unlike_5 : decode cX10_unlike 5 = .ok (.aload_n 0, 1) := by decide +kernel
theorem dX10_unlike_6 : decode cX10_unlike 6 = .ok (.getfield 70, 3) := by decide +kernel
theorem dX10_unlike_9 : decode cX10_unlike 9 = .ok (.if_icmp .ge 26, 3) := by decide +kernel
theorem dX10_unlike_12 : decode cX10_unlike 12 = .ok (.iload_n 1, 1) := by decide +kernel
theorem dX10_unlike_13 : decode cX10_unlike 13 = .ok (.aload_n 0, 1) := by decide +kernel
theorem dX10_unlike_14 : decode cX10_unlike 14 = .ok (.iload_n 2, 1) := by decide +kernel
theorem dX10_unlike_15 : decode cX10_unlike 15 = .ok (.invokevirtual 149, 3) := by decide +kernel
theorem dX10_unlike_18 : decode cX10_unlike 18 = .ok (.iload_n 2, 1) := by decide +kernel
theorem dX10_unlike_19 : decode cX10_unlike 19 = .ok (.if_icmp .ne 7, 3) := by decide +kernel
theorem dX10_unlike_22 : decode cX10_unlike 22 = .ok (.iconst 1, 1) := by decide +kernel
theorem dX10_unlike_23 : decode cX10_unlike 23 = .ok (.goto 4, 3) := by decide +kernel
theorem dX10_unlike_26 : decode cX10_unlike 26 = .ok (.iconst 0, 1) := by decide +kernel
theorem dX10_unlike_27 : decode cX10_unlike 27 = .ok (.iadd, 1) := by decide +kernel
theorem dX10_unlike_28 : decode cX10_unlike 28 = .ok (.istore_n 1, 1) := by decide +kernel
theorem dX10_unlike_29 : decode cX10_unlike 29 = .ok (.iinc 2 1, 3) := by decide +kernel
theorem dX10_unlike_32 : decode cX10_unlike 32 = .ok (.goto (-28), 3) := by decide +kernel
theorem dX10_unlike_35 : decode cX10_unlike 35 = .ok (.iload_n 1, 1) := by decide +kernel
theorem dX10_unlike_36 : decode cX10_unlike 36 = .ok (.ireturn, 1) := by decide +kernel
theorem dX10_about_0 : decode cX10_about 0 = .ok (.iload_n 1, 1) := by decide +kernel
theorem dX10_about_1 : decode cX10_about 1 = .ok (.tableswitch 177 0 14 #[75, 80, 88, 96, 104, 112, 120, 125, 133, 141, 149, 157, 162, 167, 172], 75) := by decide +kernel
theorem dX10_about_76 : decode cX10_about 76 = .ok (.aload_n 0, 1) := by decide +kernel
theorem dX10_about_77 : decode cX10_about 77 = .ok (.getfield 70, 3) := by decide +kernel
theorem dX10_about_80 : decode cX10_about 80 = .ok (.ireturn, 1) := by decide +kernel
theorem dX10_about_81 : decode cX10_about 81 = .ok (.aload_n 0, 1) := by decide +kernel
theorem dX10_about_82 : decode cX10_about 82 = .ok (.getfield 22, 3) := by decide +kernel
theorem dX10_about_85 : decode cX10_about 85 = .ok (.bipush 21, 2) := by decide +kernel
theorem dX10_about_87 : decode cX10_about 87 = .ok (.iaload, 1) := by decide +kernel
theorem dX10_about_88 : decode cX10_about 88 = .ok (.ireturn, 1) := by decide +kernel
theorem dX10_about_89 : decode cX10_about 89 = .ok (.aload_n 0, 1) := by decide +kernel
theorem dX10_about_90 : decode cX10_about 90 = .ok (.getfield 22, 3) := by decide +kernel
theorem dX10_about_93 : decode cX10_about 93 = .ok (.bipush 20, 2) := by decide +kernel
theorem dX10_about_95 : decode cX10_about 95 = .ok (.iaload, 1) := by decide +kernel
theorem dX10_about_96 : decode cX10_about 96 = .ok (.ireturn, 1) := by decide +kernel
theorem dX10_about_97 : decode cX10_about 97 = .ok (.aload_n 0, 1) := by decide +kernel
theorem dX10_about_98 : decode cX10_about 98 = .ok (.getfield 22, 3) := by decide +kernel
theorem dX10_about_101 : decode cX10_about 101 = .ok (.bipush 22, 2) := by decide +kernel
theorem dX10_about_103 : decode cX10_about 103 = .ok (.iaload, 1) := by decide +kernel
theorem dX10_about_104 : decode cX10_about 104 = .ok (.ireturn, 1) := by decide +kernel
theorem dX10_about_105 : decode cX10_about 105 = .ok (.aload_n 0, 1) := by decide +kernel
theorem dX10_about_106 : decode cX10_about 106 = .ok (.getfield 22, 3) := by decide +kernel
theorem dX10_about_109 : decode cX10_about 109 = .ok (.bipush 23, 2) := by decide +kernel
theorem dX10_about_111 : decode cX10_about 111 = .ok (.iaload, 1) := by decide +kernel
theorem dX10_about_112 : decode cX10_about 112 = .ok (.ireturn, 1) := by decide +kernel
theorem dX10_about_113 : decode cX10_about 113 = .ok (.aload_n 0, 1) := by decide +kernel
theorem dX10_about_114 : decode cX10_about 114 = .ok (.getfield 22, 3) := by decide +kernel
theorem dX10_about_117 : decode cX10_about 117 = .ok (.bipush 24, 2) := by decide +kernel
theorem dX10_about_119 : decode cX10_about 119 = .ok (.iaload, 1) := by decide +kernel
theorem dX10_about_120 : decode cX10_about 120 = .ok (.ireturn, 1) := by decide +kernel
theorem dX10_about_121 : decode cX10_about 121 = .ok (.aload_n 0, 1) := by decide +kernel
theorem dX10_about_122 : decode cX10_about 122 = .ok (.invokevirtual 189, 3) := by decide +kernel
theorem dX10_about_125 : decode cX10_about 125 = .ok (.ireturn, 1) := by decide +kernel
theorem dX10_about_126 : decode cX10_about 126 = .ok (.aload_n 0, 1) := by decide +kernel
end
section
theorem dX10_about_127 : decode cX10_about 127 = .ok (.getfield 22, 3) := by decide +kernel
theorem dX10_about_130 : decode cX10_about 130 = .ok (.bipush 25, 2) := by decide +kernel
theorem dX10_about_132 : decode cX10_about 132 = .ok (.iaload, 1) := by decide +kernel
theorem dX10_about_133 : decode cX10_about 133 = .ok (.ireturn, 1) := by decide +kernel
theorem dX10_about_134 : decode cX10_about 134 = .ok (.aload_n 0, 1) := by decide +kernel
theorem dX10_about_135 : decode cX10_about 135 = .ok (.getfield 22, 3) := by decide +kernel
theorem dX10_about_138 : decode cX10_about 138 = .ok (.bipush 122, 2) := by decide +kernel
theorem dX10_about_140 : decode cX10_about 140 = .ok (.iaload, 1) := by decide +kernel
theorem dX10_about_141 : decode cX10_about 141 = .ok (.ireturn, 1) := by decide +kernel
theorem dX10_about_142 : decode cX10_about 142 = .ok (.aload_n 0, 1) := by decide +kernel
theorem dX10_about_143 : decode cX10_about 143 = .ok (.getfield 22, 3) := by decide +kernel
theorem dX10_about_146 : decode cX10_about 146 = .ok (.bipush 126, 2) := by decide +kernel
theorem dX10_about_148 : decode cX10_about 148 = .ok (.iaload, 1) := by decide +kernel
theorem dX10_about_149 : decode cX10_about 149 = .ok (.ireturn, 1) := by decide +kernel
theorem dX10_about_150 : decode cX10_about 150 = .ok (.aload_n 0, 1) := by decide +kernel
theorem dX10_about_151 : decode cX10_about 151 = .ok (.getfield 22, 3) := by decide +kernel
theorem dX10_about_154 : decode cX10_about 154 = .ok (.bipush 127, 2) := by decide +kernel
theorem dX10_about_156 : decode cX10_about 156 = .ok (.iaload, 1) := by decide +kernel
theorem dX10_about_157 : decode cX10_about 157 = .ok (.ireturn, 1) := by decide +kernel
theorem dX10_about_158 : decode cX10_about 158 = .ok (.aload_n 0, 1) := by decide +kernel
theorem dX10_about_159 : decode cX10_about 159 = .ok (.invokevirtual 192, 3) := by decide +kernel
theorem dX10_about_162 : decode cX10_about 162 = .ok (.ireturn, 1) := by decide +kernel
theorem dX10_about_163 : decode cX10_about 163 = .ok (.aload_n 0, 1) := by decide +kernel
theorem dX10_about_164 : decode cX10_about 164 = .ok (.getfield 132, 3) := by decide +kernel
theorem dX10_about_167 : decode cX10_about 167 = .ok (.ireturn, 1) := by decide +kernel
theorem dX10_about_168 : decode cX10_about 168 = .ok (.aload_n 0, 1) := by decide +kernel
theorem dX10_about_169 : decode cX10_about 169 = .ok (.getfield 195, 3) := by decide +kernel
theorem dX10_about_172 : decode cX10_about 172 = .ok (.ireturn, 1) := by decide +kernel
theorem dX10_about_173 : decode cX10_about 173 = .ok (.aload_n 0, 1) := by decide +kernel
theorem dX10_about_174 : decode cX10_about 174 = .ok (.getfield 79, 3) := by decide +kernel
theorem dX10_about_177 : decode cX10_about 177 = .ok (.ireturn, 1) := by decide +kernel
theorem dX10_about_178 : decode cX10_about 178 = .ok (.bipush (-2), 2) := by decide +kernel
theorem dX10_about_180 : decode cX10_about 180 = .ok (.ireturn, 1) := by decide +kernel
theorem dX10_register_0 : decode cX10_register 0 = .ok (.iload_n 1, 1) := by decide +kernel
theorem dX10_register_1 : decode cX10_register 1 = .ok (.i2l, 1) := by decide +kernel
theorem dX10_register_2 : decode cX10_register 2 = .ok (.lconst 0, 1) := by decide +kernel
theorem dX10_register_3 : decode cX10_register 3 = .ok (.ldc2_w 107, 3) := by decide +kernel
theorem dX10_register_6 : decode cX10_register 6 = .ok (.invokestatic 73, 3) := by decide +kernel
theorem dX10_register_9 : decode cX10_register 9 = .ok (.ifCond .eq 12, 3) := by decide +kernel
theorem dX10_register_12 : decode cX10_register 12 = .ok (.aload_n 0, 1) := by decide +kernel
theorem dX10_register_13 : decode cX10_register 13 = .ok (.getfield 22, 3) := by decide +kernel
theorem dX10_register_16 : decode cX10_register 16 = .ok (.iload_n 1, 1) := by decide +kernel
theorem dX10_register_17 : decode cX10_register 17 = .ok (.iaload, 1) := by decide +kernel
theorem dX10_register_18 : decode cX10_register 18 = .ok (.goto 4, 3) := by decide +kernel
theorem dX10_register_21 : decode cX10_register 21 = .ok (.iconst (-1), 1) := by decide +kernel
theorem dX10_register_22 : decode cX10_register 22 = .ok (.ireturn, 1) := by decide +kernel
theorem dX10_cell_0 : decode cX10_cell 0 = .ok (.iload_n 1, 1) := by decide +kernel
theorem dX10_cell_1 : decode cX10_cell 1 = .ok (.i2l, 1) := by decide +kernel
theorem dX10_cell_2 : decode cX10_cell 2 = .ok (.lconst 0, 1) := by decide +kernel
theorem dX10_cell_3 : decode cX10_cell 3 = .ok (.ldc2_w 120, 3) := by decide +kernel
theorem dX10_cell_6 : decode cX10_cell 6 = .ok (.invokestatic 73, 3) := by decide +kernel
theorem dX10_cell_9 : decode cX10_cell 9 = .ok (.ifCond .eq 14, 3) := by decide +kernel
theorem dX10_cell_12 : decode cX10_cell 12 = .ok (.aload_n 0, 1) := by decide +kernel
theorem dX10_cell_13 : decode cX10_cell 13 = .ok (.getfield 22, 3) := by decide +kernel
theorem dX10_cell_16 : decode cX10_cell 16 = .ok (.iconst 4, 1) := by decide +kernel
theorem dX10_cell_17 : decode cX10_cell 17 = .ok (.iload_n 1, 1) := by decide +kernel
theorem dX10_cell_18 : decode cX10_cell 18 = .ok (.iadd, 1) := by decide +kernel
theorem dX10_cell_19 : decode cX10_cell 19 = .ok (.iaload, 1) := by decide +kernel
theorem dX10_cell_20 : decode cX10_cell 20 = .ok (.goto 4, 3) := by decide +kernel
theorem dX10_cell_23 : decode cX10_cell 23 = .ok (.iconst (-1), 1) := by decide +kernel
theorem dX10_cell_24 : decode cX10_cell 24 = .ok (.ireturn, 1) := by decide +kernel
theorem dX10_stack_0 : decode cX10_stack 0 = .ok (.iload_n 1, 1) := by decide +kernel
theorem dX10_stack_1 : decode cX10_stack 1 = .ok (.i2l, 1) := by decide +kernel
theorem dX10_stack_2 : decode cX10_stack 2 = .ok (.lconst 0, 1) := by decide +kernel
theorem dX10_stack_3 : decode cX10_stack 3 = .ok (.aload_n 0, 1) := by decide +kernel
theorem dX10_stack_4 : decode cX10_stack 4 = .ok (.getfield 22, 3) := by decide +kernel
theorem dX10_stack_7 : decode cX10_stack 7 = .ok (.bipush 20, 2) := by decide +kernel
theorem dX10_stack_9 : decode cX10_stack 9 = .ok (.iaload, 1) := by decide +kernel
theorem dX10_stack_10 : decode cX10_stack 10 = .ok (.iconst 1, 1) := by decide +kernel
theorem dX10_stack_11 : decode cX10_stack 11 = .ok (.isub, 1) := by decide +kernel
theorem dX10_stack_12 : decode cX10_stack 12 = .ok (.i2l, 1) := by decide +kernel
theorem dX10_stack_13 : decode cX10_stack 13 = .ok (.invokestatic 73, 3) := by decide +kernel
theorem dX10_stack_16 : decode cX10_stack 16 = .ok (.ifCond .eq 15, 3) := by decide +kernel
theorem dX10_stack_19 : decode cX10_stack 19 = .ok (.aload_n 0, 1) := by decide +kernel
theorem dX10_stack_20 : decode cX10_stack 20 = .ok (.getfield 22, 3) := by decide +kernel
theorem dX10_stack_23 : decode cX10_stack 23 = .ok (.bipush 12, 2) := by decide +kernel
theorem dX10_stack_25 : decode cX10_stack 25 = .ok (.iload_n 1, 1) := by decide +kernel
theorem dX10_stack_26 : decode cX10_stack 26 = .ok (.iadd, 1) := by decide +kernel
theorem dX10_stack_27 : decode cX10_stack 27 = .ok (.iaload, 1) := by decide +kernel
theorem dX10_stack_28 : decode cX10_stack 28 = .ok (.goto 5, 3) := by decide +kernel
theorem dX10_stack_31 : decode cX10_stack 31 = .ok (.bipush (-9), 2) := by decide +kernel
theorem dX10_stack_33 : decode cX10_stack 33 = .ok (.ireturn, 1) := by decide +kernel
theorem dX10_broken_0 : decode cX10_broken 0 = .ok (.aload_n 0, 1) := by decide +kernel
theorem dX10_broken_1 : decode cX10_broken 1 = .ok (.iload_n 1, 1) := by decide +kernel
theorem dX10_broken_2 : decode cX10_broken 2 = .ok (.invokevirtual 135, 3) := by decide +kernel
theorem dX10_broken_5 : decode cX10_broken 5 = .ok (.ifCond .ne 5, 3) := by decide +kernel
theorem dX10_broken_8 : decode cX10_broken 8 = .ok (.iconst (-1), 1) := by decide +kernel
theorem dX10_broken_9 : decode cX10_broken 9 = .ok (.ireturn, 1) := by decide +kernel
theorem dX10_broken_10 : decode cX10_broken 10 = .ok (.aload_n 0, 1) := by decide +kernel
theorem dX10_broken_11 : decode cX10_broken 11 = .ok (.getfield 22, 3) := by decide +kernel
theorem dX10_broken_14 : decode cX10_broken 14 = .ok (.bipush 26, 2) := by decide +kernel
theorem dX10_broken_16 : decode cX10_broken 16 = .ok (.iload_n 1, 1) := by decide +kernel
theorem dX10_broken_17 : decode cX10_broken 17 = .ok (.iadd, 1) := by decide +kernel
theorem dX10_broken_18 : decode cX10_broken 18 = .ok (.iaload, 1) := by decide +kernel
theorem dX10_broken_19 : decode cX10_broken 19 = .ok (.ifCond .ne 7, 3) := by decide +kernel
theorem dX10_broken_22 : decode cX10_broken 22 = .ok (.iconst 1, 1) := by decide +kernel
theorem dX10_broken_23 : decode cX10_broken 23 = .ok (.goto 4, 3) := by decide +kernel
theorem dX10_broken_26 : decode cX10_broken 26 = .ok (.iconst 0, 1) := by decide +kernel
theorem dX10_broken_27 : decode cX10_broken 27 = .ok (.istore_n 3, 1) := by decide +kernel
theorem dX10_broken_28 : decode cX10_broken 28 = .ok (.iload_n 3, 1) := by decide +kernel
theorem dX10_broken_29 : decode cX10_broken 29 = .ok (.ifCond .ne 17, 3) := by decide +kernel
theorem dX10_broken_32 : decode cX10_broken 32 = .ok (.aload_n 0, 1) := by decide +kernel
theorem dX10_broken_33 : decode cX10_broken 33 = .ok (.getfield 22, 3) := by decide +kernel
theorem dX10_broken_36 : decode cX10_broken 36 = .ok (.bipush 42, 2) := by decide +kernel
theorem dX10_broken_38 : decode cX10_broken 38 = .ok (.iload_n 1, 1) := by decide +kernel
theorem dX10_broken_39 : decode cX10_broken 39 = .ok (.iadd, 1) := by decide +kernel
theorem dX10_broken_40 : decode cX10_broken 40 = .ok (.iaload, 1) := by decide +kernel
theorem dX10_broken_41 : decode cX10_broken 41 = .ok (.bipush (-9), 2) := by decide +kernel
theorem dX10_broken_43 : decode cX10_broken 43 = .ok (.if_icmp .ne 7, 3) := by decide +kernel
theorem dX10_broken_46 : decode cX10_broken 46 = .ok (.iconst 1, 1) := by decide +kernel
theorem dX10_broken_47 : decode cX10_broken 47 = .ok (.goto 4, 3) := by decide +kernel
theorem dX10_broken_50 : decode cX10_broken 50 = .ok (.iconst 0, 1) := by decide +kernel
theorem dX10_broken_51 : decode cX10_broken 51 = .ok (.istore 4, 2) := by decide +kernel
theorem dX10_broken_53 : decode cX10_broken 53 = .ok (.iload_n 2, 1) := by decide +kernel
theorem dX10_broken_54 : decode cX10_broken 54 = .ok (.tableswitch 144 0 5 #[38, 48, 68, 88, 108, 126], 38) := by decide +kernel
theorem dX10_broken_92 : decode cX10_broken 92 = .ok (.aload_n 0, 1) := by decide +kernel
theorem dX10_broken_93 : decode cX10_broken 93 = .ok (.getfield 22, 3) := by decide +kernel
theorem dX10_broken_96 : decode cX10_broken 96 = .ok (.bipush 26, 2) := by decide +kernel
theorem dX10_broken_98 : decode cX10_broken 98 = .ok (.iload_n 1, 1) := by decide +kernel
theorem dX10_broken_99 : decode cX10_broken 99 = .ok (.iadd, 1) := by decide +kernel
theorem dX10_broken_100 : decode cX10_broken 100 = .ok (.iaload, 1) := by decide +kernel
theorem dX10_broken_101 : decode cX10_broken 101 = .ok (.ireturn, 1) := by decide +kernel
theorem dX10_broken_102 : decode cX10_broken 102 = .ok (.iload 4, 2) := by decide +kernel
theorem dX10_broken_104 : decode cX10_broken 104 = .ok (.ifCond .eq 8, 3) := by decide +kernel
theorem dX10_broken_107 : decode cX10_broken 107 = .ok (.bipush (-9), 2) := by decide +kernel
theorem dX10_broken_109 : decode cX10_broken 109 = .ok (.goto 12, 3) := by decide +kernel
theorem dX10_broken_112 : decode cX10_broken 112 = .ok (.aload_n 0, 1) := by decide +kernel
theorem dX10_broken_113 : decode cX10_broken 113 = .ok (.getfield 22, 3) := by decide +kernel
theorem dX10_broken_116 : decode cX10_broken 116 = .ok (.bipush 42, 2) := by decide +kernel
theorem dX10_broken_118 : decode cX10_broken 118 = .ok (.iload_n 1, 1) := by decide +kernel
theorem dX10_broken_119 : decode cX10_broken 119 = .ok (.iadd, 1) := by decide +kernel
theorem dX10_broken_120 : decode cX10_broken 120 = .ok (.iaload, 1) := by decide +kernel
theorem dX10_broken_121 : decode cX10_broken 121 = .ok (.ireturn, 1) := by decide +kernel
theorem dX10_broken_122 : decode cX10_broken 122 = .ok (.iload 4, 2) := by decide +kernel
theorem dX10_broken_124 : decode cX10_broken 124 = .ok (.ifCond .eq 8, 3) := by decide +kernel
theorem dX10_broken_127 : decode cX10_broken 127 = .ok (.bipush (-9), 2) := by decide +kernel
theorem dX10_broken_129 : decode cX10_broken 129 = .ok (.goto 12, 3) := by decide +kernel
theorem dX10_broken_132 : decode cX10_broken 132 = .ok (.aload_n 0, 1) := by decide +kernel
theorem dX10_broken_133 : decode cX10_broken 133 = .ok (.getfield 22, 3) := by decide +kernel
theorem dX10_broken_136 : decode cX10_broken 136 = .ok (.bipush 58, 2) := by decide +kernel
theorem dX10_broken_138 : decode cX10_broken 138 = .ok (.iload_n 1, 1) := by decide +kernel
theorem dX10_broken_139 : decode cX10_broken 139 = .ok (.iadd, 1) := by decide +kernel
theorem dX10_broken_140 : decode cX10_broken 140 = .ok (.iaload, 1) := by decide +kernel
theorem dX10_broken_141 : decode cX10_broken 141 = .ok (.ireturn, 1) := by decide +kernel
theorem dX10_broken_142 : decode cX10_broken 142 = .ok (.iload 4, 2) := by decide +kernel
theorem dX10_broken_144 : decode cX10_broken 144 = .ok (.ifCond .eq 8, 3) := by decide +kernel
theorem dX10_broken_147 : decode cX10_broken 147 = .ok (.bipush (-9), 2) := by decide +kernel
theorem dX10_broken_149 : decode cX10_broken 149 = .ok (.goto 12, 3) := by decide +kernel
theorem dX10_broken_152 : decode cX10_broken 152 = .ok (.aload_n 0, 1) := by decide +kernel
theorem dX10_broken_153 : decode cX10_broken 153 = .ok (.getfield 22, 3) := by decide +kernel
theorem dX10_broken_156 : decode cX10_broken 156 = .ok (.bipush 74, 2) := by decide +kernel
theorem dX10_broken_158 : decode cX10_broken 158 = .ok (.iload_n 1, 1) := by decide +kernel
theorem dX10_broken_159 : decode cX10_broken 159 = .ok (.iadd, 1) := by decide +kernel
theorem dX10_broken_160 : decode cX10_broken 160 = .ok (.iaload, 1) := by decide +kernel
theorem dX10_broken_161 : decode cX10_broken 161 = .ok (.ireturn, 1) := by decide +kernel
theorem dX10_broken_162 : decode cX10_broken 162 = .ok (.iload_n 3, 1) := by decide +kernel
theorem dX10_broken_163 : decode cX10_broken 163 = .ok (.ifCond .eq 7, 3) := by decide +kernel
theorem dX10_broken_166 : decode cX10_broken 166 = .ok (.iconst 0, 1) := by decide +kernel
theorem dX10_broken_167 : decode cX10_broken 167 = .ok (.goto 12, 3) := by decide +kernel
theorem dX10_broken_170 : decode cX10_broken 170 = .ok (.aload_n 0, 1) := by decide +kernel
theorem dX10_broken_171 : decode cX10_broken 171 = .ok (.getfield 22, 3) := by decide +kernel
theorem dX10_broken_174 : decode cX10_broken 174 = .ok (.bipush 90, 2) := by decide +kernel
theorem dX10_broken_176 : decode cX10_broken 176 = .ok (.iload_n 1, 1) := by decide +kernel
theorem dX10_broken_177 : decode cX10_broken 177 = .ok (.iadd, 1) := by decide +kernel
theorem dX10_broken_178 : decode cX10_broken 178 = .ok (.iaload, 1) := by decide +kernel
theorem dX10_broken_179 : decode cX10_broken 179 = .ok (.ireturn, 1) := by decide +kernel
theorem dX10_broken_180 : decode cX10_broken 180 = .ok (.iload_n 3, 1) := by decide +kernel
theorem dX10_broken_181 : decode cX10_broken 181 = .ok (.ifCond .eq 7, 3) := by decide +kernel
theorem dX10_broken_184 : decode cX10_broken 184 = .ok (.iconst 0, 1) := by decide +kernel
theorem dX10_broken_185 : decode cX10_broken 185 = .ok (.goto 12, 3) := by decide +kernel
theorem dX10_broken_188 : decode cX10_broken 188 = .ok (.aload_n 0, 1) := by decide +kernel
theorem dX10_broken_189 : decode cX10_broken 189 = .ok (.getfield 22, 3) := by decide +kernel
theorem dX10_broken_192 : decode cX10_broken 192 = .ok (.bipush 106, 2) := by decide +kernel
theorem dX10_broken_194 : decode cX10_broken 194 = .ok (.iload_n 1, 1) := by decide +kernel
theorem dX10_broken_195 : decode cX10_broken 195 = .ok (.iadd, 1) := by decide +kernel
theorem dX10_broken_196 : decode cX10_broken 196 = .ok (.iaload, 1) := by decide +kernel
theorem dX10_broken_197 : decode cX10_broken 197 = .ok (.ireturn, 1) := by decide +kernel
theorem dX10_broken_198 : decode cX10_broken 198 = .ok (.bipush (-2), 2) := by decide +kernel
theorem dX10_broken_200 : decode cX10_broken 200 = .ok (.ireturn, 1) := by decide +kernel
theorem dX10_copy_0 : decode cX10_copy 0 = .ok (.iload_n 1, 1) := by decide +kernel
theorem dX10_copy_1 : decode cX10_copy 1 = .ok (.i2l, 1) := by decide +kernel
theorem dX10_copy_2 : decode cX10_copy 2 = .ok (.lconst 0, 1) := by decide +kernel
theorem dX10_copy_3 : decode cX10_copy 3 = .ok (.aload_n 0, 1) := by decide +kernel
theorem dX10_copy_4 : decode cX10_copy 4 = .ok (.getfield 22, 3) := by decide +kernel
theorem dX10_copy_7 : decode cX10_copy 7 = .ok (.bipush 122, 2) := by decide +kernel
theorem dX10_copy_9 : decode cX10_copy 9 = .ok (.iaload, 1) := by decide +kernel
theorem dX10_copy_10 : decode cX10_copy 10 = .ok (.iconst 1, 1) := by decide +kernel
theorem dX10_copy_11 : decode cX10_copy 11 = .ok (.isub, 1) := by decide +kernel
theorem dX10_copy_12 : decode cX10_copy 12 = .ok (.i2l, 1) := by decide +kernel
theorem dX10_copy_13 : decode cX10_copy 13 = .ok (.invokestatic 73, 3) := by decide +kernel
theorem dX10_copy_16 : decode cX10_copy 16 = .ok (.ifCond .eq 15, 3) := by decide +kernel
theorem dX10_copy_19 : decode cX10_copy 19 = .ok (.aload_n 0, 1) := by decide +kernel
theorem dX10_copy_20 : decode cX10_copy 20 = .ok (.getfield 22, 3) := by decide +kernel
theorem dX10_copy_23 : decode cX10_copy 23 = .ok (.bipush 123, 2) := by decide +kernel
theorem dX10_copy_25 : decode cX10_copy 25 = .ok (.iload_n 1, 1) := by decide +kernel
theorem dX10_copy_26 : decode cX10_copy 26 = .ok (.iadd, 1) := by decide +kernel
theorem dX10_copy_27 : decode cX10_copy 27 = .ok (.iaload, 1) := by decide +kernel
theorem dX10_copy_28 : decode cX10_copy 28 = .ok (.goto 5, 3) := by decide +kernel
theorem dX10_copy_31 : decode cX10_copy 31 = .ok (.bipush (-9), 2) := by decide +kernel
theorem dX10_copy_33 : decode cX10_copy 33 = .ok (.ireturn, 1) := by decide +kernel
theorem dX10_note_0 : decode cX10_note 0 = .ok (.iconst 0, 1) := by decide +kernel
theorem dX10_note_1 : decode cX10_note 1 = .ok (.istore_n 1, 1) := by decide +kernel
theorem dX10_note_2 : decode cX10_note 2 = .ok (.iload_n 1, 1) := by decide +kernel
theorem dX10_note_3 : decode cX10_note 3 = .ok (.sipush 128, 3) := by decide +kernel
theorem dX10_note_6 : decode cX10_note 6 = .ok (.if_icmp .ge 30, 3) := by decide +kernel
theorem dX10_note_9 : decode cX10_note 9 = .ok (.aload_n 0, 1) := by decide +kernel
theorem dX10_note_10 : decode cX10_note 10 = .ok (.getfield 28, 3) := by decide +kernel
theorem dX10_note_13 : decode cX10_note 13 = .ok (.sipush 128, 3) := by decide +kernel
theorem dX10_note_16 : decode cX10_note 16 = .ok (.aload_n 0, 1) := by decide +kernel
theorem dX10_note_17 : decode cX10_note 17 = .ok (.getfield 198, 3) := by decide +kernel
theorem dX10_note_20 : decode cX10_note 20 = .ok (.imul, 1) := by decide +kernel
theorem dX10_note_21 : decode cX10_note 21 = .ok (.iload_n 1, 1) := by decide +kernel
theorem dX10_note_22 : decode cX10_note 22 = .ok (.iadd, 1) := by decide +kernel
theorem dX10_note_23 : decode cX10_note 23 = .ok (.aload_n 0, 1) := by decide +kernel
theorem dX10_note_24 : decode cX10_note 24 = .ok (.getfield 22, 3) := by decide +kernel
theorem dX10_note_27 : decode cX10_note 27 = .ok (.iload_n 1, 1) := by decide +kernel
theorem dX10_note_28 : decode cX10_note 28 = .ok (.iaload, 1) := by decide +kernel
theorem dX10_note_29 : decode cX10_note 29 = .ok (.iastore, 1) := by decide +kernel
theorem dX10_note_30 : decode cX10_note 30 = .ok (.iinc 1 1, 3) := by decide +kernel
theorem dX10_note_33 : decode cX10_note 33 = .ok (.goto (-31), 3) := by decide +kernel
theorem dX10_note_36 : decode cX10_note 36 = .ok (.aload_n 0, 1) := by decide +kernel
theorem dX10_note_37 : decode cX10_note 37 = .ok (.aload_n 0, 1) := by decide +kernel
theorem dX10_note_38 : decode cX10_note 38 = .ok (.getfield 198, 3) := by decide +kernel
theorem dX10_note_41 : decode cX10_note 41 = .ok (.iconst 1, 1) := by decide +kernel
theorem dX10_note_42 : decode cX10_note 42 = .ok (.iadd, 1) := by decide +kernel
theorem dX10_note_43 : decode cX10_note 43 = .ok (.bipush 14, 2) := by decide +kernel
theorem dX10_note_45 : decode cX10_note 45 = .ok (.irem, 1) := by decide +kernel
theorem dX10_note_46 : decode cX10_note 46 = .ok (.putfield 198, 3) := by decide +kernel
theorem dX10_note_49 : decode cX10_note 49 = .ok (.aload_n 0, 1) := by decide +kernel
theorem dX10_note_50 : decode cX10_note 50 = .ok (.aload_n 0, 1) := by decide +kernel
theorem dX10_note_51 : decode cX10_note 51 = .ok (.getfield 132, 3) := by decide +kernel
theorem dX10_note_54 : decode cX10_note 54 = .ok (.bipush 14, 2) := by decide +kernel
theorem dX10_note_56 : decode cX10_note 56 = .ok (.if_icmp .ge 12, 3) := by decide +kernel
theorem dX10_note_59 : decode cX10_note 59 = .ok (.aload_n 0, 1) := by decide +kernel
theorem dX10_note_60 : decode cX10_note 60 = .ok (.getfield 132, 3) := by decide +kernel
theorem dX10_note_63 : decode cX10_note 63 = .ok (.iconst 1, 1) := by decide +kernel
theorem dX10_note_64 : decode cX10_note 64 = .ok (.iadd, 1) := by decide +kernel
theorem dX10_note_65 : decode cX10_note 65 = .ok (.goto 5, 3) := by decide +kernel
theorem dX10_note_68 : decode cX10_note 68 = .ok (.bipush 14, 2) := by decide +kernel
theorem dX10_note_70 : decode cX10_note 70 = .ok (.putfield 132, 3) := by decide +kernel
theorem dX10_note_73 : decode cX10_note 73 = .ok (.return_, 1) := by decide +kernel
theorem dX10_plan_0 : decode cX10_plan 0 = .ok (.iload_n 1, 1) := by decide +kernel
theorem dX10_plan_1 : decode cX10_plan 1 = .ok (.i2l, 1) := by decide +kernel
theorem dX10_plan_2 : decode cX10_plan 2 = .ok (.lconst 0, 1) := by decide +kernel
theorem dX10_plan_3 : decode cX10_plan 3 = .ok (.ldc2_w 107, 3) := by decide +kernel
theorem dX10_plan_6 : decode cX10_plan 6 = .ok (.invokestatic 73, 3) := by decide +kernel
theorem dX10_plan_9 : decode cX10_plan 9 = .ok (.ifCond .ne 6, 3) := by decide +kernel
theorem dX10_plan_12 : decode cX10_plan 12 = .ok (.bipush (-2), 2) := by decide +kernel
theorem dX10_plan_14 : decode cX10_plan 14 = .ok (.ireturn, 1) := by decide +kernel
theorem dX10_plan_15 : decode cX10_plan 15 = .ok (.iload_n 1, 1) := by decide +kernel
theorem dX10_plan_16 : decode cX10_plan 16 = .ok (.iconst 2, 1) := by decide +kernel
theorem dX10_plan_17 : decode cX10_plan 17 = .ok (.if_icmp .ne 16, 3) := by decide +kernel
theorem dX10_plan_20 : decode cX10_plan 20 = .ok (.aload_n 0, 1) := by decide +kernel
theorem dX10_plan_21 : decode cX10_plan 21 = .ok (.getfield 22, 3) := by decide +kernel
theorem dX10_plan_24 : decode cX10_plan 24 = .ok (.bipush 20, 2) := by decide +kernel
theorem dX10_plan_26 : decode cX10_plan 26 = .ok (.iaload, 1) := by decide +kernel
theorem dX10_plan_27 : decode cX10_plan 27 = .ok (.ifCond .ne 6, 3) := by decide +kernel
theorem dX10_plan_30 : decode cX10_plan 30 = .ok (.bipush (-3), 2) := by decide +kernel
theorem dX10_plan_32 : decode cX10_plan 32 = .ok (.ireturn, 1) := by decide +kernel
theorem dX10_plan_33 : decode cX10_plan 33 = .ok (.aload_n 0, 1) := by decide +kernel
theorem dX10_plan_34 : decode cX10_plan 34 = .ok (.invokevirtual 201, 3) := by decide +kernel
theorem dX10_plan_37 : decode cX10_plan 37 = .ok (.aload_n 0, 1) := by decide +kernel
theorem dX10_plan_38 : decode cX10_plan 38 = .ok (.aload_n 0, 1) := by decide +kernel
theorem dX10_plan_39 : decode cX10_plan 39 = .ok (.getfield 22, 3) := by decide +kernel
theorem dX10_plan_42 : decode cX10_plan 42 = .ok (.iload_n 1, 1) := by decide +kernel
theorem dX10_plan_43 : decode cX10_plan 43 = .ok (.invokevirtual 204, 3) := by decide +kernel
theorem dX10_plan_46 : decode cX10_plan 46 = .ok (.ireturn, 1) := by decide +kernel
theorem dX10_tellAt_0 : decode cX10_tellAt 0 = .ok (.aload_n 0, 1) := by decide +kernel
theorem dX10_tellAt_1 : decode cX10_tellAt 1 = .ok (.invokevirtual 201, 3) := by decide +kernel
theorem dX10_tellAt_4 : decode cX10_tellAt 4 = .ok (.aload_n 0, 1) := by decide +kernel
theorem dX10_tellAt_5 : decode cX10_tellAt 5 = .ok (.getfield 22, 3) := by decide +kernel
theorem dX10_tellAt_8 : decode cX10_tellAt 8 = .ok (.iload_n 1, 1) := by decide +kernel
theorem dX10_tellAt_9 : decode cX10_tellAt 9 = .ok (.iaload, 1) := by decide +kernel
theorem dX10_tellAt_10 : decode cX10_tellAt 10 = .ok (.istore_n 3, 1) := by decide +kernel
theorem dX10_tellAt_11 : decode cX10_tellAt 11 = .ok (.aload_n 0, 1) := by decide +kernel
theorem dX10_tellAt_12 : decode cX10_tellAt 12 = .ok (.getfield 22, 3) := by decide +kernel
theorem dX10_tellAt_15 : decode cX10_tellAt 15 = .ok (.iload_n 1, 1) := by decide +kernel
theorem dX10_tellAt_16 : decode cX10_tellAt 16 = .ok (.iload_n 2, 1) := by decide +kernel
theorem dX10_tellAt_17 : decode cX10_tellAt 17 = .ok (.iastore, 1) := by decide +kernel
theorem dX10_tellAt_18 : decode cX10_tellAt 18 = .ok (.iload_n 3, 1) := by decide +kernel
theorem dX10_tellAt_19 : decode cX10_tellAt 19 = .ok (.ireturn, 1) := by decide +kernel
theorem dX10_set_0 : decode cX10_set 0 = .ok (.iload_n 1, 1) := by decide +kernel
theorem dX10_set_1 : decode cX10_set 1 = .ok (.i2l, 1) := by decide +kernel
theorem dX10_set_2 : decode cX10_set 2 = .ok (.lconst 0, 1) := by decide +kernel
theorem dX10_set_3 : decode cX10_set 3 = .ok (.ldc2_w 208, 3) := by decide +kernel
theorem dX10_set_6 : decode cX10_set 6 = .ok (.invokestatic 73, 3) := by decide +kernel
theorem dX10_set_9 : decode cX10_set 9 = .ok (.ifCond .ne 6, 3) := by decide +kernel
theorem dX10_set_12 : decode cX10_set 12 = .ok (.bipush (-2), 2) := by decide +kernel
theorem dX10_set_14 : decode cX10_set 14 = .ok (.ireturn, 1) := by decide +kernel
theorem dX10_set_15 : decode cX10_set 15 = .ok (.iload_n 1, 1) := by decide +kernel
theorem dX10_set_16 : decode cX10_set 16 = .ok (.ifCond .ne 26, 3) := by decide +kernel
theorem dX10_set_19 : decode cX10_set 19 = .ok (.iload_n 2, 1) := by decide +kernel
theorem dX10_set_20 : decode cX10_set 20 = .ok (.i2l, 1) := by decide +kernel
theorem dX10_set_21 : decode cX10_set 21 = .ok (.lconst 0, 1) := by decide +kernel
theorem dX10_set_22 : decode cX10_set 22 = .ok (.ldc2_w 107, 3) := by decide +kernel
theorem dX10_set_25 : decode cX10_set 25 = .ok (.invokestatic 73, 3) := by decide +kernel
theorem dX10_set_28 : decode cX10_set 28 = .ok (.ifCond .eq 12, 3) := by decide +kernel
theorem dX10_set_31 : decode cX10_set 31 = .ok (.aload_n 0, 1) := by decide +kernel
theorem dX10_set_32 : decode cX10_set 32 = .ok (.iload_n 2, 1) := by decide +kernel
theorem dX10_set_33 : decode cX10_set 33 = .ok (.iload_n 3, 1) := by decide +kernel
theorem dX10_set_34 : decode cX10_set 34 = .ok (.invokevirtual 210, 3) := by decide +kernel
theorem dX10_set_37 : decode cX10_set 37 = .ok (.goto 4, 3) := by decide +kernel
theorem dX10_set_40 : decode cX10_set 40 = .ok (.iconst (-1), 1) := by decide +kernel
theorem dX10_set_41 : decode cX10_set 41 = .ok (.ireturn, 1) := by decide +kernel
theorem dX10_set_42 : decode cX10_set 42 = .ok (.iload_n 1, 1) := by decide +kernel
theorem dX10_set_43 : decode cX10_set 43 = .ok (.iconst 1, 1) := by decide +kernel
theorem dX10_set_44 : decode cX10_set 44 = .ok (.if_icmp .ne 28, 3) := by decide +kernel
theorem dX10_set_47 : decode cX10_set 47 = .ok (.iload_n 2, 1) := by decide +kernel
theorem dX10_set_48 : decode cX10_set 48 = .ok (.i2l, 1) := by decide +kernel
theorem dX10_set_49 : decode cX10_set 49 = .ok (.lconst 0, 1) := by decide +kernel
theorem dX10_set_50 : decode cX10_set 50 = .ok (.ldc2_w 120, 3) := by decide +kernel
theorem dX10_set_53 : decode cX10_set 53 = .ok (.invokestatic 73, 3) := by decide +kernel
theorem dX10_set_56 : decode cX10_set 56 = .ok (.ifCond .eq 14, 3) := by decide +kernel
theorem dX10_set_59 : decode cX10_set 59 = .ok (.aload_n 0, 1) := by decide +kernel
theorem dX10_set_60 : decode cX10_set 60 = .ok (.iconst 4, 1) := by decide +kernel
theorem dX10_set_61 : decode cX10_set 61 = .ok (.iload_n 2, 1) := by decide +kernel
theorem dX10_set_62 : decode cX10_set 62 = .ok (.iadd, 1) := by decide +kernel
theorem dX10_set_63 : decode cX10_set 63 = .ok (.iload_n 3, 1) := by decide +kernel
theorem dX10_set_64 : decode cX10_set 64 = .ok (.invokevirtual 210, 3) := by decide +kernel
theorem dX10_set_67 : decode cX10_set 67 = .ok (.goto 4, 3) := by decide +kernel
theorem dX10_set_70 : decode cX10_set 70 = .ok (.iconst (-1), 1) := by decide +kernel
theorem dX10_set_71 : decode cX10_set 71 = .ok (.ireturn, 1) := by decide +kernel
theorem dX10_set_72 : decode cX10_set 72 = .ok (.iload_n 2, 1) := by decide +kernel
theorem dX10_set_73 : decode cX10_set 73 = .ok (.ifCond .ne 11, 3) := by decide +kernel
theorem dX10_set_76 : decode cX10_set 76 = .ok (.aload_n 0, 1) := by decide +kernel
theorem dX10_set_77 : decode cX10_set 77 = .ok (.iload_n 3, 1) := by decide +kernel
theorem dX10_set_78 : decode cX10_set 78 = .ok (.invokevirtual 135, 3) := by decide +kernel
theorem dX10_set_81 : decode cX10_set 81 = .ok (.ifCond .ne 5, 3) := by decide +kernel
theorem dX10_set_84 : decode cX10_set 84 = .ok (.iconst (-1), 1) := by decide +kernel
theorem dX10_set_85 : decode cX10_set 85 = .ok (.ireturn, 1) := by decide +kernel
theorem dX10_set_86 : decode cX10_set 86 = .ok (.aload_n 0, 1) := by decide +kernel
theorem dX10_set_87 : decode cX10_set 87 = .ok (.bipush 21, 2) := by decide +kernel
theorem dX10_set_89 : decode cX10_set 89 = .ok (.iload_n 3, 1) := by decide +kernel
theorem dX10_set_90 : decode cX10_set 90 = .ok (.invokevirtual 210, 3) := by decide +kernel
theorem dX10_set_93 : decode cX10_set 93 = .ok (.istore 4, 2) := by decide +kernel
theorem dX10_set_95 : decode cX10_set 95 = .ok (.aload_n 0, 1) := by decide +kernel
theorem dX10_set_96 : decode cX10_set 96 = .ok (.getfield 22, 3) := by decide +kernel
theorem dX10_set_99 : decode cX10_set 99 = .ok (.bipush 22, 2) := by decide +kernel
theorem dX10_set_101 : decode cX10_set 101 = .ok (.iconst 0, 1) := by decide +kernel
theorem dX10_set_102 : decode cX10_set 102 = .ok (.iastore, 1) := by decide +kernel
theorem dX10_set_103 : decode cX10_set 103 = .ok (.iload 4, 2) := by decide +kernel
theorem dX10_set_105 : decode cX10_set 105 = .ok (.ireturn, 1) := by decide +kernel
theorem dX10_breakOn_0 : decode cX10_breakOn 0 = .ok (.aload_n 0, 1) := by decide +kernel
theorem dX10_breakOn_1 : decode cX10_breakOn 1 = .ok (.bipush 106, 2) := by decide +kernel
theorem dX10_breakOn_3 : decode cX10_breakOn 3 = .ok (.iload_n 1, 1) := by decide +kernel
theorem dX10_breakOn_4 : decode cX10_breakOn 4 = .ok (.iadd, 1) := by decide +kernel
theorem dX10_breakOn_5 : decode cX10_breakOn 5 = .ok (.aload_n 0, 1) := by decide +kernel
theorem dX10_breakOn_6 : decode cX10_breakOn 6 = .ok (.bipush 26, 2) := by decide +kernel
theorem dX10_breakOn_8 : decode cX10_breakOn 8 = .ok (.iload_n 1, 1) := by decide +kernel
theorem dX10_breakOn_9 : decode cX10_breakOn 9 = .ok (.iadd, 1) := by decide +kernel
theorem dX10_breakOn_10 : decode cX10_breakOn 10 = .ok (.iaload, 1) := by decide +kernel
theorem dX10_breakOn_11 : decode cX10_breakOn 11 = .ok (.ifCond .le 12, 3) := by decide +kernel
theorem dX10_breakOn_14 : decode cX10_breakOn 14 = .ok (.aload_n 0, 1) := by decide +kernel
theorem dX10_breakOn_15 : decode cX10_breakOn 15 = .ok (.bipush 106, 2) := by decide +kernel
theorem dX10_breakOn_17 : decode cX10_breakOn 17 = .ok (.iload_n 1, 1) := by decide +kernel
theorem dX10_breakOn_18 : decode cX10_breakOn 18 = .ok (.iadd, 1) := by decide +kernel
theorem dX10_breakOn_19 : decode cX10_breakOn 19 = .ok (.iaload, 1) := by decide +kernel
theorem dX10_breakOn_20 : decode cX10_breakOn 20 = .ok (.goto 4, 3) := by decide +kernel
theorem dX10_breakOn_23 : decode cX10_breakOn 23 = .ok (.iconst 0, 1) := by decide +kernel
theorem dX10_breakOn_24 : decode cX10_breakOn 24 = .ok (.iastore, 1) := by decide +kernel
theorem dX10_breakOn_25 : decode cX10_breakOn 25 = .ok (.aload_n 0, 1) := by decide +kernel
theorem dX10_breakOn_26 : decode cX10_breakOn 26 = .ok (.bipush 26, 2) := by decide +kernel
theorem dX10_breakOn_28 : decode cX10_breakOn 28 = .ok (.iload_n 1, 1) := by decide +kernel
theorem dX10_breakOn_29 : decode cX10_breakOn 29 = .ok (.iadd, 1) := by decide +kernel
theorem dX10_breakOn_30 : decode cX10_breakOn 30 = .ok (.dup2, 1) := by decide +kernel
theorem dX10_breakOn_31 : decode cX10_breakOn 31 = .ok (.iaload, 1) := by decide +kernel
theorem dX10_breakOn_32 : decode cX10_breakOn 32 = .ok (.iconst 1, 1) := by decide +kernel
theorem dX10_breakOn_33 : decode cX10_breakOn 33 = .ok (.iadd, 1) := by decide +kernel
theorem dX10_breakOn_34 : decode cX10_breakOn 34 = .ok (.iastore, 1) := by decide +kernel
theorem dX10_breakOn_35 : decode cX10_breakOn 35 = .ok (.aload_n 0, 1) := by decide +kernel
theorem dX10_breakOn_36 : decode cX10_breakOn 36 = .ok (.bipush 42, 2) := by decide +kernel
theorem dX10_breakOn_38 : decode cX10_breakOn 38 = .ok (.iload_n 1, 1) := by decide +kernel
theorem dX10_breakOn_39 : decode cX10_breakOn 39 = .ok (.iadd, 1) := by decide +kernel
theorem dX10_breakOn_40 : decode cX10_breakOn 40 = .ok (.iload_n 2, 1) := by decide +kernel
theorem dX10_breakOn_41 : decode cX10_breakOn 41 = .ok (.iastore, 1) := by decide +kernel
theorem dX10_breakOn_42 : decode cX10_breakOn 42 = .ok (.aload_n 0, 1) := by decide +kernel
theorem dX10_breakOn_43 : decode cX10_breakOn 43 = .ok (.bipush 58, 2) := by decide +kernel
theorem dX10_breakOn_45 : decode cX10_breakOn 45 = .ok (.iload_n 1, 1) := by decide +kernel
theorem dX10_breakOn_46 : decode cX10_breakOn 46 = .ok (.iadd, 1) := by decide +kernel
theorem dX10_breakOn_47 : decode cX10_breakOn 47 = .ok (.iload_n 3, 1) := by decide +kernel
theorem dX10_breakOn_48 : decode cX10_breakOn 48 = .ok (.iastore, 1) := by decide +kernel
theorem dX10_breakOn_49 : decode cX10_breakOn 49 = .ok (.aload_n 0, 1) := by decide +kernel
theorem dX10_breakOn_50 : decode cX10_breakOn 50 = .ok (.bipush 74, 2) := by decide +kernel
theorem dX10_breakOn_52 : decode cX10_breakOn 52 = .ok (.iload_n 1, 1) := by decide +kernel
theorem dX10_breakOn_53 : decode cX10_breakOn 53 = .ok (.iadd, 1) := by decide +kernel
theorem dX10_breakOn_54 : decode cX10_breakOn 54 = .ok (.iload 4, 2) := by decide +kernel
theorem dX10_breakOn_56 : decode cX10_breakOn 56 = .ok (.iastore, 1) := by decide +kernel
theorem dX10_breakOn_57 : decode cX10_breakOn 57 = .ok (.aload_n 0, 1) := by decide +kernel
theorem dX10_breakOn_58 : decode cX10_breakOn 58 = .ok (.bipush 90, 2) := by decide +kernel
theorem dX10_breakOn_60 : decode cX10_breakOn 60 = .ok (.iload_n 1, 1) := by decide +kernel
theorem dX10_breakOn_61 : decode cX10_breakOn 61 = .ok (.iadd, 1) := by decide +kernel
theorem dX10_breakOn_62 : decode cX10_breakOn 62 = .ok (.iload 5, 2) := by decide +kernel
theorem dX10_breakOn_64 : decode cX10_breakOn 64 = .ok (.iastore, 1) := by decide +kernel
theorem dX10_breakOn_65 : decode cX10_breakOn 65 = .ok (.return_, 1) := by decide +kernel
theorem dX10_smash_0 : decode cX10_smash 0 = .ok (.aload_n 0, 1) := by decide +kernel
theorem dX10_smash_1 : decode cX10_smash 1 = .ok (.iload_n 1, 1) := by decide +kernel
theorem dX10_smash_2 : decode cX10_smash 2 = .ok (.invokevirtual 135, 3) := by decide +kernel
theorem dX10_smash_5 : decode cX10_smash 5 = .ok (.ifCond .ne 5, 3) := by decide +kernel
theorem dX10_smash_8 : decode cX10_smash 8 = .ok (.iconst (-1), 1) := by decide +kernel
theorem dX10_smash_9 : decode cX10_smash 9 = .ok (.ireturn, 1) := by decide +kernel
theorem dX10_smash_10 : decode cX10_smash 10 = .ok (.iload_n 2, 1) := by decide +kernel
theorem dX10_smash_11 : decode cX10_smash 11 = .ok (.i2l, 1) := by decide +kernel
theorem dX10_smash_12 : decode cX10_smash 12 = .ok (.lconst 0, 1) := by decide +kernel
theorem dX10_smash_13 : decode cX10_smash 13 = .ok (.ldc2_w 107, 3) := by decide +kernel
theorem dX10_smash_16 : decode cX10_smash 16 = .ok (.invokestatic 73, 3) := by decide +kernel
theorem dX10_smash_19 : decode cX10_smash 19 = .ok (.ifCond .eq 32, 3) := by decide +kernel
theorem dX10_smash_22 : decode cX10_smash 22 = .ok (.iload_n 3, 1) := by decide +kernel
theorem dX10_smash_23 : decode cX10_smash 23 = .ok (.i2l, 1) := by decide +kernel
theorem dX10_smash_24 : decode cX10_smash 24 = .ok (.lconst 0, 1) := by decide +kernel
theorem dX10_smash_25 : decode cX10_smash 25 = .ok (.ldc2_w 208, 3) := by decide +kernel
theorem dX10_smash_28 : decode cX10_smash 28 = .ok (.invokestatic 73, 3) := by decide +kernel
theorem dX10_smash_31 : decode cX10_smash 31 = .ok (.ifCond .eq 20, 3) := by decide +kernel
theorem dX10_smash_34 : decode cX10_smash 34 = .ok (.iload 4, 2) := by decide +kernel
theorem dX10_smash_36 : decode cX10_smash 36 = .ok (.i2l, 1) := by decide +kernel
theorem dX10_smash_37 : decode cX10_smash 37 = .ok (.lconst 0, 1) := by decide +kernel
theorem dX10_smash_38 : decode cX10_smash 38 = .ok (.ldc2_w 103, 3) := by decide +kernel
theorem dX10_smash_41 : decode cX10_smash 41 = .ok (.invokestatic 73, 3) := by decide +kernel
theorem dX10_smash_44 : decode cX10_smash 44 = .ok (.ifCond .eq 7, 3) := by decide +kernel
theorem dX10_smash_47 : decode cX10_smash 47 = .ok (.iconst 1, 1) := by decide +kernel
theorem dX10_smash_48 : decode cX10_smash 48 = .ok (.goto 4, 3) := by decide +kernel
theorem dX10_smash_51 : decode cX10_smash 51 = .ok (.iconst 0, 1) := by decide +kernel
theorem dX10_smash_52 : decode cX10_smash 52 = .ok (.istore 6, 2) := by decide +kernel
theorem dX10_smash_54 : decode cX10_smash 54 = .ok (.iload_n 2, 1) := by decide +kernel
theorem dX10_smash_55 : decode cX10_smash 55 = .ok (.bipush (-9), 2) := by decide +kernel
theorem dX10_smash_57 : decode cX10_smash 57 = .ok (.if_icmp .eq 8, 3) := by decide +kernel
theorem dX10_smash_60 : decode cX10_smash 60 = .ok (.iload 6, 2) := by decide +kernel
theorem dX10_smash_62 : decode cX10_smash 62 = .ok (.ifCond .eq 16, 3) := by decide +kernel
theorem dX10_smash_65 : decode cX10_smash 65 = .ok (.iload 5, 2) := by decide +kernel
theorem dX10_smash_67 : decode cX10_smash 67 = .ok (.i2l, 1) := by decide +kernel
theorem dX10_smash_68 : decode cX10_smash 68 = .ok (.lconst 0, 1) := by decide +kernel
theorem dX10_smash_69 : decode cX10_smash 69 = .ok (.ldc2_w 103, 3) := by decide +kernel
theorem dX10_smash_72 : decode cX10_smash 72 = .ok (.invokestatic 73, 3) := by decide +kernel
theorem dX10_smash_75 : decode cX10_smash 75 = .ok (.ifCond .ne 6, 3) := by decide +kernel
theorem dX10_smash_78 : decode cX10_smash 78 = .ok (.bipush (-2), 2) := by decide +kernel
theorem dX10_smash_80 : decode cX10_smash 80 = .ok (.ireturn, 1) := by decide +kernel
theorem dX10_smash_81 : decode cX10_smash 81 = .ok (.aload_n 0, 1) := by decide +kernel
theorem dX10_smash_82 : decode cX10_smash 82 = .ok (.getfield 22, 3) := by decide +kernel
theorem dX10_smash_85 : decode cX10_smash 85 = .ok (.bipush 26, 2) := by decide +kernel
theorem dX10_smash_87 : decode cX10_smash 87 = .ok (.iload_n 1, 1) := by decide +kernel
theorem dX10_smash_88 : decode cX10_smash 88 = .ok (.iadd, 1) := by decide +kernel
theorem dX10_smash_89 : decode cX10_smash 89 = .ok (.iaload, 1) := by decide +kernel
theorem dX10_smash_90 : decode cX10_smash 90 = .ok (.iconst 3, 1) := by decide +kernel
theorem dX10_smash_91 : decode cX10_smash 91 = .ok (.if_icmp .ne 6, 3) := by decide +kernel
theorem dX10_smash_94 : decode cX10_smash 94 = .ok (.bipush (-4), 2) := by decide +kernel
theorem dX10_smash_96 : decode cX10_smash 96 = .ok (.ireturn, 1) := by decide +kernel
theorem dX10_smash_97 : decode cX10_smash 97 = .ok (.aload_n 0, 1) := by decide +kernel
theorem dX10_smash_98 : decode cX10_smash 98 = .ok (.invokevirtual 201, 3) := by decide +kernel
theorem dX10_smash_101 : decode cX10_smash 101 = .ok (.aload_n 0, 1) := by decide +kernel
theorem dX10_smash_102 : decode cX10_smash 102 = .ok (.getfield 22, 3) := by decide +kernel
theorem dX10_smash_105 : decode cX10_smash 105 = .ok (.iload_n 1, 1) := by decide +kernel
theorem dX10_smash_106 : decode cX10_smash 106 = .ok (.iload_n 2, 1) := by decide +kernel
theorem dX10_smash_107 : decode cX10_smash 107 = .ok (.iload_n 3, 1) := by decide +kernel
theorem dX10_smash_108 : decode cX10_smash 108 = .ok (.iload 4, 2) := by decide +kernel
theorem dX10_smash_110 : decode cX10_smash 110 = .ok (.iload 5, 2) := by decide +kernel
theorem dX10_smash_112 : decode cX10_smash 112 = .ok (.invokestatic 214, 3) := by decide +kernel
theorem dX10_smash_115 : decode cX10_smash 115 = .ok (.aload_n 0, 1) := by decide +kernel
theorem dX10_smash_116 : decode cX10_smash 116 = .ok (.getfield 22, 3) := by decide +kernel
theorem dX10_smash_119 : decode cX10_smash 119 = .ok (.bipush 26, 2) := by decide +kernel
theorem dX10_smash_121 : decode cX10_smash 121 = .ok (.iload_n 1, 1) := by decide +kernel
theorem dX10_smash_122 : decode cX10_smash 122 = .ok (.iadd, 1) := by decide +kernel
theorem dX10_smash_123 : decode cX10_smash 123 = .ok (.iaload, 1) := by decide +kernel
theorem dX10_smash_124 : decode cX10_smash 124 = .ok (.ireturn, 1) := by decide +kernel
theorem dX10_lift_0 : decode cX10_lift 0 = .ok (.aload_n 0, 1) := by decide +kernel
theorem dX10_lift_1 : decode cX10_lift 1 = .ok (.iload_n 1, 1) := by decide +kernel
theorem dX10_lift_2 : decode cX10_lift 2 = .ok (.invokevirtual 135, 3) := by decide +kernel
theorem dX10_lift_5 : decode cX10_lift 5 = .ok (.ifCond .ne 5, 3) := by decide +kernel
theorem dX10_lift_8 : decode cX10_lift 8 = .ok (.iconst (-1), 1) := by decide +kernel
theorem dX10_lift_9 : decode cX10_lift 9 = .ok (.ireturn, 1) := by decide +kernel
theorem dX10_lift_10 : decode cX10_lift 10 = .ok (.aload_n 0, 1) := by decide +kernel
theorem dX10_lift_11 : decode cX10_lift 11 = .ok (.getfield 22, 3) := by decide +kernel
theorem dX10_lift_14 : decode cX10_lift 14 = .ok (.bipush 26, 2) := by decide +kernel
theorem dX10_lift_16 : decode cX10_lift 16 = .ok (.iload_n 1, 1) := by decide +kernel
theorem dX10_lift_17 : decode cX10_lift 17 = .ok (.iadd, 1) := by decide +kernel
theorem dX10_lift_18 : decode cX10_lift 18 = .ok (.iaload, 1) := by decide +kernel
theorem dX10_lift_19 : decode cX10_lift 19 = .ok (.ifCond .ne 6, 3) := by decide +kernel
theorem dX10_lift_22 : decode cX10_lift 22 = .ok (.bipush (-3), 2) := by decide +kernel
theorem dX10_lift_24 : decode cX10_lift 24 = .ok (.ireturn, 1) := by decide +kernel
theorem dX10_lift_25 : decode cX10_lift 25 = .ok (.aload_n 0, 1) := by decide +kernel
theorem dX10_lift_26 : decode cX10_lift 26 = .ok (.invokevirtual 201, 3) := by decide +kernel
theorem dX10_lift_29 : decode cX10_lift 29 = .ok (.aload_n 0, 1) := by decide +kernel
theorem dX10_lift_30 : decode cX10_lift 30 = .ok (.getfield 22, 3) := by decide +kernel
theorem dX10_lift_33 : decode cX10_lift 33 = .ok (.bipush 26, 2) := by decide +kernel
theorem dX10_lift_35 : decode cX10_lift 35 = .ok (.iload_n 1, 1) := by decide +kernel
theorem dX10_lift_36 : decode cX10_lift 36 = .ok (.iadd, 1) := by decide +kernel
theorem dX10_lift_37 : decode cX10_lift 37 = .ok (.dup2, 1) := by decide +kernel
theorem dX10_lift_38 : decode cX10_lift 38 = .ok (.iaload, 1) := by decide +kernel
theorem dX10_lift_39 : decode cX10_lift 39 = .ok (.iconst 1, 1) := by decide +kernel
theorem dX10_lift_40 : decode cX10_lift 40 = .ok (.isub, 1) := by decide +kernel
theorem dX10_lift_41 : decode cX10_lift 41 = .ok (.iastore, 1) := by decide +kernel
theorem dX10_lift_42 : decode cX10_lift 42 = .ok (.aload_n 0, 1) := by decide +kernel
theorem dX10_lift_43 : decode cX10_lift 43 = .ok (.getfield 22, 3) := by decide +kernel
theorem dX10_lift_46 : decode cX10_lift 46 = .ok (.bipush 26, 2) := by decide +kernel
theorem dX10_lift_48 : decode cX10_lift 48 = .ok (.iload_n 1, 1) := by decide +kernel
theorem dX10_lift_49 : decode cX10_lift 49 = .ok (.iadd, 1) := by decide +kernel
theorem dX10_lift_50 : decode cX10_lift 50 = .ok (.iaload, 1) := by decide +kernel
theorem dX10_lift_51 : decode cX10_lift 51 = .ok (.ireturn, 1) := by decide +kernel
theorem dX10_watch_0 : decode cX10_watch 0 = .ok (.iload_n 1, 1) := by decide +kernel
theorem dX10_watch_1 : decode cX10_watch 1 = .ok (.i2l, 1) := by decide +kernel
theorem dX10_watch_2 : decode cX10_watch 2 = .ok (.lconst 0, 1) := by decide +kernel
theorem dX10_watch_3 : decode cX10_watch 3 = .ok (.ldc2_w 120, 3) := by decide +kernel
theorem dX10_watch_6 : decode cX10_watch 6 = .ok (.invokestatic 73, 3) := by decide +kernel
theorem dX10_watch_9 : decode cX10_watch 9 = .ok (.ifCond .ne 5, 3) := by decide +kernel
theorem dX10_watch_12 : decode cX10_watch 12 = .ok (.iconst (-1), 1) := by decide +kernel
theorem dX10_watch_13 : decode cX10_watch 13 = .ok (.ireturn, 1) := by decide +kernel
theorem dX10_watch_14 : decode cX10_watch 14 = .ok (.aload_n 0, 1) := by decide +kernel
theorem dX10_watch_15 : decode cX10_watch 15 = .ok (.invokevirtual 201, 3) := by decide +kernel
theorem dX10_watch_18 : decode cX10_watch 18 = .ok (.aload_n 0, 1) := by decide +kernel
theorem dX10_watch_19 : decode cX10_watch 19 = .ok (.getfield 22, 3) := by decide +kernel
theorem dX10_watch_22 : decode cX10_watch 22 = .ok (.bipush 25, 2) := by decide +kernel
theorem dX10_watch_24 : decode cX10_watch 24 = .ok (.dup2, 1) := by decide +kernel
theorem dX10_watch_25 : decode cX10_watch 25 = .ok (.iaload, 1) := by decide +kernel
theorem dX10_watch_26 : decode cX10_watch 26 = .ok (.iconst 1, 1) := by decide +kernel
theorem dX10_watch_27 : decode cX10_watch 27 = .ok (.iload_n 1, 1) := by decide +kernel
theorem dX10_watch_28 : decode cX10_watch 28 = .ok (.ishl, 1) := by decide +kernel
theorem dX10_watch_29 : decode cX10_watch 29 = .ok (.ixor, 1) := by decide +kernel
theorem dX10_watch_30 : decode cX10_watch 30 = .ok (.iastore, 1) := by decide +kernel
theorem dX10_watch_31 : decode cX10_watch 31 = .ok (.aload_n 0, 1) := by decide +kernel
theorem dX10_watch_32 : decode cX10_watch 32 = .ok (.getfield 22, 3) := by decide +kernel
theorem dX10_watch_35 : decode cX10_watch 35 = .ok (.bipush 25, 2) := by decide +kernel
theorem dX10_watch_37 : decode cX10_watch 37 = .ok (.iaload, 1) := by decide +kernel
theorem dX10_watch_38 : decode cX10_watch 38 = .ok (.iload_n 1, 1) := by decide +kernel
theorem dX10_watch_39 : decode cX10_watch 39 = .ok (.ishr, 1) := by decide +kernel
theorem dX10_watch_40 : decode cX10_watch 40 = .ok (.iconst 1, 1) := by decide +kernel
theorem dX10_watch_41 : decode cX10_watch 41 = .ok (.iand, 1) := by decide +kernel
theorem dX10_watch_42 : decode cX10_watch 42 = .ok (.ireturn, 1) := by decide +kernel
theorem dX10_undo_0 : decode cX10_undo 0 = .ok (.aload_n 0, 1) := by decide +kernel
theorem dX10_undo_1 : decode cX10_undo 1 = .ok (.getfield 132, 3) := by decide +kernel
theorem dX10_undo_4 : decode cX10_undo 4 = .ok (.ifCond .ne 6, 3) := by decide +kernel
theorem dX10_undo_7 : decode cX10_undo 7 = .ok (.bipush (-3), 2) := by decide +kernel
theorem dX10_undo_9 : decode cX10_undo 9 = .ok (.ireturn, 1) := by decide +kernel
theorem dX10_undo_10 : decode cX10_undo 10 = .ok (.aload_n 0, 1) := by decide +kernel
theorem dX10_undo_11 : decode cX10_undo 11 = .ok (.dup, 1) := by decide +kernel
theorem dX10_undo_12 : decode cX10_undo 12 = .ok (.getfield 132, 3) := by decide +kernel
theorem dX10_undo_15 : decode cX10_undo 15 = .ok (.iconst 1, 1) := by decide +kernel
theorem dX10_undo_16 : decode cX10_undo 16 = .ok (.isub, 1) := by decide +kernel
theorem dX10_undo_17 : decode cX10_undo 17 = .ok (.putfield 132, 3) := by decide +kernel
theorem dX10_undo_20 : decode cX10_undo 20 = .ok (.aload_n 0, 1) := by decide +kernel
theorem dX10_undo_21 : decode cX10_undo 21 = .ok (.aload_n 0, 1) := by decide +kernel
theorem dX10_undo_22 : decode cX10_undo 22 = .ok (.getfield 198, 3) := by decide +kernel
theorem dX10_undo_25 : decode cX10_undo 25 = .ok (.bipush 14, 2) := by decide +kernel
theorem dX10_undo_27 : decode cX10_undo 27 = .ok (.iadd, 1) := by decide +kernel
theorem dX10_undo_28 : decode cX10_undo 28 = .ok (.iconst 1, 1) := by decide +kernel
theorem dX10_undo_29 : decode cX10_undo 29 = .ok (.isub, 1) := by decide +kernel
theorem dX10_undo_30 : decode cX10_undo 30 = .ok (.bipush 14, 2) := by decide +kernel
theorem dX10_undo_32 : decode cX10_undo 32 = .ok (.irem, 1) := by decide +kernel
theorem dX10_undo_33 : decode cX10_undo 33 = .ok (.putfield 198, 3) := by decide +kernel
theorem dX10_undo_36 : decode cX10_undo 36 = .ok (.iconst 0, 1) := by decide +kernel
theorem dX10_undo_37 : decode cX10_undo 37 = .ok (.istore_n 1, 1) := by decide +kernel
theorem dX10_undo_38 : decode cX10_undo 38 = .ok (.iload_n 1, 1) := by decide +kernel
theorem dX10_undo_39 : decode cX10_undo 39 = .ok (.sipush 128, 3) := by decide +kernel
theorem dX10_undo_42 : decode cX10_undo 42 = .ok (.if_icmp .ge 30, 3) := by decide +kernel
theorem dX10_undo_45 : decode cX10_undo 45 = .ok (.aload_n 0, 1) := by decide +kernel
theorem dX10_undo_46 : decode cX10_undo 46 = .ok (.getfield 22, 3) := by decide +kernel
theorem dX10_undo_49 : decode cX10_undo 49 = .ok (.iload_n 1, 1) := by decide +kernel
theorem dX10_undo_50 : decode cX10_undo 50 = .ok (.aload_n 0, 1) := by decide +kernel
theorem dX10_undo_51 : decode cX10_undo 51 = .ok (.getfield 28, 3) := by decide +kernel
theorem dX10_undo_54 : decode cX10_undo 54 = .ok (.sipush 128, 3) := by decide +kernel
theorem dX10_undo_57 : decode cX10_undo 57 = .ok (.aload_n 0, 1) := by decide +kernel
theorem dX10_undo_58 : decode cX10_undo 58 = .ok (.getfield 198, 3) := by decide +kernel
theorem dX10_undo_61 : decode cX10_undo 61 = .ok (.imul, 1) := by decide +kernel
theorem dX10_undo_62 : decode cX10_undo 62 = .ok (.iload_n 1, 1) := by decide +kernel
theorem dX10_undo_63 : decode cX10_undo 63 = .ok (.iadd, 1) := by decide +kernel
theorem dX10_undo_64 : decode cX10_undo 64 = .ok (.iaload, 1) := by decide +kernel
theorem dX10_undo_65 : decode cX10_undo 65 = .ok (.iastore, 1) := by decide +kernel
theorem dX10_undo_66 : decode cX10_undo 66 = .ok (.iinc 1 1, 3) := by decide +kernel
theorem dX10_undo_69 : decode cX10_undo 69 = .ok (.goto (-31), 3) := by decide +kernel
theorem dX10_undo_72 : decode cX10_undo 72 = .ok (.aload_n 0, 1) := by decide +kernel
theorem dX10_undo_73 : decode cX10_undo 73 = .ok (.getfield 132, 3) := by decide +kernel
theorem dX10_undo_76 : decode cX10_undo 76 = .ok (.ireturn, 1) := by decide +kernel
theorem dX10_aside_0 : decode cX10_aside 0 = .ok (.aload_n 0, 1) := by decide +kernel
theorem dX10_aside_1 : decode cX10_aside 1 = .ok (.iload_n 1, 1) := by decide +kernel
theorem dX10_aside_2 : decode cX10_aside 2 = .ok (.invokevirtual 135, 3) := by decide +kernel
theorem dX10_aside_5 : decode cX10_aside 5 = .ok (.ifCond .ne 5, 3) := by decide +kernel
theorem dX10_aside_8 : decode cX10_aside 8 = .ok (.iconst (-1), 1) := by decide +kernel
theorem dX10_aside_9 : decode cX10_aside 9 = .ok (.ireturn, 1) := by decide +kernel
theorem dX10_aside_10 : decode cX10_aside 10 = .ok (.aload_n 0, 1) := by decide +kernel
theorem dX10_aside_11 : decode cX10_aside 11 = .ok (.getfield 13, 3) := by decide +kernel
theorem dX10_aside_14 : decode cX10_aside 14 = .ok (.iload_n 1, 1) := by decide +kernel
theorem dX10_aside_15 : decode cX10_aside 15 = .ok (.iaload, 1) := by decide +kernel
theorem dX10_aside_16 : decode cX10_aside 16 = .ok (.istore_n 3, 1) := by decide +kernel
theorem dX10_aside_17 : decode cX10_aside 17 = .ok (.aload_n 0, 1) := by decide +kernel
theorem dX10_aside_18 : decode cX10_aside 18 = .ok (.getfield 22, 3) := by decide +kernel
theorem dX10_aside_21 : decode cX10_aside 21 = .ok (.aload_n 0, 1) := by decide +kernel
theorem dX10_aside_22 : decode cX10_aside 22 = .ok (.getfield 25, 3) := by decide +kernel
theorem dX10_aside_25 : decode cX10_aside 25 = .ok (.invokestatic 218, 3) := by decide +kernel
theorem dX10_aside_28 : decode cX10_aside 28 = .ok (.aload_n 0, 1) := by decide +kernel
theorem dX10_aside_29 : decode cX10_aside 29 = .ok (.aload_n 0, 1) := by decide +kernel
theorem dX10_aside_30 : decode cX10_aside 30 = .ok (.getfield 25, 3) := by decide +kernel
theorem dX10_aside_33 : decode cX10_aside 33 = .ok (.iload_n 1, 1) := by decide +kernel
theorem dX10_aside_34 : decode cX10_aside 34 = .ok (.invokevirtual 138, 3) := by decide +kernel
theorem dX10_aside_37 : decode cX10_aside 37 = .ok (.istore 4, 2) := by decide +kernel
theorem dX10_aside_39 : decode cX10_aside 39 = .ok (.iload_n 2, 1) := by decide +kernel
theorem dX10_aside_40 : decode cX10_aside 40 = .ok (.tableswitch 125 0 3 #[32, 54, 73, 87], 32) := by decide +kernel
theorem dX10_aside_72 : decode cX10_aside 72 = .ok (.iload 4, 2) := by decide +kernel
theorem dX10_aside_74 : decode cX10_aside 74 = .ok (.ifCond .eq 8, 3) := by decide +kernel
theorem dX10_aside_77 : decode cX10_aside 77 = .ok (.bipush (-9), 2) := by decide +kernel
theorem dX10_aside_79 : decode cX10_aside 79 = .ok (.goto 14, 3) := by decide +kernel
theorem dX10_aside_82 : decode cX10_aside 82 = .ok (.aload_n 0, 1) := by decide +kernel
theorem dX10_aside_83 : decode cX10_aside 83 = .ok (.aload_n 0, 1) := by decide +kernel
theorem dX10_aside_84 : decode cX10_aside 84 = .ok (.getfield 25, 3) := by decide +kernel
theorem dX10_aside_87 : decode cX10_aside 87 = .ok (.iload_n 1, 1) := by decide +kernel
theorem dX10_aside_88 : decode cX10_aside 88 = .ok (.bipush 20, 2) := by decide +kernel
theorem dX10_aside_90 : decode cX10_aside 90 = .ok (.invokevirtual 142, 3) := by decide +kernel
theorem dX10_aside_93 : decode cX10_aside 93 = .ok (.ireturn, 1) := by decide +kernel
theorem dX10_aside_94 : decode cX10_aside 94 = .ok (.iload_n 3, 1) := by decide +kernel
theorem dX10_aside_95 : decode cX10_aside 95 = .ok (.bipush 7, 2) := by decide +kernel
theorem dX10_aside_97 : decode cX10_aside 97 = .ok (.if_icmp .ne 13, 3) := by decide +kernel
theorem dX10_aside_100 : decode cX10_aside 100 = .ok (.iload 4, 2) := by decide +kernel
theorem dX10_aside_102 : decode cX10_aside 102 = .ok (.ifCond .ne 8, 3) := by decide +kernel
theorem dX10_aside_105 : decode cX10_aside 105 = .ok (.bipush 21, 2) := by decide +kernel
theorem dX10_aside_107 : decode cX10_aside 107 = .ok (.goto 5, 3) := by decide +kernel
theorem dX10_aside_110 : decode cX10_aside 110 = .ok (.bipush (-9), 2) := by decide +kernel
theorem dX10_aside_112 : decode cX10_aside 112 = .ok (.ireturn, 1) := by decide +kernel
theorem dX10_aside_113 : decode cX10_aside 113 = .ok (.iload_n 3, 1) := by decide +kernel
theorem dX10_aside_114 : decode cX10_aside 114 = .ok (.bipush 9, 2) := by decide +kernel
theorem dX10_aside_116 : decode cX10_aside 116 = .ok (.if_icmp .ne 8, 3) := by decide +kernel
theorem dX10_aside_119 : decode cX10_aside 119 = .ok (.bipush 21, 2) := by decide +kernel
theorem dX10_aside_121 : decode cX10_aside 121 = .ok (.goto 5, 3) := by decide +kernel
theorem dX10_aside_124 : decode cX10_aside 124 = .ok (.bipush (-9), 2) := by decide +kernel
theorem dX10_aside_126 : decode cX10_aside 126 = .ok (.ireturn, 1) := by decide +kernel
theorem dX10_aside_127 : decode cX10_aside 127 = .ok (.iload_n 3, 1) := by decide +kernel
theorem dX10_aside_128 : decode cX10_aside 128 = .ok (.bipush 7, 2) := by decide +kernel
theorem dX10_aside_130 : decode cX10_aside 130 = .ok (.if_icmp .ne 7, 3) := by decide +kernel
theorem dX10_aside_133 : decode cX10_aside 133 = .ok (.iconst 2, 1) := by decide +kernel
theorem dX10_aside_134 : decode cX10_aside 134 = .ok (.goto 30, 3) := by decide +kernel
theorem dX10_aside_137 : decode cX10_aside 137 = .ok (.iload_n 3, 1) := by decide +kernel
theorem dX10_aside_138 : decode cX10_aside 138 = .ok (.bipush 8, 2) := by decide +kernel
theorem dX10_aside_140 : decode cX10_aside 140 = .ok (.if_icmp .eq 9, 3) := by decide +kernel
theorem dX10_aside_143 : decode cX10_aside 143 = .ok (.iload_n 3, 1) := by decide +kernel
theorem dX10_aside_144 : decode cX10_aside 144 = .ok (.bipush 11, 2) := by decide +kernel
theorem dX10_aside_146 : decode cX10_aside 146 = .ok (.if_icmp .ne 7, 3) := by decide +kernel
theorem dX10_aside_149 : decode cX10_aside 149 = .ok (.iconst 0, 1) := by decide +kernel
theorem dX10_aside_150 : decode cX10_aside 150 = .ok (.goto 14, 3) := by decide +kernel
theorem dX10_aside_153 : decode cX10_aside 153 = .ok (.iload_n 3, 1) := by decide +kernel
theorem dX10_aside_154 : decode cX10_aside 154 = .ok (.bipush 9, 2) := by decide +kernel
theorem dX10_aside_156 : decode cX10_aside 156 = .ok (.if_icmp .ne 7, 3) := by decide +kernel
theorem dX10_aside_159 : decode cX10_aside 159 = .ok (.iconst 5, 1) := by decide +kernel
theorem dX10_aside_160 : decode cX10_aside 160 = .ok (.goto 4, 3) := by decide +kernel
theorem dX10_aside_163 : decode cX10_aside 163 = .ok (.iconst 1, 1) := by decide +kernel
theorem dX10_aside_164 : decode cX10_aside 164 = .ok (.ireturn, 1) := by decide +kernel
theorem dX10_aside_165 : decode cX10_aside 165 = .ok (.bipush (-2), 2) := by decide +kernel
theorem dX10_aside_167 : decode cX10_aside 167 = .ok (.ireturn, 1) := by decide +kernel
theorem dX10_free_0 : decode cX10_free 0 = .ok (.iload_n 1, 1) := by decide +kernel
theorem dX10_free_1 : decode cX10_free 1 = .ok (.i2l, 1) := by decide +kernel
theorem dX10_free_2 : decode cX10_free 2 = .ok (.lconst 0, 1) := by decide +kernel
theorem dX10_free_3 : decode cX10_free 3 = .ok (.ldc2_w 107, 3) := by decide +kernel
theorem dX10_free_6 : decode cX10_free 6 = .ok (.invokestatic 73, 3) := by decide +kernel
theorem dX10_free_9 : decode cX10_free 9 = .ok (.ifCond .ne 6, 3) := by decide +kernel
theorem dX10_free_12 : decode cX10_free 12 = .ok (.bipush (-2), 2) := by decide +kernel
theorem dX10_free_14 : decode cX10_free 14 = .ok (.ireturn, 1) := by decide +kernel
theorem dX10_free_15 : decode cX10_free 15 = .ok (.aload_n 0, 1) := by decide +kernel
theorem dX10_free_16 : decode cX10_free 16 = .ok (.getfield 22, 3) := by decide +kernel
theorem dX10_free_19 : decode cX10_free 19 = .ok (.aload_n 0, 1) := by decide +kernel
theorem dX10_free_20 : decode cX10_free 20 = .ok (.getfield 25, 3) := by decide +kernel
theorem dX10_free_23 : decode cX10_free 23 = .ok (.invokestatic 218, 3) := by decide +kernel
theorem dX10_free_26 : decode cX10_free 26 = .ok (.aload_n 0, 1) := by decide +kernel
theorem dX10_free_27 : decode cX10_free 27 = .ok (.invokevirtual 222, 3) := by decide +kernel
theorem dX10_free_30 : decode cX10_free 30 = .ok (.istore_n 2, 1) := by decide +kernel
theorem dX10_free_31 : decode cX10_free 31 = .ok (.iload_n 1, 1) := by decide +kernel
theorem dX10_free_32 : decode cX10_free 32 = .ok (.tableswitch 43 0 2 #[28, 30, 35], 28) := by decide +kernel
theorem dX10_free_60 : decode cX10_free 60 = .ok (.iload_n 2, 1) := by decide +kernel
theorem dX10_free_61 : decode cX10_free 61 = .ok (.ireturn, 1) := by decide +kernel
theorem dX10_free_62 : decode cX10_free 62 = .ok (.aload_n 0, 1) := by decide +kernel
theorem dX10_free_63 : decode cX10_free 63 = .ok (.getfield 186, 3) := by decide +kernel
theorem dX10_free_66 : decode cX10_free 66 = .ok (.ireturn, 1) := by decide +kernel
theorem dX10_free_67 : decode cX10_free 67 = .ok (.aload_n 0, 1) := by decide +kernel
theorem dX10_free_68 : decode cX10_free 68 = .ok (.getfield 25, 3) := by decide +kernel
theorem dX10_free_71 : decode cX10_free 71 = .ok (.bipush 23, 2) := by decide +kernel
theorem dX10_free_73 : decode cX10_free 73 = .ok (.iaload, 1) := by decide +kernel
theorem dX10_free_74 : decode cX10_free 74 = .ok (.ireturn, 1) := by decide +kernel
theorem dX10_free_75 : decode cX10_free 75 = .ok (.aload_n 0, 1) := by decide +kernel
theorem dX10_free_76 : decode cX10_free 76 = .ok (.getfield 25, 3) := by decide +kernel
theorem dX10_free_79 : decode cX10_free 79 = .ok (.bipush 24, 2) := by decide +kernel
theorem dX10_free_81 : decode cX10_free 81 = .ok (.iaload, 1) := by decide +kernel
theorem dX10_free_82 : decode cX10_free 82 = .ok (.ireturn, 1) := by decide +kernel
theorem dX10_judged_0 : decode cX10_judged 0 = .ok (.bipush 10, 2) := by decide +kernel
theorem dX10_judged_2 : decode cX10_judged 2 = .ok (.iload_n 2, 1) := by decide +kernel
theorem dX10_judged_3 : decode cX10_judged 3 = .ok (.imul, 1) := by decide +kernel
theorem dX10_judged_4 : decode cX10_judged 4 = .ok (.iload_n 3, 1) := by decide +kernel
theorem dX10_judged_5 : decode cX10_judged 5 = .ok (.iadd, 1) := by decide +kernel
theorem dX10_judged_6 : decode cX10_judged 6 = .ok (.istore 4, 2) := by decide +kernel
theorem dX10_judged_8 : decode cX10_judged 8 = .ok (.iload_n 1, 1) := by decide +kernel
theorem dX10_judged_9 : decode cX10_judged 9 = .ok (.tableswitch 232 1 7 #[43, 86, 127, 145, 166, 193, 214], 43) := by decide +kernel
theorem dX10_judged_52 : decode cX10_judged 52 = .ok (.iload_n 2, 1) := by decide +kernel
theorem dX10_judged_53 : decode cX10_judged 53 = .ok (.ifCond .ne 40, 3) := by decide +kernel
theorem dX10_judged_56 : decode cX10_judged 56 = .ok (.iload_n 3, 1) := by decide +kernel
theorem dX10_judged_57 : decode cX10_judged 57 = .ok (.iconst 4, 1) := by decide +kernel
theorem dX10_judged_58 : decode cX10_judged 58 = .ok (.if_icmp .ge 35, 3) := by decide +kernel
theorem dX10_judged_61 : decode cX10_judged 61 = .ok (.iload_n 3, 1) := by decide +kernel
theorem dX10_judged_62 : decode cX10_judged 62 = .ok (.iconst 2, 1) := by decide +kernel
theorem dX10_judged_63 : decode cX10_judged 63 = .ok (.if_icmp .ne 13, 3) := by decide +kernel
theorem dX10_judged_66 : decode cX10_judged 66 = .ok (.aload_n 0, 1) := by decide +kernel
theorem dX10_judged_67 : decode cX10_judged 67 = .ok (.getfield 25, 3) := by decide +kernel
theorem dX10_judged_70 : decode cX10_judged 70 = .ok (.bipush 20, 2) := by decide +kernel
theorem dX10_judged_72 : decode cX10_judged 72 = .ok (.iaload, 1) := by decide +kernel
theorem dX10_judged_73 : decode cX10_judged 73 = .ok (.ifCond .le 20, 3) := by decide +kernel
theorem dX10_judged_76 : decode cX10_judged 76 = .ok (.aload_n 0, 1) := by decide +kernel
theorem dX10_judged_77 : decode cX10_judged 77 = .ok (.aload_n 0, 1) := by decide +kernel
theorem dX10_judged_78 : decode cX10_judged 78 = .ok (.getfield 25, 3) := by decide +kernel
theorem dX10_judged_81 : decode cX10_judged 81 = .ok (.iload_n 3, 1) := by decide +kernel
theorem dX10_judged_82 : decode cX10_judged 82 = .ok (.invokevirtual 204, 3) := by decide +kernel
theorem dX10_judged_85 : decode cX10_judged 85 = .ok (.iconst 1, 1) := by decide +kernel
theorem dX10_judged_86 : decode cX10_judged 86 = .ok (.if_icmp .gt 7, 3) := by decide +kernel
theorem dX10_judged_89 : decode cX10_judged 89 = .ok (.iconst 1, 1) := by decide +kernel
theorem dX10_judged_90 : decode cX10_judged 90 = .ok (.goto 4, 3) := by decide +kernel
theorem dX10_judged_93 : decode cX10_judged 93 = .ok (.iconst 0, 1) := by decide +kernel
theorem dX10_judged_94 : decode cX10_judged 94 = .ok (.ireturn, 1) := by decide +kernel
theorem dX10_judged_95 : decode cX10_judged 95 = .ok (.aload_n 0, 1) := by decide +kernel
theorem dX10_judged_96 : decode cX10_judged 96 = .ok (.iload 4, 2) := by decide +kernel
theorem dX10_judged_98 : decode cX10_judged 98 = .ok (.invokevirtual 135, 3) := by decide +kernel
theorem dX10_judged_101 : decode cX10_judged 101 = .ok (.ifCond .eq 17, 3) := by decide +kernel
theorem dX10_judged_104 : decode cX10_judged 104 = .ok (.aload_n 0, 1) := by decide +kernel
theorem dX10_judged_105 : decode cX10_judged 105 = .ok (.getfield 25, 3) := by decide +kernel
theorem dX10_judged_108 : decode cX10_judged 108 = .ok (.bipush 26, 2) := by decide +kernel
theorem dX10_judged_110 : decode cX10_judged 110 = .ok (.iload 4, 2) := by decide +kernel
theorem dX10_judged_112 : decode cX10_judged 112 = .ok (.iadd, 1) := by decide +kernel
theorem dX10_judged_113 : decode cX10_judged 113 = .ok (.iaload, 1) := by decide +kernel
theorem dX10_judged_114 : decode cX10_judged 114 = .ok (.iconst 3, 1) := by decide +kernel
theorem dX10_judged_115 : decode cX10_judged 115 = .ok (.if_icmp .ne 5, 3) := by decide +kernel
theorem dX10_judged_118 : decode cX10_judged 118 = .ok (.iconst 0, 1) := by decide +kernel
theorem dX10_judged_119 : decode cX10_judged 119 = .ok (.ireturn, 1) := by decide +kernel
theorem dX10_judged_120 : decode cX10_judged 120 = .ok (.aload_n 0, 1) := by decide +kernel
theorem dX10_judged_121 : decode cX10_judged 121 = .ok (.getfield 25, 3) := by decide +kernel
theorem dX10_judged_124 : decode cX10_judged 124 = .ok (.iload 4, 2) := by decide +kernel
theorem dX10_judged_126 : decode cX10_judged 126 = .ok (.bipush (-9), 2) := by decide +kernel
theorem dX10_judged_128 : decode cX10_judged 128 = .ok (.iconst 0, 1) := by decide +kernel
theorem dX10_judged_129 : decode cX10_judged 129 = .ok (.iconst 0, 1) := by decide +kernel
theorem dX10_judged_130 : decode cX10_judged 130 = .ok (.iconst 0, 1) := by decide +kernel
theorem dX10_judged_131 : decode cX10_judged 131 = .ok (.invokestatic 214, 3) := by decide +kernel
theorem dX10_judged_134 : decode cX10_judged 134 = .ok (.iconst 1, 1) := by decide +kernel
theorem dX10_judged_135 : decode cX10_judged 135 = .ok (.ireturn, 1) := by decide +kernel
theorem dX10_judged_136 : decode cX10_judged 136 = .ok (.aload_n 0, 1) := by decide +kernel
theorem dX10_judged_137 : decode cX10_judged 137 = .ok (.getfield 25, 3) := by decide +kernel
theorem dX10_judged_140 : decode cX10_judged 140 = .ok (.bipush 21, 2) := by decide +kernel
theorem dX10_judged_142 : decode cX10_judged 142 = .ok (.iaload, 1) := by decide +kernel
theorem dX10_judged_143 : decode cX10_judged 143 = .ok (.iload 4, 2) := by decide +kernel
theorem dX10_judged_145 : decode cX10_judged 145 = .ok (.if_icmp .ne 7, 3) := by decide +kernel
theorem dX10_judged_148 : decode cX10_judged 148 = .ok (.iconst 1, 1) := by decide +kernel
theorem dX10_judged_149 : decode cX10_judged 149 = .ok (.goto 4, 3) := by decide +kernel
theorem dX10_judged_152 : decode cX10_judged 152 = .ok (.iconst 0, 1) := by decide +kernel
theorem dX10_judged_153 : decode cX10_judged 153 = .ok (.ireturn, 1) := by decide +kernel
theorem dX10_judged_154 : decode cX10_judged 154 = .ok (.iload_n 2, 1) := by decide +kernel
theorem dX10_judged_155 : decode cX10_judged 155 = .ok (.iconst 4, 1) := by decide +kernel
theorem dX10_judged_156 : decode cX10_judged 156 = .ok (.if_icmp .ge 17, 3) := by decide +kernel
theorem dX10_judged_159 : decode cX10_judged 159 = .ok (.aload_n 0, 1) := by decide +kernel
theorem dX10_judged_160 : decode cX10_judged 160 = .ok (.getfield 25, 3) := by decide +kernel
theorem dX10_judged_163 : decode cX10_judged 163 = .ok (.iload_n 2, 1) := by decide +kernel
theorem dX10_judged_164 : decode cX10_judged 164 = .ok (.iaload, 1) := by decide +kernel
theorem dX10_judged_165 : decode cX10_judged 165 = .ok (.iload_n 3, 1) := by decide +kernel
theorem dX10_judged_166 : decode cX10_judged 166 = .ok (.if_icmp .ne 7, 3) := by decide +kernel
theorem dX10_judged_169 : decode cX10_judged 169 = .ok (.iconst 1, 1) := by decide +kernel
theorem dX10_judged_170 : decode cX10_judged 170 = .ok (.goto 4, 3) := by decide +kernel
theorem dX10_judged_173 : decode cX10_judged 173 = .ok (.iconst 0, 1) := by decide +kernel
theorem dX10_judged_174 : decode cX10_judged 174 = .ok (.ireturn, 1) := by decide +kernel
theorem dX10_judged_175 : decode cX10_judged 175 = .ok (.iload_n 2, 1) := by decide +kernel
theorem dX10_judged_176 : decode cX10_judged 176 = .ok (.ifCond .ne 9, 3) := by decide +kernel
theorem dX10_judged_179 : decode cX10_judged 179 = .ok (.iload_n 3, 1) := by decide +kernel
theorem dX10_judged_180 : decode cX10_judged 180 = .ok (.bipush 7, 2) := by decide +kernel
theorem dX10_judged_182 : decode cX10_judged 182 = .ok (.if_icmp .le 5, 3) := by decide +kernel
theorem dX10_judged_185 : decode cX10_judged 185 = .ok (.iconst 0, 1) := by decide +kernel
theorem dX10_judged_186 : decode cX10_judged 186 = .ok (.ireturn, 1) := by decide +kernel
theorem dX10_judged_187 : decode cX10_judged 187 = .ok (.aload_n 0, 1) := by decide +kernel
theorem dX10_judged_188 : decode cX10_judged 188 = .ok (.getfield 25, 3) := by decide +kernel
theorem dX10_judged_191 : decode cX10_judged 191 = .ok (.bipush 25, 2) := by decide +kernel
theorem dX10_judged_193 : decode cX10_judged 193 = .ok (.dup2, 1) := by decide +kernel
theorem dX10_judged_194 : decode cX10_judged 194 = .ok (.iaload, 1) := by decide +kernel
theorem dX10_judged_195 : decode cX10_judged 195 = .ok (.iconst 1, 1) := by decide +kernel
theorem dX10_judged_196 : decode cX10_judged 196 = .ok (.iload_n 3, 1) := by decide +kernel
theorem dX10_judged_197 : decode cX10_judged 197 = .ok (.ishl, 1) := by decide +kernel
theorem dX10_judged_198 : decode cX10_judged 198 = .ok (.ixor, 1) := by decide +kernel
theorem dX10_judged_199 : decode cX10_judged 199 = .ok (.iastore, 1) := by decide +kernel
theorem dX10_judged_200 : decode cX10_judged 200 = .ok (.iconst 1, 1) := by decide +kernel
theorem dX10_judged_201 : decode cX10_judged 201 = .ok (.ireturn, 1) := by decide +kernel
theorem dX10_judged_202 : decode cX10_judged 202 = .ok (.iload_n 2, 1) := by decide +kernel
theorem dX10_judged_203 : decode cX10_judged 203 = .ok (.ifCond .ne 18, 3) := by decide +kernel
theorem dX10_judged_206 : decode cX10_judged 206 = .ok (.aload_n 0, 1) := by decide +kernel
theorem dX10_judged_207 : decode cX10_judged 207 = .ok (.getfield 25, 3) := by decide +kernel
theorem dX10_judged_210 : decode cX10_judged 210 = .ok (.bipush 20, 2) := by decide +kernel
theorem dX10_judged_212 : decode cX10_judged 212 = .ok (.iaload, 1) := by decide +kernel
theorem dX10_judged_213 : decode cX10_judged 213 = .ok (.iload_n 3, 1) := by decide +kernel
theorem dX10_judged_214 : decode cX10_judged 214 = .ok (.if_icmp .ne 7, 3) := by decide +kernel
theorem dX10_judged_217 : decode cX10_judged 217 = .ok (.iconst 1, 1) := by decide +kernel
theorem dX10_judged_218 : decode cX10_judged 218 = .ok (.goto 4, 3) := by decide +kernel
theorem dX10_judged_221 : decode cX10_judged 221 = .ok (.iconst 0, 1) := by decide +kernel
theorem dX10_judged_222 : decode cX10_judged 222 = .ok (.ireturn, 1) := by decide +kernel
theorem dX10_judged_223 : decode cX10_judged 223 = .ok (.aload_n 0, 1) := by decide +kernel
theorem dX10_judged_224 : decode cX10_judged 224 = .ok (.getfield 25, 3) := by decide +kernel
theorem dX10_judged_227 : decode cX10_judged 227 = .ok (.bipush 23, 2) := by decide +kernel
theorem dX10_judged_229 : decode cX10_judged 229 = .ok (.iaload, 1) := by decide +kernel
theorem dX10_judged_230 : decode cX10_judged 230 = .ok (.iload 4, 2) := by decide +kernel
theorem dX10_judged_232 : decode cX10_judged 232 = .ok (.if_icmp .ne 7, 3) := by decide +kernel
theorem dX10_judged_235 : decode cX10_judged 235 = .ok (.iconst 1, 1) := by decide +kernel
theorem dX10_judged_236 : decode cX10_judged 236 = .ok (.goto 4, 3) := by decide +kernel
theorem dX10_judged_239 : decode cX10_judged 239 = .ok (.iconst 0, 1) := by decide +kernel
theorem dX10_judged_240 : decode cX10_judged 240 = .ok (.ireturn, 1) := by decide +kernel
theorem dX10_judged_241 : decode cX10_judged 241 = .ok (.iconst 0, 1) := by decide +kernel
theorem dX10_judged_242 : decode cX10_judged 242 = .ok (.ireturn, 1) := by decide +kernel
theorem dX10_thousands_0 : decode cX10_thousands 0 = .ok (.lconst 1, 1) := by decide +kernel
theorem dX10_thousands_1 : decode cX10_thousands 1 = .ok (.lstore_n 1, 1) := by decide +kernel
theorem dX10_thousands_2 : decode cX10_thousands 2 = .ok (.iconst 0, 1) := by decide +kernel
theorem dX10_thousands_3 : decode cX10_thousands 3 = .ok (.istore_n 3, 1) := by decide +kernel
theorem dX10_thousands_4 : decode cX10_thousands 4 = .ok (.iload_n 3, 1) := by decide +kernel
theorem dX10_thousands_5 : decode cX10_thousands 5 = .ok (.iload_n 0, 1) := by decide +kernel
theorem dX10_thousands_6 : decode cX10_thousands 6 = .ok (.if_icmp .ge 15, 3) := by decide +kernel
theorem dX10_thousands_9 : decode cX10_thousands 9 = .ok (.lload_n 1, 1) := by decide +kernel
theorem dX10_thousands_10 : decode cX10_thousands 10 = .ok (.ldc2_w 225, 3) := by decide +kernel
theorem dX10_thousands_13 : decode cX10_thousands 13 = .ok (.lmul, 1) := by decide +kernel
theorem dX10_thousands_14 : decode cX10_thousands 14 = .ok (.lstore_n 1, 1) := by decide +kernel
theorem dX10_thousands_15 : decode cX10_thousands 15 = .ok (.iinc 3 1, 3) := by decide +kernel
theorem dX10_thousands_18 : decode cX10_thousands 18 = .ok (.goto (-14), 3) := by decide +kernel
theorem dX10_thousands_21 : decode cX10_thousands 21 = .ok (.lload_n 1, 1) := by decide +kernel
theorem dX10_thousands_22 : decode cX10_thousands 22 = .ok (.lreturn, 1) := by decide +kernel
theorem dX10_judge_0 : decode cX10_judge 0 = .ok (.iload_n 1, 1) := by decide +kernel
theorem dX10_judge_1 : decode cX10_judge 1 = .ok (.i2l, 1) := by decide +kernel
theorem dX10_judge_2 : decode cX10_judge 2 = .ok (.lconst 1, 1) := by decide +kernel
theorem dX10_judge_3 : decode cX10_judge 3 = .ok (.ldc2_w 227, 3) := by decide +kernel
theorem dX10_judge_6 : decode cX10_judge 6 = .ok (.invokestatic 73, 3) := by decide +kernel
theorem dX10_judge_9 : decode cX10_judge 9 = .ok (.ifCond .eq 17, 3) := by decide +kernel
theorem dX10_judge_12 : decode cX10_judge 12 = .ok (.lload_n 2, 1) := by decide +kernel
theorem dX10_judge_13 : decode cX10_judge 13 = .ok (.lconst 0, 1) := by decide +kernel
theorem dX10_judge_14 : decode cX10_judge 14 = .ok (.iload_n 1, 1) := by decide +kernel
theorem dX10_judge_15 : decode cX10_judge 15 = .ok (.invokestatic 229, 3) := by decide +kernel
theorem dX10_judge_18 : decode cX10_judge 18 = .ok (.lconst 1, 1) := by decide +kernel
theorem dX10_judge_19 : decode cX10_judge 19 = .ok (.lsub, 1) := by decide +kernel
theorem dX10_judge_20 : decode cX10_judge 20 = .ok (.invokestatic 73, 3) := by decide +kernel
theorem dX10_judge_23 : decode cX10_judge 23 = .ok (.ifCond .ne 6, 3) := by decide +kernel
theorem dX10_judge_26 : decode cX10_judge 26 = .ok (.bipush (-2), 2) := by decide +kernel
theorem dX10_judge_28 : decode cX10_judge 28 = .ok (.ireturn, 1) := by decide +kernel
theorem dX10_judge_29 : decode cX10_judge 29 = .ok (.aload_n 0, 1) := by decide +kernel
theorem dX10_judge_30 : decode cX10_judge 30 = .ok (.getfield 22, 3) := by decide +kernel
theorem dX10_judge_33 : decode cX10_judge 33 = .ok (.aload_n 0, 1) := by decide +kernel
theorem dX10_judge_34 : decode cX10_judge 34 = .ok (.getfield 25, 3) := by decide +kernel
theorem dX10_judge_37 : decode cX10_judge 37 = .ok (.invokestatic 218, 3) := by decide +kernel
theorem dX10_judge_40 : decode cX10_judge 40 = .ok (.iconst 0, 1) := by decide +kernel
theorem dX10_judge_41 : decode cX10_judge 41 = .ok (.istore 4, 2) := by decide +kernel
theorem dX10_judge_43 : decode cX10_judge 43 = .ok (.iload 4, 2) := by decide +kernel
theorem dX10_judge_45 : decode cX10_judge 45 = .ok (.iload_n 1, 1) := by decide +kernel
theorem dX10_judge_46 : decode cX10_judge 46 = .ok (.if_icmp .ge 55, 3) := by decide +kernel
theorem dX10_judge_49 : decode cX10_judge 49 = .ok (.lload_n 2, 1) := by decide +kernel
theorem dX10_judge_50 : decode cX10_judge 50 = .ok (.iload_n 1, 1) := by decide +kernel
theorem dX10_judge_51 : decode cX10_judge 51 = .ok (.iconst 1, 1) := by decide +kernel
theorem dX10_judge_52 : decode cX10_judge 52 = .ok (.isub, 1) := by decide +kernel
theorem dX10_judge_53 : decode cX10_judge 53 = .ok (.iload 4, 2) := by decide +kernel
theorem dX10_judge_55 : decode cX10_judge 55 = .ok (.isub, 1) := by decide +kernel
theorem dX10_judge_56 : decode cX10_judge 56 = .ok (.invokestatic 229, 3) := by decide +kernel
theorem dX10_judge_59 : decode cX10_judge 59 = .ok (.ldiv, 1) := by decide +kernel
theorem dX10_judge_60 : decode cX10_judge 60 = .ok (.ldc2_w 225, 3) := by decide +kernel
theorem dX10_judge_63 : decode cX10_judge 63 = .ok (.lrem, 1) := by decide +kernel
theorem dX10_judge_64 : decode cX10_judge 64 = .ok (.l2i, 1) := by decide +kernel
theorem dX10_judge_65 : decode cX10_judge 65 = .ok (.istore 5, 2) := by decide +kernel
theorem dX10_judge_67 : decode cX10_judge 67 = .ok (.aload_n 0, 1) := by decide +kernel
theorem dX10_judge_68 : decode cX10_judge 68 = .ok (.iload 5, 2) := by decide +kernel
theorem dX10_judge_70 : decode cX10_judge 70 = .ok (.bipush 100, 2) := by decide +kernel
theorem dX10_judge_72 : decode cX10_judge 72 = .ok (.idiv, 1) := by decide +kernel
theorem dX10_judge_73 : decode cX10_judge 73 = .ok (.iload 5, 2) := by decide +kernel
theorem dX10_judge_75 : decode cX10_judge 75 = .ok (.bipush 10, 2) := by decide +kernel
theorem dX10_judge_77 : decode cX10_judge 77 = .ok (.idiv, 1) := by decide +kernel
theorem dX10_judge_78 : decode cX10_judge 78 = .ok (.bipush 10, 2) := by decide +kernel
theorem dX10_judge_80 : decode cX10_judge 80 = .ok (.irem, 1) := by decide +kernel
theorem dX10_judge_81 : decode cX10_judge 81 = .ok (.iload 5, 2) := by decide +kernel
theorem dX10_judge_83 : decode cX10_judge 83 = .ok (.bipush 10, 2) := by decide +kernel
theorem dX10_judge_85 : decode cX10_judge 85 = .ok (.irem, 1) := by decide +kernel
theorem dX10_judge_86 : decode cX10_judge 86 = .ok (.invokevirtual 233, 3) := by decide +kernel
theorem dX10_judge_89 : decode cX10_judge 89 = .ok (.ifCond .ne 6, 3) := by decide +kernel
theorem dX10_judge_92 : decode cX10_judge 92 = .ok (.iload 4, 2) := by decide +kernel
theorem dX10_judge_94 : decode cX10_judge 94 = .ok (.ireturn, 1) := by decide +kernel
theorem dX10_judge_95 : decode cX10_judge 95 = .ok (.iinc 4 1, 3) := by decide +kernel
theorem dX10_judge_98 : decode cX10_judge 98 = .ok (.goto (-55), 3) := by decide +kernel
theorem dX10_judge_101 : decode cX10_judge 101 = .ok (.bipush (-9), 2) := by decide +kernel
theorem dX10_judge_103 : decode cX10_judge 103 = .ok (.ireturn, 1) := by decide +kernel
theorem dX10_see_0 : decode cX10_see 0 = .ok (.iload_n 1, 1) := by decide +kernel
theorem dX10_see_1 : decode cX10_see 1 = .ok (.i2l, 1) := by decide +kernel
theorem dX10_see_2 : decode cX10_see 2 = .ok (.lconst 0, 1) := by decide +kernel
theorem dX10_see_3 : decode cX10_see 3 = .ok (.ldc2_w 236, 3) := by decide +kernel
theorem dX10_see_6 : decode cX10_see 6 = .ok (.invokestatic 73, 3) := by decide +kernel
theorem dX10_see_9 : decode cX10_see 9 = .ok (.ifCond .eq 13, 3) := by decide +kernel
theorem dX10_see_12 : decode cX10_see 12 = .ok (.iload_n 2, 1) := by decide +kernel
theorem dX10_see_13 : decode cX10_see 13 = .ok (.i2l, 1) := by decide +kernel
theorem dX10_see_14 : decode cX10_see 14 = .ok (.lconst 0, 1) := by decide +kernel
theorem dX10_see_15 : decode cX10_see 15 = .ok (.lconst 1, 1) := by decide +kernel
theorem dX10_see_16 : decode cX10_see 16 = .ok (.invokestatic 73, 3) := by decide +kernel
theorem dX10_see_19 : decode cX10_see 19 = .ok (.ifCond .ne 6, 3) := by decide +kernel
theorem dX10_see_22 : decode cX10_see 22 = .ok (.bipush (-2), 2) := by decide +kernel
theorem dX10_see_24 : decode cX10_see 24 = .ok (.ireturn, 1) := by decide +kernel
theorem dX10_see_25 : decode cX10_see 25 = .ok (.aload_n 0, 1) := by decide +kernel
theorem dX10_see_26 : decode cX10_see 26 = .ok (.getfield 195, 3) := by decide +kernel
theorem dX10_see_29 : decode cX10_see 29 = .ok (.bipush 6, 2) := by decide +kernel
theorem dX10_see_31 : decode cX10_see 31 = .ok (.if_icmp .ne 6, 3) := by decide +kernel
theorem dX10_see_34 : decode cX10_see 34 = .ok (.bipush (-4), 2) := by decide +kernel
theorem dX10_see_36 : decode cX10_see 36 = .ok (.ireturn, 1) := by decide +kernel
theorem dX10_see_37 : decode cX10_see 37 = .ok (.aload_n 0, 1) := by decide +kernel
theorem dX10_see_38 : decode cX10_see 38 = .ok (.getfield 38, 3) := by decide +kernel
theorem dX10_see_41 : decode cX10_see 41 = .ok (.aload_n 0, 1) := by decide +kernel
theorem dX10_see_42 : decode cX10_see 42 = .ok (.getfield 195, 3) := by decide +kernel
theorem dX10_see_45 : decode cX10_see 45 = .ok (.iload_n 1, 1) := by decide +kernel
theorem dX10_see_46 : decode cX10_see 46 = .ok (.iastore, 1) := by decide +kernel
theorem dX10_see_47 : decode cX10_see 47 = .ok (.aload_n 0, 1) := by decide +kernel
theorem dX10_see_48 : decode cX10_see 48 = .ok (.getfield 41, 3) := by decide +kernel
theorem dX10_see_51 : decode cX10_see 51 = .ok (.aload_n 0, 1) := by decide +kernel
theorem dX10_see_52 : decode cX10_see 52 = .ok (.getfield 195, 3) := by decide +kernel
theorem dX10_see_55 : decode cX10_see 55 = .ok (.iload_n 2, 1) := by decide +kernel
theorem dX10_see_56 : decode cX10_see 56 = .ok (.iastore, 1) := by decide +kernel
theorem dX10_see_57 : decode cX10_see 57 = .ok (.aload_n 0, 1) := by decide +kernel
theorem dX10_see_58 : decode cX10_see 58 = .ok (.dup, 1) := by decide +kernel
theorem dX10_see_59 : decode cX10_see 59 = .ok (.getfield 195, 3) := by decide +kernel
theorem dX10_see_62 : decode cX10_see 62 = .ok (.iconst 1, 1) := by decide +kernel
theorem dX10_see_63 : decode cX10_see 63 = .ok (.iadd, 1) := by decide +kernel
theorem dX10_see_64 : decode cX10_see 64 = .ok (.putfield 195, 3) := by decide +kernel
theorem dX10_see_67 : decode cX10_see 67 = .ok (.aload_n 0, 1) := by decide +kernel
theorem dX10_see_68 : decode cX10_see 68 = .ok (.getfield 195, 3) := by decide +kernel
theorem dX10_see_71 : decode cX10_see 71 = .ok (.ireturn, 1) := by decide +kernel
theorem dX10_unsee_0 : decode cX10_unsee 0 = .ok (.aload_n 0, 1) := by decide +kernel
theorem dX10_unsee_1 : decode cX10_unsee 1 = .ok (.getfield 195, 3) := by decide +kernel
theorem dX10_unsee_4 : decode cX10_unsee 4 = .ok (.istore_n 1, 1) := by decide +kernel
theorem dX10_unsee_5 : decode cX10_unsee 5 = .ok (.aload_n 0, 1) := by decide +kernel
theorem dX10_unsee_6 : decode cX10_unsee 6 = .ok (.iconst 0, 1) := by decide +kernel
theorem dX10_unsee_7 : decode cX10_unsee 7 = .ok (.putfield 195, 3) := by decide +kernel
theorem dX10_unsee_10 : decode cX10_unsee 10 = .ok (.iload_n 1, 1) := by decide +kernel
theorem dX10_unsee_11 : decode cX10_unsee 11 = .ok (.ireturn, 1) := by decide +kernel
theorem dX10_which_0 : decode cX10_which 0 = .ok (.iconst 0, 1) := by decide +kernel
theorem dX10_which_1 : decode cX10_which 1 = .ok (.istore_n 1, 1) := by decide +kernel
theorem dX10_which_2 : decode cX10_which 2 = .ok (.iconst 0, 1) := by decide +kernel
theorem dX10_which_3 : decode cX10_which 3 = .ok (.istore_n 2, 1) := by decide +kernel
theorem dX10_which_4 : decode cX10_which 4 = .ok (.iload_n 2, 1) := by decide +kernel
theorem dX10_which_5 : decode cX10_which 5 = .ok (.aload_n 0, 1) := by decide +kernel
theorem dX10_which_6 : decode cX10_which 6 = .ok (.getfield 70, 3) := by decide +kernel
theorem dX10_which_9 : decode cX10_which 9 = .ok (.if_icmp .ge 125, 3) := by decide +kernel
theorem dX10_which_12 : decode cX10_which 12 = .ok (.aload_n 0, 1) := by decide +kernel
theorem dX10_which_13 : decode cX10_which 13 = .ok (.getfield 22, 3) := by decide +kernel
theorem dX10_which_16 : decode cX10_which 16 = .ok (.aload_n 0, 1) := by decide +kernel
theorem dX10_which_17 : decode cX10_which 17 = .ok (.getfield 25, 3) := by decide +kernel
theorem dX10_which_20 : decode cX10_which 20 = .ok (.invokestatic 218, 3) := by decide +kernel
theorem dX10_which_23 : decode cX10_which 23 = .ok (.aload_n 0, 1) := by decide +kernel
theorem dX10_which_24 : decode cX10_which 24 = .ok (.iload_n 2, 1) := by decide +kernel
theorem dX10_which_25 : decode cX10_which 25 = .ok (.putfield 62, 3) := by decide +kernel
theorem dX10_which_28 : decode cX10_which 28 = .ok (.aload_n 0, 1) := by decide +kernel
theorem dX10_which_29 : decode cX10_which 29 = .ok (.invokevirtual 222, 3) := by decide +kernel
theorem dX10_which_32 : decode cX10_which 32 = .ok (.istore_n 3, 1) := by decide +kernel
theorem dX10_which_33 : decode cX10_which 33 = .ok (.aload_n 0, 1) := by decide +kernel
theorem dX10_which_34 : decode cX10_which 34 = .ok (.bipush (-9), 2) := by decide +kernel
theorem dX10_which_36 : decode cX10_which 36 = .ok (.putfield 62, 3) := by decide +kernel
theorem dX10_which_39 : decode cX10_which 39 = .ok (.iconst 1, 1) := by decide +kernel
theorem dX10_which_40 : decode cX10_which 40 = .ok (.istore 4, 2) := by decide +kernel
theorem dX10_which_42 : decode cX10_which 42 = .ok (.iconst 0, 1) := by decide +kernel
theorem dX10_which_43 : decode cX10_which 43 = .ok (.istore 5, 2) := by decide +kernel
theorem dX10_which_45 : decode cX10_which 45 = .ok (.iload 5, 2) := by decide +kernel
theorem dX10_which_47 : decode cX10_which 47 = .ok (.aload_n 0, 1) := by decide +kernel
theorem dX10_which_48 : decode cX10_which 48 = .ok (.getfield 195, 3) := by decide +kernel
theorem dX10_which_51 : decode cX10_which 51 = .ok (.if_icmp .ge 62, 3) := by decide +kernel
theorem dX10_which_54 : decode cX10_which 54 = .ok (.iload 4, 2) := by decide +kernel
theorem dX10_which_56 : decode cX10_which 56 = .ok (.ifCond .eq 48, 3) := by decide +kernel
theorem dX10_which_59 : decode cX10_which 59 = .ok (.aload_n 0, 1) := by decide +kernel
theorem dX10_which_60 : decode cX10_which 60 = .ok (.getfield 25, 3) := by decide +kernel
theorem dX10_which_63 : decode cX10_which 63 = .ok (.bipush 23, 2) := by decide +kernel
theorem dX10_which_65 : decode cX10_which 65 = .ok (.iaload, 1) := by decide +kernel
theorem dX10_which_66 : decode cX10_which 66 = .ok (.aload_n 0, 1) := by decide +kernel
theorem dX10_which_67 : decode cX10_which 67 = .ok (.getfield 38, 3) := by decide +kernel
theorem dX10_which_70 : decode cX10_which 70 = .ok (.iload 5, 2) := by decide +kernel
theorem dX10_which_72 : decode cX10_which 72 = .ok (.iaload, 1) := by decide +kernel
theorem dX10_which_73 : decode cX10_which 73 = .ok (.if_icmp .ne 7, 3) := by decide +kernel
theorem dX10_which_76 : decode cX10_which 76 = .ok (.iconst 1, 1) := by decide +kernel
theorem dX10_which_77 : decode cX10_which 77 = .ok (.goto 4, 3) := by decide +kernel
theorem dX10_which_80 : decode cX10_which 80 = .ok (.iconst 0, 1) := by decide +kernel
theorem dX10_which_81 : decode cX10_which 81 = .ok (.aload_n 0, 1) := by decide +kernel
theorem dX10_which_82 : decode cX10_which 82 = .ok (.getfield 41, 3) := by decide +kernel
theorem dX10_which_85 : decode cX10_which 85 = .ok (.iload 5, 2) := by decide +kernel
theorem dX10_which_87 : decode cX10_which 87 = .ok (.iaload, 1) := by decide +kernel
theorem dX10_which_88 : decode cX10_which 88 = .ok (.iconst 1, 1) := by decide +kernel
theorem dX10_which_89 : decode cX10_which 89 = .ok (.if_icmp .ne 7, 3) := by decide +kernel
theorem dX10_which_92 : decode cX10_which 92 = .ok (.iconst 1, 1) := by decide +kernel
theorem dX10_which_93 : decode cX10_which 93 = .ok (.goto 4, 3) := by decide +kernel
theorem dX10_which_96 : decode cX10_which 96 = .ok (.iconst 0, 1) := by decide +kernel
theorem dX10_which_97 : decode cX10_which 97 = .ok (.if_icmp .ne 7, 3) := by decide +kernel
theorem dX10_which_100 : decode cX10_which 100 = .ok (.iconst 1, 1) := by decide +kernel
theorem dX10_which_101 : decode cX10_which 101 = .ok (.goto 4, 3) := by decide +kernel
theorem dX10_which_104 : decode cX10_which 104 = .ok (.iconst 0, 1) := by decide +kernel
theorem dX10_which_105 : decode cX10_which 105 = .ok (.istore 4, 2) := by decide +kernel
theorem dX10_which_107 : decode cX10_which 107 = .ok (.iinc 5 1, 3) := by decide +kernel
theorem dX10_which_110 : decode cX10_which 110 = .ok (.goto (-65), 3) := by decide +kernel
theorem dX10_which_113 : decode cX10_which 113 = .ok (.iload_n 1, 1) := by decide +kernel
theorem dX10_which_114 : decode cX10_which 114 = .ok (.iload 4, 2) := by decide +kernel
theorem dX10_which_116 : decode cX10_which 116 = .ok (.ifCond .eq 9, 3) := by decide +kernel
theorem dX10_which_119 : decode cX10_which 119 = .ok (.iconst 1, 1) := by decide +kernel
theorem dX10_which_120 : decode cX10_which 120 = .ok (.iload_n 2, 1) := by decide +kernel
theorem dX10_which_121 : decode cX10_which 121 = .ok (.ishl, 1) := by decide +kernel
theorem dX10_which_122 : decode cX10_which 122 = .ok (.goto 4, 3) := by decide +kernel
theorem dX10_which_125 : decode cX10_which 125 = .ok (.iconst 0, 1) := by decide +kernel
theorem dX10_which_126 : decode cX10_which 126 = .ok (.ior, 1) := by decide +kernel
theorem dX10_which_127 : decode cX10_which 127 = .ok (.istore_n 1, 1) := by decide +kernel
theorem dX10_which_128 : decode cX10_which 128 = .ok (.iinc 2 1, 3) := by decide +kernel
theorem dX10_which_131 : decode cX10_which 131 = .ok (.goto (-127), 3) := by decide +kernel
theorem dX10_which_134 : decode cX10_which 134 = .ok (.iload_n 1, 1) := by decide +kernel
theorem dX10_which_135 : decode cX10_which 135 = .ok (.ireturn, 1) := by decide +kernel
theorem dX10_layPlaces_0 : decode cX10_layPlaces 0 = .ok (.iconst 0, 1) := by decide +kernel
theorem dX10_layPlaces_1 : decode cX10_layPlaces 1 = .ok (.istore_n 1, 1) := by decide +kernel
theorem dX10_layPlaces_2 : decode cX10_layPlaces 2 = .ok (.iconst 0, 1) := by decide +kernel
theorem dX10_layPlaces_3 : decode cX10_layPlaces 3 = .ok (.istore_n 2, 1) := by decide +kernel
theorem dX10_layPlaces_4 : decode cX10_layPlaces 4 = .ok (.iload_n 2, 1) := by decide +kernel
theorem dX10_layPlaces_5 : decode cX10_layPlaces 5 = .ok (.aload_n 0, 1) := by decide +kernel
theorem dX10_layPlaces_6 : decode cX10_layPlaces 6 = .ok (.getfield 70, 3) := by decide +kernel
theorem dX10_layPlaces_9 : decode cX10_layPlaces 9 = .ok (.if_icmp .ge 41, 3) := by decide +kernel
theorem dX10_layPlaces_12 : decode cX10_layPlaces 12 = .ok (.aload_n 0, 1) := by decide +kernel
theorem dX10_layPlaces_13 : decode cX10_layPlaces 13 = .ok (.getfield 22, 3) := by decide +kernel
theorem dX10_layPlaces_16 : decode cX10_layPlaces 16 = .ok (.bipush 26, 2) := by decide +kernel
theorem dX10_layPlaces_18 : decode cX10_layPlaces 18 = .ok (.iload_n 2, 1) := by decide +kernel
theorem dX10_layPlaces_19 : decode cX10_layPlaces 19 = .ok (.iadd, 1) := by decide +kernel
theorem dX10_layPlaces_20 : decode cX10_layPlaces 20 = .ok (.iaload, 1) := by decide +kernel
theorem dX10_layPlaces_21 : decode cX10_layPlaces 21 = .ok (.ifCond .le 23, 3) := by decide +kernel
theorem dX10_layPlaces_24 : decode cX10_layPlaces 24 = .ok (.aload_n 0, 1) := by decide +kernel
theorem dX10_layPlaces_25 : decode cX10_layPlaces 25 = .ok (.getfield 47, 3) := by decide +kernel
theorem dX10_layPlaces_28 : decode cX10_layPlaces 28 = .ok (.iload_n 1, 1) := by decide +kernel
theorem dX10_layPlaces_29 : decode cX10_layPlaces 29 = .ok (.bipush 6, 2) := by decide +kernel
theorem dX10_layPlaces_31 : decode cX10_layPlaces 31 = .ok (.if_icmp .ge 7, 3) := by decide +kernel
theorem dX10_layPlaces_34 : decode cX10_layPlaces 34 = .ok (.iload_n 1, 1) := by decide +kernel
theorem dX10_layPlaces_35 : decode cX10_layPlaces 35 = .ok (.goto 4, 3) := by decide +kernel
theorem dX10_layPlaces_38 : decode cX10_layPlaces 38 = .ok (.iconst 5, 1) := by decide +kernel
theorem dX10_layPlaces_39 : decode cX10_layPlaces 39 = .ok (.iload_n 2, 1) := by decide +kernel
theorem dX10_layPlaces_40 : decode cX10_layPlaces 40 = .ok (.iastore, 1) := by decide +kernel
theorem dX10_layPlaces_41 : decode cX10_layPlaces 41 = .ok (.iinc 1 1, 3) := by decide +kernel
theorem dX10_layPlaces_44 : decode cX10_layPlaces 44 = .ok (.iinc 2 1, 3) := by decide +kernel
theorem dX10_layPlaces_47 : decode cX10_layPlaces 47 = .ok (.goto (-43), 3) := by decide +kernel
theorem dX10_layPlaces_50 : decode cX10_layPlaces 50 = .ok (.iload_n 1, 1) := by decide +kernel
theorem dX10_layPlaces_51 : decode cX10_layPlaces 51 = .ok (.ireturn, 1) := by decide +kernel
theorem dX10_stopsBy_0 : decode cX10_stopsBy 0 = .ok (.aload_n 0, 1) := by decide +kernel
theorem dX10_stopsBy_1 : decode cX10_stopsBy 1 = .ok (.getfield 22, 3) := by decide +kernel
theorem dX10_stopsBy_4 : decode cX10_stopsBy 4 = .ok (.aload_n 0, 1) := by decide +kernel
theorem dX10_stopsBy_5 : decode cX10_stopsBy 5 = .ok (.getfield 25, 3) := by decide +kernel
theorem dX10_stopsBy_8 : decode cX10_stopsBy 8 = .ok (.invokestatic 218, 3) := by decide +kernel
theorem dX10_stopsBy_11 : decode cX10_stopsBy 11 = .ok (.aload_n 0, 1) := by decide +kernel
theorem dX10_stopsBy_12 : decode cX10_stopsBy 12 = .ok (.getfield 25, 3) := by decide +kernel
theorem dX10_stopsBy_15 : decode cX10_stopsBy 15 = .ok (.bipush 25, 2) := by decide +kernel
theorem dX10_stopsBy_17 : decode cX10_stopsBy 17 = .ok (.iconst 0, 1) := by decide +kernel
theorem dX10_stopsBy_18 : decode cX10_stopsBy 18 = .ok (.iastore, 1) := by decide +kernel
theorem dX10_stopsBy_19 : decode cX10_stopsBy 19 = .ok (.iconst 0, 1) := by decide +kernel
theorem dX10_stopsBy_20 : decode cX10_stopsBy 20 = .ok (.istore_n 3, 1) := by decide +kernel
theorem dX10_stopsBy_21 : decode cX10_stopsBy 21 = .ok (.iload_n 3, 1) := by decide +kernel
theorem dX10_stopsBy_22 : decode cX10_stopsBy 22 = .ok (.iload_n 2, 1) := by decide +kernel
theorem dX10_stopsBy_23 : decode cX10_stopsBy 23 = .ok (.if_icmp .ge 49, 3) := by decide +kernel
theorem dX10_stopsBy_26 : decode cX10_stopsBy 26 = .ok (.aload_n 0, 1) := by decide +kernel
theorem dX10_stopsBy_27 : decode cX10_stopsBy 27 = .ok (.getfield 25, 3) := by decide +kernel
theorem dX10_stopsBy_30 : decode cX10_stopsBy 30 = .ok (.bipush 26, 2) := by decide +kernel
theorem dX10_stopsBy_32 : decode cX10_stopsBy 32 = .ok (.aload_n 0, 1) := by decide +kernel
theorem dX10_stopsBy_33 : decode cX10_stopsBy 33 = .ok (.getfield 47, 3) := by decide +kernel
theorem dX10_stopsBy_36 : decode cX10_stopsBy 36 = .ok (.iload_n 3, 1) := by decide +kernel
theorem dX10_stopsBy_37 : decode cX10_stopsBy 37 = .ok (.iaload, 1) := by decide +kernel
theorem dX10_stopsBy_38 : decode cX10_stopsBy 38 = .ok (.iadd, 1) := by decide +kernel
theorem dX10_stopsBy_39 : decode cX10_stopsBy 39 = .ok (.iload_n 1, 1) := by decide +kernel
theorem dX10_stopsBy_40 : decode cX10_stopsBy 40 = .ok (.iload_n 3, 1) := by decide +kernel
theorem dX10_stopsBy_41 : decode cX10_stopsBy 41 = .ok (.invokestatic 163, 3) := by decide +kernel
theorem dX10_stopsBy_44 : decode cX10_stopsBy 44 = .ok (.ifCond .eq 20, 3) := by decide +kernel
theorem dX10_stopsBy_47 : decode cX10_stopsBy 47 = .ok (.aload_n 0, 1) := by decide +kernel
theorem dX10_stopsBy_48 : decode cX10_stopsBy 48 = .ok (.getfield 25, 3) := by decide +kernel
theorem dX10_stopsBy_51 : decode cX10_stopsBy 51 = .ok (.bipush 26, 2) := by decide +kernel
theorem dX10_stopsBy_53 : decode cX10_stopsBy 53 = .ok (.aload_n 0, 1) := by decide +kernel
theorem dX10_stopsBy_54 : decode cX10_stopsBy 54 = .ok (.getfield 47, 3) := by decide +kernel
theorem dX10_stopsBy_57 : decode cX10_stopsBy 57 = .ok (.iload_n 3, 1) := by decide +kernel
theorem dX10_stopsBy_58 : decode cX10_stopsBy 58 = .ok (.iaload, 1) := by decide +kernel
theorem dX10_stopsBy_59 : decode cX10_stopsBy 59 = .ok (.iadd, 1) := by decide +kernel
theorem dX10_stopsBy_60 : decode cX10_stopsBy 60 = .ok (.iaload, 1) := by decide +kernel
theorem dX10_stopsBy_61 : decode cX10_stopsBy 61 = .ok (.goto 4, 3) := by decide +kernel
theorem dX10_stopsBy_64 : decode cX10_stopsBy 64 = .ok (.iconst 0, 1) := by decide +kernel
theorem dX10_stopsBy_65 : decode cX10_stopsBy 65 = .ok (.iastore, 1) := by decide +kernel
theorem dX10_stopsBy_66 : decode cX10_stopsBy 66 = .ok (.iinc 3 1, 3) := by decide +kernel
theorem dX10_stopsBy_69 : decode cX10_stopsBy 69 = .ok (.goto (-48), 3) := by decide +kernel
theorem dX10_stopsBy_72 : decode cX10_stopsBy 72 = .ok (.iconst 0, 1) := by decide +kernel
theorem dX10_stopsBy_73 : decode cX10_stopsBy 73 = .ok (.istore_n 3, 1) := by decide +kernel
theorem dX10_stopsBy_74 : decode cX10_stopsBy 74 = .ok (.iload_n 3, 1) := by decide +kernel
theorem dX10_stopsBy_75 : decode cX10_stopsBy 75 = .ok (.bipush 20, 2) := by decide +kernel
theorem dX10_stopsBy_77 : decode cX10_stopsBy 77 = .ok (.if_icmp .ge 22, 3) := by decide +kernel
theorem dX10_stopsBy_80 : decode cX10_stopsBy 80 = .ok (.aload_n 0, 1) := by decide +kernel
theorem dX10_stopsBy_81 : decode cX10_stopsBy 81 = .ok (.aload_n 0, 1) := by decide +kernel
theorem dX10_stopsBy_82 : decode cX10_stopsBy 82 = .ok (.getfield 25, 3) := by decide +kernel
theorem dX10_stopsBy_85 : decode cX10_stopsBy 85 = .ok (.iconst 3, 1) := by decide +kernel
theorem dX10_stopsBy_86 : decode cX10_stopsBy 86 = .ok (.invokevirtual 204, 3) := by decide +kernel
theorem dX10_stopsBy_89 : decode cX10_stopsBy 89 = .ok (.iconst 1, 1) := by decide +kernel
theorem dX10_stopsBy_90 : decode cX10_stopsBy 90 = .ok (.if_icmp .ne 9, 3) := by decide +kernel
theorem dX10_stopsBy_93 : decode cX10_stopsBy 93 = .ok (.iinc 3 1, 3) := by decide +kernel
theorem dX10_stopsBy_96 : decode cX10_stopsBy 96 = .ok (.goto (-22), 3) := by decide +kernel
theorem dX10_stopsBy_99 : decode cX10_stopsBy 99 = .ok (.iload_n 3, 1) := by decide +kernel
theorem dX10_stopsBy_100 : decode cX10_stopsBy 100 = .ok (.ireturn, 1) := by decide +kernel
theorem dX10_share_0 : decode cX10_share 0 = .ok (.aload_n 0, 1) := by decide +kernel
theorem dX10_share_1 : decode cX10_share 1 = .ok (.iload_n 1, 1) := by decide +kernel
theorem dX10_share_2 : decode cX10_share 2 = .ok (.invokevirtual 135, 3) := by decide +kernel
theorem dX10_share_5 : decode cX10_share 5 = .ok (.ifCond .ne 5, 3) := by decide +kernel
theorem dX10_share_8 : decode cX10_share 8 = .ok (.iconst (-1), 1) := by decide +kernel
theorem dX10_share_9 : decode cX10_share 9 = .ok (.ireturn, 1) := by decide +kernel
theorem dX10_share_10 : decode cX10_share 10 = .ok (.aload_n 0, 1) := by decide +kernel
theorem dX10_share_11 : decode cX10_share 11 = .ok (.invokevirtual 238, 3) := by decide +kernel
theorem dX10_share_14 : decode cX10_share 14 = .ok (.istore_n 3, 1) := by decide +kernel
theorem dX10_share_15 : decode cX10_share 15 = .ok (.aload_n 0, 1) := by decide +kernel
theorem dX10_share_16 : decode cX10_share 16 = .ok (.getfield 22, 3) := by decide +kernel
theorem dX10_share_19 : decode cX10_share 19 = .ok (.bipush 26, 2) := by decide +kernel
theorem dX10_share_21 : decode cX10_share 21 = .ok (.iload_n 1, 1) := by decide +kernel
theorem dX10_share_22 : decode cX10_share 22 = .ok (.iadd, 1) := by decide +kernel
theorem dX10_share_23 : decode cX10_share 23 = .ok (.iaload, 1) := by decide +kernel
theorem dX10_share_24 : decode cX10_share 24 = .ok (.ifCond .eq 9, 3) := by decide +kernel
theorem dX10_share_27 : decode cX10_share 27 = .ok (.iload_n 3, 1) := by decide +kernel
theorem dX10_share_28 : decode cX10_share 28 = .ok (.bipush 6, 2) := by decide +kernel
theorem dX10_share_30 : decode cX10_share 30 = .ok (.if_icmp .le 6, 3) := by decide +kernel
theorem dX10_share_33 : decode cX10_share 33 = .ok (.bipush (-3), 2) := by decide +kernel
theorem dX10_share_35 : decode cX10_share 35 = .ok (.ireturn, 1) := by decide +kernel
theorem dX10_share_36 : decode cX10_share 36 = .ok (.iconst 0, 1) := by decide +kernel
theorem dX10_share_37 : decode cX10_share 37 = .ok (.istore 4, 2) := by decide +kernel
theorem dX10_share_39 : decode cX10_share 39 = .ok (.iconst 0, 1) := by decide +kernel
theorem dX10_share_40 : decode cX10_share 40 = .ok (.istore 5, 2) := by decide +kernel
theorem dX10_share_42 : decode cX10_share 42 = .ok (.iload 5, 2) := by decide +kernel
theorem dX10_share_44 : decode cX10_share 44 = .ok (.iload_n 3, 1) := by decide +kernel
theorem dX10_share_45 : decode cX10_share 45 = .ok (.if_icmp .ge 29, 3) := by decide +kernel
theorem dX10_share_48 : decode cX10_share 48 = .ok (.aload_n 0, 1) := by decide +kernel
theorem dX10_share_49 : decode cX10_share 49 = .ok (.getfield 47, 3) := by decide +kernel
theorem dX10_share_52 : decode cX10_share 52 = .ok (.iload 5, 2) := by decide +kernel
theorem dX10_share_54 : decode cX10_share 54 = .ok (.iaload, 1) := by decide +kernel
theorem dX10_share_55 : decode cX10_share 55 = .ok (.iload_n 1, 1) := by decide +kernel
theorem dX10_share_56 : decode cX10_share 56 = .ok (.if_icmp .ne 8, 3) := by decide +kernel
theorem dX10_share_59 : decode cX10_share 59 = .ok (.iload 5, 2) := by decide +kernel
theorem dX10_share_61 : decode cX10_share 61 = .ok (.goto 5, 3) := by decide +kernel
theorem dX10_share_64 : decode cX10_share 64 = .ok (.iload 4, 2) := by decide +kernel
theorem dX10_share_66 : decode cX10_share 66 = .ok (.istore 4, 2) := by decide +kernel
theorem dX10_share_68 : decode cX10_share 68 = .ok (.iinc 5 1, 3) := by decide +kernel
theorem dX10_share_71 : decode cX10_share 71 = .ok (.goto (-29), 3) := by decide +kernel
theorem dX10_share_74 : decode cX10_share 74 = .ok (.iconst 0, 1) := by decide +kernel
theorem dX10_share_75 : decode cX10_share 75 = .ok (.istore 5, 2) := by decide +kernel
theorem dX10_share_77 : decode cX10_share 77 = .ok (.iload 5, 2) := by decide +kernel
theorem dX10_share_79 : decode cX10_share 79 = .ok (.iconst 1, 1) := by decide +kernel
theorem dX10_share_80 : decode cX10_share 80 = .ok (.iload_n 3, 1) := by decide +kernel
theorem dX10_share_81 : decode cX10_share 81 = .ok (.ishl, 1) := by decide +kernel
theorem dX10_share_82 : decode cX10_share 82 = .ok (.if_icmp .ge 23, 3) := by decide +kernel
theorem dX10_share_85 : decode cX10_share 85 = .ok (.aload_n 0, 1) := by decide +kernel
theorem dX10_share_86 : decode cX10_share 86 = .ok (.getfield 50, 3) := by decide +kernel
theorem dX10_share_89 : decode cX10_share 89 = .ok (.iload 5, 2) := by decide +kernel
theorem dX10_share_91 : decode cX10_share 91 = .ok (.aload_n 0, 1) := by decide +kernel
theorem dX10_share_92 : decode cX10_share 92 = .ok (.iload 5, 2) := by decide +kernel
theorem dX10_share_94 : decode cX10_share 94 = .ok (.iload_n 3, 1) := by decide +kernel
theorem dX10_share_95 : decode cX10_share 95 = .ok (.invokevirtual 241, 3) := by decide +kernel
theorem dX10_share_98 : decode cX10_share 98 = .ok (.iastore, 1) := by decide +kernel
theorem dX10_share_99 : decode cX10_share 99 = .ok (.iinc 5 1, 3) := by decide +kernel
theorem dX10_share_102 : decode cX10_share 102 = .ok (.goto (-25), 3) := by decide +kernel
theorem dX10_share_105 : decode cX10_share 105 = .ok (.iconst 0, 1) := by decide +kernel
theorem dX10_share_106 : decode cX10_share 106 = .ok (.istore 5, 2) := by decide +kernel
theorem dX10_share_108 : decode cX10_share 108 = .ok (.iconst 0, 1) := by decide +kernel
theorem dX10_share_109 : decode cX10_share 109 = .ok (.istore 6, 2) := by decide +kernel
theorem dX10_share_111 : decode cX10_share 111 = .ok (.iload 6, 2) := by decide +kernel
theorem dX10_share_113 : decode cX10_share 113 = .ok (.iconst 1, 1) := by decide +kernel
theorem dX10_share_114 : decode cX10_share 114 = .ok (.iload_n 3, 1) := by decide +kernel
theorem dX10_share_115 : decode cX10_share 115 = .ok (.ishl, 1) := by decide +kernel
theorem dX10_share_116 : decode cX10_share 116 = .ok (.if_icmp .ge 67, 3) := by decide +kernel
theorem dX10_share_119 : decode cX10_share 119 = .ok (.iload 6, 2) := by decide +kernel
theorem dX10_share_121 : decode cX10_share 121 = .ok (.iload 4, 2) := by decide +kernel
theorem dX10_share_123 : decode cX10_share 123 = .ok (.invokestatic 163, 3) := by decide +kernel
theorem dX10_share_126 : decode cX10_share 126 = .ok (.ifCond .ne 51, 3) := by decide +kernel
theorem dX10_share_129 : decode cX10_share 129 = .ok (.iload 6, 2) := by decide +kernel
theorem dX10_share_131 : decode cX10_share 131 = .ok (.invokestatic 160, 3) := by decide +kernel
theorem dX10_share_134 : decode cX10_share 134 = .ok (.istore 7, 2) := by decide +kernel
theorem dX10_share_136 : decode cX10_share 136 = .ok (.iload 5, 2) := by decide +kernel
theorem dX10_share_138 : decode cX10_share 138 = .ok (.iload 7, 2) := by decide +kernel
theorem dX10_share_140 : decode cX10_share 140 = .ok (.invokestatic 244, 3) := by decide +kernel
theorem dX10_share_143 : decode cX10_share 143 = .ok (.iload_n 3, 1) := by decide +kernel
theorem dX10_share_144 : decode cX10_share 144 = .ok (.iconst 1, 1) := by decide +kernel
theorem dX10_share_145 : decode cX10_share 145 = .ok (.isub, 1) := by decide +kernel
theorem dX10_share_146 : decode cX10_share 146 = .ok (.iload 7, 2) := by decide +kernel
theorem dX10_share_148 : decode cX10_share 148 = .ok (.isub, 1) := by decide +kernel
theorem dX10_share_149 : decode cX10_share 149 = .ok (.invokestatic 244, 3) := by decide +kernel
theorem dX10_share_152 : decode cX10_share 152 = .ok (.imul, 1) := by decide +kernel
theorem dX10_share_153 : decode cX10_share 153 = .ok (.aload_n 0, 1) := by decide +kernel
theorem dX10_share_154 : decode cX10_share 154 = .ok (.getfield 50, 3) := by decide +kernel
theorem dX10_share_157 : decode cX10_share 157 = .ok (.iload 6, 2) := by decide +kernel
theorem dX10_share_159 : decode cX10_share 159 = .ok (.iconst 1, 1) := by decide +kernel
theorem dX10_share_160 : decode cX10_share 160 = .ok (.iload 4, 2) := by decide +kernel
theorem dX10_share_162 : decode cX10_share 162 = .ok (.ishl, 1) := by decide +kernel
theorem dX10_share_163 : decode cX10_share 163 = .ok (.ior, 1) := by decide +kernel
theorem dX10_share_164 : decode cX10_share 164 = .ok (.iaload, 1) := by decide +kernel
theorem dX10_share_165 : decode cX10_share 165 = .ok (.aload_n 0, 1) := by decide +kernel
theorem dX10_share_166 : decode cX10_share 166 = .ok (.getfield 50, 3) := by decide +kernel
theorem dX10_share_169 : decode cX10_share 169 = .ok (.iload 6, 2) := by decide +kernel
theorem dX10_share_171 : decode cX10_share 171 = .ok (.iaload, 1) := by decide +kernel
theorem dX10_share_172 : decode cX10_share 172 = .ok (.isub, 1) := by decide +kernel
theorem dX10_share_173 : decode cX10_share 173 = .ok (.imul, 1) := by decide +kernel
theorem dX10_share_174 : decode cX10_share 174 = .ok (.iadd, 1) := by decide +kernel
theorem dX10_share_175 : decode cX10_share 175 = .ok (.istore 5, 2) := by decide +kernel
theorem dX10_share_177 : decode cX10_share 177 = .ok (.iinc 6 1, 3) := by decide +kernel
theorem dX10_share_180 : decode cX10_share 180 = .ok (.goto (-69), 3) := by decide +kernel
theorem dX10_share_183 : decode cX10_share 183 = .ok (.iload 5, 2) := by decide +kernel
theorem dX10_share_185 : decode cX10_share 185 = .ok (.iload_n 3, 1) := by decide +kernel
theorem dX10_share_186 : decode cX10_share 186 = .ok (.invokestatic 244, 3) := by decide +kernel
theorem dX10_share_189 : decode cX10_share 189 = .ok (.iload_n 2, 1) := by decide +kernel
theorem dX10_share_190 : decode cX10_share 190 = .ok (.invokestatic 247, 3) := by decide +kernel
theorem dX10_share_193 : decode cX10_share 193 = .ok (.ireturn, 1) := by decide +kernel
theorem dX10_chance_0 : decode cX10_chance 0 = .ok (.iload_n 1, 1) := by decide +kernel
theorem dX10_chance_1 : decode cX10_chance 1 = .ok (.i2l, 1) := by decide +kernel
theorem dX10_chance_2 : decode cX10_chance 2 = .ok (.lconst 0, 1) := by decide +kernel
theorem dX10_chance_3 : decode cX10_chance 3 = .ok (.ldc2_w 251, 3) := by decide +kernel
theorem dX10_chance_6 : decode cX10_chance 6 = .ok (.invokestatic 73, 3) := by decide +kernel
theorem dX10_chance_9 : decode cX10_chance 9 = .ok (.ifCond .eq 15, 3) := by decide +kernel
theorem dX10_chance_12 : decode cX10_chance 12 = .ok (.iload_n 2, 1) := by decide +kernel
theorem dX10_chance_13 : decode cX10_chance 13 = .ok (.i2l, 1) := by decide +kernel
theorem dX10_chance_14 : decode cX10_chance 14 = .ok (.lconst 0, 1) := by decide +kernel
theorem dX10_chance_15 : decode cX10_chance 15 = .ok (.ldc2_w 253, 3) := by decide +kernel
theorem dX10_chance_18 : decode cX10_chance 18 = .ok (.invokestatic 73, 3) := by decide +kernel
theorem dX10_chance_21 : decode cX10_chance 21 = .ok (.ifCond .ne 6, 3) := by decide +kernel
theorem dX10_chance_24 : decode cX10_chance 24 = .ok (.bipush (-2), 2) := by decide +kernel
theorem dX10_chance_26 : decode cX10_chance 26 = .ok (.ireturn, 1) := by decide +kernel
theorem dX10_chance_27 : decode cX10_chance 27 = .ok (.aload_n 0, 1) := by decide +kernel
theorem dX10_chance_28 : decode cX10_chance 28 = .ok (.invokevirtual 238, 3) := by decide +kernel
theorem dX10_chance_31 : decode cX10_chance 31 = .ok (.istore 4, 2) := by decide +kernel
theorem dX10_chance_33 : decode cX10_chance 33 = .ok (.iload 4, 2) := by decide +kernel
theorem dX10_chance_35 : decode cX10_chance 35 = .ok (.bipush 6, 2) := by decide +kernel
theorem dX10_chance_37 : decode cX10_chance 37 = .ok (.if_icmp .le 6, 3) := by decide +kernel
theorem dX10_chance_40 : decode cX10_chance 40 = .ok (.bipush (-3), 2) := by decide +kernel
theorem dX10_chance_42 : decode cX10_chance 42 = .ok (.ireturn, 1) := by decide +kernel
theorem dX10_chance_43 : decode cX10_chance 43 = .ok (.iconst 0, 1) := by decide +kernel
theorem dX10_chance_44 : decode cX10_chance 44 = .ok (.istore 5, 2) := by decide +kernel
theorem dX10_chance_46 : decode cX10_chance 46 = .ok (.iconst 0, 1) := by decide +kernel
theorem dX10_chance_47 : decode cX10_chance 47 = .ok (.istore 6, 2) := by decide +kernel
theorem dX10_chance_49 : decode cX10_chance 49 = .ok (.iload 6, 2) := by decide +kernel
theorem dX10_chance_51 : decode cX10_chance 51 = .ok (.iconst 1, 1) := by decide +kernel
theorem dX10_chance_52 : decode cX10_chance 52 = .ok (.iload 4, 2) := by decide +kernel
theorem dX10_chance_54 : decode cX10_chance 54 = .ok (.ishl, 1) := by decide +kernel
theorem dX10_chance_55 : decode cX10_chance 55 = .ok (.if_icmp .ge 55, 3) := by decide +kernel
theorem dX10_chance_58 : decode cX10_chance 58 = .ok (.iload 5, 2) := by decide +kernel
theorem dX10_chance_60 : decode cX10_chance 60 = .ok (.aload_n 0, 1) := by decide +kernel
theorem dX10_chance_61 : decode cX10_chance 61 = .ok (.iload 6, 2) := by decide +kernel
theorem dX10_chance_63 : decode cX10_chance 63 = .ok (.iload 4, 2) := by decide +kernel
theorem dX10_chance_65 : decode cX10_chance 65 = .ok (.invokevirtual 241, 3) := by decide +kernel
theorem dX10_chance_68 : decode cX10_chance 68 = .ok (.iload_n 1, 1) := by decide +kernel
theorem dX10_chance_69 : decode cX10_chance 69 = .ok (.if_icmp .lt 31, 3) := by decide +kernel
theorem dX10_chance_72 : decode cX10_chance 72 = .ok (.bipush 10, 2) := by decide +kernel
theorem dX10_chance_74 : decode cX10_chance 74 = .ok (.iload_n 2, 1) := by decide +kernel
theorem dX10_chance_75 : decode cX10_chance 75 = .ok (.isub, 1) := by decide +kernel
theorem dX10_chance_76 : decode cX10_chance 76 = .ok (.iload 6, 2) := by decide +kernel
theorem dX10_chance_78 : decode cX10_chance 78 = .ok (.invokestatic 160, 3) := by decide +kernel
theorem dX10_chance_81 : decode cX10_chance 81 = .ok (.invokestatic 255, 3) := by decide +kernel
theorem dX10_chance_84 : decode cX10_chance 84 = .ok (.iload_n 2, 1) := by decide +kernel
theorem dX10_chance_85 : decode cX10_chance 85 = .ok (.iload 4, 2) := by decide +kernel
theorem dX10_chance_87 : decode cX10_chance 87 = .ok (.iload 6, 2) := by decide +kernel
theorem dX10_chance_89 : decode cX10_chance 89 = .ok (.invokestatic 160, 3) := by decide +kernel
theorem dX10_chance_92 : decode cX10_chance 92 = .ok (.isub, 1) := by decide +kernel
theorem dX10_chance_93 : decode cX10_chance 93 = .ok (.invokestatic 255, 3) := by decide +kernel
theorem dX10_chance_96 : decode cX10_chance 96 = .ok (.imul, 1) := by decide +kernel
theorem dX10_chance_97 : decode cX10_chance 97 = .ok (.goto 4, 3) := by decide +kernel
theorem dX10_chance_100 : decode cX10_chance 100 = .ok (.iconst 0, 1) := by decide +kernel
theorem dX10_chance_101 : decode cX10_chance 101 = .ok (.iadd, 1) := by decide +kernel
theorem dX10_chance_102 : decode cX10_chance 102 = .ok (.istore 5, 2) := by decide +kernel
theorem dX10_chance_104 : decode cX10_chance 104 = .ok (.iinc 6 1, 3) := by decide +kernel
theorem dX10_chance_107 : decode cX10_chance 107 = .ok (.goto (-58), 3) := by decide +kernel
theorem dX10_chance_110 : decode cX10_chance 110 = .ok (.iload 5, 2) := by decide +kernel
theorem dX10_chance_112 : decode cX10_chance 112 = .ok (.bipush 10, 2) := by decide +kernel
theorem dX10_chance_114 : decode cX10_chance 114 = .ok (.iload 4, 2) := by decide +kernel
theorem dX10_chance_116 : decode cX10_chance 116 = .ok (.invokestatic 255, 3) := by decide +kernel
theorem dX10_chance_119 : decode cX10_chance 119 = .ok (.iload_n 3, 1) := by decide +kernel
theorem dX10_chance_120 : decode cX10_chance 120 = .ok (.invokestatic 247, 3) := by decide +kernel
theorem dX10_chance_123 : decode cX10_chance 123 = .ok (.ireturn, 1) := by decide +kernel
theorem dX10_seed_0 : decode cX10_seed 0 = .ok (.aload_n 0, 1) := by decide +kernel
theorem dX10_seed_1 : decode cX10_seed 1 = .ok (.getfield 258, 3) := by decide +kernel
theorem dX10_seed_4 : decode cX10_seed 4 = .ok (.lstore_n 3, 1) := by decide +kernel
theorem dX10_seed_5 : decode cX10_seed 5 = .ok (.aload_n 0, 1) := by decide +kernel
theorem dX10_seed_6 : decode cX10_seed 6 = .ok (.lload_n 1, 1) := by decide +kernel
theorem dX10_seed_7 : decode cX10_seed 7 = .ok (.putfield 258, 3) := by decide +kernel
theorem dX10_seed_10 : decode cX10_seed 10 = .ok (.lload_n 3, 1) := by decide +kernel
theorem dX10_seed_11 : decode cX10_seed 11 = .ok (.lreturn, 1) := by decide +kernel
theorem dX10_drawn_0 : decode cX10_drawn 0 = .ok (.iload_n 1, 1) := by decide +kernel
theorem dX10_drawn_1 : decode cX10_drawn 1 = .ok (.i2l, 1) := by decide +kernel
theorem dX10_drawn_2 : decode cX10_drawn 2 = .ok (.lconst 1, 1) := by decide +kernel
theorem dX10_drawn_3 : decode cX10_drawn 3 = .ok (.ldc2_w 253, 3) := by decide +kernel
theorem dX10_drawn_6 : decode cX10_drawn 6 = .ok (.invokestatic 73, 3) := by decide +kernel
theorem dX10_drawn_9 : decode cX10_drawn 9 = .ok (.ifCond .ne 6, 3) := by decide +kernel
theorem dX10_drawn_12 : decode cX10_drawn 12 = .ok (.bipush (-2), 2) := by decide +kernel
theorem dX10_drawn_14 : decode cX10_drawn 14 = .ok (.ireturn, 1) := by decide +kernel
theorem dX10_drawn_15 : decode cX10_drawn 15 = .ok (.iconst 0, 1) := by decide +kernel
theorem dX10_drawn_16 : decode cX10_drawn 16 = .ok (.istore_n 2, 1) := by decide +kernel
theorem dX10_drawn_17 : decode cX10_drawn 17 = .ok (.iconst 0, 1) := by decide +kernel
theorem dX10_drawn_18 : decode cX10_drawn 18 = .ok (.istore_n 3, 1) := by decide +kernel
theorem dX10_drawn_19 : decode cX10_drawn 19 = .ok (.iload_n 3, 1) := by decide +kernel
theorem dX10_drawn_20 : decode cX10_drawn 20 = .ok (.iload_n 1, 1) := by decide +kernel
theorem dX10_drawn_21 : decode cX10_drawn 21 = .ok (.if_icmp .ge 91, 3) := by decide +kernel
theorem dX10_drawn_24 : decode cX10_drawn 24 = .ok (.aload_n 0, 1) := by decide +kernel
theorem dX10_drawn_25 : decode cX10_drawn 25 = .ok (.aload_n 0, 1) := by decide +kernel
theorem dX10_drawn_26 : decode cX10_drawn 26 = .ok (.getfield 258, 3) := by decide +kernel
theorem dX10_drawn_29 : decode cX10_drawn 29 = .ok (.ldc2_w 262, 3) := by decide +kernel
theorem dX10_drawn_32 : decode cX10_drawn 32 = .ok (.lmul, 1) := by decide +kernel
theorem dX10_drawn_33 : decode cX10_drawn 33 = .ok (.ldc2_w 264, 3) := by decide +kernel
theorem dX10_drawn_36 : decode cX10_drawn 36 = .ok (.ladd, 1) := by decide +kernel
theorem dX10_drawn_37 : decode cX10_drawn 37 = .ok (.putfield 258, 3) := by decide +kernel
theorem dX10_drawn_40 : decode cX10_drawn 40 = .ok (.aload_n 0, 1) := by decide +kernel
theorem dX10_drawn_41 : decode cX10_drawn 41 = .ok (.getfield 258, 3) := by decide +kernel
theorem dX10_drawn_44 : decode cX10_drawn 44 = .ok (.bipush 33, 2) := by decide +kernel
theorem dX10_drawn_46 : decode cX10_drawn 46 = .ok (.lushr, 1) := by decide +kernel
theorem dX10_drawn_47 : decode cX10_drawn 47 = .ok (.l2i, 1) := by decide +kernel
theorem dX10_drawn_48 : decode cX10_drawn 48 = .ok (.istore 4, 2) := by decide +kernel
theorem dX10_drawn_50 : decode cX10_drawn 50 = .ok (.aload_n 0, 1) := by decide +kernel
theorem dX10_drawn_51 : decode cX10_drawn 51 = .ok (.getfield 22, 3) := by decide +kernel
theorem dX10_drawn_54 : decode cX10_drawn 54 = .ok (.aload_n 0, 1) := by decide +kernel
theorem dX10_drawn_55 : decode cX10_drawn 55 = .ok (.getfield 25, 3) := by decide +kernel
theorem dX10_drawn_58 : decode cX10_drawn 58 = .ok (.invokestatic 218, 3) := by decide +kernel
theorem dX10_drawn_61 : decode cX10_drawn 61 = .ok (.iconst 0, 1) := by decide +kernel
theorem dX10_drawn_62 : decode cX10_drawn 62 = .ok (.istore 5, 2) := by decide +kernel
theorem dX10_drawn_64 : decode cX10_drawn 64 = .ok (.iload 5, 2) := by decide +kernel
theorem dX10_drawn_66 : decode cX10_drawn 66 = .ok (.iconst 4, 1) := by decide +kernel
theorem dX10_drawn_67 : decode cX10_drawn 67 = .ok (.if_icmp .ge 26, 3) := by decide +kernel
theorem dX10_drawn_70 : decode cX10_drawn 70 = .ok (.aload_n 0, 1) := by decide +kernel
theorem dX10_drawn_71 : decode cX10_drawn 71 = .ok (.getfield 25, 3) := by decide +kernel
theorem dX10_drawn_74 : decode cX10_drawn 74 = .ok (.iload 5, 2) := by decide +kernel
theorem dX10_drawn_76 : decode cX10_drawn 76 = .ok (.iload 4, 2) := by decide +kernel
theorem dX10_drawn_78 : decode cX10_drawn 78 = .ok (.iconst 4, 1) := by decide +kernel
theorem dX10_drawn_79 : decode cX10_drawn 79 = .ok (.iload 5, 2) := by decide +kernel
theorem dX10_drawn_81 : decode cX10_drawn 81 = .ok (.imul, 1) := by decide +kernel
theorem dX10_drawn_82 : decode cX10_drawn 82 = .ok (.ishr, 1) := by decide +kernel
theorem dX10_drawn_83 : decode cX10_drawn 83 = .ok (.bipush 15, 2) := by decide +kernel
theorem dX10_drawn_85 : decode cX10_drawn 85 = .ok (.iand, 1) := by decide +kernel
theorem dX10_drawn_86 : decode cX10_drawn 86 = .ok (.iastore, 1) := by decide +kernel
theorem dX10_drawn_87 : decode cX10_drawn 87 = .ok (.iinc 5 1, 3) := by decide +kernel
theorem dX10_drawn_90 : decode cX10_drawn 90 = .ok (.goto (-26), 3) := by decide +kernel
theorem dX10_drawn_93 : decode cX10_drawn 93 = .ok (.aload_n 0, 1) := by decide +kernel
theorem dX10_drawn_94 : decode cX10_drawn 94 = .ok (.invokevirtual 222, 3) := by decide +kernel
theorem dX10_drawn_97 : decode cX10_drawn 97 = .ok (.istore 5, 2) := by decide +kernel
theorem dX10_drawn_99 : decode cX10_drawn 99 = .ok (.iload_n 2, 1) := by decide +kernel
theorem dX10_drawn_100 : decode cX10_drawn 100 = .ok (.aload_n 0, 1) := by decide +kernel
theorem dX10_drawn_101 : decode cX10_drawn 101 = .ok (.getfield 186, 3) := by decide +kernel
theorem dX10_drawn_104 : decode cX10_drawn 104 = .ok (.iadd, 1) := by decide +kernel
theorem dX10_drawn_105 : decode cX10_drawn 105 = .ok (.istore_n 2, 1) := by decide +kernel
theorem dX10_drawn_106 : decode cX10_drawn 106 = .ok (.iinc 3 1, 3) := by decide +kernel
theorem dX10_drawn_109 : decode cX10_drawn 109 = .ok (.goto (-90), 3) := by decide +kernel
theorem dX10_drawn_112 : decode cX10_drawn 112 = .ok (.iload_n 2, 1) := by decide +kernel
theorem dX10_drawn_113 : decode cX10_drawn 113 = .ok (.ireturn, 1) := by decide +kernel
theorem dX10_keep_0 : decode cX10_keep 0 = .ok (.iload_n 1, 1) := by decide +kernel
theorem dX10_keep_1 : decode cX10_keep 1 = .ok (.i2l, 1) := by decide +kernel
theorem dX10_keep_2 : decode cX10_keep 2 = .ok (.lconst 0, 1) := by decide +kernel
theorem dX10_keep_3 : decode cX10_keep 3 = .ok (.lconst 1, 1) := by decide +kernel
theorem dX10_keep_4 : decode cX10_keep 4 = .ok (.invokestatic 73, 3) := by decide +kernel
theorem dX10_keep_7 : decode cX10_keep 7 = .ok (.ifCond .ne 5, 3) := by decide +kernel
theorem dX10_keep_10 : decode cX10_keep 10 = .ok (.iconst (-1), 1) := by decide +kernel
theorem dX10_keep_11 : decode cX10_keep 11 = .ok (.ireturn, 1) := by decide +kernel
theorem dX10_keep_12 : decode cX10_keep 12 = .ok (.aload_n 0, 1) := by decide +kernel
theorem dX10_keep_13 : decode cX10_keep 13 = .ok (.getfield 34, 3) := by decide +kernel
theorem dX10_keep_16 : decode cX10_keep 16 = .ok (.iload_n 1, 1) := by decide +kernel
theorem dX10_keep_17 : decode cX10_keep 17 = .ok (.iconst 1, 1) := by decide +kernel
theorem dX10_keep_18 : decode cX10_keep 18 = .ok (.bastore, 1) := by decide +kernel
theorem dX10_keep_19 : decode cX10_keep 19 = .ok (.iconst 0, 1) := by decide +kernel
theorem dX10_keep_20 : decode cX10_keep 20 = .ok (.istore_n 2, 1) := by decide +kernel
theorem dX10_keep_21 : decode cX10_keep 21 = .ok (.iload_n 2, 1) := by decide +kernel
theorem dX10_keep_22 : decode cX10_keep 22 = .ok (.sipush 128, 3) := by decide +kernel
theorem dX10_keep_25 : decode cX10_keep 25 = .ok (.if_icmp .ge 27, 3) := by decide +kernel
theorem dX10_keep_28 : decode cX10_keep 28 = .ok (.aload_n 0, 1) := by decide +kernel
theorem dX10_keep_29 : decode cX10_keep 29 = .ok (.getfield 31, 3) := by decide +kernel
theorem dX10_keep_32 : decode cX10_keep 32 = .ok (.sipush 128, 3) := by decide +kernel
theorem dX10_keep_35 : decode cX10_keep 35 = .ok (.iload_n 1, 1) := by decide +kernel
theorem dX10_keep_36 : decode cX10_keep 36 = .ok (.imul, 1) := by decide +kernel
theorem dX10_keep_37 : decode cX10_keep 37 = .ok (.iload_n 2, 1) := by decide +kernel
theorem dX10_keep_38 : decode cX10_keep 38 = .ok (.iadd, 1) := by decide +kernel
theorem dX10_keep_39 : decode cX10_keep 39 = .ok (.aload_n 0, 1) := by decide +kernel
theorem dX10_keep_40 : decode cX10_keep 40 = .ok (.getfield 22, 3) := by decide +kernel
theorem dX10_keep_43 : decode cX10_keep 43 = .ok (.iload_n 2, 1) := by decide +kernel
theorem dX10_keep_44 : decode cX10_keep 44 = .ok (.iaload, 1) := by decide +kernel
theorem dX10_keep_45 : decode cX10_keep 45 = .ok (.iastore, 1) := by decide +kernel
theorem dX10_keep_46 : decode cX10_keep 46 = .ok (.iinc 2 1, 3) := by decide +kernel
theorem dX10_keep_49 : decode cX10_keep 49 = .ok (.goto (-28), 3) := by decide +kernel
theorem dX10_keep_52 : decode cX10_keep 52 = .ok (.aload_n 0, 1) := by decide +kernel
theorem dX10_keep_53 : decode cX10_keep 53 = .ok (.getfield 22, 3) := by decide +kernel
theorem dX10_keep_56 : decode cX10_keep 56 = .ok (.bipush 127, 2) := by decide +kernel
theorem dX10_keep_58 : decode cX10_keep 58 = .ok (.iaload, 1) := by decide +kernel
theorem dX10_keep_59 : decode cX10_keep 59 = .ok (.ireturn, 1) := by decide +kernel
theorem dX10_again_0 : decode cX10_again 0 = .ok (.iload_n 1, 1) := by decide +kernel
theorem dX10_again_1 : decode cX10_again 1 = .ok (.i2l, 1) := by decide +kernel
theorem dX10_again_2 : decode cX10_again 2 = .ok (.lconst 0, 1) := by decide +kernel
theorem dX10_again_3 : decode cX10_again 3 = .ok (.lconst 1, 1) := by decide +kernel
theorem dX10_again_4 : decode cX10_again 4 = .ok (.invokestatic 73, 3) := by decide +kernel
theorem dX10_again_7 : decode cX10_again 7 = .ok (.ifCond .ne 5, 3) := by decide +kernel
theorem dX10_again_10 : decode cX10_again 10 = .ok (.iconst (-1), 1) := by decide +kernel
theorem dX10_again_11 : decode cX10_again 11 = .ok (.ireturn, 1) := by decide +kernel
theorem dX10_again_12 : decode cX10_again 12 = .ok (.aload_n 0, 1) := by decide +kernel
theorem dX10_again_13 : decode cX10_again 13 = .ok (.getfield 34, 3) := by decide +kernel
theorem dX10_again_16 : decode cX10_again 16 = .ok (.iload_n 1, 1) := by decide +kernel
theorem dX10_again_17 : decode cX10_again 17 = .ok (.baload, 1) := by decide +kernel
theorem dX10_again_18 : decode cX10_again 18 = .ok (.ifCond .ne 6, 3) := by decide +kernel
theorem dX10_again_21 : decode cX10_again 21 = .ok (.bipush (-3), 2) := by decide +kernel
theorem dX10_again_23 : decode cX10_again 23 = .ok (.ireturn, 1) := by decide +kernel
theorem dX10_again_24 : decode cX10_again 24 = .ok (.iconst 0, 1) := by decide +kernel
theorem dX10_again_25 : decode cX10_again 25 = .ok (.istore_n 2, 1) := by decide +kernel
theorem dX10_again_26 : decode cX10_again 26 = .ok (.iload_n 2, 1) := by decide +kernel
theorem dX10_again_27 : decode cX10_again 27 = .ok (.sipush 128, 3) := by decide +kernel
theorem dX10_again_30 : decode cX10_again 30 = .ok (.if_icmp .ge 27, 3) := by decide +kernel
theorem dX10_again_33 : decode cX10_again 33 = .ok (.aload_n 0, 1) := by decide +kernel
theorem dX10_again_34 : decode cX10_again 34 = .ok (.getfield 22, 3) := by decide +kernel
theorem dX10_again_37 : decode cX10_again 37 = .ok (.iload_n 2, 1) := by decide +kernel
theorem dX10_again_38 : decode cX10_again 38 = .ok (.aload_n 0, 1) := by decide +kernel
theorem dX10_again_39 : decode cX10_again 39 = .ok (.getfield 31, 3) := by decide +kernel
theorem dX10_again_42 : decode cX10_again 42 = .ok (.sipush 128, 3) := by decide +kernel
theorem dX10_again_45 : decode cX10_again 45 = .ok (.iload_n 1, 1) := by decide +kernel
theorem dX10_again_46 : decode cX10_again 46 = .ok (.imul, 1) := by decide +kernel
theorem dX10_again_47 : decode cX10_again 47 = .ok (.iload_n 2, 1) := by decide +kernel
theorem dX10_again_48 : decode cX10_again 48 = .ok (.iadd, 1) := by decide +kernel
theorem dX10_again_49 : decode cX10_again 49 = .ok (.iaload, 1) := by decide +kernel
theorem dX10_again_50 : decode cX10_again 50 = .ok (.iastore, 1) := by decide +kernel
theorem dX10_again_51 : decode cX10_again 51 = .ok (.iinc 2 1, 3) := by decide +kernel
theorem dX10_again_54 : decode cX10_again 54 = .ok (.goto (-28), 3) := by decide +kernel
theorem dX10_again_57 : decode cX10_again 57 = .ok (.aload_n 0, 1) := by decide +kernel
theorem dX10_again_58 : decode cX10_again 58 = .ok (.iconst 0, 1) := by decide +kernel
theorem dX10_again_59 : decode cX10_again 59 = .ok (.putfield 132, 3) := by decide +kernel
theorem dX10_again_62 : decode cX10_again 62 = .ok (.aload_n 0, 1) := by decide +kernel
theorem dX10_again_63 : decode cX10_again 63 = .ok (.getfield 22, 3) := by decide +kernel
theorem dX10_again_66 : decode cX10_again 66 = .ok (.bipush 127, 2) := by decide +kernel
theorem dX10_again_68 : decode cX10_again 68 = .ok (.iaload, 1) := by decide +kernel
theorem dX10_again_69 : decode cX10_again 69 = .ok (.ireturn, 1) := by decide +kernel
end
section
theorem dL_law_0 : decode cL_law 0 = .ok (.new 7, 3) := by decide +kernel
theorem dL_law_3 : decode cL_law 3 = .ok (.dup, 1) := by decide +kernel
theorem dL_law_4 : decode cL_law 4 = .ok (.invokespecial 9, 3) := by decide +kernel
theorem dL_law_7 : decode cL_law 7 = .ok (.astore_n 1, 1) := by decide +kernel
theorem dL_law_8 : decode cL_law 8 = .ok (.new 10, 3) := by decide +kernel
theorem dL_law_11 : decode cL_law 11 = .ok (.dup, 1) := by decide +kernel
theorem dL_law_12 : decode cL_law 12 = .ok (.invokespecial 12, 3) := by decide +kernel
theorem dL_law_15 : decode cL_law 15 = .ok (.astore_n 2, 1) := by decide +kernel
theorem dL_law_16 : decode cL_law 16 = .ok (.iconst 0, 1) := by decide +kernel
theorem dL_law_17 : decode cL_law 17 = .ok (.istore_n 3, 1) := by decide +kernel
theorem dL_law_18 : decode cL_law 18 = .ok (.iload_n 3, 1) := by decide +kernel
theorem dL_law_19 : decode cL_law 19 = .ok (.aload_n 0, 1) := by decide +kernel
theorem dL_law_20 : decode cL_law 20 = .ok (.arraylength, 1) := by decide +kernel
theorem dL_law_21 : decode cL_law 21 = .ok (.bipush 6, 2) := by decide +kernel
theorem dL_law_23 : decode cL_law 23 = .ok (.isub, 1) := by decide +kernel
theorem dL_law_24 : decode cL_law 24 = .ok (.if_icmp .gt 949, 3) := by decide +kernel
theorem dL_law_27 : decode cL_law 27 = .ok (.aload_n 0, 1) := by decide +kernel
theorem dL_law_28 : decode cL_law 28 = .ok (.iload_n 3, 1) := by decide +kernel
theorem dL_law_29 : decode cL_law 29 = .ok (.iaload, 1) := by decide +kernel
theorem dL_law_30 : decode cL_law 30 = .ok (.bipush 31, 2) := by decide +kernel
theorem dL_law_32 : decode cL_law 32 = .ok (.iand, 1) := by decide +kernel
theorem dL_law_33 : decode cL_law 33 = .ok (.tableswitch 934 0 27 #[127, 150, 163, 176, 189, 212, 235, 258, 281, 314, 337, 360, 403, 466, 489, 512, 525, 558, 581, 644, 677, 690, 703, 752, 811, 865, 888, 911], 127) := by decide +kernel
theorem dL_law_160 : decode cL_law 160 = .ok (.aload_n 1, 1) := by decide +kernel
theorem dL_law_161 : decode cL_law 161 = .ok (.aload_n 0, 1) := by decide +kernel
theorem dL_law_162 : decode cL_law 162 = .ok (.iload_n 3, 1) := by decide +kernel
theorem dL_law_163 : decode cL_law 163 = .ok (.iconst 1, 1) := by decide +kernel
theorem dL_law_164 : decode cL_law 164 = .ok (.iadd, 1) := by decide +kernel
theorem dL_law_165 : decode cL_law 165 = .ok (.iaload, 1) := by decide +kernel
theorem dL_law_166 : decode cL_law 166 = .ok (.invokevirtual 13, 3) := by decide +kernel
theorem dL_law_169 : decode cL_law 169 = .ok (.aload_n 2, 1) := by decide +kernel
theorem dL_law_170 : decode cL_law 170 = .ok (.aload_n 0, 1) := by decide +kernel
theorem dL_law_171 : decode cL_law 171 = .ok (.iload_n 3, 1) := by decide +kernel
theorem dL_law_172 : decode cL_law 172 = .ok (.iconst 1, 1) := by decide +kernel
theorem dL_law_173 : decode cL_law 173 = .ok (.iadd, 1) := by decide +kernel
theorem dL_law_174 : decode cL_law 174 = .ok (.iaload, 1) := by decide +kernel
theorem dL_law_175 : decode cL_law 175 = .ok (.invokevirtual 17, 3) := by decide +kernel
theorem dL_law_178 : decode cL_law 178 = .ok (.if_icmp .eq 789, 3) := by decide +kernel
theorem dL_law_181 : decode cL_law 181 = .ok (.iconst 0, 1) := by decide +kernel
theorem dL_law_182 : decode cL_law 182 = .ok (.ireturn, 1) := by decide +kernel
theorem dL_law_183 : decode cL_law 183 = .ok (.aload_n 1, 1) := by decide +kernel
theorem dL_law_184 : decode cL_law 184 = .ok (.invokevirtual 18, 3) := by decide +kernel
theorem dL_law_187 : decode cL_law 187 = .ok (.aload_n 2, 1) := by decide +kernel
theorem dL_law_188 : decode cL_law 188 = .ok (.invokevirtual 22, 3) := by decide +kernel
theorem dL_law_191 : decode cL_law 191 = .ok (.if_icmp .eq 776, 3) := by decide +kernel
theorem dL_law_194 : decode cL_law 194 = .ok (.iconst 0, 1) := by decide +kernel
theorem dL_law_195 : decode cL_law 195 = .ok (.ireturn, 1) := by decide +kernel
theorem dL_law_196 : decode cL_law 196 = .ok (.aload_n 1, 1) := by decide +kernel
theorem dL_law_197 : decode cL_law 197 = .ok (.invokevirtual 23, 3) := by decide +kernel
theorem dL_law_200 : decode cL_law 200 = .ok (.aload_n 2, 1) := by decide +kernel
theorem dL_law_201 : decode cL_law 201 = .ok (.invokevirtual 26, 3) := by decide +kernel
theorem dL_law_204 : decode cL_law 204 = .ok (.if_icmp .eq 763, 3) := by decide +kernel
theorem dL_law_207 : decode cL_law 207 = .ok (.iconst 0, 1) := by decide +kernel
theorem dL_law_208 : decode cL_law 208 = .ok (.ireturn, 1) := by decide +kernel
theorem dL_law_209 : decode cL_law 209 = .ok (.aload_n 1, 1) := by decide +kernel
theorem dL_law_210 : decode cL_law 210 = .ok (.invokevirtual 27, 3) := by decide +kernel
theorem dL_law_213 : decode cL_law 213 = .ok (.aload_n 2, 1) := by decide +kernel
theorem dL_law_214 : decode cL_law 214 = .ok (.invokevirtual 30, 3) := by decide +kernel
theorem dL_law_217 : decode cL_law 217 = .ok (.if_icmp .eq 750, 3) := by decide +kernel
theorem dL_law_220 : decode cL_law 220 = .ok (.iconst 0, 1) := by decide +kernel
theorem dL_law_221 : decode cL_law 221 = .ok (.ireturn, 1) := by decide +kernel
theorem dL_law_222 : decode cL_law 222 = .ok (.aload_n 1, 1) := by decide +kernel
theorem dL_law_223 : decode cL_law 223 = .ok (.aload_n 0, 1) := by decide +kernel
theorem dL_law_224 : decode cL_law 224 = .ok (.iload_n 3, 1) := by decide +kernel
theorem dL_law_225 : decode cL_law 225 = .ok (.iconst 1, 1) := by decide +kernel
theorem dL_law_226 : decode cL_law 226 = .ok (.iadd, 1) := by decide +kernel
theorem dL_law_227 : decode cL_law 227 = .ok (.iaload, 1) := by decide +kernel
theorem dL_law_228 : decode cL_law 228 = .ok (.invokevirtual 31, 3) := by decide +kernel
theorem dL_law_231 : decode cL_law 231 = .ok (.aload_n 2, 1) := by decide +kernel
theorem dL_law_232 : decode cL_law 232 = .ok (.aload_n 0, 1) := by decide +kernel
theorem dL_law_233 : decode cL_law 233 = .ok (.iload_n 3, 1) := by decide +kernel
theorem dL_law_234 : decode cL_law 234 = .ok (.iconst 1, 1) := by decide +kernel
theorem dL_law_235 : decode cL_law 235 = .ok (.iadd, 1) := by decide +kernel
theorem dL_law_236 : decode cL_law 236 = .ok (.iaload, 1) := by decide +kernel
theorem dL_law_237 : decode cL_law 237 = .ok (.invokevirtual 34, 3) := by decide +kernel
theorem dL_law_240 : decode cL_law 240 = .ok (.if_icmp .eq 727, 3) := by decide +kernel
theorem dL_law_243 : decode cL_law 243 = .ok (.iconst 0, 1) := by decide +kernel
theorem dL_law_244 : decode cL_law 244 = .ok (.ireturn, 1) := by decide +kernel
theorem dL_law_245 : decode cL_law 245 = .ok (.aload_n 1, 1) := by decide +kernel
theorem dL_law_246 : decode cL_law 246 = .ok (.aload_n 0, 1) := by decide +kernel
theorem dL_law_247 : decode cL_law 247 = .ok (.iload_n 3, 1) := by decide +kernel
theorem dL_law_248 : decode cL_law 248 = .ok (.iconst 1, 1) := by decide +kernel
theorem dL_law_249 : decode cL_law 249 = .ok (.iadd, 1) := by decide +kernel
theorem dL_law_250 : decode cL_law 250 = .ok (.iaload, 1) := by decide +kernel
theorem dL_law_251 : decode cL_law 251 = .ok (.invokevirtual 35, 3) := by decide +kernel
theorem dL_law_254 : decode cL_law 254 = .ok (.aload_n 2, 1) := by decide +kernel
theorem dL_law_255 : decode cL_law 255 = .ok (.aload_n 0, 1) := by decide +kernel
theorem dL_law_256 : decode cL_law 256 = .ok (.iload_n 3, 1) := by decide +kernel
theorem dL_law_257 : decode cL_law 257 = .ok (.iconst 1, 1) := by decide +kernel
theorem dL_law_258 : decode cL_law 258 = .ok (.iadd, 1) := by decide +kernel
theorem dL_law_259 : decode cL_law 259 = .ok (.iaload, 1) := by decide +kernel
theorem dL_law_260 : decode cL_law 260 = .ok (.invokevirtual 38, 3) := by decide +kernel
theorem dL_law_263 : decode cL_law 263 = .ok (.if_icmp .eq 704, 3) := by decide +kernel
theorem dL_law_266 : decode cL_law 266 = .ok (.iconst 0, 1) := by decide +kernel
theorem dL_law_267 : decode cL_law 267 = .ok (.ireturn, 1) := by decide +kernel
theorem dL_law_268 : decode cL_law 268 = .ok (.aload_n 1, 1) := by decide +kernel
theorem dL_law_269 : decode cL_law 269 = .ok (.aload_n 0, 1) := by decide +kernel
theorem dL_law_270 : decode cL_law 270 = .ok (.iload_n 3, 1) := by decide +kernel
theorem dL_law_271 : decode cL_law 271 = .ok (.iconst 1, 1) := by decide +kernel
theorem dL_law_272 : decode cL_law 272 = .ok (.iadd, 1) := by decide +kernel
theorem dL_law_273 : decode cL_law 273 = .ok (.iaload, 1) := by decide +kernel
theorem dL_law_274 : decode cL_law 274 = .ok (.invokevirtual 39, 3) := by decide +kernel
theorem dL_law_277 : decode cL_law 277 = .ok (.aload_n 2, 1) := by decide +kernel
theorem dL_law_278 : decode cL_law 278 = .ok (.aload_n 0, 1) := by decide +kernel
theorem dL_law_279 : decode cL_law 279 = .ok (.iload_n 3, 1) := by decide +kernel
theorem dL_law_280 : decode cL_law 280 = .ok (.iconst 1, 1) := by decide +kernel
theorem dL_law_281 : decode cL_law 281 = .ok (.iadd, 1) := by decide +kernel
theorem dL_law_282 : decode cL_law 282 = .ok (.iaload, 1) := by decide +kernel
theorem dL_law_283 : decode cL_law 283 = .ok (.invokevirtual 42, 3) := by decide +kernel
theorem dL_law_286 : decode cL_law 286 = .ok (.if_icmp .eq 681, 3) := by decide +kernel
theorem dL_law_289 : decode cL_law 289 = .ok (.iconst 0, 1) := by decide +kernel
theorem dL_law_290 : decode cL_law 290 = .ok (.ireturn, 1) := by decide +kernel
theorem dL_law_291 : decode cL_law 291 = .ok (.aload_n 1, 1) := by decide +kernel
theorem dL_law_292 : decode cL_law 292 = .ok (.aload_n 0, 1) := by decide +kernel
theorem dL_law_293 : decode cL_law 293 = .ok (.iload_n 3, 1) := by decide +kernel
theorem dL_law_294 : decode cL_law 294 = .ok (.iconst 1, 1) := by decide +kernel
theorem dL_law_295 : decode cL_law 295 = .ok (.iadd, 1) := by decide +kernel
theorem dL_law_296 : decode cL_law 296 = .ok (.iaload, 1) := by decide +kernel
theorem dL_law_297 : decode cL_law 297 = .ok (.invokevirtual 43, 3) := by decide +kernel
theorem dL_law_300 : decode cL_law 300 = .ok (.aload_n 2, 1) := by decide +kernel
theorem dL_law_301 : decode cL_law 301 = .ok (.aload_n 0, 1) := by decide +kernel
theorem dL_law_302 : decode cL_law 302 = .ok (.iload_n 3, 1) := by decide +kernel
theorem dL_law_303 : decode cL_law 303 = .ok (.iconst 1, 1) := by decide +kernel
theorem dL_law_304 : decode cL_law 304 = .ok (.iadd, 1) := by decide +kernel
theorem dL_law_305 : decode cL_law 305 = .ok (.iaload, 1) := by decide +kernel
theorem dL_law_306 : decode cL_law 306 = .ok (.invokevirtual 46, 3) := by decide +kernel
theorem dL_law_309 : decode cL_law 309 = .ok (.if_icmp .eq 658, 3) := by decide +kernel
theorem dL_law_312 : decode cL_law 312 = .ok (.iconst 0, 1) := by decide +kernel
theorem dL_law_313 : decode cL_law 313 = .ok (.ireturn, 1) := by decide +kernel
theorem dL_law_314 : decode cL_law 314 = .ok (.aload_n 1, 1) := by decide +kernel
theorem dL_law_315 : decode cL_law 315 = .ok (.aload_n 0, 1) := by decide +kernel
theorem dL_law_316 : decode cL_law 316 = .ok (.iload_n 3, 1) := by decide +kernel
theorem dL_law_317 : decode cL_law 317 = .ok (.iconst 1, 1) := by decide +kernel
theorem dL_law_318 : decode cL_law 318 = .ok (.iadd, 1) := by decide +kernel
theorem dL_law_319 : decode cL_law 319 = .ok (.iaload, 1) := by decide +kernel
theorem dL_law_320 : decode cL_law 320 = .ok (.aload_n 0, 1) := by decide +kernel
theorem dL_law_321 : decode cL_law 321 = .ok (.iload_n 3, 1) := by decide +kernel
theorem dL_law_322 : decode cL_law 322 = .ok (.iconst 2, 1) := by decide +kernel
theorem dL_law_323 : decode cL_law 323 = .ok (.iadd, 1) := by decide +kernel
theorem dL_law_324 : decode cL_law 324 = .ok (.iaload, 1) := by decide +kernel
theorem dL_law_325 : decode cL_law 325 = .ok (.invokevirtual 47, 3) := by decide +kernel
theorem dL_law_328 : decode cL_law 328 = .ok (.aload_n 2, 1) := by decide +kernel
theorem dL_law_329 : decode cL_law 329 = .ok (.aload_n 0, 1) := by decide +kernel
theorem dL_law_330 : decode cL_law 330 = .ok (.iload_n 3, 1) := by decide +kernel
theorem dL_law_331 : decode cL_law 331 = .ok (.iconst 1, 1) := by decide +kernel
theorem dL_law_332 : decode cL_law 332 = .ok (.iadd, 1) := by decide +kernel
theorem dL_law_333 : decode cL_law 333 = .ok (.iaload, 1) := by decide +kernel
theorem dL_law_334 : decode cL_law 334 = .ok (.aload_n 0, 1) := by decide +kernel
theorem dL_law_335 : decode cL_law 335 = .ok (.iload_n 3, 1) := by decide +kernel
theorem dL_law_336 : decode cL_law 336 = .ok (.iconst 2, 1) := by decide +kernel
theorem dL_law_337 : decode cL_law 337 = .ok (.iadd, 1) := by decide +kernel
theorem dL_law_338 : decode cL_law 338 = .ok (.iaload, 1) := by decide +kernel
theorem dL_law_339 : decode cL_law 339 = .ok (.invokevirtual 51, 3) := by decide +kernel
theorem dL_law_342 : decode cL_law 342 = .ok (.if_icmp .eq 625, 3) := by decide +kernel
theorem dL_law_345 : decode cL_law 345 = .ok (.iconst 0, 1) := by decide +kernel
theorem dL_law_346 : decode cL_law 346 = .ok (.ireturn, 1) := by decide +kernel
theorem dL_law_347 : decode cL_law 347 = .ok (.aload_n 1, 1) := by decide +kernel
theorem dL_law_348 : decode cL_law 348 = .ok (.aload_n 0, 1) := by decide +kernel
theorem dL_law_349 : decode cL_law 349 = .ok (.iload_n 3, 1) := by decide +kernel
theorem dL_law_350 : decode cL_law 350 = .ok (.iconst 1, 1) := by decide +kernel
theorem dL_law_351 : decode cL_law 351 = .ok (.iadd, 1) := by decide +kernel
theorem dL_law_352 : decode cL_law 352 = .ok (.iaload, 1) := by decide +kernel
theorem dL_law_353 : decode cL_law 353 = .ok (.invokevirtual 52, 3) := by decide +kernel
theorem dL_law_356 : decode cL_law 356 = .ok (.aload_n 2, 1) := by decide +kernel
theorem dL_law_357 : decode cL_law 357 = .ok (.aload_n 0, 1) := by decide +kernel
theorem dL_law_358 : decode cL_law 358 = .ok (.iload_n 3, 1) := by decide +kernel
theorem dL_law_359 : decode cL_law 359 = .ok (.iconst 1, 1) := by decide +kernel
theorem dL_law_360 : decode cL_law 360 = .ok (.iadd, 1) := by decide +kernel
theorem dL_law_361 : decode cL_law 361 = .ok (.iaload, 1) := by decide +kernel
theorem dL_law_362 : decode cL_law 362 = .ok (.invokevirtual 55, 3) := by decide +kernel
theorem dL_law_365 : decode cL_law 365 = .ok (.if_icmp .eq 602, 3) := by decide +kernel
theorem dL_law_368 : decode cL_law 368 = .ok (.iconst 0, 1) := by decide +kernel
theorem dL_law_369 : decode cL_law 369 = .ok (.ireturn, 1) := by decide +kernel
theorem dL_law_370 : decode cL_law 370 = .ok (.aload_n 1, 1) := by decide +kernel
theorem dL_law_371 : decode cL_law 371 = .ok (.aload_n 0, 1) := by decide +kernel
theorem dL_law_372 : decode cL_law 372 = .ok (.iload_n 3, 1) := by decide +kernel
theorem dL_law_373 : decode cL_law 373 = .ok (.iconst 1, 1) := by decide +kernel
theorem dL_law_374 : decode cL_law 374 = .ok (.iadd, 1) := by decide +kernel
theorem dL_law_375 : decode cL_law 375 = .ok (.iaload, 1) := by decide +kernel
theorem dL_law_376 : decode cL_law 376 = .ok (.invokevirtual 56, 3) := by decide +kernel
theorem dL_law_379 : decode cL_law 379 = .ok (.aload_n 2, 1) := by decide +kernel
theorem dL_law_380 : decode cL_law 380 = .ok (.aload_n 0, 1) := by decide +kernel
theorem dL_law_381 : decode cL_law 381 = .ok (.iload_n 3, 1) := by decide +kernel
theorem dL_law_382 : decode cL_law 382 = .ok (.iconst 1, 1) := by decide +kernel
theorem dL_law_383 : decode cL_law 383 = .ok (.iadd, 1) := by decide +kernel
theorem dL_law_384 : decode cL_law 384 = .ok (.iaload, 1) := by decide +kernel
theorem dL_law_385 : decode cL_law 385 = .ok (.invokevirtual 59, 3) := by decide +kernel
theorem dL_law_388 : decode cL_law 388 = .ok (.if_icmp .eq 579, 3) := by decide +kernel
theorem dL_law_391 : decode cL_law 391 = .ok (.iconst 0, 1) := by decide +kernel
theorem dL_law_392 : decode cL_law 392 = .ok (.ireturn, 1) := by decide +kernel
theorem dL_law_393 : decode cL_law 393 = .ok (.aload_n 1, 1) := by decide +kernel
theorem dL_law_394 : decode cL_law 394 = .ok (.aload_n 0, 1) := by decide +kernel
theorem dL_law_395 : decode cL_law 395 = .ok (.iload_n 3, 1) := by decide +kernel
theorem dL_law_396 : decode cL_law 396 = .ok (.iconst 1, 1) := by decide +kernel
theorem dL_law_397 : decode cL_law 397 = .ok (.iadd, 1) := by decide +kernel
theorem dL_law_398 : decode cL_law 398 = .ok (.iaload, 1) := by decide +kernel
theorem dL_law_399 : decode cL_law 399 = .ok (.aload_n 0, 1) := by decide +kernel
theorem dL_law_400 : decode cL_law 400 = .ok (.iload_n 3, 1) := by decide +kernel
theorem dL_law_401 : decode cL_law 401 = .ok (.iconst 2, 1) := by decide +kernel
theorem dL_law_402 : decode cL_law 402 = .ok (.iadd, 1) := by decide +kernel
theorem dL_law_403 : decode cL_law 403 = .ok (.iaload, 1) := by decide +kernel
theorem dL_law_404 : decode cL_law 404 = .ok (.aload_n 0, 1) := by decide +kernel
theorem dL_law_405 : decode cL_law 405 = .ok (.iload_n 3, 1) := by decide +kernel
theorem dL_law_406 : decode cL_law 406 = .ok (.iconst 3, 1) := by decide +kernel
theorem dL_law_407 : decode cL_law 407 = .ok (.iadd, 1) := by decide +kernel
theorem dL_law_408 : decode cL_law 408 = .ok (.iaload, 1) := by decide +kernel
theorem dL_law_409 : decode cL_law 409 = .ok (.invokevirtual 60, 3) := by decide +kernel
theorem dL_law_412 : decode cL_law 412 = .ok (.aload_n 2, 1) := by decide +kernel
theorem dL_law_413 : decode cL_law 413 = .ok (.aload_n 0, 1) := by decide +kernel
theorem dL_law_414 : decode cL_law 414 = .ok (.iload_n 3, 1) := by decide +kernel
theorem dL_law_415 : decode cL_law 415 = .ok (.iconst 1, 1) := by decide +kernel
theorem dL_law_416 : decode cL_law 416 = .ok (.iadd, 1) := by decide +kernel
theorem dL_law_417 : decode cL_law 417 = .ok (.iaload, 1) := by decide +kernel
theorem dL_law_418 : decode cL_law 418 = .ok (.aload_n 0, 1) := by decide +kernel
theorem dL_law_419 : decode cL_law 419 = .ok (.iload_n 3, 1) := by decide +kernel
theorem dL_law_420 : decode cL_law 420 = .ok (.iconst 2, 1) := by decide +kernel
theorem dL_law_421 : decode cL_law 421 = .ok (.iadd, 1) := by decide +kernel
theorem dL_law_422 : decode cL_law 422 = .ok (.iaload, 1) := by decide +kernel
theorem dL_law_423 : decode cL_law 423 = .ok (.aload_n 0, 1) := by decide +kernel
theorem dL_law_424 : decode cL_law 424 = .ok (.iload_n 3, 1) := by decide +kernel
theorem dL_law_425 : decode cL_law 425 = .ok (.iconst 3, 1) := by decide +kernel
theorem dL_law_426 : decode cL_law 426 = .ok (.iadd, 1) := by decide +kernel
theorem dL_law_427 : decode cL_law 427 = .ok (.iaload, 1) := by decide +kernel
theorem dL_law_428 : decode cL_law 428 = .ok (.invokevirtual 64, 3) := by decide +kernel
theorem dL_law_431 : decode cL_law 431 = .ok (.if_icmp .eq 536, 3) := by decide +kernel
theorem dL_law_434 : decode cL_law 434 = .ok (.iconst 0, 1) := by decide +kernel
theorem dL_law_435 : decode cL_law 435 = .ok (.ireturn, 1) := by decide +kernel
theorem dL_law_436 : decode cL_law 436 = .ok (.aload_n 1, 1) := by decide +kernel
theorem dL_law_437 : decode cL_law 437 = .ok (.aload_n 0, 1) := by decide +kernel
theorem dL_law_438 : decode cL_law 438 = .ok (.iload_n 3, 1) := by decide +kernel
theorem dL_law_439 : decode cL_law 439 = .ok (.iconst 1, 1) := by decide +kernel
theorem dL_law_440 : decode cL_law 440 = .ok (.iadd, 1) := by decide +kernel
theorem dL_law_441 : decode cL_law 441 = .ok (.iaload, 1) := by decide +kernel
theorem dL_law_442 : decode cL_law 442 = .ok (.aload_n 0, 1) := by decide +kernel
theorem dL_law_443 : decode cL_law 443 = .ok (.iload_n 3, 1) := by decide +kernel
theorem dL_law_444 : decode cL_law 444 = .ok (.iconst 2, 1) := by decide +kernel
theorem dL_law_445 : decode cL_law 445 = .ok (.iadd, 1) := by decide +kernel
theorem dL_law_446 : decode cL_law 446 = .ok (.iaload, 1) := by decide +kernel
theorem dL_law_447 : decode cL_law 447 = .ok (.aload_n 0, 1) := by decide +kernel
theorem dL_law_448 : decode cL_law 448 = .ok (.iload_n 3, 1) := by decide +kernel
theorem dL_law_449 : decode cL_law 449 = .ok (.iconst 3, 1) := by decide +kernel
theorem dL_law_450 : decode cL_law 450 = .ok (.iadd, 1) := by decide +kernel
theorem dL_law_451 : decode cL_law 451 = .ok (.iaload, 1) := by decide +kernel
theorem dL_law_452 : decode cL_law 452 = .ok (.aload_n 0, 1) := by decide +kernel
theorem dL_law_453 : decode cL_law 453 = .ok (.iload_n 3, 1) := by decide +kernel
theorem dL_law_454 : decode cL_law 454 = .ok (.iconst 4, 1) := by decide +kernel
theorem dL_law_455 : decode cL_law 455 = .ok (.iadd, 1) := by decide +kernel
theorem dL_law_456 : decode cL_law 456 = .ok (.iaload, 1) := by decide +kernel
theorem dL_law_457 : decode cL_law 457 = .ok (.aload_n 0, 1) := by decide +kernel
theorem dL_law_458 : decode cL_law 458 = .ok (.iload_n 3, 1) := by decide +kernel
theorem dL_law_459 : decode cL_law 459 = .ok (.iconst 5, 1) := by decide +kernel
theorem dL_law_460 : decode cL_law 460 = .ok (.iadd, 1) := by decide +kernel
theorem dL_law_461 : decode cL_law 461 = .ok (.iaload, 1) := by decide +kernel
theorem dL_law_462 : decode cL_law 462 = .ok (.invokevirtual 65, 3) := by decide +kernel
theorem dL_law_465 : decode cL_law 465 = .ok (.aload_n 2, 1) := by decide +kernel
theorem dL_law_466 : decode cL_law 466 = .ok (.aload_n 0, 1) := by decide +kernel
theorem dL_law_467 : decode cL_law 467 = .ok (.iload_n 3, 1) := by decide +kernel
theorem dL_law_468 : decode cL_law 468 = .ok (.iconst 1, 1) := by decide +kernel
theorem dL_law_469 : decode cL_law 469 = .ok (.iadd, 1) := by decide +kernel
theorem dL_law_470 : decode cL_law 470 = .ok (.iaload, 1) := by decide +kernel
theorem dL_law_471 : decode cL_law 471 = .ok (.aload_n 0, 1) := by decide +kernel
theorem dL_law_472 : decode cL_law 472 = .ok (.iload_n 3, 1) := by decide +kernel
theorem dL_law_473 : decode cL_law 473 = .ok (.iconst 2, 1) := by decide +kernel
theorem dL_law_474 : decode cL_law 474 = .ok (.iadd, 1) := by decide +kernel
theorem dL_law_475 : decode cL_law 475 = .ok (.iaload, 1) := by decide +kernel
theorem dL_law_476 : decode cL_law 476 = .ok (.aload_n 0, 1) := by decide +kernel
theorem dL_law_477 : decode cL_law 477 = .ok (.iload_n 3, 1) := by decide +kernel
theorem dL_law_478 : decode cL_law 478 = .ok (.iconst 3, 1) := by decide +kernel
theorem dL_law_479 : decode cL_law 479 = .ok (.iadd, 1) := by decide +kernel
theorem dL_law_480 : decode cL_law 480 = .ok (.iaload, 1) := by decide +kernel
theorem dL_law_481 : decode cL_law 481 = .ok (.aload_n 0, 1) := by decide +kernel
theorem dL_law_482 : decode cL_law 482 = .ok (.iload_n 3, 1) := by decide +kernel
theorem dL_law_483 : decode cL_law 483 = .ok (.iconst 4, 1) := by decide +kernel
theorem dL_law_484 : decode cL_law 484 = .ok (.iadd, 1) := by decide +kernel
theorem dL_law_485 : decode cL_law 485 = .ok (.iaload, 1) := by decide +kernel
theorem dL_law_486 : decode cL_law 486 = .ok (.aload_n 0, 1) := by decide +kernel
theorem dL_law_487 : decode cL_law 487 = .ok (.iload_n 3, 1) := by decide +kernel
theorem dL_law_488 : decode cL_law 488 = .ok (.iconst 5, 1) := by decide +kernel
theorem dL_law_489 : decode cL_law 489 = .ok (.iadd, 1) := by decide +kernel
theorem dL_law_490 : decode cL_law 490 = .ok (.iaload, 1) := by decide +kernel
theorem dL_law_491 : decode cL_law 491 = .ok (.invokevirtual 69, 3) := by decide +kernel
theorem dL_law_494 : decode cL_law 494 = .ok (.if_icmp .eq 473, 3) := by decide +kernel
theorem dL_law_497 : decode cL_law 497 = .ok (.iconst 0, 1) := by decide +kernel
theorem dL_law_498 : decode cL_law 498 = .ok (.ireturn, 1) := by decide +kernel
theorem dL_law_499 : decode cL_law 499 = .ok (.aload_n 1, 1) := by decide +kernel
theorem dL_law_500 : decode cL_law 500 = .ok (.aload_n 0, 1) := by decide +kernel
theorem dL_law_501 : decode cL_law 501 = .ok (.iload_n 3, 1) := by decide +kernel
theorem dL_law_502 : decode cL_law 502 = .ok (.iconst 1, 1) := by decide +kernel
theorem dL_law_503 : decode cL_law 503 = .ok (.iadd, 1) := by decide +kernel
theorem dL_law_504 : decode cL_law 504 = .ok (.iaload, 1) := by decide +kernel
theorem dL_law_505 : decode cL_law 505 = .ok (.invokevirtual 70, 3) := by decide +kernel
theorem dL_law_508 : decode cL_law 508 = .ok (.aload_n 2, 1) := by decide +kernel
theorem dL_law_509 : decode cL_law 509 = .ok (.aload_n 0, 1) := by decide +kernel
theorem dL_law_510 : decode cL_law 510 = .ok (.iload_n 3, 1) := by decide +kernel
theorem dL_law_511 : decode cL_law 511 = .ok (.iconst 1, 1) := by decide +kernel
theorem dL_law_512 : decode cL_law 512 = .ok (.iadd, 1) := by decide +kernel
theorem dL_law_513 : decode cL_law 513 = .ok (.iaload, 1) := by decide +kernel
theorem dL_law_514 : decode cL_law 514 = .ok (.invokevirtual 73, 3) := by decide +kernel
theorem dL_law_517 : decode cL_law 517 = .ok (.if_icmp .eq 450, 3) := by decide +kernel
theorem dL_law_520 : decode cL_law 520 = .ok (.iconst 0, 1) := by decide +kernel
theorem dL_law_521 : decode cL_law 521 = .ok (.ireturn, 1) := by decide +kernel
theorem dL_law_522 : decode cL_law 522 = .ok (.aload_n 1, 1) := by decide +kernel
theorem dL_law_523 : decode cL_law 523 = .ok (.aload_n 0, 1) := by decide +kernel
theorem dL_law_524 : decode cL_law 524 = .ok (.iload_n 3, 1) := by decide +kernel
theorem dL_law_525 : decode cL_law 525 = .ok (.iconst 1, 1) := by decide +kernel
theorem dL_law_526 : decode cL_law 526 = .ok (.iadd, 1) := by decide +kernel
theorem dL_law_527 : decode cL_law 527 = .ok (.iaload, 1) := by decide +kernel
theorem dL_law_528 : decode cL_law 528 = .ok (.invokevirtual 74, 3) := by decide +kernel
theorem dL_law_531 : decode cL_law 531 = .ok (.aload_n 2, 1) := by decide +kernel
theorem dL_law_532 : decode cL_law 532 = .ok (.aload_n 0, 1) := by decide +kernel
theorem dL_law_533 : decode cL_law 533 = .ok (.iload_n 3, 1) := by decide +kernel
theorem dL_law_534 : decode cL_law 534 = .ok (.iconst 1, 1) := by decide +kernel
theorem dL_law_535 : decode cL_law 535 = .ok (.iadd, 1) := by decide +kernel
theorem dL_law_536 : decode cL_law 536 = .ok (.iaload, 1) := by decide +kernel
theorem dL_law_537 : decode cL_law 537 = .ok (.invokevirtual 77, 3) := by decide +kernel
theorem dL_law_540 : decode cL_law 540 = .ok (.if_icmp .eq 427, 3) := by decide +kernel
theorem dL_law_543 : decode cL_law 543 = .ok (.iconst 0, 1) := by decide +kernel
theorem dL_law_544 : decode cL_law 544 = .ok (.ireturn, 1) := by decide +kernel
theorem dL_law_545 : decode cL_law 545 = .ok (.aload_n 1, 1) := by decide +kernel
theorem dL_law_546 : decode cL_law 546 = .ok (.invokevirtual 78, 3) := by decide +kernel
theorem dL_law_549 : decode cL_law 549 = .ok (.aload_n 2, 1) := by decide +kernel
theorem dL_law_550 : decode cL_law 550 = .ok (.invokevirtual 81, 3) := by decide +kernel
theorem dL_law_553 : decode cL_law 553 = .ok (.if_icmp .eq 414, 3) := by decide +kernel
theorem dL_law_556 : decode cL_law 556 = .ok (.iconst 0, 1) := by decide +kernel
theorem dL_law_557 : decode cL_law 557 = .ok (.ireturn, 1) := by decide +kernel
theorem dL_law_558 : decode cL_law 558 = .ok (.aload_n 1, 1) := by decide +kernel
theorem dL_law_559 : decode cL_law 559 = .ok (.aload_n 0, 1) := by decide +kernel
theorem dL_law_560 : decode cL_law 560 = .ok (.iload_n 3, 1) := by decide +kernel
theorem dL_law_561 : decode cL_law 561 = .ok (.iconst 1, 1) := by decide +kernel
theorem dL_law_562 : decode cL_law 562 = .ok (.iadd, 1) := by decide +kernel
theorem dL_law_563 : decode cL_law 563 = .ok (.iaload, 1) := by decide +kernel
theorem dL_law_564 : decode cL_law 564 = .ok (.aload_n 0, 1) := by decide +kernel
theorem dL_law_565 : decode cL_law 565 = .ok (.iload_n 3, 1) := by decide +kernel
theorem dL_law_566 : decode cL_law 566 = .ok (.iconst 2, 1) := by decide +kernel
theorem dL_law_567 : decode cL_law 567 = .ok (.iadd, 1) := by decide +kernel
theorem dL_law_568 : decode cL_law 568 = .ok (.iaload, 1) := by decide +kernel
theorem dL_law_569 : decode cL_law 569 = .ok (.invokevirtual 82, 3) := by decide +kernel
theorem dL_law_572 : decode cL_law 572 = .ok (.aload_n 2, 1) := by decide +kernel
theorem dL_law_573 : decode cL_law 573 = .ok (.aload_n 0, 1) := by decide +kernel
theorem dL_law_574 : decode cL_law 574 = .ok (.iload_n 3, 1) := by decide +kernel
theorem dL_law_575 : decode cL_law 575 = .ok (.iconst 1, 1) := by decide +kernel
theorem dL_law_576 : decode cL_law 576 = .ok (.iadd, 1) := by decide +kernel
theorem dL_law_577 : decode cL_law 577 = .ok (.iaload, 1) := by decide +kernel
theorem dL_law_578 : decode cL_law 578 = .ok (.aload_n 0, 1) := by decide +kernel
theorem dL_law_579 : decode cL_law 579 = .ok (.iload_n 3, 1) := by decide +kernel
theorem dL_law_580 : decode cL_law 580 = .ok (.iconst 2, 1) := by decide +kernel
theorem dL_law_581 : decode cL_law 581 = .ok (.iadd, 1) := by decide +kernel
theorem dL_law_582 : decode cL_law 582 = .ok (.iaload, 1) := by decide +kernel
theorem dL_law_583 : decode cL_law 583 = .ok (.invokevirtual 85, 3) := by decide +kernel
theorem dL_law_586 : decode cL_law 586 = .ok (.if_icmp .eq 381, 3) := by decide +kernel
theorem dL_law_589 : decode cL_law 589 = .ok (.iconst 0, 1) := by decide +kernel
theorem dL_law_590 : decode cL_law 590 = .ok (.ireturn, 1) := by decide +kernel
theorem dL_law_591 : decode cL_law 591 = .ok (.aload_n 1, 1) := by decide +kernel
theorem dL_law_592 : decode cL_law 592 = .ok (.aload_n 0, 1) := by decide +kernel
theorem dL_law_593 : decode cL_law 593 = .ok (.iload_n 3, 1) := by decide +kernel
theorem dL_law_594 : decode cL_law 594 = .ok (.iconst 1, 1) := by decide +kernel
theorem dL_law_595 : decode cL_law 595 = .ok (.iadd, 1) := by decide +kernel
theorem dL_law_596 : decode cL_law 596 = .ok (.iaload, 1) := by decide +kernel
theorem dL_law_597 : decode cL_law 597 = .ok (.invokevirtual 86, 3) := by decide +kernel
theorem dL_law_600 : decode cL_law 600 = .ok (.aload_n 2, 1) := by decide +kernel
theorem dL_law_601 : decode cL_law 601 = .ok (.aload_n 0, 1) := by decide +kernel
theorem dL_law_602 : decode cL_law 602 = .ok (.iload_n 3, 1) := by decide +kernel
theorem dL_law_603 : decode cL_law 603 = .ok (.iconst 1, 1) := by decide +kernel
theorem dL_law_604 : decode cL_law 604 = .ok (.iadd, 1) := by decide +kernel
theorem dL_law_605 : decode cL_law 605 = .ok (.iaload, 1) := by decide +kernel
theorem dL_law_606 : decode cL_law 606 = .ok (.invokevirtual 89, 3) := by decide +kernel
theorem dL_law_609 : decode cL_law 609 = .ok (.if_icmp .eq 358, 3) := by decide +kernel
theorem dL_law_612 : decode cL_law 612 = .ok (.iconst 0, 1) := by decide +kernel
theorem dL_law_613 : decode cL_law 613 = .ok (.ireturn, 1) := by decide +kernel
theorem dL_law_614 : decode cL_law 614 = .ok (.aload_n 1, 1) := by decide +kernel
theorem dL_law_615 : decode cL_law 615 = .ok (.aload_n 0, 1) := by decide +kernel
theorem dL_law_616 : decode cL_law 616 = .ok (.iload_n 3, 1) := by decide +kernel
theorem dL_law_617 : decode cL_law 617 = .ok (.iconst 1, 1) := by decide +kernel
theorem dL_law_618 : decode cL_law 618 = .ok (.iadd, 1) := by decide +kernel
theorem dL_law_619 : decode cL_law 619 = .ok (.iaload, 1) := by decide +kernel
theorem dL_law_620 : decode cL_law 620 = .ok (.aload_n 0, 1) := by decide +kernel
theorem dL_law_621 : decode cL_law 621 = .ok (.iload_n 3, 1) := by decide +kernel
theorem dL_law_622 : decode cL_law 622 = .ok (.iconst 2, 1) := by decide +kernel
theorem dL_law_623 : decode cL_law 623 = .ok (.iadd, 1) := by decide +kernel
theorem dL_law_624 : decode cL_law 624 = .ok (.iaload, 1) := by decide +kernel
theorem dL_law_625 : decode cL_law 625 = .ok (.i2l, 1) := by decide +kernel
theorem dL_law_626 : decode cL_law 626 = .ok (.bipush 32, 2) := by decide +kernel
theorem dL_law_628 : decode cL_law 628 = .ok (.lshl, 1) := by decide +kernel
theorem dL_law_629 : decode cL_law 629 = .ok (.aload_n 0, 1) := by decide +kernel
theorem dL_law_630 : decode cL_law 630 = .ok (.iload_n 3, 1) := by decide +kernel
theorem dL_law_631 : decode cL_law 631 = .ok (.iconst 3, 1) := by decide +kernel
theorem dL_law_632 : decode cL_law 632 = .ok (.iadd, 1) := by decide +kernel
theorem dL_law_633 : decode cL_law 633 = .ok (.iaload, 1) := by decide +kernel
theorem dL_law_634 : decode cL_law 634 = .ok (.i2l, 1) := by decide +kernel
theorem dL_law_635 : decode cL_law 635 = .ok (.ldc2_w 90, 3) := by decide +kernel
theorem dL_law_638 : decode cL_law 638 = .ok (.land, 1) := by decide +kernel
theorem dL_law_639 : decode cL_law 639 = .ok (.lor, 1) := by decide +kernel
theorem dL_law_640 : decode cL_law 640 = .ok (.invokevirtual 92, 3) := by decide +kernel
theorem dL_law_643 : decode cL_law 643 = .ok (.aload_n 2, 1) := by decide +kernel
theorem dL_law_644 : decode cL_law 644 = .ok (.aload_n 0, 1) := by decide +kernel
theorem dL_law_645 : decode cL_law 645 = .ok (.iload_n 3, 1) := by decide +kernel
theorem dL_law_646 : decode cL_law 646 = .ok (.iconst 1, 1) := by decide +kernel
theorem dL_law_647 : decode cL_law 647 = .ok (.iadd, 1) := by decide +kernel
theorem dL_law_648 : decode cL_law 648 = .ok (.iaload, 1) := by decide +kernel
theorem dL_law_649 : decode cL_law 649 = .ok (.aload_n 0, 1) := by decide +kernel
theorem dL_law_650 : decode cL_law 650 = .ok (.iload_n 3, 1) := by decide +kernel
theorem dL_law_651 : decode cL_law 651 = .ok (.iconst 2, 1) := by decide +kernel
theorem dL_law_652 : decode cL_law 652 = .ok (.iadd, 1) := by decide +kernel
theorem dL_law_653 : decode cL_law 653 = .ok (.iaload, 1) := by decide +kernel
theorem dL_law_654 : decode cL_law 654 = .ok (.i2l, 1) := by decide +kernel
theorem dL_law_655 : decode cL_law 655 = .ok (.bipush 32, 2) := by decide +kernel
theorem dL_law_657 : decode cL_law 657 = .ok (.lshl, 1) := by decide +kernel
theorem dL_law_658 : decode cL_law 658 = .ok (.aload_n 0, 1) := by decide +kernel
theorem dL_law_659 : decode cL_law 659 = .ok (.iload_n 3, 1) := by decide +kernel
theorem dL_law_660 : decode cL_law 660 = .ok (.iconst 3, 1) := by decide +kernel
theorem dL_law_661 : decode cL_law 661 = .ok (.iadd, 1) := by decide +kernel
theorem dL_law_662 : decode cL_law 662 = .ok (.iaload, 1) := by decide +kernel
theorem dL_law_663 : decode cL_law 663 = .ok (.i2l, 1) := by decide +kernel
theorem dL_law_664 : decode cL_law 664 = .ok (.ldc2_w 90, 3) := by decide +kernel
theorem dL_law_667 : decode cL_law 667 = .ok (.land, 1) := by decide +kernel
theorem dL_law_668 : decode cL_law 668 = .ok (.lor, 1) := by decide +kernel
theorem dL_law_669 : decode cL_law 669 = .ok (.invokevirtual 96, 3) := by decide +kernel
theorem dL_law_672 : decode cL_law 672 = .ok (.if_icmp .eq 295, 3) := by decide +kernel
theorem dL_law_675 : decode cL_law 675 = .ok (.iconst 0, 1) := by decide +kernel
theorem dL_law_676 : decode cL_law 676 = .ok (.ireturn, 1) := by decide +kernel
theorem dL_law_677 : decode cL_law 677 = .ok (.aload_n 1, 1) := by decide +kernel
theorem dL_law_678 : decode cL_law 678 = .ok (.aload_n 0, 1) := by decide +kernel
theorem dL_law_679 : decode cL_law 679 = .ok (.iload_n 3, 1) := by decide +kernel
theorem dL_law_680 : decode cL_law 680 = .ok (.iconst 1, 1) := by decide +kernel
theorem dL_law_681 : decode cL_law 681 = .ok (.iadd, 1) := by decide +kernel
theorem dL_law_682 : decode cL_law 682 = .ok (.iaload, 1) := by decide +kernel
theorem dL_law_683 : decode cL_law 683 = .ok (.aload_n 0, 1) := by decide +kernel
theorem dL_law_684 : decode cL_law 684 = .ok (.iload_n 3, 1) := by decide +kernel
theorem dL_law_685 : decode cL_law 685 = .ok (.iconst 2, 1) := by decide +kernel
theorem dL_law_686 : decode cL_law 686 = .ok (.iadd, 1) := by decide +kernel
theorem dL_law_687 : decode cL_law 687 = .ok (.iaload, 1) := by decide +kernel
theorem dL_law_688 : decode cL_law 688 = .ok (.invokevirtual 97, 3) := by decide +kernel
theorem dL_law_691 : decode cL_law 691 = .ok (.aload_n 2, 1) := by decide +kernel
theorem dL_law_692 : decode cL_law 692 = .ok (.aload_n 0, 1) := by decide +kernel
theorem dL_law_693 : decode cL_law 693 = .ok (.iload_n 3, 1) := by decide +kernel
theorem dL_law_694 : decode cL_law 694 = .ok (.iconst 1, 1) := by decide +kernel
theorem dL_law_695 : decode cL_law 695 = .ok (.iadd, 1) := by decide +kernel
theorem dL_law_696 : decode cL_law 696 = .ok (.iaload, 1) := by decide +kernel
theorem dL_law_697 : decode cL_law 697 = .ok (.aload_n 0, 1) := by decide +kernel
theorem dL_law_698 : decode cL_law 698 = .ok (.iload_n 3, 1) := by decide +kernel
theorem dL_law_699 : decode cL_law 699 = .ok (.iconst 2, 1) := by decide +kernel
theorem dL_law_700 : decode cL_law 700 = .ok (.iadd, 1) := by decide +kernel
theorem dL_law_701 : decode cL_law 701 = .ok (.iaload, 1) := by decide +kernel
theorem dL_law_702 : decode cL_law 702 = .ok (.invokevirtual 100, 3) := by decide +kernel
theorem dL_law_705 : decode cL_law 705 = .ok (.if_icmp .eq 262, 3) := by decide +kernel
theorem dL_law_708 : decode cL_law 708 = .ok (.iconst 0, 1) := by decide +kernel
theorem dL_law_709 : decode cL_law 709 = .ok (.ireturn, 1) := by decide +kernel
theorem dL_law_710 : decode cL_law 710 = .ok (.aload_n 1, 1) := by decide +kernel
theorem dL_law_711 : decode cL_law 711 = .ok (.invokevirtual 101, 3) := by decide +kernel
theorem dL_law_714 : decode cL_law 714 = .ok (.aload_n 2, 1) := by decide +kernel
theorem dL_law_715 : decode cL_law 715 = .ok (.invokevirtual 104, 3) := by decide +kernel
theorem dL_law_718 : decode cL_law 718 = .ok (.if_icmp .eq 249, 3) := by decide +kernel
theorem dL_law_721 : decode cL_law 721 = .ok (.iconst 0, 1) := by decide +kernel
theorem dL_law_722 : decode cL_law 722 = .ok (.ireturn, 1) := by decide +kernel
theorem dL_law_723 : decode cL_law 723 = .ok (.aload_n 1, 1) := by decide +kernel
theorem dL_law_724 : decode cL_law 724 = .ok (.invokevirtual 105, 3) := by decide +kernel
theorem dL_law_727 : decode cL_law 727 = .ok (.aload_n 2, 1) := by decide +kernel
theorem dL_law_728 : decode cL_law 728 = .ok (.invokevirtual 108, 3) := by decide +kernel
theorem dL_law_731 : decode cL_law 731 = .ok (.if_icmp .eq 236, 3) := by decide +kernel
theorem dL_law_734 : decode cL_law 734 = .ok (.iconst 0, 1) := by decide +kernel
theorem dL_law_735 : decode cL_law 735 = .ok (.ireturn, 1) := by decide +kernel
theorem dL_law_736 : decode cL_law 736 = .ok (.aload_n 1, 1) := by decide +kernel
theorem dL_law_737 : decode cL_law 737 = .ok (.aload_n 0, 1) := by decide +kernel
theorem dL_law_738 : decode cL_law 738 = .ok (.iload_n 3, 1) := by decide +kernel
theorem dL_law_739 : decode cL_law 739 = .ok (.iconst 1, 1) := by decide +kernel
theorem dL_law_740 : decode cL_law 740 = .ok (.iadd, 1) := by decide +kernel
theorem dL_law_741 : decode cL_law 741 = .ok (.iaload, 1) := by decide +kernel
theorem dL_law_742 : decode cL_law 742 = .ok (.aload_n 0, 1) := by decide +kernel
theorem dL_law_743 : decode cL_law 743 = .ok (.iload_n 3, 1) := by decide +kernel
theorem dL_law_744 : decode cL_law 744 = .ok (.iconst 2, 1) := by decide +kernel
theorem dL_law_745 : decode cL_law 745 = .ok (.iadd, 1) := by decide +kernel
theorem dL_law_746 : decode cL_law 746 = .ok (.iaload, 1) := by decide +kernel
theorem dL_law_747 : decode cL_law 747 = .ok (.ifCond .eq 7, 3) := by decide +kernel
theorem dL_law_750 : decode cL_law 750 = .ok (.iconst 1, 1) := by decide +kernel
theorem dL_law_751 : decode cL_law 751 = .ok (.goto 4, 3) := by decide +kernel
theorem dL_law_754 : decode cL_law 754 = .ok (.iconst 0, 1) := by decide +kernel
theorem dL_law_755 : decode cL_law 755 = .ok (.invokevirtual 109, 3) := by decide +kernel
theorem dL_law_758 : decode cL_law 758 = .ok (.aload_n 2, 1) := by decide +kernel
theorem dL_law_759 : decode cL_law 759 = .ok (.aload_n 0, 1) := by decide +kernel
theorem dL_law_760 : decode cL_law 760 = .ok (.iload_n 3, 1) := by decide +kernel
theorem dL_law_761 : decode cL_law 761 = .ok (.iconst 1, 1) := by decide +kernel
theorem dL_law_762 : decode cL_law 762 = .ok (.iadd, 1) := by decide +kernel
theorem dL_law_763 : decode cL_law 763 = .ok (.iaload, 1) := by decide +kernel
theorem dL_law_764 : decode cL_law 764 = .ok (.aload_n 0, 1) := by decide +kernel
theorem dL_law_765 : decode cL_law 765 = .ok (.iload_n 3, 1) := by decide +kernel
theorem dL_law_766 : decode cL_law 766 = .ok (.iconst 2, 1) := by decide +kernel
theorem dL_law_767 : decode cL_law 767 = .ok (.iadd, 1) := by decide +kernel
theorem dL_law_768 : decode cL_law 768 = .ok (.iaload, 1) := by decide +kernel
theorem dL_law_769 : decode cL_law 769 = .ok (.ifCond .eq 7, 3) := by decide +kernel
theorem dL_law_772 : decode cL_law 772 = .ok (.iconst 1, 1) := by decide +kernel
theorem dL_law_773 : decode cL_law 773 = .ok (.goto 4, 3) := by decide +kernel
theorem dL_law_776 : decode cL_law 776 = .ok (.iconst 0, 1) := by decide +kernel
theorem dL_law_777 : decode cL_law 777 = .ok (.invokevirtual 113, 3) := by decide +kernel
theorem dL_law_780 : decode cL_law 780 = .ok (.if_icmp .eq 187, 3) := by decide +kernel
theorem dL_law_783 : decode cL_law 783 = .ok (.iconst 0, 1) := by decide +kernel
theorem dL_law_784 : decode cL_law 784 = .ok (.ireturn, 1) := by decide +kernel
theorem dL_law_785 : decode cL_law 785 = .ok (.aload_n 1, 1) := by decide +kernel
theorem dL_law_786 : decode cL_law 786 = .ok (.aload_n 0, 1) := by decide +kernel
theorem dL_law_787 : decode cL_law 787 = .ok (.iload_n 3, 1) := by decide +kernel
theorem dL_law_788 : decode cL_law 788 = .ok (.iconst 1, 1) := by decide +kernel
theorem dL_law_789 : decode cL_law 789 = .ok (.iadd, 1) := by decide +kernel
theorem dL_law_790 : decode cL_law 790 = .ok (.iaload, 1) := by decide +kernel
theorem dL_law_791 : decode cL_law 791 = .ok (.aload_n 0, 1) := by decide +kernel
theorem dL_law_792 : decode cL_law 792 = .ok (.iload_n 3, 1) := by decide +kernel
theorem dL_law_793 : decode cL_law 793 = .ok (.iconst 2, 1) := by decide +kernel
theorem dL_law_794 : decode cL_law 794 = .ok (.iadd, 1) := by decide +kernel
theorem dL_law_795 : decode cL_law 795 = .ok (.iaload, 1) := by decide +kernel
theorem dL_law_796 : decode cL_law 796 = .ok (.aload_n 0, 1) := by decide +kernel
theorem dL_law_797 : decode cL_law 797 = .ok (.iload_n 3, 1) := by decide +kernel
theorem dL_law_798 : decode cL_law 798 = .ok (.iconst 3, 1) := by decide +kernel
theorem dL_law_799 : decode cL_law 799 = .ok (.iadd, 1) := by decide +kernel
theorem dL_law_800 : decode cL_law 800 = .ok (.iaload, 1) := by decide +kernel
theorem dL_law_801 : decode cL_law 801 = .ok (.ifCond .eq 7, 3) := by decide +kernel
theorem dL_law_804 : decode cL_law 804 = .ok (.iconst 1, 1) := by decide +kernel
theorem dL_law_805 : decode cL_law 805 = .ok (.goto 4, 3) := by decide +kernel
theorem dL_law_808 : decode cL_law 808 = .ok (.iconst 0, 1) := by decide +kernel
theorem dL_law_809 : decode cL_law 809 = .ok (.invokevirtual 114, 3) := by decide +kernel
theorem dL_law_812 : decode cL_law 812 = .ok (.aload_n 2, 1) := by decide +kernel
theorem dL_law_813 : decode cL_law 813 = .ok (.aload_n 0, 1) := by decide +kernel
theorem dL_law_814 : decode cL_law 814 = .ok (.iload_n 3, 1) := by decide +kernel
theorem dL_law_815 : decode cL_law 815 = .ok (.iconst 1, 1) := by decide +kernel
theorem dL_law_816 : decode cL_law 816 = .ok (.iadd, 1) := by decide +kernel
theorem dL_law_817 : decode cL_law 817 = .ok (.iaload, 1) := by decide +kernel
theorem dL_law_818 : decode cL_law 818 = .ok (.aload_n 0, 1) := by decide +kernel
theorem dL_law_819 : decode cL_law 819 = .ok (.iload_n 3, 1) := by decide +kernel
theorem dL_law_820 : decode cL_law 820 = .ok (.iconst 2, 1) := by decide +kernel
theorem dL_law_821 : decode cL_law 821 = .ok (.iadd, 1) := by decide +kernel
theorem dL_law_822 : decode cL_law 822 = .ok (.iaload, 1) := by decide +kernel
theorem dL_law_823 : decode cL_law 823 = .ok (.aload_n 0, 1) := by decide +kernel
theorem dL_law_824 : decode cL_law 824 = .ok (.iload_n 3, 1) := by decide +kernel
theorem dL_law_825 : decode cL_law 825 = .ok (.iconst 3, 1) := by decide +kernel
theorem dL_law_826 : decode cL_law 826 = .ok (.iadd, 1) := by decide +kernel
theorem dL_law_827 : decode cL_law 827 = .ok (.iaload, 1) := by decide +kernel
theorem dL_law_828 : decode cL_law 828 = .ok (.ifCond .eq 7, 3) := by decide +kernel
theorem dL_law_831 : decode cL_law 831 = .ok (.iconst 1, 1) := by decide +kernel
theorem dL_law_832 : decode cL_law 832 = .ok (.goto 4, 3) := by decide +kernel
theorem dL_law_835 : decode cL_law 835 = .ok (.iconst 0, 1) := by decide +kernel
theorem dL_law_836 : decode cL_law 836 = .ok (.invokevirtual 118, 3) := by decide +kernel
theorem dL_law_839 : decode cL_law 839 = .ok (.if_icmp .eq 128, 3) := by decide +kernel
theorem dL_law_842 : decode cL_law 842 = .ok (.iconst 0, 1) := by decide +kernel
theorem dL_law_843 : decode cL_law 843 = .ok (.ireturn, 1) := by decide +kernel
theorem dL_law_844 : decode cL_law 844 = .ok (.aload_n 1, 1) := by decide +kernel
theorem dL_law_845 : decode cL_law 845 = .ok (.aload_n 0, 1) := by decide +kernel
theorem dL_law_846 : decode cL_law 846 = .ok (.iload_n 3, 1) := by decide +kernel
theorem dL_law_847 : decode cL_law 847 = .ok (.iconst 1, 1) := by decide +kernel
theorem dL_law_848 : decode cL_law 848 = .ok (.iadd, 1) := by decide +kernel
theorem dL_law_849 : decode cL_law 849 = .ok (.iaload, 1) := by decide +kernel
theorem dL_law_850 : decode cL_law 850 = .ok (.i2l, 1) := by decide +kernel
theorem dL_law_851 : decode cL_law 851 = .ok (.bipush 32, 2) := by decide +kernel
theorem dL_law_853 : decode cL_law 853 = .ok (.lshl, 1) := by decide +kernel
theorem dL_law_854 : decode cL_law 854 = .ok (.aload_n 0, 1) := by decide +kernel
theorem dL_law_855 : decode cL_law 855 = .ok (.iload_n 3, 1) := by decide +kernel
theorem dL_law_856 : decode cL_law 856 = .ok (.iconst 2, 1) := by decide +kernel
theorem dL_law_857 : decode cL_law 857 = .ok (.iadd, 1) := by decide +kernel
theorem dL_law_858 : decode cL_law 858 = .ok (.iaload, 1) := by decide +kernel
theorem dL_law_859 : decode cL_law 859 = .ok (.i2l, 1) := by decide +kernel
theorem dL_law_860 : decode cL_law 860 = .ok (.ldc2_w 90, 3) := by decide +kernel
theorem dL_law_863 : decode cL_law 863 = .ok (.land, 1) := by decide +kernel
theorem dL_law_864 : decode cL_law 864 = .ok (.lor, 1) := by decide +kernel
theorem dL_law_865 : decode cL_law 865 = .ok (.invokevirtual 119, 3) := by decide +kernel
theorem dL_law_868 : decode cL_law 868 = .ok (.aload_n 2, 1) := by decide +kernel
theorem dL_law_869 : decode cL_law 869 = .ok (.aload_n 0, 1) := by decide +kernel
theorem dL_law_870 : decode cL_law 870 = .ok (.iload_n 3, 1) := by decide +kernel
theorem dL_law_871 : decode cL_law 871 = .ok (.iconst 1, 1) := by decide +kernel
theorem dL_law_872 : decode cL_law 872 = .ok (.iadd, 1) := by decide +kernel
theorem dL_law_873 : decode cL_law 873 = .ok (.iaload, 1) := by decide +kernel
theorem dL_law_874 : decode cL_law 874 = .ok (.i2l, 1) := by decide +kernel
theorem dL_law_875 : decode cL_law 875 = .ok (.bipush 32, 2) := by decide +kernel
theorem dL_law_877 : decode cL_law 877 = .ok (.lshl, 1) := by decide +kernel
theorem dL_law_878 : decode cL_law 878 = .ok (.aload_n 0, 1) := by decide +kernel
theorem dL_law_879 : decode cL_law 879 = .ok (.iload_n 3, 1) := by decide +kernel
theorem dL_law_880 : decode cL_law 880 = .ok (.iconst 2, 1) := by decide +kernel
theorem dL_law_881 : decode cL_law 881 = .ok (.iadd, 1) := by decide +kernel
theorem dL_law_882 : decode cL_law 882 = .ok (.iaload, 1) := by decide +kernel
theorem dL_law_883 : decode cL_law 883 = .ok (.i2l, 1) := by decide +kernel
theorem dL_law_884 : decode cL_law 884 = .ok (.ldc2_w 90, 3) := by decide +kernel
theorem dL_law_887 : decode cL_law 887 = .ok (.land, 1) := by decide +kernel
theorem dL_law_888 : decode cL_law 888 = .ok (.lor, 1) := by decide +kernel
theorem dL_law_889 : decode cL_law 889 = .ok (.invokevirtual 123, 3) := by decide +kernel
theorem dL_law_892 : decode cL_law 892 = .ok (.lcmp, 1) := by decide +kernel
theorem dL_law_893 : decode cL_law 893 = .ok (.ifCond .eq 74, 3) := by decide +kernel
theorem dL_law_896 : decode cL_law 896 = .ok (.iconst 0, 1) := by decide +kernel
theorem dL_law_897 : decode cL_law 897 = .ok (.ireturn, 1) := by decide +kernel
theorem dL_law_898 : decode cL_law 898 = .ok (.aload_n 1, 1) := by decide +kernel
theorem dL_law_899 : decode cL_law 899 = .ok (.aload_n 0, 1) := by decide +kernel
theorem dL_law_900 : decode cL_law 900 = .ok (.iload_n 3, 1) := by decide +kernel
theorem dL_law_901 : decode cL_law 901 = .ok (.iconst 1, 1) := by decide +kernel
theorem dL_law_902 : decode cL_law 902 = .ok (.iadd, 1) := by decide +kernel
theorem dL_law_903 : decode cL_law 903 = .ok (.iaload, 1) := by decide +kernel
theorem dL_law_904 : decode cL_law 904 = .ok (.invokevirtual 124, 3) := by decide +kernel
theorem dL_law_907 : decode cL_law 907 = .ok (.aload_n 2, 1) := by decide +kernel
theorem dL_law_908 : decode cL_law 908 = .ok (.aload_n 0, 1) := by decide +kernel
theorem dL_law_909 : decode cL_law 909 = .ok (.iload_n 3, 1) := by decide +kernel
theorem dL_law_910 : decode cL_law 910 = .ok (.iconst 1, 1) := by decide +kernel
theorem dL_law_911 : decode cL_law 911 = .ok (.iadd, 1) := by decide +kernel
theorem dL_law_912 : decode cL_law 912 = .ok (.iaload, 1) := by decide +kernel
theorem dL_law_913 : decode cL_law 913 = .ok (.invokevirtual 127, 3) := by decide +kernel
theorem dL_law_916 : decode cL_law 916 = .ok (.if_icmp .eq 51, 3) := by decide +kernel
theorem dL_law_919 : decode cL_law 919 = .ok (.iconst 0, 1) := by decide +kernel
theorem dL_law_920 : decode cL_law 920 = .ok (.ireturn, 1) := by decide +kernel
theorem dL_law_921 : decode cL_law 921 = .ok (.aload_n 1, 1) := by decide +kernel
theorem dL_law_922 : decode cL_law 922 = .ok (.aload_n 0, 1) := by decide +kernel
theorem dL_law_923 : decode cL_law 923 = .ok (.iload_n 3, 1) := by decide +kernel
theorem dL_law_924 : decode cL_law 924 = .ok (.iconst 1, 1) := by decide +kernel
theorem dL_law_925 : decode cL_law 925 = .ok (.iadd, 1) := by decide +kernel
theorem dL_law_926 : decode cL_law 926 = .ok (.iaload, 1) := by decide +kernel
theorem dL_law_927 : decode cL_law 927 = .ok (.invokevirtual 128, 3) := by decide +kernel
theorem dL_law_930 : decode cL_law 930 = .ok (.aload_n 2, 1) := by decide +kernel
theorem dL_law_931 : decode cL_law 931 = .ok (.aload_n 0, 1) := by decide +kernel
theorem dL_law_932 : decode cL_law 932 = .ok (.iload_n 3, 1) := by decide +kernel
theorem dL_law_933 : decode cL_law 933 = .ok (.iconst 1, 1) := by decide +kernel
theorem dL_law_934 : decode cL_law 934 = .ok (.iadd, 1) := by decide +kernel
theorem dL_law_935 : decode cL_law 935 = .ok (.iaload, 1) := by decide +kernel
theorem dL_law_936 : decode cL_law 936 = .ok (.invokevirtual 131, 3) := by decide +kernel
theorem dL_law_939 : decode cL_law 939 = .ok (.if_icmp .eq 28, 3) := by decide +kernel
theorem dL_law_942 : decode cL_law 942 = .ok (.iconst 0, 1) := by decide +kernel
theorem dL_law_943 : decode cL_law 943 = .ok (.ireturn, 1) := by decide +kernel
theorem dL_law_944 : decode cL_law 944 = .ok (.aload_n 1, 1) := by decide +kernel
theorem dL_law_945 : decode cL_law 945 = .ok (.aload_n 0, 1) := by decide +kernel
theorem dL_law_946 : decode cL_law 946 = .ok (.iload_n 3, 1) := by decide +kernel
theorem dL_law_947 : decode cL_law 947 = .ok (.iconst 1, 1) := by decide +kernel
theorem dL_law_948 : decode cL_law 948 = .ok (.iadd, 1) := by decide +kernel
theorem dL_law_949 : decode cL_law 949 = .ok (.iaload, 1) := by decide +kernel
theorem dL_law_950 : decode cL_law 950 = .ok (.invokevirtual 132, 3) := by decide +kernel
theorem dL_law_953 : decode cL_law 953 = .ok (.aload_n 2, 1) := by decide +kernel
theorem dL_law_954 : decode cL_law 954 = .ok (.aload_n 0, 1) := by decide +kernel
theorem dL_law_955 : decode cL_law 955 = .ok (.iload_n 3, 1) := by decide +kernel
theorem dL_law_956 : decode cL_law 956 = .ok (.iconst 1, 1) := by decide +kernel
theorem dL_law_957 : decode cL_law 957 = .ok (.iadd, 1) := by decide +kernel
theorem dL_law_958 : decode cL_law 958 = .ok (.iaload, 1) := by decide +kernel
theorem dL_law_959 : decode cL_law 959 = .ok (.invokevirtual 135, 3) := by decide +kernel
theorem dL_law_962 : decode cL_law 962 = .ok (.if_icmp .eq 5, 3) := by decide +kernel
theorem dL_law_965 : decode cL_law 965 = .ok (.iconst 0, 1) := by decide +kernel
theorem dL_law_966 : decode cL_law 966 = .ok (.ireturn, 1) := by decide +kernel
theorem dL_law_967 : decode cL_law 967 = .ok (.iinc 3 6, 3) := by decide +kernel
theorem dL_law_970 : decode cL_law 970 = .ok (.goto (-952), 3) := by decide +kernel
theorem dL_law_973 : decode cL_law 973 = .ok (.iconst 1, 1) := by decide +kernel
theorem dL_law_974 : decode cL_law 974 = .ok (.ireturn, 1) := by decide +kernel
end
section
theorem dJ11_isValidCodePoint_9a6ad_0 : decode cJ11_isValidCodePoint_9a6ad 0 = .ok (.iload_n 0, 1) := by decide +kernel
theorem dJ11_isValidCodePoint_9a6ad_1 : decode cJ11_isValidCodePoint_9a6ad 1 = .ok (.bipush 16, 2) := by decide +kernel
theorem dJ11_isValidCodePoint_9a6ad_3 : decode cJ11_isValidCodePoint_9a6ad 3 = .ok (.iushr, 1) := by decide +kernel
theorem dJ11_isValidCodePoint_9a6ad_4 : decode cJ11_isValidCodePoint_9a6ad 4 = .ok (.istore_n 1, 1) := by decide +kernel
theorem dJ11_isValidCodePoint_9a6ad_5 : decode cJ11_isValidCodePoint_9a6ad 5 = .ok (.iload_n 1, 1) := by decide +kernel
theorem dJ11_isValidCodePoint_9a6ad_6 : decode cJ11_isValidCodePoint_9a6ad 6 = .ok (.bipush 17, 2) := by decide +kernel
theorem dJ11_isValidCodePoint_9a6ad_8 : decode cJ11_isValidCodePoint_9a6ad 8 = .ok (.if_icmp .ge 7, 3) := by decide +kernel
theorem dJ11_isValidCodePoint_9a6ad_11 : decode cJ11_isValidCodePoint_9a6ad 11 = .ok (.iconst 1, 1) := by decide +kernel
theorem dJ11_isValidCodePoint_9a6ad_12 : decode cJ11_isValidCodePoint_9a6ad 12 = .ok (.goto 4, 3) := by decide +kernel
theorem dJ11_isValidCodePoint_9a6ad_15 : decode cJ11_isValidCodePoint_9a6ad 15 = .ok (.iconst 0, 1) := by decide +kernel
theorem dJ11_isValidCodePoint_9a6ad_16 : decode cJ11_isValidCodePoint_9a6ad 16 = .ok (.ireturn, 1) := by decide +kernel
theorem dJ11_highSurrogate_5068e_0 : decode cJ11_highSurrogate_5068e 0 = .ok (.iload_n 0, 1) := by decide +kernel
theorem dJ11_highSurrogate_5068e_1 : decode cJ11_highSurrogate_5068e 1 = .ok (.bipush 10, 2) := by decide +kernel
theorem dJ11_highSurrogate_5068e_3 : decode cJ11_highSurrogate_5068e 3 = .ok (.iushr, 1) := by decide +kernel
theorem dJ11_highSurrogate_5068e_4 : decode cJ11_highSurrogate_5068e 4 = .ok (.ldc 110, 2) := by decide +kernel
theorem dJ11_highSurrogate_5068e_6 : decode cJ11_highSurrogate_5068e 6 = .ok (.iadd, 1) := by decide +kernel
theorem dJ11_highSurrogate_5068e_7 : decode cJ11_highSurrogate_5068e 7 = .ok (.i2c, 1) := by decide +kernel
theorem dJ11_highSurrogate_5068e_8 : decode cJ11_highSurrogate_5068e 8 = .ok (.ireturn, 1) := by decide +kernel
theorem dJ11_lowSurrogate_5068e_0 : decode cJ11_lowSurrogate_5068e 0 = .ok (.iload_n 0, 1) := by decide +kernel
theorem dJ11_lowSurrogate_5068e_1 : decode cJ11_lowSurrogate_5068e 1 = .ok (.sipush 1023, 3) := by decide +kernel
theorem dJ11_lowSurrogate_5068e_4 : decode cJ11_lowSurrogate_5068e 4 = .ok (.iand, 1) := by decide +kernel
theorem dJ11_lowSurrogate_5068e_5 : decode cJ11_lowSurrogate_5068e 5 = .ok (.ldc 76, 2) := by decide +kernel
theorem dJ11_lowSurrogate_5068e_7 : decode cJ11_lowSurrogate_5068e 7 = .ok (.iadd, 1) := by decide +kernel
theorem dJ11_lowSurrogate_5068e_8 : decode cJ11_lowSurrogate_5068e 8 = .ok (.i2c, 1) := by decide +kernel
theorem dJ11_lowSurrogate_5068e_9 : decode cJ11_lowSurrogate_5068e 9 = .ok (.ireturn, 1) := by decide +kernel
theorem dJ6_bitCount_0f7a4_0 : decode cJ6_bitCount_0f7a4 0 = .ok (.iload_n 0, 1) := by decide +kernel
theorem dJ6_bitCount_0f7a4_1 : decode cJ6_bitCount_0f7a4 1 = .ok (.iload_n 0, 1) := by decide +kernel
theorem dJ6_bitCount_0f7a4_2 : decode cJ6_bitCount_0f7a4 2 = .ok (.iconst 1, 1) := by decide +kernel
theorem dJ6_bitCount_0f7a4_3 : decode cJ6_bitCount_0f7a4 3 = .ok (.iushr, 1) := by decide +kernel
theorem dJ6_bitCount_0f7a4_4 : decode cJ6_bitCount_0f7a4 4 = .ok (.ldc_w 265, 3) := by decide +kernel
theorem dJ6_bitCount_0f7a4_7 : decode cJ6_bitCount_0f7a4 7 = .ok (.iand, 1) := by decide +kernel
theorem dJ6_bitCount_0f7a4_8 : decode cJ6_bitCount_0f7a4 8 = .ok (.isub, 1) := by decide +kernel
theorem dJ6_bitCount_0f7a4_9 : decode cJ6_bitCount_0f7a4 9 = .ok (.istore_n 0, 1) := by decide +kernel
theorem dJ6_bitCount_0f7a4_10 : decode cJ6_bitCount_0f7a4 10 = .ok (.iload_n 0, 1) := by decide +kernel
theorem dJ6_bitCount_0f7a4_11 : decode cJ6_bitCount_0f7a4 11 = .ok (.ldc_w 266, 3) := by decide +kernel
theorem dJ6_bitCount_0f7a4_14 : decode cJ6_bitCount_0f7a4 14 = .ok (.iand, 1) := by decide +kernel
theorem dJ6_bitCount_0f7a4_15 : decode cJ6_bitCount_0f7a4 15 = .ok (.iload_n 0, 1) := by decide +kernel
theorem dJ6_bitCount_0f7a4_16 : decode cJ6_bitCount_0f7a4 16 = .ok (.iconst 2, 1) := by decide +kernel
theorem dJ6_bitCount_0f7a4_17 : decode cJ6_bitCount_0f7a4 17 = .ok (.iushr, 1) := by decide +kernel
theorem dJ6_bitCount_0f7a4_18 : decode cJ6_bitCount_0f7a4 18 = .ok (.ldc_w 266, 3) := by decide +kernel
theorem dJ6_bitCount_0f7a4_21 : decode cJ6_bitCount_0f7a4 21 = .ok (.iand, 1) := by decide +kernel
theorem dJ6_bitCount_0f7a4_22 : decode cJ6_bitCount_0f7a4 22 = .ok (.iadd, 1) := by decide +kernel
theorem dJ6_bitCount_0f7a4_23 : decode cJ6_bitCount_0f7a4 23 = .ok (.istore_n 0, 1) := by decide +kernel
theorem dJ6_bitCount_0f7a4_24 : decode cJ6_bitCount_0f7a4 24 = .ok (.iload_n 0, 1) := by decide +kernel
theorem dJ6_bitCount_0f7a4_25 : decode cJ6_bitCount_0f7a4 25 = .ok (.iload_n 0, 1) := by decide +kernel
theorem dJ6_bitCount_0f7a4_26 : decode cJ6_bitCount_0f7a4 26 = .ok (.iconst 4, 1) := by decide +kernel
theorem dJ6_bitCount_0f7a4_27 : decode cJ6_bitCount_0f7a4 27 = .ok (.iushr, 1) := by decide +kernel
theorem dJ6_bitCount_0f7a4_28 : decode cJ6_bitCount_0f7a4 28 = .ok (.iadd, 1) := by decide +kernel
theorem dJ6_bitCount_0f7a4_29 : decode cJ6_bitCount_0f7a4 29 = .ok (.ldc_w 267, 3) := by decide +kernel
theorem dJ6_bitCount_0f7a4_32 : decode cJ6_bitCount_0f7a4 32 = .ok (.iand, 1) := by decide +kernel
theorem dJ6_bitCount_0f7a4_33 : decode cJ6_bitCount_0f7a4 33 = .ok (.istore_n 0, 1) := by decide +kernel
theorem dJ6_bitCount_0f7a4_34 : decode cJ6_bitCount_0f7a4 34 = .ok (.iload_n 0, 1) := by decide +kernel
theorem dJ6_bitCount_0f7a4_35 : decode cJ6_bitCount_0f7a4 35 = .ok (.iload_n 0, 1) := by decide +kernel
theorem dJ6_bitCount_0f7a4_36 : decode cJ6_bitCount_0f7a4 36 = .ok (.bipush 8, 2) := by decide +kernel
theorem dJ6_bitCount_0f7a4_38 : decode cJ6_bitCount_0f7a4 38 = .ok (.iushr, 1) := by decide +kernel
theorem dJ6_bitCount_0f7a4_39 : decode cJ6_bitCount_0f7a4 39 = .ok (.iadd, 1) := by decide +kernel
theorem dJ6_bitCount_0f7a4_40 : decode cJ6_bitCount_0f7a4 40 = .ok (.istore_n 0, 1) := by decide +kernel
theorem dJ6_bitCount_0f7a4_41 : decode cJ6_bitCount_0f7a4 41 = .ok (.iload_n 0, 1) := by decide +kernel
theorem dJ6_bitCount_0f7a4_42 : decode cJ6_bitCount_0f7a4 42 = .ok (.iload_n 0, 1) := by decide +kernel
theorem dJ6_bitCount_0f7a4_43 : decode cJ6_bitCount_0f7a4 43 = .ok (.bipush 16, 2) := by decide +kernel
theorem dJ6_bitCount_0f7a4_45 : decode cJ6_bitCount_0f7a4 45 = .ok (.iushr, 1) := by decide +kernel
theorem dJ6_bitCount_0f7a4_46 : decode cJ6_bitCount_0f7a4 46 = .ok (.iadd, 1) := by decide +kernel
theorem dJ6_bitCount_0f7a4_47 : decode cJ6_bitCount_0f7a4 47 = .ok (.istore_n 0, 1) := by decide +kernel
theorem dJ6_bitCount_0f7a4_48 : decode cJ6_bitCount_0f7a4 48 = .ok (.iload_n 0, 1) := by decide +kernel
theorem dJ6_bitCount_0f7a4_49 : decode cJ6_bitCount_0f7a4 49 = .ok (.bipush 63, 2) := by decide +kernel
theorem dJ6_bitCount_0f7a4_51 : decode cJ6_bitCount_0f7a4 51 = .ok (.iand, 1) := by decide +kernel
theorem dJ6_bitCount_0f7a4_52 : decode cJ6_bitCount_0f7a4 52 = .ok (.ireturn, 1) := by decide +kernel
theorem dJ9_abs_0f7a4_0 : decode cJ9_abs_0f7a4 0 = .ok (.iload_n 0, 1) := by decide +kernel
theorem dJ9_abs_0f7a4_1 : decode cJ9_abs_0f7a4 1 = .ok (.ifCond .ge 8, 3) := by decide +kernel
theorem dJ9_abs_0f7a4_4 : decode cJ9_abs_0f7a4 4 = .ok (.iload_n 0, 1) := by decide +kernel
theorem dJ9_abs_0f7a4_5 : decode cJ9_abs_0f7a4 5 = .ok (.ineg, 1) := by decide +kernel
theorem dJ9_abs_0f7a4_6 : decode cJ9_abs_0f7a4 6 = .ok (.goto 4, 3) := by decide +kernel
theorem dJ9_abs_0f7a4_9 : decode cJ9_abs_0f7a4 9 = .ok (.iload_n 0, 1) := by decide +kernel
theorem dJ9_abs_0f7a4_10 : decode cJ9_abs_0f7a4 10 = .ok (.ireturn, 1) := by decide +kernel
theorem dJ9_max_7cf53_0 : decode cJ9_max_7cf53 0 = .ok (.iload_n 0, 1) := by decide +kernel
theorem dJ9_max_7cf53_1 : decode cJ9_max_7cf53 1 = .ok (.iload_n 1, 1) := by decide +kernel
theorem dJ9_max_7cf53_2 : decode cJ9_max_7cf53 2 = .ok (.if_icmp .lt 7, 3) := by decide +kernel
theorem dJ9_max_7cf53_5 : decode cJ9_max_7cf53 5 = .ok (.iload_n 0, 1) := by decide +kernel
theorem dJ9_max_7cf53_6 : decode cJ9_max_7cf53 6 = .ok (.goto 4, 3) := by decide +kernel
theorem dJ9_max_7cf53_9 : decode cJ9_max_7cf53 9 = .ok (.iload_n 1, 1) := by decide +kernel
theorem dJ9_max_7cf53_10 : decode cJ9_max_7cf53 10 = .ok (.ireturn, 1) := by decide +kernel
theorem dJ9_min_7cf53_0 : decode cJ9_min_7cf53 0 = .ok (.iload_n 0, 1) := by decide +kernel
theorem dJ9_min_7cf53_1 : decode cJ9_min_7cf53 1 = .ok (.iload_n 1, 1) := by decide +kernel
theorem dJ9_min_7cf53_2 : decode cJ9_min_7cf53 2 = .ok (.if_icmp .gt 7, 3) := by decide +kernel
theorem dJ9_min_7cf53_5 : decode cJ9_min_7cf53 5 = .ok (.iload_n 0, 1) := by decide +kernel
theorem dJ9_min_7cf53_6 : decode cJ9_min_7cf53 6 = .ok (.goto 4, 3) := by decide +kernel
theorem dJ9_min_7cf53_9 : decode cJ9_min_7cf53 9 = .ok (.iload_n 1, 1) := by decide +kernel
theorem dJ9_min_7cf53_10 : decode cJ9_min_7cf53 10 = .ok (.ireturn, 1) := by decide +kernel
theorem dJ0_length_8abf5_0 : decode cJ0_length_8abf5 0 = .ok (.aload_n 0, 1) := by decide +kernel
theorem dJ0_length_8abf5_1 : decode cJ0_length_8abf5 1 = .ok (.getfield 9, 3) := by decide +kernel
theorem dJ0_length_8abf5_4 : decode cJ0_length_8abf5 4 = .ok (.arraylength, 1) := by decide +kernel
theorem dJ0_length_8abf5_5 : decode cJ0_length_8abf5 5 = .ok (.aload_n 0, 1) := by decide +kernel
theorem dJ0_length_8abf5_6 : decode cJ0_length_8abf5 6 = .ok (.invokevirtual 335, 3) := by decide +kernel
theorem dJ0_length_8abf5_9 : decode cJ0_length_8abf5 9 = .ok (.ishr, 1) := by decide +kernel
theorem dJ0_length_8abf5_10 : decode cJ0_length_8abf5 10 = .ok (.ireturn, 1) := by decide +kernel
theorem dJ0_charAt_5068e_0 : decode cJ0_charAt_5068e 0 = .ok (.aload_n 0, 1) := by decide +kernel
theorem dJ0_charAt_5068e_1 : decode cJ0_charAt_5068e 1 = .ok (.invokevirtual 492, 3) := by decide +kernel
theorem dJ0_charAt_5068e_4 : decode cJ0_charAt_5068e 4 = .ok (.ifCond .eq 12, 3) := by decide +kernel
theorem dJ0_charAt_5068e_7 : decode cJ0_charAt_5068e 7 = .ok (.aload_n 0, 1) := by decide +kernel
theorem dJ0_charAt_5068e_8 : decode cJ0_charAt_5068e 8 = .ok (.getfield 9, 3) := by decide +kernel
theorem dJ0_charAt_5068e_11 : decode cJ0_charAt_5068e 11 = .ok (.iload_n 1, 1) := by decide +kernel
theorem dJ0_charAt_5068e_12 : decode cJ0_charAt_5068e 12 = .ok (.invokestatic 495, 3) := by decide +kernel
theorem dJ0_charAt_5068e_15 : decode cJ0_charAt_5068e 15 = .ok (.ireturn, 1) := by decide +kernel
theorem dJ0_charAt_5068e_16 : decode cJ0_charAt_5068e 16 = .ok (.aload_n 0, 1) := by decide +kernel
theorem dJ0_charAt_5068e_17 : decode cJ0_charAt_5068e 17 = .ok (.getfield 9, 3) := by decide +kernel
theorem dJ0_charAt_5068e_20 : decode cJ0_charAt_5068e 20 = .ok (.iload_n 1, 1) := by decide +kernel
theorem dJ0_charAt_5068e_21 : decode cJ0_charAt_5068e 21 = .ok (.invokestatic 498, 3) := by decide +kernel
theorem dJ0_charAt_5068e_24 : decode cJ0_charAt_5068e 24 = .ok (.ireturn, 1) := by decide +kernel
theorem dJ0_indexOf_0f7a4_0 : decode cJ0_indexOf_0f7a4 0 = .ok (.aload_n 0, 1) := by decide +kernel
theorem dJ0_indexOf_0f7a4_1 : decode cJ0_indexOf_0f7a4 1 = .ok (.iload_n 1, 1) := by decide +kernel
theorem dJ0_indexOf_0f7a4_2 : decode cJ0_indexOf_0f7a4 2 = .ok (.iconst 0, 1) := by decide +kernel
theorem dJ0_indexOf_0f7a4_3 : decode cJ0_indexOf_0f7a4 3 = .ok (.invokevirtual 633, 3) := by decide +kernel
theorem dJ0_indexOf_0f7a4_6 : decode cJ0_indexOf_0f7a4 6 = .ok (.ireturn, 1) := by decide +kernel
theorem dJ0_indexOf_7cf53_0 : decode cJ0_indexOf_7cf53 0 = .ok (.aload_n 0, 1) := by decide +kernel
theorem dJ0_indexOf_7cf53_1 : decode cJ0_indexOf_7cf53 1 = .ok (.invokevirtual 492, 3) := by decide +kernel
theorem dJ0_indexOf_7cf53_4 : decode cJ0_indexOf_7cf53 4 = .ok (.ifCond .eq 19, 3) := by decide +kernel
theorem dJ0_indexOf_7cf53_7 : decode cJ0_indexOf_7cf53 7 = .ok (.aload_n 0, 1) := by decide +kernel
theorem dJ0_indexOf_7cf53_8 : decode cJ0_indexOf_7cf53 8 = .ok (.getfield 9, 3) := by decide +kernel
theorem dJ0_indexOf_7cf53_11 : decode cJ0_indexOf_7cf53 11 = .ok (.iload_n 1, 1) := by decide +kernel
theorem dJ0_indexOf_7cf53_12 : decode cJ0_indexOf_7cf53 12 = .ok (.iload_n 2, 1) := by decide +kernel
theorem dJ0_indexOf_7cf53_13 : decode cJ0_indexOf_7cf53 13 = .ok (.aload_n 0, 1) := by decide +kernel
theorem dJ0_indexOf_7cf53_14 : decode cJ0_indexOf_7cf53 14 = .ok (.invokevirtual 505, 3) := by decide +kernel
theorem dJ0_indexOf_7cf53_17 : decode cJ0_indexOf_7cf53 17 = .ok (.invokestatic 637, 3) := by decide +kernel
theorem dJ0_indexOf_7cf53_20 : decode cJ0_indexOf_7cf53 20 = .ok (.goto 16, 3) := by decide +kernel
theorem dJ0_indexOf_7cf53_23 : decode cJ0_indexOf_7cf53 23 = .ok (.aload_n 0, 1) := by decide +kernel
theorem dJ0_indexOf_7cf53_24 : decode cJ0_indexOf_7cf53 24 = .ok (.getfield 9, 3) := by decide +kernel
theorem dJ0_indexOf_7cf53_27 : decode cJ0_indexOf_7cf53 27 = .ok (.iload_n 1, 1) := by decide +kernel
theorem dJ0_indexOf_7cf53_28 : decode cJ0_indexOf_7cf53 28 = .ok (.iload_n 2, 1) := by decide +kernel
theorem dJ0_indexOf_7cf53_29 : decode cJ0_indexOf_7cf53 29 = .ok (.aload_n 0, 1) := by decide +kernel
theorem dJ0_indexOf_7cf53_30 : decode cJ0_indexOf_7cf53 30 = .ok (.invokevirtual 505, 3) := by decide +kernel
theorem dJ0_indexOf_7cf53_33 : decode cJ0_indexOf_7cf53 33 = .ok (.invokestatic 640, 3) := by decide +kernel
theorem dJ0_indexOf_7cf53_36 : decode cJ0_indexOf_7cf53 36 = .ok (.ireturn, 1) := by decide +kernel
theorem dJ0_coder_7d493_0 : decode cJ0_coder_7d493 0 = .ok (.getstatic 38, 3) := by decide +kernel
theorem dJ0_coder_7d493_3 : decode cJ0_coder_7d493 3 = .ok (.ifCond .eq 10, 3) := by decide +kernel
theorem dJ0_coder_7d493_6 : decode cJ0_coder_7d493 6 = .ok (.aload_n 0, 1) := by decide +kernel
theorem dJ0_coder_7d493_7 : decode cJ0_coder_7d493 7 = .ok (.getfield 15, 3) := by decide +kernel
theorem dJ0_coder_7d493_10 : decode cJ0_coder_7d493 10 = .ok (.goto 4, 3) := by decide +kernel
theorem dJ0_coder_7d493_13 : decode cJ0_coder_7d493 13 = .ok (.iconst 1, 1) := by decide +kernel
theorem dJ0_coder_7d493_14 : decode cJ0_coder_7d493 14 = .ok (.ireturn, 1) := by decide +kernel
theorem dJ0_isLatin1_aae02_0 : decode cJ0_isLatin1_aae02 0 = .ok (.getstatic 38, 3) := by decide +kernel
theorem dJ0_isLatin1_aae02_3 : decode cJ0_isLatin1_aae02 3 = .ok (.ifCond .eq 14, 3) := by decide +kernel
theorem dJ0_isLatin1_aae02_6 : decode cJ0_isLatin1_aae02 6 = .ok (.aload_n 0, 1) := by decide +kernel
theorem dJ0_isLatin1_aae02_7 : decode cJ0_isLatin1_aae02 7 = .ok (.getfield 15, 3) := by decide +kernel
theorem dJ0_isLatin1_aae02_10 : decode cJ0_isLatin1_aae02 10 = .ok (.ifCond .ne 7, 3) := by decide +kernel
theorem dJ0_isLatin1_aae02_13 : decode cJ0_isLatin1_aae02 13 = .ok (.iconst 1, 1) := by decide +kernel
theorem dJ0_isLatin1_aae02_14 : decode cJ0_isLatin1_aae02 14 = .ok (.goto 4, 3) := by decide +kernel
theorem dJ0_isLatin1_aae02_17 : decode cJ0_isLatin1_aae02 17 = .ok (.iconst 0, 1) := by decide +kernel
theorem dJ0_isLatin1_aae02_18 : decode cJ0_isLatin1_aae02 18 = .ok (.ireturn, 1) := by decide +kernel
theorem dJ0_checkIndex_df160_0 : decode cJ0_checkIndex_df160 0 = .ok (.iload_n 0, 1) := by decide +kernel
theorem dJ0_checkIndex_df160_1 : decode cJ0_checkIndex_df160 1 = .ok (.iload_n 1, 1) := by decide +kernel
theorem dJ0_checkIndex_df160_2 : decode cJ0_checkIndex_df160 2 = .ok (.getstatic 1053, 3) := by decide +kernel
theorem dJ0_checkIndex_df160_5 : decode cJ0_checkIndex_df160 5 = .ok (.invokestatic 1059, 3) := by decide +kernel
theorem dJ0_checkIndex_df160_8 : decode cJ0_checkIndex_df160 8 = .ok (.pop, 1) := by decide +kernel
theorem dJ0_checkIndex_df160_9 : decode cJ0_checkIndex_df160 9 = .ok (.return_, 1) := by decide +kernel
theorem dJ0_checkBoundsBeginEnd_23922_0 : decode cJ0_checkBoundsBeginEnd_23922 0 = .ok (.iload_n 0, 1) := by decide +kernel
theorem dJ0_checkBoundsBeginEnd_23922_1 : decode cJ0_checkBoundsBeginEnd_23922 1 = .ok (.iload_n 1, 1) := by decide +kernel
theorem dJ0_checkBoundsBeginEnd_23922_2 : decode cJ0_checkBoundsBeginEnd_23922 2 = .ok (.iload_n 2, 1) := by decide +kernel
theorem dJ0_checkBoundsBeginEnd_23922_3 : decode cJ0_checkBoundsBeginEnd_23922 3 = .ok (.getstatic 1053, 3) := by decide +kernel
theorem dJ0_checkBoundsBeginEnd_23922_6 : decode cJ0_checkBoundsBeginEnd_23922 6 = .ok (.invokestatic 1062, 3) := by decide +kernel
theorem dJ0_checkBoundsBeginEnd_23922_9 : decode cJ0_checkBoundsBeginEnd_23922 9 = .ok (.pop, 1) := by decide +kernel
theorem dJ0_checkBoundsBeginEnd_23922_10 : decode cJ0_checkBoundsBeginEnd_23922 10 = .ok (.return_, 1) := by decide +kernel
theorem dJ1_charAt_3b067_0 : decode cJ1_charAt_3b067 0 = .ok (.iload_n 1, 1) := by decide +kernel
theorem dJ1_charAt_3b067_1 : decode cJ1_charAt_3b067 1 = .ok (.aload_n 0, 1) := by decide +kernel
theorem dJ1_charAt_3b067_2 : decode cJ1_charAt_3b067 2 = .ok (.arraylength, 1) := by decide +kernel
theorem dJ1_charAt_3b067_3 : decode cJ1_charAt_3b067 3 = .ok (.invokestatic 9, 3) := by decide +kernel
theorem dJ1_charAt_3b067_6 : decode cJ1_charAt_3b067 6 = .ok (.aload_n 0, 1) := by decide +kernel
theorem dJ1_charAt_3b067_7 : decode cJ1_charAt_3b067 7 = .ok (.iload_n 1, 1) := by decide +kernel
theorem dJ1_charAt_3b067_8 : decode cJ1_charAt_3b067 8 = .ok (.baload, 1) := by decide +kernel
theorem dJ1_charAt_3b067_9 : decode cJ1_charAt_3b067 9 = .ok (.sipush 255, 3) := by decide +kernel
theorem dJ1_charAt_3b067_12 : decode cJ1_charAt_3b067 12 = .ok (.iand, 1) := by decide +kernel
theorem dJ1_charAt_3b067_13 : decode cJ1_charAt_3b067 13 = .ok (.i2c, 1) := by decide +kernel
theorem dJ1_charAt_3b067_14 : decode cJ1_charAt_3b067 14 = .ok (.ireturn, 1) := by decide +kernel
theorem dJ1_canEncode_9a6ad_0 : decode cJ1_canEncode_9a6ad 0 = .ok (.iload_n 0, 1) := by decide +kernel
theorem dJ1_canEncode_9a6ad_1 : decode cJ1_canEncode_9a6ad 1 = .ok (.ifCond .lt 14, 3) := by decide +kernel
theorem dJ1_canEncode_9a6ad_4 : decode cJ1_canEncode_9a6ad 4 = .ok (.iload_n 0, 1) := by decide +kernel
theorem dJ1_canEncode_9a6ad_5 : decode cJ1_canEncode_9a6ad 5 = .ok (.sipush 255, 3) := by decide +kernel
theorem dJ1_canEncode_9a6ad_8 : decode cJ1_canEncode_9a6ad 8 = .ok (.if_icmp .gt 7, 3) := by decide +kernel
theorem dJ1_canEncode_9a6ad_11 : decode cJ1_canEncode_9a6ad 11 = .ok (.iconst 1, 1) := by decide +kernel
theorem dJ1_canEncode_9a6ad_12 : decode cJ1_canEncode_9a6ad 12 = .ok (.goto 4, 3) := by decide +kernel
theorem dJ1_canEncode_9a6ad_15 : decode cJ1_canEncode_9a6ad 15 = .ok (.iconst 0, 1) := by decide +kernel
theorem dJ1_canEncode_9a6ad_16 : decode cJ1_canEncode_9a6ad 16 = .ok (.ireturn, 1) := by decide +kernel
theorem dJ1_indexOf_4cfef_0 : decode cJ1_indexOf_4cfef 0 = .ok (.iload_n 1, 1) := by decide +kernel
theorem dJ1_indexOf_4cfef_1 : decode cJ1_indexOf_4cfef 1 = .ok (.invokestatic 88, 3) := by decide +kernel
theorem dJ1_indexOf_4cfef_4 : decode cJ1_indexOf_4cfef 4 = .ok (.ifCond .ne 5, 3) := by decide +kernel
theorem dJ1_indexOf_4cfef_7 : decode cJ1_indexOf_4cfef 7 = .ok (.iconst (-1), 1) := by decide +kernel
theorem dJ1_indexOf_4cfef_8 : decode cJ1_indexOf_4cfef 8 = .ok (.ireturn, 1) := by decide +kernel
theorem dJ1_indexOf_4cfef_9 : decode cJ1_indexOf_4cfef 9 = .ok (.iload_n 2, 1) := by decide +kernel
theorem dJ1_indexOf_4cfef_10 : decode cJ1_indexOf_4cfef 10 = .ok (.iconst 0, 1) := by decide +kernel
theorem dJ1_indexOf_4cfef_11 : decode cJ1_indexOf_4cfef 11 = .ok (.invokestatic 92, 3) := by decide +kernel
theorem dJ1_indexOf_4cfef_14 : decode cJ1_indexOf_4cfef 14 = .ok (.istore_n 2, 1) := by decide +kernel
theorem dJ1_indexOf_4cfef_15 : decode cJ1_indexOf_4cfef 15 = .ok (.iload_n 3, 1) := by decide +kernel
theorem dJ1_indexOf_4cfef_16 : decode cJ1_indexOf_4cfef 16 = .ok (.aload_n 0, 1) := by decide +kernel
theorem dJ1_indexOf_4cfef_17 : decode cJ1_indexOf_4cfef 17 = .ok (.arraylength, 1) := by decide +kernel
theorem dJ1_indexOf_4cfef_18 : decode cJ1_indexOf_4cfef 18 = .ok (.invokestatic 38, 3) := by decide +kernel
theorem dJ1_indexOf_4cfef_21 : decode cJ1_indexOf_4cfef 21 = .ok (.istore_n 3, 1) := by decide +kernel
theorem dJ1_indexOf_4cfef_22 : decode cJ1_indexOf_4cfef 22 = .ok (.iload_n 2, 1) := by decide +kernel
theorem dJ1_indexOf_4cfef_23 : decode cJ1_indexOf_4cfef 23 = .ok (.iload_n 3, 1) := by decide +kernel
theorem dJ1_indexOf_4cfef_24 : decode cJ1_indexOf_4cfef 24 = .ok (.if_icmp .lt 5, 3) := by decide +kernel
theorem dJ1_indexOf_4cfef_27 : decode cJ1_indexOf_4cfef 27 = .ok (.iconst (-1), 1) := by decide +kernel
theorem dJ1_indexOf_4cfef_28 : decode cJ1_indexOf_4cfef 28 = .ok (.ireturn, 1) := by decide +kernel
theorem dJ1_indexOf_4cfef_29 : decode cJ1_indexOf_4cfef 29 = .ok (.aload_n 0, 1) := by decide +kernel
theorem dJ1_indexOf_4cfef_30 : decode cJ1_indexOf_4cfef 30 = .ok (.iload_n 1, 1) := by decide +kernel
theorem dJ1_indexOf_4cfef_31 : decode cJ1_indexOf_4cfef 31 = .ok (.iload_n 2, 1) := by decide +kernel
theorem dJ1_indexOf_4cfef_32 : decode cJ1_indexOf_4cfef 32 = .ok (.iload_n 3, 1) := by decide +kernel
theorem dJ1_indexOf_4cfef_33 : decode cJ1_indexOf_4cfef 33 = .ok (.invokestatic 95, 3) := by decide +kernel
theorem dJ1_indexOf_4cfef_36 : decode cJ1_indexOf_4cfef 36 = .ok (.ireturn, 1) := by decide +kernel
theorem dJ1_indexOfChar_4cfef_0 : decode cJ1_indexOfChar_4cfef 0 = .ok (.iload_n 1, 1) := by decide +kernel
theorem dJ1_indexOfChar_4cfef_1 : decode cJ1_indexOfChar_4cfef 1 = .ok (.i2b, 1) := by decide +kernel
theorem dJ1_indexOfChar_4cfef_2 : decode cJ1_indexOfChar_4cfef 2 = .ok (.istore 4, 2) := by decide +kernel
theorem dJ1_indexOfChar_4cfef_4 : decode cJ1_indexOfChar_4cfef 4 = .ok (.iload_n 2, 1) := by decide +kernel
theorem dJ1_indexOfChar_4cfef_5 : decode cJ1_indexOfChar_4cfef 5 = .ok (.istore 5, 2) := by decide +kernel
theorem dJ1_indexOfChar_4cfef_7 : decode cJ1_indexOfChar_4cfef 7 = .ok (.iload 5, 2) := by decide +kernel
theorem dJ1_indexOfChar_4cfef_9 : decode cJ1_indexOfChar_4cfef 9 = .ok (.iload_n 3, 1) := by decide +kernel
theorem dJ1_indexOfChar_4cfef_10 : decode cJ1_indexOfChar_4cfef 10 = .ok (.if_icmp .ge 21, 3) := by decide +kernel
theorem dJ1_indexOfChar_4cfef_13 : decode cJ1_indexOfChar_4cfef 13 = .ok (.aload_n 0, 1) := by decide +kernel
theorem dJ1_indexOfChar_4cfef_14 : decode cJ1_indexOfChar_4cfef 14 = .ok (.iload 5, 2) := by decide +kernel
theorem dJ1_indexOfChar_4cfef_16 : decode cJ1_indexOfChar_4cfef 16 = .ok (.baload, 1) := by decide +kernel
theorem dJ1_indexOfChar_4cfef_17 : decode cJ1_indexOfChar_4cfef 17 = .ok (.iload 4, 2) := by decide +kernel
theorem dJ1_indexOfChar_4cfef_19 : decode cJ1_indexOfChar_4cfef 19 = .ok (.if_icmp .ne 6, 3) := by decide +kernel
theorem dJ1_indexOfChar_4cfef_22 : decode cJ1_indexOfChar_4cfef 22 = .ok (.iload 5, 2) := by decide +kernel
theorem dJ1_indexOfChar_4cfef_24 : decode cJ1_indexOfChar_4cfef 24 = .ok (.ireturn, 1) := by decide +kernel
theorem dJ1_indexOfChar_4cfef_25 : decode cJ1_indexOfChar_4cfef 25 = .ok (.iinc 5 1, 3) := by decide +kernel
theorem dJ1_indexOfChar_4cfef_28 : decode cJ1_indexOfChar_4cfef 28 = .ok (.goto (-21), 3) := by decide +kernel
theorem dJ1_indexOfChar_4cfef_31 : decode cJ1_indexOfChar_4cfef 31 = .ok (.iconst (-1), 1) := by decide +kernel
theorem dJ1_indexOfChar_4cfef_32 : decode cJ1_indexOfChar_4cfef 32 = .ok (.ireturn, 1) := by decide +kernel
theorem dJ2_getChar_3b067_0 : decode cJ2_getChar_3b067 0 = .ok (.getstatic 44, 3) := by decide +kernel
theorem dJ2_getChar_3b067_3 : decode cJ2_getChar_3b067 3 = .ok (.ifCond .ne 25, 3) := by decide +kernel
theorem dJ2_getChar_3b067_6 : decode cJ2_getChar_3b067 6 = .ok (.iload_n 1, 1) := by decide +kernel
theorem dJ2_getChar_3b067_7 : decode cJ2_getChar_3b067 7 = .ok (.ifCond .lt 11, 3) := by decide +kernel
theorem dJ2_getChar_3b067_10 : decode cJ2_getChar_3b067 10 = .ok (.iload_n 1, 1) := by decide +kernel
theorem dJ2_getChar_3b067_11 : decode cJ2_getChar_3b067 11 = .ok (.aload_n 0, 1) := by decide +kernel
theorem dJ2_getChar_3b067_12 : decode cJ2_getChar_3b067 12 = .ok (.invokestatic 48, 3) := by decide +kernel
theorem dJ2_getChar_3b067_15 : decode cJ2_getChar_3b067 15 = .ok (.if_icmp .lt 13, 3) := by decide +kernel
theorem dJ2_getChar_3b067_18 : decode cJ2_getChar_3b067 18 = .ok (.new 52, 3) := by decide +kernel
theorem dJ2_getChar_3b067_21 : decode cJ2_getChar_3b067 21 = .ok (.dup, 1) := by decide +kernel
theorem dJ2_getChar_3b067_22 : decode cJ2_getChar_3b067 22 = .ok (.ldc 54, 2) := by decide +kernel
theorem dJ2_getChar_3b067_24 : decode cJ2_getChar_3b067 24 = .ok (.invokespecial 56, 3) := by decide +kernel
theorem dJ2_getChar_3b067_27 : decode cJ2_getChar_3b067 27 = .ok (.athrow, 1) := by decide +kernel
theorem dJ2_getChar_3b067_28 : decode cJ2_getChar_3b067 28 = .ok (.iload_n 1, 1) := by decide +kernel
theorem dJ2_getChar_3b067_29 : decode cJ2_getChar_3b067 29 = .ok (.iconst 1, 1) := by decide +kernel
theorem dJ2_getChar_3b067_30 : decode cJ2_getChar_3b067 30 = .ok (.ishl, 1) := by decide +kernel
theorem dJ2_getChar_3b067_31 : decode cJ2_getChar_3b067 31 = .ok (.istore_n 1, 1) := by decide +kernel
theorem dJ2_getChar_3b067_32 : decode cJ2_getChar_3b067 32 = .ok (.aload_n 0, 1) := by decide +kernel
theorem dJ2_getChar_3b067_33 : decode cJ2_getChar_3b067 33 = .ok (.iload_n 1, 1) := by decide +kernel
theorem dJ2_getChar_3b067_34 : decode cJ2_getChar_3b067 34 = .ok (.iinc 1 1, 3) := by decide +kernel
theorem dJ2_getChar_3b067_37 : decode cJ2_getChar_3b067 37 = .ok (.baload, 1) := by decide +kernel
theorem dJ2_getChar_3b067_38 : decode cJ2_getChar_3b067 38 = .ok (.sipush 255, 3) := by decide +kernel
theorem dJ2_getChar_3b067_41 : decode cJ2_getChar_3b067 41 = .ok (.iand, 1) := by decide +kernel
theorem dJ2_getChar_3b067_42 : decode cJ2_getChar_3b067 42 = .ok (.getstatic 59, 3) := by decide +kernel
theorem dJ2_getChar_3b067_45 : decode cJ2_getChar_3b067 45 = .ok (.ishl, 1) := by decide +kernel
theorem dJ2_getChar_3b067_46 : decode cJ2_getChar_3b067 46 = .ok (.aload_n 0, 1) := by decide +kernel
theorem dJ2_getChar_3b067_47 : decode cJ2_getChar_3b067 47 = .ok (.iload_n 1, 1) := by decide +kernel
theorem dJ2_getChar_3b067_48 : decode cJ2_getChar_3b067 48 = .ok (.baload, 1) := by decide +kernel
theorem dJ2_getChar_3b067_49 : decode cJ2_getChar_3b067 49 = .ok (.sipush 255, 3) := by decide +kernel
theorem dJ2_getChar_3b067_52 : decode cJ2_getChar_3b067 52 = .ok (.iand, 1) := by decide +kernel
theorem dJ2_getChar_3b067_53 : decode cJ2_getChar_3b067 53 = .ok (.getstatic 63, 3) := by decide +kernel
theorem dJ2_getChar_3b067_56 : decode cJ2_getChar_3b067 56 = .ok (.ishl, 1) := by decide +kernel
theorem dJ2_getChar_3b067_57 : decode cJ2_getChar_3b067 57 = .ok (.ior, 1) := by decide +kernel
theorem dJ2_getChar_3b067_58 : decode cJ2_getChar_3b067 58 = .ok (.i2c, 1) := by decide +kernel
theorem dJ2_getChar_3b067_59 : decode cJ2_getChar_3b067 59 = .ok (.ireturn, 1) := by decide +kernel
theorem dJ2_length_9d52b_0 : decode cJ2_length_9d52b 0 = .ok (.aload_n 0, 1) := by decide +kernel
theorem dJ2_length_9d52b_1 : decode cJ2_length_9d52b 1 = .ok (.arraylength, 1) := by decide +kernel
theorem dJ2_length_9d52b_2 : decode cJ2_length_9d52b 2 = .ok (.iconst 1, 1) := by decide +kernel
theorem dJ2_length_9d52b_3 : decode cJ2_length_9d52b 3 = .ok (.ishr, 1) := by decide +kernel
theorem dJ2_length_9d52b_4 : decode cJ2_length_9d52b 4 = .ok (.ireturn, 1) := by decide +kernel
theorem dJ2_indexOf_4cfef_0 : decode cJ2_indexOf_4cfef 0 = .ok (.iload_n 2, 1) := by decide +kernel
theorem dJ2_indexOf_4cfef_1 : decode cJ2_indexOf_4cfef 1 = .ok (.iconst 0, 1) := by decide +kernel
theorem dJ2_indexOf_4cfef_2 : decode cJ2_indexOf_4cfef 2 = .ok (.invokestatic 224, 3) := by decide +kernel
theorem dJ2_indexOf_4cfef_5 : decode cJ2_indexOf_4cfef 5 = .ok (.istore_n 2, 1) := by decide +kernel
theorem dJ2_indexOf_4cfef_6 : decode cJ2_indexOf_4cfef 6 = .ok (.iload_n 3, 1) := by decide +kernel
theorem dJ2_indexOf_4cfef_7 : decode cJ2_indexOf_4cfef 7 = .ok (.aload_n 0, 1) := by decide +kernel
theorem dJ2_indexOf_4cfef_8 : decode cJ2_indexOf_4cfef 8 = .ok (.arraylength, 1) := by decide +kernel
theorem dJ2_indexOf_4cfef_9 : decode cJ2_indexOf_4cfef 9 = .ok (.iconst 1, 1) := by decide +kernel
theorem dJ2_indexOf_4cfef_10 : decode cJ2_indexOf_4cfef 10 = .ok (.ishr, 1) := by decide +kernel
theorem dJ2_indexOf_4cfef_11 : decode cJ2_indexOf_4cfef 11 = .ok (.invokestatic 183, 3) := by decide +kernel
theorem dJ2_indexOf_4cfef_14 : decode cJ2_indexOf_4cfef 14 = .ok (.istore_n 3, 1) := by decide +kernel
theorem dJ2_indexOf_4cfef_15 : decode cJ2_indexOf_4cfef 15 = .ok (.iload_n 2, 1) := by decide +kernel
theorem dJ2_indexOf_4cfef_16 : decode cJ2_indexOf_4cfef 16 = .ok (.iload_n 3, 1) := by decide +kernel
theorem dJ2_indexOf_4cfef_17 : decode cJ2_indexOf_4cfef 17 = .ok (.if_icmp .lt 5, 3) := by decide +kernel
theorem dJ2_indexOf_4cfef_20 : decode cJ2_indexOf_4cfef 20 = .ok (.iconst (-1), 1) := by decide +kernel
theorem dJ2_indexOf_4cfef_21 : decode cJ2_indexOf_4cfef 21 = .ok (.ireturn, 1) := by decide +kernel
theorem dJ2_indexOf_4cfef_22 : decode cJ2_indexOf_4cfef 22 = .ok (.iload_n 1, 1) := by decide +kernel
theorem dJ2_indexOf_4cfef_23 : decode cJ2_indexOf_4cfef 23 = .ok (.ldc 227, 2) := by decide +kernel
theorem dJ2_indexOf_4cfef_25 : decode cJ2_indexOf_4cfef 25 = .ok (.if_icmp .ge 11, 3) := by decide +kernel
theorem dJ2_indexOf_4cfef_28 : decode cJ2_indexOf_4cfef 28 = .ok (.aload_n 0, 1) := by decide +kernel
theorem dJ2_indexOf_4cfef_29 : decode cJ2_indexOf_4cfef 29 = .ok (.iload_n 1, 1) := by decide +kernel
theorem dJ2_indexOf_4cfef_30 : decode cJ2_indexOf_4cfef 30 = .ok (.iload_n 2, 1) := by decide +kernel
theorem dJ2_indexOf_4cfef_31 : decode cJ2_indexOf_4cfef 31 = .ok (.iload_n 3, 1) := by decide +kernel
theorem dJ2_indexOf_4cfef_32 : decode cJ2_indexOf_4cfef 32 = .ok (.invokestatic 228, 3) := by decide +kernel
theorem dJ2_indexOf_4cfef_35 : decode cJ2_indexOf_4cfef 35 = .ok (.ireturn, 1) := by decide +kernel
theorem dJ2_indexOf_4cfef_36 : decode cJ2_indexOf_4cfef 36 = .ok (.aload_n 0, 1) := by decide +kernel
theorem dJ2_indexOf_4cfef_37 : decode cJ2_indexOf_4cfef 37 = .ok (.iload_n 1, 1) := by decide +kernel
theorem dJ2_indexOf_4cfef_38 : decode cJ2_indexOf_4cfef 38 = .ok (.iload_n 2, 1) := by decide +kernel
theorem dJ2_indexOf_4cfef_39 : decode cJ2_indexOf_4cfef 39 = .ok (.iload_n 3, 1) := by decide +kernel
theorem dJ2_indexOf_4cfef_40 : decode cJ2_indexOf_4cfef 40 = .ok (.invokestatic 232, 3) := by decide +kernel
theorem dJ2_indexOf_4cfef_43 : decode cJ2_indexOf_4cfef 43 = .ok (.ireturn, 1) := by decide +kernel
theorem dJ2_indexOfChar_4cfef_0 : decode cJ2_indexOfChar_4cfef 0 = .ok (.iload_n 2, 1) := by decide +kernel
theorem dJ2_indexOfChar_4cfef_1 : decode cJ2_indexOfChar_4cfef 1 = .ok (.iload_n 3, 1) := by decide +kernel
theorem dJ2_indexOfChar_4cfef_2 : decode cJ2_indexOfChar_4cfef 2 = .ok (.aload_n 0, 1) := by decide +kernel
theorem dJ2_indexOfChar_4cfef_3 : decode cJ2_indexOfChar_4cfef 3 = .ok (.invokestatic 96, 3) := by decide +kernel
theorem dJ2_indexOfChar_4cfef_6 : decode cJ2_indexOfChar_4cfef 6 = .ok (.aload_n 0, 1) := by decide +kernel
theorem dJ2_indexOfChar_4cfef_7 : decode cJ2_indexOfChar_4cfef 7 = .ok (.iload_n 1, 1) := by decide +kernel
theorem dJ2_indexOfChar_4cfef_8 : decode cJ2_indexOfChar_4cfef 8 = .ok (.iload_n 2, 1) := by decide +kernel
theorem dJ2_indexOfChar_4cfef_9 : decode cJ2_indexOfChar_4cfef 9 = .ok (.iload_n 3, 1) := by decide +kernel
theorem dJ2_indexOfChar_4cfef_10 : decode cJ2_indexOfChar_4cfef 10 = .ok (.invokestatic 244, 3) := by decide +kernel
theorem dJ2_indexOfChar_4cfef_13 : decode cJ2_indexOfChar_4cfef 13 = .ok (.ireturn, 1) := by decide +kernel
theorem dJ2_indexOfCharUnsafe_4cfef_0 : decode cJ2_indexOfCharUnsafe_4cfef 0 = .ok (.iload_n 2, 1) := by decide +kernel
theorem dJ2_indexOfCharUnsafe_4cfef_1 : decode cJ2_indexOfCharUnsafe_4cfef 1 = .ok (.istore 4, 2) := by decide +kernel
theorem dJ2_indexOfCharUnsafe_4cfef_3 : decode cJ2_indexOfCharUnsafe_4cfef 3 = .ok (.iload 4, 2) := by decide +kernel
theorem dJ2_indexOfCharUnsafe_4cfef_5 : decode cJ2_indexOfCharUnsafe_4cfef 5 = .ok (.iload_n 3, 1) := by decide +kernel
theorem dJ2_indexOfCharUnsafe_4cfef_6 : decode cJ2_indexOfCharUnsafe_4cfef 6 = .ok (.if_icmp .ge 22, 3) := by decide +kernel
theorem dJ2_indexOfCharUnsafe_4cfef_9 : decode cJ2_indexOfCharUnsafe_4cfef 9 = .ok (.aload_n 0, 1) := by decide +kernel
theorem dJ2_indexOfCharUnsafe_4cfef_10 : decode cJ2_indexOfCharUnsafe_4cfef 10 = .ok (.iload 4, 2) := by decide +kernel
theorem dJ2_indexOfCharUnsafe_4cfef_12 : decode cJ2_indexOfCharUnsafe_4cfef 12 = .ok (.invokestatic 71, 3) := by decide +kernel
theorem dJ2_indexOfCharUnsafe_4cfef_15 : decode cJ2_indexOfCharUnsafe_4cfef 15 = .ok (.iload_n 1, 1) := by decide +kernel
theorem dJ2_indexOfCharUnsafe_4cfef_16 : decode cJ2_indexOfCharUnsafe_4cfef 16 = .ok (.if_icmp .ne 6, 3) := by decide +kernel
theorem dJ2_indexOfCharUnsafe_4cfef_19 : decode cJ2_indexOfCharUnsafe_4cfef 19 = .ok (.iload 4, 2) := by decide +kernel
theorem dJ2_indexOfCharUnsafe_4cfef_21 : decode cJ2_indexOfCharUnsafe_4cfef 21 = .ok (.ireturn, 1) := by decide +kernel
theorem dJ2_indexOfCharUnsafe_4cfef_22 : decode cJ2_indexOfCharUnsafe_4cfef 22 = .ok (.iinc 4 1, 3) := by decide +kernel
theorem dJ2_indexOfCharUnsafe_4cfef_25 : decode cJ2_indexOfCharUnsafe_4cfef 25 = .ok (.goto (-22), 3) := by decide +kernel
theorem dJ2_indexOfCharUnsafe_4cfef_28 : decode cJ2_indexOfCharUnsafe_4cfef 28 = .ok (.iconst (-1), 1) := by decide +kernel
theorem dJ2_indexOfCharUnsafe_4cfef_29 : decode cJ2_indexOfCharUnsafe_4cfef 29 = .ok (.ireturn, 1) := by decide +kernel
theorem dJ2_indexOfSupplementary_4cfef_0 : decode cJ2_indexOfSupplementary_4cfef 0 = .ok (.iload_n 1, 1) := by decide +kernel
theorem dJ2_indexOfSupplementary_4cfef_1 : decode cJ2_indexOfSupplementary_4cfef 1 = .ok (.invokestatic 164, 3) := by decide +kernel
theorem dJ2_indexOfSupplementary_4cfef_4 : decode cJ2_indexOfSupplementary_4cfef 4 = .ok (.ifCond .eq 65, 3) := by decide +kernel
theorem dJ2_indexOfSupplementary_4cfef_7 : decode cJ2_indexOfSupplementary_4cfef 7 = .ok (.iload_n 1, 1) := by decide +kernel
theorem dJ2_indexOfSupplementary_4cfef_8 : decode cJ2_indexOfSupplementary_4cfef 8 = .ok (.invokestatic 157, 3) := by decide +kernel
theorem dJ2_indexOfSupplementary_4cfef_11 : decode cJ2_indexOfSupplementary_4cfef 11 = .ok (.istore 4, 2) := by decide +kernel
theorem dJ2_indexOfSupplementary_4cfef_13 : decode cJ2_indexOfSupplementary_4cfef 13 = .ok (.iload_n 1, 1) := by decide +kernel
theorem dJ2_indexOfSupplementary_4cfef_14 : decode cJ2_indexOfSupplementary_4cfef 14 = .ok (.invokestatic 161, 3) := by decide +kernel
theorem dJ2_indexOfSupplementary_4cfef_17 : decode cJ2_indexOfSupplementary_4cfef 17 = .ok (.istore 5, 2) := by decide +kernel
theorem dJ2_indexOfSupplementary_4cfef_19 : decode cJ2_indexOfSupplementary_4cfef 19 = .ok (.iload_n 2, 1) := by decide +kernel
theorem dJ2_indexOfSupplementary_4cfef_20 : decode cJ2_indexOfSupplementary_4cfef 20 = .ok (.iload_n 3, 1) := by decide +kernel
theorem dJ2_indexOfSupplementary_4cfef_21 : decode cJ2_indexOfSupplementary_4cfef 21 = .ok (.aload_n 0, 1) := by decide +kernel
theorem dJ2_indexOfSupplementary_4cfef_22 : decode cJ2_indexOfSupplementary_4cfef 22 = .ok (.invokestatic 96, 3) := by decide +kernel
theorem dJ2_indexOfSupplementary_4cfef_25 : decode cJ2_indexOfSupplementary_4cfef 25 = .ok (.iload_n 2, 1) := by decide +kernel
theorem dJ2_indexOfSupplementary_4cfef_26 : decode cJ2_indexOfSupplementary_4cfef 26 = .ok (.istore 6, 2) := by decide +kernel
theorem dJ2_indexOfSupplementary_4cfef_28 : decode cJ2_indexOfSupplementary_4cfef 28 = .ok (.iload 6, 2) := by decide +kernel
theorem dJ2_indexOfSupplementary_4cfef_30 : decode cJ2_indexOfSupplementary_4cfef 30 = .ok (.iload_n 3, 1) := by decide +kernel
theorem dJ2_indexOfSupplementary_4cfef_31 : decode cJ2_indexOfSupplementary_4cfef 31 = .ok (.iconst 1, 1) := by decide +kernel
theorem dJ2_indexOfSupplementary_4cfef_32 : decode cJ2_indexOfSupplementary_4cfef 32 = .ok (.isub, 1) := by decide +kernel
theorem dJ2_indexOfSupplementary_4cfef_33 : decode cJ2_indexOfSupplementary_4cfef 33 = .ok (.if_icmp .ge 36, 3) := by decide +kernel
theorem dJ2_indexOfSupplementary_4cfef_36 : decode cJ2_indexOfSupplementary_4cfef 36 = .ok (.aload_n 0, 1) := by decide +kernel
theorem dJ2_indexOfSupplementary_4cfef_37 : decode cJ2_indexOfSupplementary_4cfef 37 = .ok (.iload 6, 2) := by decide +kernel
theorem dJ2_indexOfSupplementary_4cfef_39 : decode cJ2_indexOfSupplementary_4cfef 39 = .ok (.invokestatic 71, 3) := by decide +kernel
theorem dJ2_indexOfSupplementary_4cfef_42 : decode cJ2_indexOfSupplementary_4cfef 42 = .ok (.iload 4, 2) := by decide +kernel
theorem dJ2_indexOfSupplementary_4cfef_44 : decode cJ2_indexOfSupplementary_4cfef 44 = .ok (.if_icmp .ne 19, 3) := by decide +kernel
theorem dJ2_indexOfSupplementary_4cfef_47 : decode cJ2_indexOfSupplementary_4cfef 47 = .ok (.aload_n 0, 1) := by decide +kernel
theorem dJ2_indexOfSupplementary_4cfef_48 : decode cJ2_indexOfSupplementary_4cfef 48 = .ok (.iload 6, 2) := by decide +kernel
theorem dJ2_indexOfSupplementary_4cfef_50 : decode cJ2_indexOfSupplementary_4cfef 50 = .ok (.iconst 1, 1) := by decide +kernel
theorem dJ2_indexOfSupplementary_4cfef_51 : decode cJ2_indexOfSupplementary_4cfef 51 = .ok (.iadd, 1) := by decide +kernel
theorem dJ2_indexOfSupplementary_4cfef_52 : decode cJ2_indexOfSupplementary_4cfef 52 = .ok (.invokestatic 71, 3) := by decide +kernel
theorem dJ2_indexOfSupplementary_4cfef_55 : decode cJ2_indexOfSupplementary_4cfef 55 = .ok (.iload 5, 2) := by decide +kernel
theorem dJ2_indexOfSupplementary_4cfef_57 : decode cJ2_indexOfSupplementary_4cfef 57 = .ok (.if_icmp .ne 6, 3) := by decide +kernel
theorem dJ2_indexOfSupplementary_4cfef_60 : decode cJ2_indexOfSupplementary_4cfef 60 = .ok (.iload 6, 2) := by decide +kernel
theorem dJ2_indexOfSupplementary_4cfef_62 : decode cJ2_indexOfSupplementary_4cfef 62 = .ok (.ireturn, 1) := by decide +kernel
theorem dJ2_indexOfSupplementary_4cfef_63 : decode cJ2_indexOfSupplementary_4cfef 63 = .ok (.iinc 6 1, 3) := by decide +kernel
theorem dJ2_indexOfSupplementary_4cfef_66 : decode cJ2_indexOfSupplementary_4cfef 66 = .ok (.goto (-38), 3) := by decide +kernel
theorem dJ2_indexOfSupplementary_4cfef_69 : decode cJ2_indexOfSupplementary_4cfef 69 = .ok (.iconst (-1), 1) := by decide +kernel
theorem dJ2_indexOfSupplementary_4cfef_70 : decode cJ2_indexOfSupplementary_4cfef 70 = .ok (.ireturn, 1) := by decide +kernel
theorem dJ2_charAt_3b067_0 : decode cJ2_charAt_3b067 0 = .ok (.iload_n 1, 1) := by decide +kernel
theorem dJ2_charAt_3b067_1 : decode cJ2_charAt_3b067 1 = .ok (.aload_n 0, 1) := by decide +kernel
theorem dJ2_charAt_3b067_2 : decode cJ2_charAt_3b067 2 = .ok (.invokestatic 67, 3) := by decide +kernel
theorem dJ2_charAt_3b067_5 : decode cJ2_charAt_3b067 5 = .ok (.aload_n 0, 1) := by decide +kernel
theorem dJ2_charAt_3b067_6 : decode cJ2_charAt_3b067 6 = .ok (.iload_n 1, 1) := by decide +kernel
theorem dJ2_charAt_3b067_7 : decode cJ2_charAt_3b067 7 = .ok (.invokestatic 71, 3) := by decide +kernel
theorem dJ2_charAt_3b067_10 : decode cJ2_charAt_3b067 10 = .ok (.ireturn, 1) := by decide +kernel
theorem dJ2_checkIndex_2214a_0 : decode cJ2_checkIndex_2214a 0 = .ok (.iload_n 0, 1) := by decide +kernel
theorem dJ2_checkIndex_2214a_1 : decode cJ2_checkIndex_2214a 1 = .ok (.aload_n 1, 1) := by decide +kernel
theorem dJ2_checkIndex_2214a_2 : decode cJ2_checkIndex_2214a 2 = .ok (.invokestatic 48, 3) := by decide +kernel
theorem dJ2_checkIndex_2214a_5 : decode cJ2_checkIndex_2214a 5 = .ok (.invokestatic 414, 3) := by decide +kernel
theorem dJ2_checkIndex_2214a_8 : decode cJ2_checkIndex_2214a 8 = .ok (.return_, 1) := by decide +kernel
theorem dJ2_checkBoundsBeginEnd_d044e_0 : decode cJ2_checkBoundsBeginEnd_d044e 0 = .ok (.iload_n 0, 1) := by decide +kernel
theorem dJ2_checkBoundsBeginEnd_d044e_1 : decode cJ2_checkBoundsBeginEnd_d044e 1 = .ok (.iload_n 1, 1) := by decide +kernel
theorem dJ2_checkBoundsBeginEnd_d044e_2 : decode cJ2_checkBoundsBeginEnd_d044e 2 = .ok (.aload_n 2, 1) := by decide +kernel
theorem dJ2_checkBoundsBeginEnd_d044e_3 : decode cJ2_checkBoundsBeginEnd_d044e 3 = .ok (.invokestatic 48, 3) := by decide +kernel
theorem dJ2_checkBoundsBeginEnd_d044e_6 : decode cJ2_checkBoundsBeginEnd_d044e 6 = .ok (.invokestatic 241, 3) := by decide +kernel
theorem dJ2_checkBoundsBeginEnd_d044e_9 : decode cJ2_checkBoundsBeginEnd_d044e 9 = .ok (.return_, 1) := by decide +kernel
theorem dJ7_fill_53178_0 : decode cJ7_fill_53178 0 = .ok (.iconst 0, 1) := by decide +kernel
theorem dJ7_fill_53178_1 : decode cJ7_fill_53178 1 = .ok (.istore_n 2, 1) := by decide +kernel
theorem dJ7_fill_53178_2 : decode cJ7_fill_53178 2 = .ok (.aload_n 0, 1) := by decide +kernel
theorem dJ7_fill_53178_3 : decode cJ7_fill_53178 3 = .ok (.arraylength, 1) := by decide +kernel
theorem dJ7_fill_53178_4 : decode cJ7_fill_53178 4 = .ok (.istore_n 3, 1) := by decide +kernel
theorem dJ7_fill_53178_5 : decode cJ7_fill_53178 5 = .ok (.iload_n 2, 1) := by decide +kernel
theorem dJ7_fill_53178_6 : decode cJ7_fill_53178 6 = .ok (.iload_n 3, 1) := by decide +kernel
theorem dJ7_fill_53178_7 : decode cJ7_fill_53178 7 = .ok (.if_icmp .ge 13, 3) := by decide +kernel
theorem dJ7_fill_53178_10 : decode cJ7_fill_53178 10 = .ok (.aload_n 0, 1) := by decide +kernel
theorem dJ7_fill_53178_11 : decode cJ7_fill_53178 11 = .ok (.iload_n 2, 1) := by decide +kernel
theorem dJ7_fill_53178_12 : decode cJ7_fill_53178 12 = .ok (.iload_n 1, 1) := by decide +kernel
theorem dJ7_fill_53178_13 : decode cJ7_fill_53178 13 = .ok (.iastore, 1) := by decide +kernel
theorem dJ7_fill_53178_14 : decode cJ7_fill_53178 14 = .ok (.iinc 2 1, 3) := by decide +kernel
theorem dJ7_fill_53178_17 : decode cJ7_fill_53178 17 = .ok (.goto (-12), 3) := by decide +kernel
theorem dJ7_fill_53178_20 : decode cJ7_fill_53178 20 = .ok (.return_, 1) := by decide +kernel
theorem dJ3_checkIndex_8e157_0 : decode cJ3_checkIndex_8e157 0 = .ok (.iload_n 0, 1) := by decide +kernel
theorem dJ3_checkIndex_8e157_1 : decode cJ3_checkIndex_8e157 1 = .ok (.ifCond .lt 8, 3) := by decide +kernel
theorem dJ3_checkIndex_8e157_4 : decode cJ3_checkIndex_8e157 4 = .ok (.iload_n 0, 1) := by decide +kernel
theorem dJ3_checkIndex_8e157_5 : decode cJ3_checkIndex_8e157 5 = .ok (.iload_n 1, 1) := by decide +kernel
theorem dJ3_checkIndex_8e157_6 : decode cJ3_checkIndex_8e157 6 = .ok (.if_icmp .lt 10, 3) := by decide +kernel
theorem dJ3_checkIndex_8e157_9 : decode cJ3_checkIndex_8e157 9 = .ok (.aload_n 2, 1) := by decide +kernel
theorem dJ3_checkIndex_8e157_10 : decode cJ3_checkIndex_8e157 10 = .ok (.iload_n 0, 1) := by decide +kernel
theorem dJ3_checkIndex_8e157_11 : decode cJ3_checkIndex_8e157 11 = .ok (.iload_n 1, 1) := by decide +kernel
theorem dJ3_checkIndex_8e157_12 : decode cJ3_checkIndex_8e157 12 = .ok (.invokestatic 95, 3) := by decide +kernel
theorem dJ3_checkIndex_8e157_15 : decode cJ3_checkIndex_8e157 15 = .ok (.athrow, 1) := by decide +kernel
theorem dJ3_checkIndex_8e157_16 : decode cJ3_checkIndex_8e157 16 = .ok (.iload_n 0, 1) := by decide +kernel
theorem dJ3_checkIndex_8e157_17 : decode cJ3_checkIndex_8e157 17 = .ok (.ireturn, 1) := by decide +kernel
theorem dJ3_checkFromToIndex_8c36e_0 : decode cJ3_checkFromToIndex_8c36e 0 = .ok (.iload_n 0, 1) := by decide +kernel
theorem dJ3_checkFromToIndex_8c36e_1 : decode cJ3_checkFromToIndex_8c36e 1 = .ok (.ifCond .lt 13, 3) := by decide +kernel
theorem dJ3_checkFromToIndex_8c36e_4 : decode cJ3_checkFromToIndex_8c36e 4 = .ok (.iload_n 0, 1) := by decide +kernel
theorem dJ3_checkFromToIndex_8c36e_5 : decode cJ3_checkFromToIndex_8c36e 5 = .ok (.iload_n 1, 1) := by decide +kernel
theorem dJ3_checkFromToIndex_8c36e_6 : decode cJ3_checkFromToIndex_8c36e 6 = .ok (.if_icmp .gt 8, 3) := by decide +kernel
theorem dJ3_checkFromToIndex_8c36e_9 : decode cJ3_checkFromToIndex_8c36e 9 = .ok (.iload_n 1, 1) := by decide +kernel
theorem dJ3_checkFromToIndex_8c36e_10 : decode cJ3_checkFromToIndex_8c36e 10 = .ok (.iload_n 2, 1) := by decide +kernel
theorem dJ3_checkFromToIndex_8c36e_11 : decode cJ3_checkFromToIndex_8c36e 11 = .ok (.if_icmp .le 11, 3) := by decide +kernel
theorem dJ3_checkFromToIndex_8c36e_14 : decode cJ3_checkFromToIndex_8c36e 14 = .ok (.aload_n 3, 1) := by decide +kernel
theorem dJ3_checkFromToIndex_8c36e_15 : decode cJ3_checkFromToIndex_8c36e 15 = .ok (.iload_n 0, 1) := by decide +kernel
theorem dJ3_checkFromToIndex_8c36e_16 : decode cJ3_checkFromToIndex_8c36e 16 = .ok (.iload_n 1, 1) := by decide +kernel
theorem dJ3_checkFromToIndex_8c36e_17 : decode cJ3_checkFromToIndex_8c36e 17 = .ok (.iload_n 2, 1) := by decide +kernel
theorem dJ3_checkFromToIndex_8c36e_18 : decode cJ3_checkFromToIndex_8c36e 18 = .ok (.invokestatic 99, 3) := by decide +kernel
theorem dJ3_checkFromToIndex_8c36e_21 : decode cJ3_checkFromToIndex_8c36e 21 = .ok (.athrow, 1) := by decide +kernel
theorem dJ3_checkFromToIndex_8c36e_22 : decode cJ3_checkFromToIndex_8c36e 22 = .ok (.iload_n 0, 1) := by decide +kernel
theorem dJ3_checkFromToIndex_8c36e_23 : decode cJ3_checkFromToIndex_8c36e 23 = .ok (.ireturn, 1) := by decide +kernel
end
section
/-! THE JUDGEMENT sv_V: the machine at pc of a method of ours, with known locals ls and stack st, over the n cells f that were made since the law began (cell k at address gB G + k), comes to the method's end with Post. -/
abbrev GT : Type := Launch × va_G × (ClassId × ClassId × ClassId) × Nat × (Nat → Nat) × (Nat → Nat)
def gB (G : GT) : Nat := G.2.2.2.1
def gA (G : GT) (q : Nat) : Prop := gB G ≤ q
def gT (G : GT) : List (ClassId × FieldType) := [(G.2.2.1.1, .int), (G.2.2.1.2.1, .boolean), (G.2.2.1.2.2, .object RX6)]
def isNest : Cond → Bool
  | .methodLinkNest _ _ _ _ => true
  | _ => false
def gw : List Cond := lw_tbl.filter goodWord
theorem gw_good : GoodIn gw gw := fun _ h => ⟨h, good_of_word (List.mem_filter.mp h).2⟩
theorem gw_in {w : Cond} (h : w ∈ lw_tbl) (hg : goodWord w = true) : w ∈ gw := List.mem_filter.mpr ⟨h, hg⟩
theorem gw_at {w : Cond} (i : Nat) (h : tables_1[i]? = some w) (hg : goodWord w = true) : w ∈ gw := gw_in (List.mem_append_right _ (List.mem_of_getElem? h)) hg
theorem gw_sel {w : Cond} (i : Nat) (h : (k2_sels lw_privs)[i]? = some w) (hg : goodWord w = true) : w ∈ gw := gw_in (List.mem_append_left _ (List.mem_of_getElem? h)) hg
def stK : List Nat := [24, 47, 49, 51, 53, 55, 57, 59, 61]
def stX : List String := ["i+-lsjzcbkoh", "\x72f", "\x72r", "\x72m", "sf", "\x72sf", "tu", "\x72", ""]
def stL : List Nat := [12, 2, 2, 2, 2, 3, 2, 1, 0]
def stB : List (List Int32) := [[105, 43, 45, 108, 115, 106, 122, 99, 98, 107, 111, 104], [114, 102], [114, 114], [114, 109], [115, 102], [114, 115, 102], [116, 117], [114], []]
/-- what holds at the start of each of our methods, beside the words -/
def sv_K (G : GT) (U : State) : Prop := va_K G.2.1 vwCl (gT G) U ∧ (∀ w ∈ lw_tbl, isNest w = true → va_Nw w U) ∧ va_AO RX6 U ∧
  (∀ i, i < 9 → vk_R RX8 (stK.getD i 0) (stX.getD i "") (G.2.2.2.2.1 i) U) ∧ vk_S 9 stL stB G.2.2.2.2.1 G.2.2.2.2.2 (gA G) U U.heap ∧ va_Z "java/lang/String" "COMPACT_STRINGS" "Z" (.int 1) (gA G) U U.heap
theorem sv_nest {w : Cond} {s U : State} (hn : isNest w = true) (hW : s.WarmedH U.vm) (h : va_Nw w s) : va_Nw w U := by
  cases w <;> first | (exact va_Nw.warmM hW h) | (cases hn)
theorem sv_nest_vm {w : Cond} {s U : State} (hn : isNest w = true) (hv : s.vm = U.vm) (h : va_Nw w s) : va_Nw w U := by
  cases w <;> first | (exact va_Nw.same rfl hv h) | (cases hn)
theorem sv_K.next {G : GT} {s U : State} {H : Heap} {locs : List Loc} (h : sv_K G s) (hS : va_S (gA G) s.heap H locs) (hU : U.heap = H) (hW : s.WarmedH U.vm) : sv_K G U := by
  obtain ⟨h1, h2, h3, h4, h5, h6⟩ := h
  refine ⟨va_K.moved hW.alike h1, fun w hw hn => sv_nest hn hW (h2 w hw hn), va_AO.moved hW.alike h3, fun i hi => (h4 i hi).warm hW, ?_, ?_⟩
  · rw [hU]; exact (h5.kept hS.2.1).moved hW.alike
  · rw [hU]; exact (h6.kept hS.2.1).moved hW.alike
theorem sv_K.calling {G : GT} {U : State} (h : sv_K G U) (g : JFrame) (mk : MethodId) (a : Array Value) : sv_K G (U.calling g mk a) := by
  obtain ⟨h1, h2, h3, h4, h5, h6⟩ := h
  have hv : U.vm = (U.calling g mk a).vm := rfl
  exact ⟨va_K.moved (u := U) (U := U.calling g mk a) (Vm.Alike.refl U.vm) h1, fun w hw hn => sv_nest_vm hn hv (h2 w hw hn), va_AO.moved (u := U) (U := U.calling g mk a) (Vm.Alike.refl U.vm) h3, fun i hi => (h4 i hi).same rfl, h5.moved (u := U) (U := U.calling g mk a) (Vm.Alike.refl U.vm), h6.moved (u := U) (U := U.calling g mk a) (Vm.Alike.refl U.vm)⟩
/-- the heap holds our n cells f -/
def sv_P (G : GT) (n : Nat) (f : Nat → va_E) (H : Heap) : Prop := H.size = gB G + n ∧ ∀ k, k < n → va_at G.2.1 vwCl (gB G + k, f k) H
theorem sv_P.one {G : GT} {n : Nat} {f : Nat → va_E} {H : Heap} (h : sv_P G n f H) {k : Nat} (hk : k < n) {e : va_E} (he : f k = e) : va_P G.2.1 vwCl [(gB G + k, e)] H := by
  intro j q hq
  have hz : j < 1 := (List.getElem?_eq_some_iff.mp hq).1
  rw [show j = 0 by omega] at hq
  cases hq
  rw [← he]
  exact h.2 k hk
theorem sv_P.set {G : GT} {n : Nat} {f : Nat → va_E} {H H1 : Heap} (h : sv_P G n f H) {k : Nat} (hk : k < n) {e : va_E} (he : va_at G.2.1 vwCl (gB G + k, e) H1) (hz : H1.size = H.size) (oq : ∀ q : Nat, q ≠ gB G + k → H1[q]? = H[q]?) : sv_P G n (va_up f k e) H1 := by
  refine ⟨hz.trans h.1, fun j hj => ?_⟩
  by_cases hjk : j = k
  · subst hjk
    simp only [va_up, if_pos]
    exact he
  · simp only [va_up, if_neg hjk]
    exact (h.2 j hj).kept (oq _ (fun z => hjk (by simpa using z)))
theorem sv_P.push {G : GT} {n : Nat} {f : Nat → va_E} {H H1 : Heap} (h : sv_P G n f H) {e : va_E} (he : va_at G.2.1 vwCl (gB G + n, e) H1) (hz : H1.size = H.size + 1) (oq : ∀ q : Nat, q < H.size → H1[q]? = H[q]?) : sv_P G (n + 1) (va_up f n e) H1 := by
  refine ⟨by rw [hz, h.1]; rfl, fun j hj => ?_⟩
  by_cases hjk : j = n
  · subst hjk
    simp only [va_up, if_pos]
    exact he
  · simp only [va_up, if_neg hjk]
    exact (h.2 j (by omega)).kept (oq _ (by rw [h.1]; show gB G + j < gB G + n; omega))
theorem sv_P.congr {G : GT} {n : Nat} {f g : Nat → va_E} {H : Heap} (h : sv_P G n f H) (hfg : ∀ k, k < n → f k = g k) : sv_P G n g H := ⟨h.1, fun k hk => by rw [← hfg k hk]; exact h.2 k hk⟩
/-- the return instruction that stands at pc, with what it gives -/
def sv_Ret (cc : ByteArray) (pc : Nat) (st : List Value) (rt : Option FieldType) (r : Option Value) : Prop :=
  (decode cc pc = .ok (.return_, 1) ∧ st = [] ∧ rt = none ∧ r = none) ∨ (decode cc pc = .ok (.ireturn, 1) ∧ ∃ (v : Int32) (ty : FieldType), st = [.int v] ∧ rt = some ty ∧ narrow ty (.int v) = .int v ∧ r = some (.int v)) ∨
  (decode cc pc = .ok (.lreturn, 1) ∧ ∃ v : Int64, st = [.long v] ∧ rt = some .long ∧ r = some (.long v)) ∨ (decode cc pc = .ok (.areturn, 1) ∧ ∃ (a : Nat) (C : String), st = [.ref a] ∧ rt = some (.object C) ∧ r = some (.ref a))
/-- all that a walk stands on -/
def sv_C (G : GT) (R : Room) (own nm : String) (cc : ByteArray) (nL : Nat) (rt : Option FieldType) (Post : Option Value → Nat → Nat → Nat → (Nat → va_E) → Prop) (p : Program) (e : Env) (s : State) (m : MethodId) (args : Array Value) (below : List Frame) (meth : Method) (c : Code) (Q : State → Prop) : Prop :=
  p.tables.exec = Jvm.exec ∧ c.code = cc ∧ c.maxLocals = nL ∧ s.vm.findClass own = some m.cls ∧ (∀ w ∈ gw, w.before args s = true) ∧ sv_K G s ∧ gB G ≤ s.heap.size ∧ meth.name = nm ∧
  ∀ (H : Heap) (locs : List Loc) (cells slots : Nat) (ls : Array Slot) (pc : Nat) (st : List Value) (r : Option Value) (n : Nat) (f : Nat → va_E), sv_Ret cc pc st rt r → Post r cells slots n f → sv_P G n f H → va_S (gA G) s.heap H locs → W p G.1 e R s m args below meth c H locs cells slots Q (F0 m pc ls st)
def sv_V (G : GT) (R : Room) (own nm : String) (cc : ByteArray) (nL : Nat) (rt : Option FieldType) (Post : Option Value → Nat → Nat → Nat → (Nat → va_E) → Prop) (cells slots : Nat) (n : Nat) (f : Nat → va_E) (pc : Nat) (ls : List (Nat × Value)) (st : List Value) : Prop :=
  ∀ (p : Program) (e : Env) (s : State) (m : MethodId) (args : Array Value) (below : List Frame) (meth : Method) (c : Code) (Q : State → Prop), sv_C G R own nm cc nL rt Post p e s m args below meth c Q →
    ∀ (H : Heap) (locs : List Loc) (ls0 : Array Slot), sv_P G n f H → va_S (gA G) s.heap H locs → lv_has ls0 nL ls → W p G.1 e R s m args below meth c H locs cells slots Q (F0 m pc ls0 st)
section SV
variable {G : GT} {R : Room} {own nm : String} {cc : ByteArray} {nL : Nat} {rt : Option FieldType} {Post : Option Value → Nat → Nat → Nat → (Nat → va_E) → Prop} {cells slots n : Nat} {f : Nat → va_E} {pc : Nat} {ls : List (Nat × Value)} {st : List Value}
theorem sv_ret {r : Option Value} (h : sv_Ret cc pc st rt r) (hp : Post r cells slots n f) : sv_V G R own nm cc nL rt Post cells slots n f pc ls st :=
  fun _ _ _ _ _ _ _ _ _ C _ _ _ hP hS _ => C.2.2.2.2.2.2.2.2 _ _ _ _ _ _ _ _ _ _ h hp hP hS
theorem sv_vret (hr : rt = none) (d : decode cc pc = .ok (.return_, 1)) (hp : Post none cells slots n f) : sv_V G R own nm cc nL rt Post cells slots n f pc ls [] := sv_ret (Or.inl ⟨d, rfl, hr, rfl⟩) hp
theorem sv_iret {v : Int32} (hr : rt = some .int) (d : decode cc pc = .ok (.ireturn, 1)) (hp : Post (some (.int v)) cells slots n f) : sv_V G R own nm cc nL rt Post cells slots n f pc ls [.int v] := sv_ret (Or.inr (Or.inl ⟨d, v, .int, rfl, hr, rfl, rfl⟩)) hp
theorem sv_zret {v : Int32} (hr : rt = some .boolean) (d : decode cc pc = .ok (.ireturn, 1)) (hv : narrow .boolean (.int v) = .int v) (hp : Post (some (.int v)) cells slots n f) : sv_V G R own nm cc nL rt Post cells slots n f pc ls [.int v] := sv_ret (Or.inr (Or.inl ⟨d, v, .boolean, rfl, hr, hv, rfl⟩)) hp
theorem sv_nret {v : Int32} {ty : FieldType} (hr : rt = some ty) (d : decode cc pc = .ok (.ireturn, 1)) (hv : narrow ty (.int v) = .int v) (hp : Post (some (.int v)) cells slots n f) : sv_V G R own nm cc nL rt Post cells slots n f pc ls [.int v] := sv_ret (Or.inr (Or.inl ⟨d, v, ty, rfl, hr, hv, rfl⟩)) hp
theorem sv_lret {v : Int64} (hr : rt = some .long) (d : decode cc pc = .ok (.lreturn, 1)) (hp : Post (some (.long v)) cells slots n f) : sv_V G R own nm cc nL rt Post cells slots n f pc ls [.long v] := sv_ret (Or.inr (Or.inr (Or.inl ⟨d, v, rfl, hr, rfl⟩))) hp
theorem sv_aret {a : Nat} {C : String} (hr : rt = some (.object C)) (d : decode cc pc = .ok (.areturn, 1)) (hp : Post (some (.ref a)) cells slots n f) : sv_V G R own nm cc nL rt Post cells slots n f pc ls [.ref a] := sv_ret (Or.inr (Or.inr (Or.inr ⟨d, a, C, rfl, hr, rfl⟩))) hp
theorem sv_cells {c2 s2 : Nat} (h1 : cells ≤ c2) (h2 : slots ≤ s2) (k : sv_V G R own nm cc nL rt Post c2 s2 n f pc ls st) : sv_V G R own nm cc nL rt Post cells slots n f pc ls st :=
  fun p e s m args below meth c Q C H locs ls0 hP hS hl => W.widen h1 h2 (k p e s m args below meth c Q C H locs ls0 hP hS hl)
theorem sv_heap {g : Nat → va_E} (h : ∀ k, k < n → f k = g k) (k : sv_V G R own nm cc nL rt Post cells slots n g pc ls st) : sv_V G R own nm cc nL rt Post cells slots n f pc ls st :=
  fun p e s m args below meth c Q C H locs ls0 hP hS hl => k p e s m args below meth c Q C H locs ls0 (hP.congr h) hS hl
theorem sv_locals {ls' : List (Nat × Value)} (ks : List Nat) (h : lv_pick ls ks = ls') (k : sv_V G R own nm cc nL rt Post cells slots n f pc ls' st) : sv_V G R own nm cc nL rt Post cells slots n f pc ls st :=
  fun p e s m args below meth c Q C H locs ls0 hP hS hl => k p e s m args below meth c Q C H locs ls0 hP hS (lv_sub hl ks h)
theorem sv_st {st' : List Value} (h : st = st') (k : sv_V G R own nm cc nL rt Post cells slots n f pc ls st') : sv_V G R own nm cc nL rt Post cells slots n f pc ls st := h ▸ k
theorem sv_iconst {z : Int} {v : Int32} (d : decode cc pc = .ok (.iconst z, 1)) (hv : Int32.ofInt z = v) (k : sv_V G R own nm cc nL rt Post cells slots n f (pc + 1) ls (.int v :: st)) : sv_V G R own nm cc nL rt Post cells slots n f pc ls (st) :=
  fun p e s m args below meth c Q C H locs ls0 hP hS hl => lv_iconst C.1 C.2.1 d hv (k p e s m args below meth c Q C H locs ls0 hP hS hl)
theorem sv_bipush {z : Int} {v : Int32} (d : decode cc pc = .ok (.bipush z, 2)) (hv : (Int8.ofInt z).toInt32 = v) (k : sv_V G R own nm cc nL rt Post cells slots n f (pc + 2) ls (.int v :: st)) : sv_V G R own nm cc nL rt Post cells slots n f pc ls (st) :=
  fun p e s m args below meth c Q C H locs ls0 hP hS hl => lv_bipush C.1 C.2.1 d hv (k p e s m args below meth c Q C H locs ls0 hP hS hl)
theorem sv_sipush {z : Int} {v : Int32} (d : decode cc pc = .ok (.sipush z, 3)) (hv : (Int16.ofInt z).toInt32 = v) (k : sv_V G R own nm cc nL rt Post cells slots n f (pc + 3) ls (.int v :: st)) : sv_V G R own nm cc nL rt Post cells slots n f pc ls (st) :=
  fun p e s m args below meth c Q C H locs ls0 hP hS hl => lv_sipush C.1 C.2.1 d hv (k p e s m args below meth c Q C H locs ls0 hP hS hl)
theorem sv_lconst {z : Fin 2} {v : Int64} (d : decode cc pc = .ok (.lconst z, 1)) (hv : Int64.ofNat (z : Nat) = v) (k : sv_V G R own nm cc nL rt Post cells slots n f (pc + 1) ls (.long v :: st)) : sv_V G R own nm cc nL rt Post cells slots n f pc ls (st) :=
  fun p e s m args below meth c Q C H locs ls0 hP hS hl => lv_lconst C.1 C.2.1 d hv (k p e s m args below meth c Q C H locs ls0 hP hS hl)
theorem sv_iload_n (j : Nat) {i : Fin 4} {x : Int32} (d : decode cc pc = .ok (.iload_n i, 1)) (hj : ls[j]? = some ((i : Nat), .int x)) (k : sv_V G R own nm cc nL rt Post cells slots n f (pc + 1) ls (.int x :: st)) : sv_V G R own nm cc nL rt Post cells slots n f pc ls (st) :=
  fun p e s m args below meth c Q C H locs ls0 hP hS hl => lv_iload_n C.1 C.2.1 d rfl (lv_at hl j hj) (k p e s m args below meth c Q C H locs ls0 hP hS hl)
theorem sv_iload (j : Nat) {i : Nat} {x : Int32} (d : decode cc pc = .ok (.iload i, 2)) (hj : ls[j]? = some (i, .int x)) (k : sv_V G R own nm cc nL rt Post cells slots n f (pc + 2) ls (.int x :: st)) : sv_V G R own nm cc nL rt Post cells slots n f pc ls (st) :=
  fun p e s m args below meth c Q C H locs ls0 hP hS hl => lv_iload C.1 C.2.1 d (lv_at hl j hj) (k p e s m args below meth c Q C H locs ls0 hP hS hl)
theorem sv_lload_n (j : Nat) {i : Fin 4} {x : Int64} (d : decode cc pc = .ok (.lload_n i, 1)) (hj : ls[j]? = some ((i : Nat), .long x)) (k : sv_V G R own nm cc nL rt Post cells slots n f (pc + 1) ls (.long x :: st)) : sv_V G R own nm cc nL rt Post cells slots n f pc ls (st) :=
  fun p e s m args below meth c Q C H locs ls0 hP hS hl => lv_lload_n C.1 C.2.1 d rfl (lv_at hl j hj) (k p e s m args below meth c Q C H locs ls0 hP hS hl)
theorem sv_lload (j : Nat) {i : Nat} {x : Int64} (d : decode cc pc = .ok (.lload i, 2)) (hj : ls[j]? = some (i, .long x)) (k : sv_V G R own nm cc nL rt Post cells slots n f (pc + 2) ls (.long x :: st)) : sv_V G R own nm cc nL rt Post cells slots n f pc ls (st) :=
  fun p e s m args below meth c Q C H locs ls0 hP hS hl => lv_lload C.1 C.2.1 d (lv_at hl j hj) (k p e s m args below meth c Q C H locs ls0 hP hS hl)
theorem sv_aload_n (j : Nat) {i : Fin 4} {x : Nat} (d : decode cc pc = .ok (.aload_n i, 1)) (hj : ls[j]? = some ((i : Nat), .ref x)) (k : sv_V G R own nm cc nL rt Post cells slots n f (pc + 1) ls (.ref x :: st)) : sv_V G R own nm cc nL rt Post cells slots n f pc ls (st) :=
  fun p e s m args below meth c Q C H locs ls0 hP hS hl => lv_aload_n C.1 C.2.1 d rfl (lv_at hl j hj) (k p e s m args below meth c Q C H locs ls0 hP hS hl)
theorem sv_aload (j : Nat) {i : Nat} {x : Nat} (d : decode cc pc = .ok (.aload i, 2)) (hj : ls[j]? = some (i, .ref x)) (k : sv_V G R own nm cc nL rt Post cells slots n f (pc + 2) ls (.ref x :: st)) : sv_V G R own nm cc nL rt Post cells slots n f pc ls (st) :=
  fun p e s m args below meth c Q C H locs ls0 hP hS hl => lv_aload C.1 C.2.1 d (lv_at hl j hj) (k p e s m args below meth c Q C H locs ls0 hP hS hl)
theorem sv_istore_n {i : Fin 4} {x : Int32} {ls' : List (Nat × Value)} (d : decode cc pc = .ok (.istore_n i, 1)) (hi : (i : Nat) < nL) (hl' : (((i : Nat) : Nat), Value.int x) :: ls.filter (fun q => !(q.1 == (i : Nat)) && !(q.1 + 1 == (i : Nat) && q.2.category == 2)) = ls') (k : sv_V G R own nm cc nL rt Post cells slots n f (pc + 1) ls' st) : sv_V G R own nm cc nL rt Post cells slots n f pc ls (Value.int x :: st) :=
  fun p e s m args below meth c Q C H locs ls0 hP hS hl => lv_istore_n C.1 C.2.1 d rfl hl hi hl' (fun ls1 hl1 => k p e s m args below meth c Q C H locs ls1 hP hS hl1)
theorem sv_istore {i : Nat} {x : Int32} {ls' : List (Nat × Value)} (d : decode cc pc = .ok (.istore i, 2)) (hi : i < nL) (hl' : ((i : Nat), Value.int x) :: ls.filter (fun q => !(q.1 == i) && !(q.1 + 1 == i && q.2.category == 2)) = ls') (k : sv_V G R own nm cc nL rt Post cells slots n f (pc + 2) ls' st) : sv_V G R own nm cc nL rt Post cells slots n f pc ls (Value.int x :: st) :=
  fun p e s m args below meth c Q C H locs ls0 hP hS hl => lv_istore C.1 C.2.1 d hl hi hl' (fun ls1 hl1 => k p e s m args below meth c Q C H locs ls1 hP hS hl1)
theorem sv_astore_n {i : Fin 4} {x : Nat} {ls' : List (Nat × Value)} (d : decode cc pc = .ok (.astore_n i, 1)) (hi : (i : Nat) < nL) (hl' : (((i : Nat) : Nat), Value.ref x) :: ls.filter (fun q => !(q.1 == (i : Nat)) && !(q.1 + 1 == (i : Nat) && q.2.category == 2)) = ls') (k : sv_V G R own nm cc nL rt Post cells slots n f (pc + 1) ls' st) : sv_V G R own nm cc nL rt Post cells slots n f pc ls (Value.ref x :: st) :=
  fun p e s m args below meth c Q C H locs ls0 hP hS hl => lv_astore_n C.1 C.2.1 d rfl hl hi hl' (fun ls1 hl1 => k p e s m args below meth c Q C H locs ls1 hP hS hl1)
theorem sv_astore {i : Nat} {x : Nat} {ls' : List (Nat × Value)} (d : decode cc pc = .ok (.astore i, 2)) (hi : i < nL) (hl' : ((i : Nat), Value.ref x) :: ls.filter (fun q => !(q.1 == i) && !(q.1 + 1 == i && q.2.category == 2)) = ls') (k : sv_V G R own nm cc nL rt Post cells slots n f (pc + 2) ls' st) : sv_V G R own nm cc nL rt Post cells slots n f pc ls (Value.ref x :: st) :=
  fun p e s m args below meth c Q C H locs ls0 hP hS hl => lv_astore C.1 C.2.1 d hl hi hl' (fun ls1 hl1 => k p e s m args below meth c Q C H locs ls1 hP hS hl1)
theorem sv_lstore_n {i : Fin 4} {x : Int64} {ls' : List (Nat × Value)} (d : decode cc pc = .ok (.lstore_n i, 1)) (hi : (i : Nat) + 1 < nL) (hl' : (((i : Nat) : Nat), Value.long x) :: ls.filter (fun q => !(q.1 == (i : Nat)) && (!(q.1 == (i : Nat) + 1) && !(q.1 + 1 == (i : Nat) && q.2.category == 2))) = ls') (k : sv_V G R own nm cc nL rt Post cells slots n f (pc + 1) ls' st) : sv_V G R own nm cc nL rt Post cells slots n f pc ls (Value.long x :: st) :=
  fun p e s m args below meth c Q C H locs ls0 hP hS hl => lv_lstore_n C.1 C.2.1 d rfl hl hi hl' (fun ls1 hl1 => k p e s m args below meth c Q C H locs ls1 hP hS hl1)
theorem sv_lstore {i : Nat} {x : Int64} {ls' : List (Nat × Value)} (d : decode cc pc = .ok (.lstore i, 2)) (hi : i + 1 < nL) (hl' : ((i : Nat), Value.long x) :: ls.filter (fun q => !(q.1 == i) && (!(q.1 == i + 1) && !(q.1 + 1 == i && q.2.category == 2))) = ls') (k : sv_V G R own nm cc nL rt Post cells slots n f (pc + 2) ls' st) : sv_V G R own nm cc nL rt Post cells slots n f pc ls (Value.long x :: st) :=
  fun p e s m args below meth c Q C H locs ls0 hP hS hl => lv_lstore C.1 C.2.1 d hl hi hl' (fun ls1 hl1 => k p e s m args below meth c Q C H locs ls1 hP hS hl1)
theorem sv_iinc (j : Nat) {i : Nat} {z : Int} {x v : Int32} {ls' : List (Nat × Value)} (d : decode cc pc = .ok (.iinc i z, 3)) (hj : ls[j]? = some (i, .int x)) (hv : x + Int32.ofInt z = v) (hi : i < nL) (hl' : (i, Value.int v) :: ls.filter (fun q => !(q.1 == i) && !(q.1 + 1 == i && q.2.category == 2)) = ls') (k : sv_V G R own nm cc nL rt Post cells slots n f (pc + 3) ls' st) : sv_V G R own nm cc nL rt Post cells slots n f pc ls st :=
  fun p e s m args below meth c Q C H locs ls0 hP hS hl => lv_iinc C.1 C.2.1 d hl hj hv hi hl' (fun ls1 hl1 => k p e s m args below meth c Q C H locs ls1 hP hS hl1)
theorem sv_iadd {x y : Int32} (d : decode cc pc = .ok (.iadd, 1)) (k : sv_V G R own nm cc nL rt Post cells slots n f (pc + 1) ls (.int (x + y) :: st)) : sv_V G R own nm cc nL rt Post cells slots n f pc ls (.int y :: .int x :: st) :=
  fun p e s m args below meth c Q C H locs ls0 hP hS hl => lv_iadd C.1 C.2.1 d (k p e s m args below meth c Q C H locs ls0 hP hS hl)
theorem sv_isub {x y : Int32} (d : decode cc pc = .ok (.isub, 1)) (k : sv_V G R own nm cc nL rt Post cells slots n f (pc + 1) ls (.int (x - y) :: st)) : sv_V G R own nm cc nL rt Post cells slots n f pc ls (.int y :: .int x :: st) :=
  fun p e s m args below meth c Q C H locs ls0 hP hS hl => lv_isub C.1 C.2.1 d (k p e s m args below meth c Q C H locs ls0 hP hS hl)
theorem sv_imul {x y : Int32} (d : decode cc pc = .ok (.imul, 1)) (k : sv_V G R own nm cc nL rt Post cells slots n f (pc + 1) ls (.int (x * y) :: st)) : sv_V G R own nm cc nL rt Post cells slots n f pc ls (.int y :: .int x :: st) :=
  fun p e s m args below meth c Q C H locs ls0 hP hS hl => lv_imul C.1 C.2.1 d (k p e s m args below meth c Q C H locs ls0 hP hS hl)
theorem sv_iand {x y : Int32} (d : decode cc pc = .ok (.iand, 1)) (k : sv_V G R own nm cc nL rt Post cells slots n f (pc + 1) ls (.int (x &&& y) :: st)) : sv_V G R own nm cc nL rt Post cells slots n f pc ls (.int y :: .int x :: st) :=
  fun p e s m args below meth c Q C H locs ls0 hP hS hl => lv_iand C.1 C.2.1 d (k p e s m args below meth c Q C H locs ls0 hP hS hl)
theorem sv_ior {x y : Int32} (d : decode cc pc = .ok (.ior, 1)) (k : sv_V G R own nm cc nL rt Post cells slots n f (pc + 1) ls (.int (x ||| y) :: st)) : sv_V G R own nm cc nL rt Post cells slots n f pc ls (.int y :: .int x :: st) :=
  fun p e s m args below meth c Q C H locs ls0 hP hS hl => lv_ior C.1 C.2.1 d (k p e s m args below meth c Q C H locs ls0 hP hS hl)
theorem sv_ixor {x y : Int32} (d : decode cc pc = .ok (.ixor, 1)) (k : sv_V G R own nm cc nL rt Post cells slots n f (pc + 1) ls (.int (x ^^^ y) :: st)) : sv_V G R own nm cc nL rt Post cells slots n f pc ls (.int y :: .int x :: st) :=
  fun p e s m args below meth c Q C H locs ls0 hP hS hl => lv_ixor C.1 C.2.1 d (k p e s m args below meth c Q C H locs ls0 hP hS hl)
theorem sv_ladd {x y : Int64} (d : decode cc pc = .ok (.ladd, 1)) (k : sv_V G R own nm cc nL rt Post cells slots n f (pc + 1) ls (.long (x + y) :: st)) : sv_V G R own nm cc nL rt Post cells slots n f pc ls (.long y :: .long x :: st) :=
  fun p e s m args below meth c Q C H locs ls0 hP hS hl => lv_ladd C.1 C.2.1 d (k p e s m args below meth c Q C H locs ls0 hP hS hl)
theorem sv_lsub {x y : Int64} (d : decode cc pc = .ok (.lsub, 1)) (k : sv_V G R own nm cc nL rt Post cells slots n f (pc + 1) ls (.long (x - y) :: st)) : sv_V G R own nm cc nL rt Post cells slots n f pc ls (.long y :: .long x :: st) :=
  fun p e s m args below meth c Q C H locs ls0 hP hS hl => lv_lsub C.1 C.2.1 d (k p e s m args below meth c Q C H locs ls0 hP hS hl)
theorem sv_lmul {x y : Int64} (d : decode cc pc = .ok (.lmul, 1)) (k : sv_V G R own nm cc nL rt Post cells slots n f (pc + 1) ls (.long (x * y) :: st)) : sv_V G R own nm cc nL rt Post cells slots n f pc ls (.long y :: .long x :: st) :=
  fun p e s m args below meth c Q C H locs ls0 hP hS hl => lv_lmul C.1 C.2.1 d (k p e s m args below meth c Q C H locs ls0 hP hS hl)
theorem sv_land {x y : Int64} (d : decode cc pc = .ok (.land, 1)) (k : sv_V G R own nm cc nL rt Post cells slots n f (pc + 1) ls (.long (x &&& y) :: st)) : sv_V G R own nm cc nL rt Post cells slots n f pc ls (.long y :: .long x :: st) :=
  fun p e s m args below meth c Q C H locs ls0 hP hS hl => lv_land C.1 C.2.1 d (k p e s m args below meth c Q C H locs ls0 hP hS hl)
theorem sv_lor {x y : Int64} (d : decode cc pc = .ok (.lor, 1)) (k : sv_V G R own nm cc nL rt Post cells slots n f (pc + 1) ls (.long (x ||| y) :: st)) : sv_V G R own nm cc nL rt Post cells slots n f pc ls (.long y :: .long x :: st) :=
  fun p e s m args below meth c Q C H locs ls0 hP hS hl => lv_lor C.1 C.2.1 d (k p e s m args below meth c Q C H locs ls0 hP hS hl)
theorem sv_lxor {x y : Int64} (d : decode cc pc = .ok (.lxor, 1)) (k : sv_V G R own nm cc nL rt Post cells slots n f (pc + 1) ls (.long (x ^^^ y) :: st)) : sv_V G R own nm cc nL rt Post cells slots n f pc ls (.long y :: .long x :: st) :=
  fun p e s m args below meth c Q C H locs ls0 hP hS hl => lv_lxor C.1 C.2.1 d (k p e s m args below meth c Q C H locs ls0 hP hS hl)
theorem sv_idiv {x y : Int32} (hdg : decode cc pc = .ok (.idiv, 1)) (hne : ¬ y = 0)
    (k : sv_V G R own nm cc nL rt Post cells slots n f (pc + 1) ls (.int (x / y) :: st)) : sv_V G R own nm cc nL rt Post cells slots n f pc ls (.int y :: .int x :: st) :=
  fun p e s m args below meth c Q C H locs ls0 hP hS hl => lv_idiv C.1 C.2.1 hdg hne (k p e s m args below meth c Q C H locs ls0 hP hS hl)
theorem sv_irem {x y : Int32} (hdg : decode cc pc = .ok (.irem, 1)) (hne : ¬ y = 0)
    (k : sv_V G R own nm cc nL rt Post cells slots n f (pc + 1) ls (.int (x - x / y * y) :: st)) : sv_V G R own nm cc nL rt Post cells slots n f pc ls (.int y :: .int x :: st) :=
  fun p e s m args below meth c Q C H locs ls0 hP hS hl => lv_irem C.1 C.2.1 hdg hne (k p e s m args below meth c Q C H locs ls0 hP hS hl)
theorem sv_ineg {x : Int32} (hdg : decode cc pc = .ok (.ineg, 1)) 
    (k : sv_V G R own nm cc nL rt Post cells slots n f (pc + 1) ls (.int (-x) :: st)) : sv_V G R own nm cc nL rt Post cells slots n f pc ls (.int x :: st) :=
  fun p e s m args below meth c Q C H locs ls0 hP hS hl => lv_ineg C.1 C.2.1 hdg (k p e s m args below meth c Q C H locs ls0 hP hS hl)
theorem sv_ldiv {x y : Int64} (hdg : decode cc pc = .ok (.ldiv, 1)) (hne : ¬ y = 0)
    (k : sv_V G R own nm cc nL rt Post cells slots n f (pc + 1) ls (.long (x / y) :: st)) : sv_V G R own nm cc nL rt Post cells slots n f pc ls (.long y :: .long x :: st) :=
  fun p e s m args below meth c Q C H locs ls0 hP hS hl => lv_ldiv C.1 C.2.1 hdg hne (k p e s m args below meth c Q C H locs ls0 hP hS hl)
theorem sv_lrem {x y : Int64} (hdg : decode cc pc = .ok (.lrem, 1)) (hne : ¬ y = 0)
    (k : sv_V G R own nm cc nL rt Post cells slots n f (pc + 1) ls (.long (x - x / y * y) :: st)) : sv_V G R own nm cc nL rt Post cells slots n f pc ls (.long y :: .long x :: st) :=
  fun p e s m args below meth c Q C H locs ls0 hP hS hl => lv_lrem C.1 C.2.1 hdg hne (k p e s m args below meth c Q C H locs ls0 hP hS hl)
theorem sv_ishl {x y : Int32} (hdg : decode cc pc = .ok (.ishl, 1)) 
    (k : sv_V G R own nm cc nL rt Post cells slots n f (pc + 1) ls (.int (x <<< (y &&& 31)) :: st)) : sv_V G R own nm cc nL rt Post cells slots n f pc ls (.int y :: .int x :: st) :=
  fun p e s m args below meth c Q C H locs ls0 hP hS hl => lv_ishl C.1 C.2.1 hdg (k p e s m args below meth c Q C H locs ls0 hP hS hl)
theorem sv_ishr {x y : Int32} (hdg : decode cc pc = .ok (.ishr, 1)) 
    (k : sv_V G R own nm cc nL rt Post cells slots n f (pc + 1) ls (.int (x >>> (y &&& 31)) :: st)) : sv_V G R own nm cc nL rt Post cells slots n f pc ls (.int y :: .int x :: st) :=
  fun p e s m args below meth c Q C H locs ls0 hP hS hl => lv_ishr C.1 C.2.1 hdg (k p e s m args below meth c Q C H locs ls0 hP hS hl)
theorem sv_i2l {x : Int32} {v : Int64} (hdg : decode cc pc = .ok (.i2l, 1)) (hv : x.toInt64 = v)
    (k : sv_V G R own nm cc nL rt Post cells slots n f (pc + 1) ls (.long v :: st)) : sv_V G R own nm cc nL rt Post cells slots n f pc ls (.int x :: st) :=
  fun p e s m args below meth c Q C H locs ls0 hP hS hl => lv_i2l C.1 C.2.1 hdg hv (k p e s m args below meth c Q C H locs ls0 hP hS hl)
theorem sv_l2i {x : Int64} {v : Int32} (hdg : decode cc pc = .ok (.l2i, 1)) (hv : x.toInt32 = v)
    (k : sv_V G R own nm cc nL rt Post cells slots n f (pc + 1) ls (.int v :: st)) : sv_V G R own nm cc nL rt Post cells slots n f pc ls (.long x :: st) :=
  fun p e s m args below meth c Q C H locs ls0 hP hS hl => lv_l2i C.1 C.2.1 hdg hv (k p e s m args below meth c Q C H locs ls0 hP hS hl)
theorem sv_i2b {x : Int32} {v : Int32} (hdg : decode cc pc = .ok (.i2b, 1)) (hv : x.toInt8.toInt32 = v)
    (k : sv_V G R own nm cc nL rt Post cells slots n f (pc + 1) ls (.int v :: st)) : sv_V G R own nm cc nL rt Post cells slots n f pc ls (.int x :: st) :=
  fun p e s m args below meth c Q C H locs ls0 hP hS hl => lv_i2b C.1 C.2.1 hdg hv (k p e s m args below meth c Q C H locs ls0 hP hS hl)
theorem sv_i2c {x : Int32} {v : Int32} (hdg : decode cc pc = .ok (.i2c, 1)) (hv : (x.toUInt32 % 65536).toInt32 = v)
    (k : sv_V G R own nm cc nL rt Post cells slots n f (pc + 1) ls (.int v :: st)) : sv_V G R own nm cc nL rt Post cells slots n f pc ls (.int x :: st) :=
  fun p e s m args below meth c Q C H locs ls0 hP hS hl => lv_i2c C.1 C.2.1 hdg hv (k p e s m args below meth c Q C H locs ls0 hP hS hl)
theorem sv_iushr {x y v : Int32} (hdg : decode cc pc = .ok (.iushr, 1)) (hv : (x.toUInt32 >>> (y.toUInt32 &&& Int32.toUInt32 31)).toInt32 = v)
    (k : sv_V G R own nm cc nL rt Post cells slots n f (pc + 1) ls (.int v :: st)) : sv_V G R own nm cc nL rt Post cells slots n f pc ls (.int y :: .int x :: st) :=
  fun p e s m args below meth c Q C H locs ls0 hP hS hl => lv_iushr C.1 C.2.1 hdg hv (k p e s m args below meth c Q C H locs ls0 hP hS hl)
theorem sv_lushr {x v : Int64} {y : Int32} (hdg : decode cc pc = .ok (.lushr, 1)) (hv : (x.toUInt64 >>> (y.toInt64.toUInt64 &&& Int64.toUInt64 63)).toInt64 = v)
    (k : sv_V G R own nm cc nL rt Post cells slots n f (pc + 1) ls (.long v :: st)) : sv_V G R own nm cc nL rt Post cells slots n f pc ls (.int y :: .long x :: st) :=
  fun p e s m args below meth c Q C H locs ls0 hP hS hl => lv_lushr C.1 C.2.1 hdg hv (k p e s m args below meth c Q C H locs ls0 hP hS hl)
theorem sv_lshl {x v : Int64} {y : Int32} (hdg : decode cc pc = .ok (.lshl, 1)) (hv : x <<< (y.toInt64 &&& 63) = v)
    (k : sv_V G R own nm cc nL rt Post cells slots n f (pc + 1) ls (.long v :: st)) : sv_V G R own nm cc nL rt Post cells slots n f pc ls (.int y :: .long x :: st) :=
  fun p e s m args below meth c Q C H locs ls0 hP hS hl => lv_lshl C.1 C.2.1 hdg hv (k p e s m args below meth c Q C H locs ls0 hP hS hl)
theorem sv_dup {va : Value} (hdg : decode cc pc = .ok (.dup, 1)) (hva : va.category = 1)
    (k : sv_V G R own nm cc nL rt Post cells slots n f (pc + 1) ls (va :: va :: st)) : sv_V G R own nm cc nL rt Post cells slots n f pc ls (va :: st) :=
  fun p e s m args below meth c Q C H locs ls0 hP hS hl => lv_dup C.1 C.2.1 hdg hva (k p e s m args below meth c Q C H locs ls0 hP hS hl)
theorem sv_pop {va : Value} (hdg : decode cc pc = .ok (.pop, 1)) (hva : va.category = 1)
    (k : sv_V G R own nm cc nL rt Post cells slots n f (pc + 1) ls (st)) : sv_V G R own nm cc nL rt Post cells slots n f pc ls (va :: st) :=
  fun p e s m args below meth c Q C H locs ls0 hP hS hl => lv_pop C.1 C.2.1 hdg hva (k p e s m args below meth c Q C H locs ls0 hP hS hl)
theorem sv_dup_x1 {va vb : Value} (hdg : decode cc pc = .ok (.dup_x1, 1)) (hva : va.category = 1) (hvb : vb.category = 1)
    (k : sv_V G R own nm cc nL rt Post cells slots n f (pc + 1) ls (va :: vb :: va :: st)) : sv_V G R own nm cc nL rt Post cells slots n f pc ls (va :: vb :: st) :=
  fun p e s m args below meth c Q C H locs ls0 hP hS hl => lv_dup_x1 C.1 C.2.1 hdg hva hvb (k p e s m args below meth c Q C H locs ls0 hP hS hl)
theorem sv_dup_x2 {va vb vd : Value} (hdg : decode cc pc = .ok (.dup_x2, 1)) (hva : va.category = 1) (hvb : vb.category = 1) (hvd : vd.category = 1)
    (k : sv_V G R own nm cc nL rt Post cells slots n f (pc + 1) ls (va :: vb :: vd :: va :: st)) : sv_V G R own nm cc nL rt Post cells slots n f pc ls (va :: vb :: vd :: st) :=
  fun p e s m args below meth c Q C H locs ls0 hP hS hl => lv_dup_x2 C.1 C.2.1 hdg hva hvb hvd (k p e s m args below meth c Q C H locs ls0 hP hS hl)
theorem sv_dup2_11 {va vb : Value} (hdg : decode cc pc = .ok (.dup2, 1)) (hva : va.category = 1) (hvb : vb.category = 1)
    (k : sv_V G R own nm cc nL rt Post cells slots n f (pc + 1) ls (va :: vb :: va :: vb :: st)) : sv_V G R own nm cc nL rt Post cells slots n f pc ls (va :: vb :: st) :=
  fun p e s m args below meth c Q C H locs ls0 hP hS hl => lv_dup2_11 C.1 C.2.1 hdg hva hvb (k p e s m args below meth c Q C H locs ls0 hP hS hl)
theorem sv_goto {off : Int} {tgt : Nat} (hdg : decode cc pc = .ok (.goto off, 3)) (ht : (pc : Int) + off = (tgt : Int)) (k : sv_V G R own nm cc nL rt Post cells slots n f tgt ls st) : sv_V G R own nm cc nL rt Post cells slots n f pc ls st :=
  fun p e s m args below meth c Q C H locs ls0 hP hS hl => lv_goto C.1 C.2.1 hdg ht (k p e s m args below meth c Q C H locs ls0 hP hS hl)
theorem sv_lookup {dflt : Int} {ps : Array (Int × Int)} {len : Nat} {x : Int32} {off : Int} {tgt : Nat} (hdg : decode cc pc = .ok (.lookupswitch dflt ps, len)) (hp : (ps.toList.zip (ps.toList.drop 1)).all (fun (a, next) => a.1 < next.1) = true) (ho : Op.lookupswitch.offset ps.toList dflt x.toInt = off) (ht : (pc : Int) + off = (tgt : Int))
    (k : sv_V G R own nm cc nL rt Post cells slots n f tgt ls st) : sv_V G R own nm cc nL rt Post cells slots n f pc ls (.int x :: st) :=
  fun p e s m args below meth c Q C H locs ls0 hP hS hl => lv_lookup C.1 C.2.1 hdg hp ho ht (k p e s m args below meth c Q C H locs ls0 hP hS hl)
theorem sv_tableOut {dflt lo hi : Int} {offs : Array Int} {len : Nat} {x : Int32} {tgt : Nat} (hdg : decode cc pc = .ok (.tableswitch dflt lo hi offs, len)) (h : x.toInt < lo ∨ hi < x.toInt) (ht : (pc : Int) + dflt = (tgt : Int))
    (k : sv_V G R own nm cc nL rt Post cells slots n f tgt ls st) : sv_V G R own nm cc nL rt Post cells slots n f pc ls (.int x :: st) :=
  fun p e s m args below meth c Q C H locs ls0 hP hS hl => lv_tableOut C.1 C.2.1 hdg h ht (k p e s m args below meth c Q C H locs ls0 hP hS hl)
theorem sv_tableIn {dflt lo hi : Int} {offs : Array Int} {len : Nat} {x : Int32} {off : Int} {tgt : Nat} (hdg : decode cc pc = .ok (.tableswitch dflt lo hi offs, len)) (h1 : ¬ x.toInt < lo) (h2 : ¬ hi < x.toInt) (ho : offs[(x.toInt - lo).toNat]? = some off) (ht : (pc : Int) + off = (tgt : Int))
    (k : sv_V G R own nm cc nL rt Post cells slots n f tgt ls st) : sv_V G R own nm cc nL rt Post cells slots n f pc ls (.int x :: st) :=
  fun p e s m args below meth c Q C H locs ls0 hP hS hl => lv_tableIn C.1 C.2.1 hdg h1 h2 ho ht (k p e s m args below meth c Q C H locs ls0 hP hS hl)
theorem sv_if_eq {x : Int32} {off : Int} {tgt : Nat} (hdg : decode cc pc = .ok (.ifCond .eq off, 3)) (ht : (pc : Int) + off = (tgt : Int))
    (kt : x = 0 → sv_V G R own nm cc nL rt Post cells slots n f tgt ls st) (kf : ¬ x = 0 → sv_V G R own nm cc nL rt Post cells slots n f (pc + 3) ls st) : sv_V G R own nm cc nL rt Post cells slots n f pc ls (.int x :: st) :=
  fun p e s m args below meth c Q C H locs ls0 hP hS hl => lv_if_eq C.1 C.2.1 hdg ht (fun z => kt z p e s m args below meth c Q C H locs ls0 hP hS hl) (fun z => kf z p e s m args below meth c Q C H locs ls0 hP hS hl)
theorem sv_icmp_eq {x y : Int32} {off : Int} {tgt : Nat} (hdg : decode cc pc = .ok (.if_icmp .eq off, 3)) (ht : (pc : Int) + off = (tgt : Int))
    (kt : x = y → sv_V G R own nm cc nL rt Post cells slots n f tgt ls st) (kf : ¬ x = y → sv_V G R own nm cc nL rt Post cells slots n f (pc + 3) ls st) : sv_V G R own nm cc nL rt Post cells slots n f pc ls (.int y :: .int x :: st) :=
  fun p e s m args below meth c Q C H locs ls0 hP hS hl => lv_icmp_eq C.1 C.2.1 hdg ht (fun z => kt z p e s m args below meth c Q C H locs ls0 hP hS hl) (fun z => kf z p e s m args below meth c Q C H locs ls0 hP hS hl)
theorem sv_if_ne {x : Int32} {off : Int} {tgt : Nat} (hdg : decode cc pc = .ok (.ifCond .ne off, 3)) (ht : (pc : Int) + off = (tgt : Int))
    (kt : ¬ x = 0 → sv_V G R own nm cc nL rt Post cells slots n f tgt ls st) (kf : x = 0 → sv_V G R own nm cc nL rt Post cells slots n f (pc + 3) ls st) : sv_V G R own nm cc nL rt Post cells slots n f pc ls (.int x :: st) :=
  fun p e s m args below meth c Q C H locs ls0 hP hS hl => lv_if_ne C.1 C.2.1 hdg ht (fun z => kt z p e s m args below meth c Q C H locs ls0 hP hS hl) (fun z => kf z p e s m args below meth c Q C H locs ls0 hP hS hl)
theorem sv_icmp_ne {x y : Int32} {off : Int} {tgt : Nat} (hdg : decode cc pc = .ok (.if_icmp .ne off, 3)) (ht : (pc : Int) + off = (tgt : Int))
    (kt : ¬ x = y → sv_V G R own nm cc nL rt Post cells slots n f tgt ls st) (kf : x = y → sv_V G R own nm cc nL rt Post cells slots n f (pc + 3) ls st) : sv_V G R own nm cc nL rt Post cells slots n f pc ls (.int y :: .int x :: st) :=
  fun p e s m args below meth c Q C H locs ls0 hP hS hl => lv_icmp_ne C.1 C.2.1 hdg ht (fun z => kt z p e s m args below meth c Q C H locs ls0 hP hS hl) (fun z => kf z p e s m args below meth c Q C H locs ls0 hP hS hl)
theorem sv_if_lt {x : Int32} {off : Int} {tgt : Nat} (hdg : decode cc pc = .ok (.ifCond .lt off, 3)) (ht : (pc : Int) + off = (tgt : Int))
    (kt : x < 0 → sv_V G R own nm cc nL rt Post cells slots n f tgt ls st) (kf : ¬ x < 0 → sv_V G R own nm cc nL rt Post cells slots n f (pc + 3) ls st) : sv_V G R own nm cc nL rt Post cells slots n f pc ls (.int x :: st) :=
  fun p e s m args below meth c Q C H locs ls0 hP hS hl => lv_if_lt C.1 C.2.1 hdg ht (fun z => kt z p e s m args below meth c Q C H locs ls0 hP hS hl) (fun z => kf z p e s m args below meth c Q C H locs ls0 hP hS hl)
theorem sv_icmp_lt {x y : Int32} {off : Int} {tgt : Nat} (hdg : decode cc pc = .ok (.if_icmp .lt off, 3)) (ht : (pc : Int) + off = (tgt : Int))
    (kt : x < y → sv_V G R own nm cc nL rt Post cells slots n f tgt ls st) (kf : ¬ x < y → sv_V G R own nm cc nL rt Post cells slots n f (pc + 3) ls st) : sv_V G R own nm cc nL rt Post cells slots n f pc ls (.int y :: .int x :: st) :=
  fun p e s m args below meth c Q C H locs ls0 hP hS hl => lv_icmp_lt C.1 C.2.1 hdg ht (fun z => kt z p e s m args below meth c Q C H locs ls0 hP hS hl) (fun z => kf z p e s m args below meth c Q C H locs ls0 hP hS hl)
theorem sv_if_ge {x : Int32} {off : Int} {tgt : Nat} (hdg : decode cc pc = .ok (.ifCond .ge off, 3)) (ht : (pc : Int) + off = (tgt : Int))
    (kt : 0 ≤ x → sv_V G R own nm cc nL rt Post cells slots n f tgt ls st) (kf : ¬ 0 ≤ x → sv_V G R own nm cc nL rt Post cells slots n f (pc + 3) ls st) : sv_V G R own nm cc nL rt Post cells slots n f pc ls (.int x :: st) :=
  fun p e s m args below meth c Q C H locs ls0 hP hS hl => lv_if_ge C.1 C.2.1 hdg ht (fun z => kt z p e s m args below meth c Q C H locs ls0 hP hS hl) (fun z => kf z p e s m args below meth c Q C H locs ls0 hP hS hl)
theorem sv_icmp_ge {x y : Int32} {off : Int} {tgt : Nat} (hdg : decode cc pc = .ok (.if_icmp .ge off, 3)) (ht : (pc : Int) + off = (tgt : Int))
    (kt : y ≤ x → sv_V G R own nm cc nL rt Post cells slots n f tgt ls st) (kf : ¬ y ≤ x → sv_V G R own nm cc nL rt Post cells slots n f (pc + 3) ls st) : sv_V G R own nm cc nL rt Post cells slots n f pc ls (.int y :: .int x :: st) :=
  fun p e s m args below meth c Q C H locs ls0 hP hS hl => lv_icmp_ge C.1 C.2.1 hdg ht (fun z => kt z p e s m args below meth c Q C H locs ls0 hP hS hl) (fun z => kf z p e s m args below meth c Q C H locs ls0 hP hS hl)
theorem sv_if_gt {x : Int32} {off : Int} {tgt : Nat} (hdg : decode cc pc = .ok (.ifCond .gt off, 3)) (ht : (pc : Int) + off = (tgt : Int))
    (kt : 0 < x → sv_V G R own nm cc nL rt Post cells slots n f tgt ls st) (kf : ¬ 0 < x → sv_V G R own nm cc nL rt Post cells slots n f (pc + 3) ls st) : sv_V G R own nm cc nL rt Post cells slots n f pc ls (.int x :: st) :=
  fun p e s m args below meth c Q C H locs ls0 hP hS hl => lv_if_gt C.1 C.2.1 hdg ht (fun z => kt z p e s m args below meth c Q C H locs ls0 hP hS hl) (fun z => kf z p e s m args below meth c Q C H locs ls0 hP hS hl)
theorem sv_icmp_gt {x y : Int32} {off : Int} {tgt : Nat} (hdg : decode cc pc = .ok (.if_icmp .gt off, 3)) (ht : (pc : Int) + off = (tgt : Int))
    (kt : y < x → sv_V G R own nm cc nL rt Post cells slots n f tgt ls st) (kf : ¬ y < x → sv_V G R own nm cc nL rt Post cells slots n f (pc + 3) ls st) : sv_V G R own nm cc nL rt Post cells slots n f pc ls (.int y :: .int x :: st) :=
  fun p e s m args below meth c Q C H locs ls0 hP hS hl => lv_icmp_gt C.1 C.2.1 hdg ht (fun z => kt z p e s m args below meth c Q C H locs ls0 hP hS hl) (fun z => kf z p e s m args below meth c Q C H locs ls0 hP hS hl)
theorem sv_if_le {x : Int32} {off : Int} {tgt : Nat} (hdg : decode cc pc = .ok (.ifCond .le off, 3)) (ht : (pc : Int) + off = (tgt : Int))
    (kt : x ≤ 0 → sv_V G R own nm cc nL rt Post cells slots n f tgt ls st) (kf : ¬ x ≤ 0 → sv_V G R own nm cc nL rt Post cells slots n f (pc + 3) ls st) : sv_V G R own nm cc nL rt Post cells slots n f pc ls (.int x :: st) :=
  fun p e s m args below meth c Q C H locs ls0 hP hS hl => lv_if_le C.1 C.2.1 hdg ht (fun z => kt z p e s m args below meth c Q C H locs ls0 hP hS hl) (fun z => kf z p e s m args below meth c Q C H locs ls0 hP hS hl)
theorem sv_icmp_le {x y : Int32} {off : Int} {tgt : Nat} (hdg : decode cc pc = .ok (.if_icmp .le off, 3)) (ht : (pc : Int) + off = (tgt : Int))
    (kt : x ≤ y → sv_V G R own nm cc nL rt Post cells slots n f tgt ls st) (kf : ¬ x ≤ y → sv_V G R own nm cc nL rt Post cells slots n f (pc + 3) ls st) : sv_V G R own nm cc nL rt Post cells slots n f pc ls (.int y :: .int x :: st) :=
  fun p e s m args below meth c Q C H locs ls0 hP hS hl => lv_icmp_le C.1 C.2.1 hdg ht (fun z => kt z p e s m args below meth c Q C H locs ls0 hP hS hl) (fun z => kf z p e s m args below meth c Q C H locs ls0 hP hS hl)
theorem sv_lcmp {x y : Int64} (d : decode cc pc = .ok (.lcmp, 1)) (k : sv_V G R own nm cc nL rt Post cells slots n f (pc + 1) ls (.int (lg_cmp x y) :: st)) : sv_V G R own nm cc nL rt Post cells slots n f pc ls (.long y :: .long x :: st) :=
  fun p e s m args below meth c Q C H locs ls0 hP hS hl => W.lcmp C.1 C.2.1 d (k p e s m args below meth c Q C H locs ls0 hP hS hl)
theorem sv_ldc {i : Nat} {v : Int32} (hw : Cond.constant own i v ∈ gw) (d : decode cc pc = .ok (.ldc i, 2)) (k : sv_V G R own nm cc nL rt Post cells slots n f (pc + 2) ls (.int v :: st)) : sv_V G R own nm cc nL rt Post cells slots n f pc ls st :=
  fun p e s m args below meth c Q C H locs ls0 hP hS hl => lv_ldc C.1 C.2.1 C.2.2.2.1 (C.2.2.2.2.1 _ hw) d (k p e s m args below meth c Q C H locs ls0 hP hS hl)
theorem sv_ldc2 {i : Nat} {v : Int64} (hw : Cond.constantLong own i v ∈ gw) (d : decode cc pc = .ok (.ldc2_w i, 3)) (k : sv_V G R own nm cc nL rt Post cells slots n f (pc + 3) ls (.long v :: st)) : sv_V G R own nm cc nL rt Post cells slots n f pc ls st :=
  fun p e s m args below meth c Q C H locs ls0 hP hS hl => lv_ldc2 C.1 C.2.1 C.2.2.2.1 (C.2.2.2.2.1 _ hw) d (k p e s m args below meth c Q C H locs ls0 hP hS hl)
theorem sv_topi {x : Int32} (k : ∀ y : Int32, y = x → sv_V G R own nm cc nL rt Post cells slots n f pc ls (.int y :: st)) : sv_V G R own nm cc nL rt Post cells slots n f pc ls (.int x :: st) := k x rfl
theorem sv_topl {x : Int64} (k : ∀ y : Int64, y = x → sv_V G R own nm cc nL rt Post cells slots n f pc ls (.long y :: st)) : sv_V G R own nm cc nL rt Post cells slots n f pc ls (.long x :: st) := k x rfl
end SV
end
section
section SVH
variable {G : GT} {R : Room} {own nm : String} {cc : ByteArray} {nL : Nat} {rt : Option FieldType} {Post : Option Value → Nat → Nat → Nat → (Nat → va_E) → Prop} {cells slots n : Nat} {f : Nat → va_E} {pc : Nat} {ls : List (Nat × Value)} {st : List Value}
/-- getfield -/
theorem sv_get {ci k i N : Nat} {C : String} {T : u_T} {fs : List Value} {v : Value} (hc : vwCl[ci]? = some (C, T, N)) (hin : ∀ w ∈ u_ws C T N, w ∈ gw) (j : Nat) (hj : j < N) (hlink : Cond.fieldLink own i (T j).1 (T j).2.1 (T j).2.2.1 ∈ gw) (hk : k < n) (hf : f k = .inr (ci, fs)) (hv : fs[j]? = some v) (d : decode cc pc = .ok (.getfield i, 3)) (kk : sv_V G R own nm cc nL rt Post cells slots n f (pc + 3) ls (v :: st)) : sv_V G R own nm cc nL rt Post cells slots n f pc ls (.ref (gB G + k) :: st) :=
  fun p e s m args below meth c Q C0 H locs ls0 hP hS hl => va_get C0.1 C0.2.1 C0.2.2.2.2.1 hin C0.2.2.2.1 C0.2.2.2.2.2.1.1 (hP.one hk hf) 0 rfl hc j hj (C0.2.2.2.2.1 _ hlink) (fun _ h => h) hv d (kk p e s m args below meth c Q C0 H locs ls0 hP hS hl)
/-- putfield of a field that isn't final -/
theorem sv_put {ci k i N : Nat} {C : String} {T : u_T} {fs : List Value} {v : Value} (hc : vwCl[ci]? = some (C, T, N)) (hin : ∀ w ∈ u_ws C T N, w ∈ gw) (ty0 : Nat → FieldType) (hty : ∀ k, k < N → parseFieldDescriptor (T k).2.2.1 = some (ty0 k)) (hnm : ∀ a, a < N → ∀ b, b < N → a ≠ b → (T a).2.1 ≠ (T b).2.1) (j : Nat) (hj : j < N) (hlink : Cond.fieldLink own i (T j).1 (T j).2.1 (T j).2.2.1 ∈ gw) (hfin : (T j).2.2.2 = false) (hn : narrow (ty0 j) v = v) (hfit : fits (ty0 j) v = true) (hk : k < n) (hf : f k = .inr (ci, fs)) (hlen : j < fs.length) (d : decode cc pc = .ok (.putfield i, 3))
    (kk : sv_V G R own nm cc nL rt Post cells slots n (va_up f k (.inr (ci, fs.set j v))) (pc + 3) ls st) : sv_V G R own nm cc nL rt Post cells slots n f pc ls (v :: .ref (gB G + k) :: st) := by
  intro p e s m args below meth c Q C0 H locs ls0 hP hS hl
  obtain ⟨hx, hb, hml, hown, hts, hK, hb0, hnm', hret⟩ := id C0
  have hap := va_apart (own := own) hts hin ty0 hty hnm hK.1 hc
  have hat := hP.2 k hk
  rw [hf] at hat
  obtain ⟨r, h1, cell, q1, q2, q3, q4⟩ := hat
  have hr : r = (C, T, N) := Option.some.inj (h1.symm.trans hc)
  subst hr
  obtain ⟨hSl, hfc, kC, hkC, hkind⟩ := hK.1.1 ci _ hc
  obtain ⟨cf, kf, fi, fd, hi, hsl⟩ := hSl j hj
  have hlay := hts _ (hin _ (u_in_lay hj))
  unfold u_lay at hlay
  rw [if_neg (by rw [hfin]; decide)] at hlay
  have hst := (u_facts hfc hkC (u_lays hts hin hj) hi).1
  have h6 := u_store hfc hkC hkind hlay hi (hty j hj) hn hfit
  refine W.putK hx hb (f := fd) ⟨hown, hts _ hlink, ⟨_, _, _, hi⟩, hst⟩ (by rw [q2]; exact h6) q1 q3 (by rw [hsl]; exact k2_hasslot (q4 j hj)) rfl rfl d fun H' e1 e2 e3 => ?_
  rw [hsl] at e1 ⊢
  exact kk p e s m args below meth c Q C0 H' _ ls0 (hP.set hk ⟨_, hc, t_OB.to (V := updV (vp_V fs) j v) ⟨_, e1, q2, q3, t_set q4 hap hj v⟩ (fun j' _ => vp_updV_set hlen v j')⟩ e2 e3) (hS.put e2 e3 (Nat.le_add_right _ _)) hl
/-- putfield of a final field, in its class's constructor -/
theorem sv_putF {ci k i N : Nat} {C : String} {T : u_T} {fs : List Value} {v : Value} (hc : vwCl[ci]? = some (C, T, N)) (hin : ∀ w ∈ u_ws C T N, w ∈ gw) (ty0 : Nat → FieldType) (hty : ∀ k, k < N → parseFieldDescriptor (T k).2.2.1 = some (ty0 k)) (hnm : ∀ a, a < N → ∀ b, b < N → a ≠ b → (T a).2.1 ≠ (T b).2.1) (j : Nat) (hj : j < N) (hlink : Cond.fieldLink own i (T j).1 (T j).2.1 (T j).2.2.1 ∈ gw) (hfin : (T j).2.2.2 = true) (hin2 : nm = "<init>") (hdecl : (T j).1 = own) (hn : narrow (ty0 j) v = v) (hfit : fits (ty0 j) v = true) (hk : k < n) (hf : f k = .inr (ci, fs)) (hlen : j < fs.length) (d : decode cc pc = .ok (.putfield i, 3))
    (kk : sv_V G R own nm cc nL rt Post cells slots n (va_up f k (.inr (ci, fs.set j v))) (pc + 3) ls st) : sv_V G R own nm cc nL rt Post cells slots n f pc ls (v :: .ref (gB G + k) :: st) := by
  intro p e s m args below meth c Q C0 H locs ls0 hP hS hl
  obtain ⟨hx, hb, hml, hown, hts, hK, hb0, hnm', hret⟩ := id C0
  have hap := va_apart (own := own) hts hin ty0 hty hnm hK.1 hc
  have hat := hP.2 k hk
  rw [hf] at hat
  obtain ⟨r, h1, cell, q1, q2, q3, q4⟩ := hat
  have hr : r = (C, T, N) := Option.some.inj (h1.symm.trans hc)
  subst hr
  obtain ⟨hSl, hfc, kC, hkC, hkind⟩ := hK.1.1 ci _ hc
  obtain ⟨cf, kf, fi, fd, hi, hsl⟩ := hSl j hj
  have hlay := hts _ (hin _ (u_in_lay hj))
  unfold u_lay at hlay
  rw [if_pos hfin] at hlay
  have hst := (u_facts hfc hkC (u_lays hts hin hj) hi).1
  have hcf : m.cls = cf := by
    obtain ⟨_, _, c', _, _, _, -, -, hf', -, -, -, hown2, -⟩ := Cond.laysFinal_spec hlay
    have e1 : c' = cf := by have := hi.symm.trans hf'; simp at this; exact this.1.symm
    rw [hdecl] at hown2
    rw [← e1]; exact Option.some.inj (hown.symm.trans hown2)
  have h6 := u_fits hfc hkC hkind (Or.inr hlay) hi (hty j hj) hn hfit
  refine W.putFinK hx hb hown (hts _ hlink) hi hst hcf (hnm'.trans hin2) (by rw [q2]; exact h6) q1 q3 (by rw [hsl]; exact k2_hasslot (q4 j hj)) rfl rfl d fun H' e1 e2 e3 => ?_
  rw [hsl] at e1 ⊢
  exact kk p e s m args below meth c Q C0 H' _ ls0 (hP.set hk ⟨_, hc, t_OB.to (V := updV (vp_V fs) j v) ⟨_, e1, q2, q3, t_set q4 hap hj v⟩ (fun j' _ => vp_updV_set hlen v j')⟩ e2 e3) (hS.put e2 e3 (Nat.le_add_right _ _)) hl
theorem sv_iald {k len : Nat} {g : Nat → Int32} {i : Int32} (hk : k < n) (hf : f k = .inl (G.2.2.1.1, len, .inl g)) (hin : vp_in i len) (d : decode cc pc = .ok (.iaload, 1)) (kk : sv_V G R own nm cc nL rt Post cells slots n f (pc + 1) ls (.int (g i.toNatClampNeg) :: st)) : sv_V G R own nm cc nL rt Post cells slots n f pc ls (.int i :: .ref (gB G + k) :: st) :=
  fun p e s m args below meth c Q C0 H locs ls0 hP hS hl => va_iald C0.1 C0.2.1 C0.2.2.2.2.2.1.1 (hP.one hk hf) 0 0 rfl rfl hin d (kk p e s m args below meth c Q C0 H locs ls0 hP hS hl)
theorem sv_zald {k len : Nat} {g : Nat → Int32} {i : Int32} (hk : k < n) (hf : f k = .inl (G.2.2.1.2.1, len, .inl g)) (hin : vp_in i len) (d : decode cc pc = .ok (.baload, 1)) (kk : sv_V G R own nm cc nL rt Post cells slots n f (pc + 1) ls (.int (g i.toNatClampNeg) :: st)) : sv_V G R own nm cc nL rt Post cells slots n f pc ls (.int i :: .ref (gB G + k) :: st) :=
  fun p e s m args below meth c Q C0 H locs ls0 hP hS hl => va_zald C0.1 C0.2.1 C0.2.2.2.2.2.1.1 (hP.one hk hf) 0 1 rfl rfl hin d (kk p e s m args below meth c Q C0 H locs ls0 hP hS hl)
theorem sv_aald {k len a : Nat} {g : Nat → Option Nat} {i : Int32} (hk : k < n) (hf : f k = .inl (G.2.2.1.2.2, len, .inr (.inr (.inr (.inr g))))) (hin : vp_in i len) (hg : g i.toNatClampNeg = some a) (d : decode cc pc = .ok (.aaload, 1)) (kk : sv_V G R own nm cc nL rt Post cells slots n f (pc + 1) ls (.ref a :: st)) : sv_V G R own nm cc nL rt Post cells slots n f pc ls (.int i :: .ref (gB G + k) :: st) :=
  fun p e s m args below meth c Q C0 H locs ls0 hP hS hl => va_aldq C0.1 C0.2.1 C0.2.2.2.2.2.1.1 (hP.one hk hf) 0 2 rfl rfl hin d (by rw [hg]; exact kk p e s m args below meth c Q C0 H locs ls0 hP hS hl)
theorem sv_iast {k len : Nat} {g : Nat → Int32} {i x : Int32} (hk : k < n) (hf : f k = .inl (G.2.2.1.1, len, .inl g)) (hin : vp_in i len) (d : decode cc pc = .ok (.iastore, 1)) (kk : sv_V G R own nm cc nL rt Post cells slots n (va_up f k (.inl (G.2.2.1.1, len, .inl (upd g i.toNatClampNeg x)))) (pc + 1) ls st) : sv_V G R own nm cc nL rt Post cells slots n f pc ls (.int x :: .int i :: .ref (gB G + k) :: st) := by
  intro p e s m args below meth c Q C0 H locs ls0 hP hS hl
  have hat := hP.2 k hk
  rw [hf] at hat
  refine W.iast C0.1 C0.2.1 hat ((C0.2.2.2.2.2.1.1.2 0 _ rfl).1 len (fun j => .int (g j))) (fun q => by cases q) (by show ¬ (i < 0 ∨ (arrV _ _ _).slots.size ≤ _); rw [arrV_size]; exact hin) rfl rfl d fun H1 e1 z oq => ?_
  refine kk p e s m args below meth c Q C0 H1 _ ls0 (hP.set hk ?_ z oq) (hS.put z oq (Nat.le_add_right _ _)) hl
  show H1[gB G + k]? = some (vp_cell _ _)
  rw [e1, vp_cell_i, arrV_store, vp_cell_i]
  congr 2
  funext q
  by_cases hq : q = i.toNatClampNeg
  · subst hq
    simp [updV, upd]
  · simp [updV, upd, hq]
theorem sv_zast {k len : Nat} {g : Nat → Int32} {i x : Int32} (hk : k < n) (hf : f k = .inl (G.2.2.1.2.1, len, .inl g)) (hin : vp_in i len) (d : decode cc pc = .ok (.bastore, 1)) (kk : sv_V G R own nm cc nL rt Post cells slots n (va_up f k (.inl (G.2.2.1.2.1, len, .inl (upd g i.toNatClampNeg (vp_nar .boolean x))))) (pc + 1) ls st) : sv_V G R own nm cc nL rt Post cells slots n f pc ls (.int x :: .int i :: .ref (gB G + k) :: st) := by
  intro p e s m args below meth c Q C0 H locs ls0 hP hS hl
  have hat := hP.2 k hk
  rw [hf] at hat
  refine W.zast C0.1 C0.2.1 hat ((C0.2.2.2.2.2.1.1.2 1 _ rfl).1 len (fun j => .int (g j))) (fun q => by cases q) (by show ¬ (i < 0 ∨ (arrV _ _ _).slots.size ≤ _); rw [arrV_size]; exact hin) rfl rfl d fun H1 e1 z oq => ?_
  refine kk p e s m args below meth c Q C0 H1 _ ls0 (hP.set hk ?_ z oq) (hS.put z oq (Nat.le_add_right _ _)) hl
  show H1[gB G + k]? = some (vp_cell _ _)
  rw [e1, vp_cell_i, arrV_store, vp_cell_i]
  congr 2
  funext q
  by_cases hq : q = i.toNatClampNeg
  · subst hq
    simp [updV, upd, vp_nar]
    try rfl
  · simp [updV, upd, hq]
theorem sv_aast {k k2 len : Nat} {vs : List Value} {g : Nat → Option Nat} {i : Int32} (hk : k < n) (hf : f k = .inl (G.2.2.1.2.2, len, .inr (.inr (.inr (.inr g))))) (hk2 : k2 < n) (hf2 : f k2 = .inr (6, vs)) (hin : vp_in i len) (d : decode cc pc = .ok (.aastore, 1)) (kk : sv_V G R own nm cc nL rt Post cells slots n (va_up f k (.inl (G.2.2.1.2.2, len, .inr (.inr (.inr (.inr (va_up g i.toNatClampNeg (some (gB G + k2)))))))))  (pc + 1) ls st) : sv_V G R own nm cc nL rt Post cells slots n f pc ls (.ref (gB G + k2) :: .int i :: .ref (gB G + k) :: st) := by
  intro p e s m args below meth c Q C0 H locs ls0 hP hS hl
  have hat := hP.2 k hk
  rw [hf] at hat
  have hat2 := hP.2 k2 hk2
  rw [hf2] at hat2
  have hK := C0.2.2.2.2.2.1.1
  have hlt : i.toNatClampNeg < len := Nat.not_le.mp fun q => hin (Or.inr q)
  have h0 : ¬ i < 0 := fun q => hin (Or.inl q)
  obtain ⟨r', hr', cellV, g1, g2, g3, -⟩ := hat2
  have hcls := (hK.1 6 (RX6, TX6, 7) rfl).2
  obtain ⟨kA, comp, k1, kk2, k3, -⟩ := (hK.2 2 _ rfl).2
  have hcomp : comp = G.2.1.1 6 := Option.some.inj (k3.symm.trans hcls.1)
  subst hcomp
  obtain ⟨kC, hkC, -⟩ := hcls.2
  refine W.aast C0.1 C0.2.1 hat (fun q h => by cases h) (fun h => by cases h) k1 kk2 rfl hkC ⟨h0, by show _ < (arrV _ _ _).slots.size; rw [arrV_size]; exact hlt⟩ g1 (fun q h => by rw [g3] at h; cases h) (by rw [g2]; exact hkC) (by rw [g2]; exact va_assign hcls) rfl rfl d fun H1 e1 z oq => ?_
  refine kk p e s m args below meth c Q C0 H1 _ ls0 (hP.set hk ?_ z oq) (hS.put z oq (Nat.le_add_right _ _)) hl
  show H1[gB G + k]? = some (vp_cell _ _)
  rw [e1, vp_cell_q, arrV_store, vp_cell_q]
  congr 2
  funext q
  by_cases hq : q = i.toNatClampNeg
  · subst hq
    simp [updV, va_up, va_rf]
  · simp [updV, va_up, hq]
/-- new -/
theorem sv_new {ci i N : Nat} {C : String} {T : u_T} {fs : List Value} (hc : vwCl[ci]? = some (C, T, N)) (hin : ∀ w ∈ u_ws C T N, w ∈ gw) (ty0 : Nat → FieldType) (hty : ∀ k, k < N → parseFieldDescriptor (T k).2.2.1 = some (ty0 k)) (hcl : Cond.classLink own i C ∈ gw) (hinst : Cond.instantiable C N ∈ gw) (hini : Cond.initialized C ∈ gw) (hfs : ∀ j, j < N → defaultValue (ty0 j) = vp_V fs j) (hcells : cells + 1 ≤ R.cells) (hslots : slots + N ≤ R.slots) (d : decode cc pc = .ok (.new i, 3))
    (kk : sv_V G R own nm cc nL rt Post (cells + 1) (slots + N) (n + 1) (va_up f n (.inr (ci, fs))) (pc + 3) ls (.ref (gB G + n) :: st)) : sv_V G R own nm cc nL rt Post cells slots n f pc ls st := by
  intro p e s m args below meth c Q C0 H locs ls0 hP hS hl
  obtain ⟨hx, hb, hml, hown, hts, hK, hb0, hnm', hret⟩ := id C0
  have hKn := hK.1.1 ci _ hc
  refine W.newcK hx hb hown (hts _ hcl) (hts _ hinst) (hts _ hini) rfl d hcells hslots hKn.2.1 rfl fun H1 kC hkC e1 z1 o1 => ?_
  rw [hP.1] at e1 ⊢
  refine kk p e s m args below meth c Q C0 H1 locs ls0 (hP.push ⟨_, hc, (u_born ty0 hts hin hKn hkC e1 hty).to hfs⟩ z1 o1) ⟨Nat.le_trans hS.1 (by omega), fun x h1 h2 => (o1 x (Nat.lt_of_lt_of_le h1 hS.1)).trans (hS.2.1 x h1 h2), hS.2.2⟩ hl
theorem sv_newI {z : Int32} {len : Nat} (hw : Cond.arrayClass .int ∈ gw) (hz : ¬ z < 0) (hlen : z.toNatClampNeg = len) (hb4 : len * 4 ≤ 536870912) (hcells : cells + 1 ≤ R.cells) (hslots : slots + len ≤ R.slots) (d : decode cc pc = .ok (.newarray .int, 2))
    (kk : sv_V G R own nm cc nL rt Post (cells + 1) (slots + len) (n + 1) (va_up f n (.inl (G.2.2.1.1, len, .inl (fun _ => 0)))) (pc + 2) ls (.ref (gB G + n) :: st)) : sv_V G R own nm cc nL rt Post cells slots n f pc ls (.int z :: st) := by
  intro p e s m args below meth c Q C0 H locs ls0 hP hS hl
  obtain ⟨hx, hb, hml, hown, hts, hK, hb0, hnm', hret⟩ := id C0
  refine va_newaK (atype := .int) hx hb (hts _ hw) rfl d rfl hz hlen hb4 hcells hslots rfl fun H1 cA e1 z1 o1 hAr hNm => ?_
  have hcA : cA = G.2.2.1.1 := Option.some.inj (hNm.symm.trans (hK.1.2 0 _ rfl).2)
  subst hcA
  rw [hP.1] at e1 ⊢
  exact kk p e s m args below meth c Q C0 H1 locs ls0 (hP.push e1 (by rw [z1]) o1) ⟨Nat.le_trans hS.1 (by omega), fun x h1 h2 => (o1 x (Nat.lt_of_lt_of_le h1 hS.1)).trans (hS.2.1 x h1 h2), hS.2.2⟩ hl
theorem sv_newZ {z : Int32} {len : Nat} (hw : Cond.arrayClass .boolean ∈ gw) (hz : ¬ z < 0) (hlen : z.toNatClampNeg = len) (hb4 : len * 1 ≤ 536870912) (hcells : cells + 1 ≤ R.cells) (hslots : slots + len ≤ R.slots) (d : decode cc pc = .ok (.newarray .boolean, 2))
    (kk : sv_V G R own nm cc nL rt Post (cells + 1) (slots + len) (n + 1) (va_up f n (.inl (G.2.2.1.2.1, len, .inl (fun _ => 0)))) (pc + 2) ls (.ref (gB G + n) :: st)) : sv_V G R own nm cc nL rt Post cells slots n f pc ls (.int z :: st) := by
  intro p e s m args below meth c Q C0 H locs ls0 hP hS hl
  obtain ⟨hx, hb, hml, hown, hts, hK, hb0, hnm', hret⟩ := id C0
  refine va_newaK (atype := .boolean) hx hb (hts _ hw) rfl d rfl hz hlen hb4 hcells hslots rfl fun H1 cA e1 z1 o1 hAr hNm => ?_
  have hcA : cA = G.2.2.1.2.1 := Option.some.inj (hNm.symm.trans (hK.1.2 1 _ rfl).2)
  subst hcA
  rw [hP.1] at e1 ⊢
  exact kk p e s m args below meth c Q C0 H1 locs ls0 (hP.push e1 (by rw [z1]) o1) ⟨Nat.le_trans hS.1 (by omega), fun x h1 h2 => (o1 x (Nat.lt_of_lt_of_le h1 hS.1)).trans (hS.2.1 x h1 h2), hS.2.2⟩ hl
theorem sv_newR {z : Int32} {len i : Nat} (hcl : Cond.classLink own i RX6 ∈ gw) (hz : ¬ z < 0) (hlen : z.toNatClampNeg = len) (hb4 : len * 4 ≤ 536870912) (hcells : cells + 1 ≤ R.cells) (hslots : slots + len ≤ R.slots) (d : decode cc pc = .ok (.anewarray i, 3))
    (kk : sv_V G R own nm cc nL rt Post (cells + 1) (slots + len) (n + 1) (va_up f n (.inl (G.2.2.1.2.2, len, .inr (.inr (.inr (.inr (fun _ => none))))))) (pc + 3) ls (.ref (gB G + n) :: st)) : sv_V G R own nm cc nL rt Post cells slots n f pc ls (.int z :: st) := by
  intro p e s m args below meth c Q C0 H locs ls0 hP hS hl
  obtain ⟨hx, hb, hml, hown, hts, hK, hb0, hnm', hret⟩ := id C0
  subst hlen
  refine W.anew hx hb hown (hts _ hcl) (va_AO.use hK.2.2.1) rfl d rfl hz hb4 hcells hslots fun cA kA comp f1 f2 f3 f4 => ?_
  have hcA : cA = G.2.2.1.2.2 := by
    obtain ⟨_, _, _, _, _, h4⟩ := (hK.1.2 2 _ rfl).2
    exact Option.some.inj (f1.symm.trans h4)
  subst hcA
  generalize hH1 : H.push ({ cls := G.2.2.1.2.2, slots := Array.replicate z.toNatClampNeg .null, vm := .none } : Cell) = H1
  have z1 : H1.size = H.size + 1 := by rw [← hH1, Array.size_push]
  have e1 : H1[H.size]? = some (arrV G.2.2.1.2.2 z.toNatClampNeg (fun _ => .null)) := by rw [← hH1, Array.getElem?_push_size, ← arrV_new]
  have o1 : ∀ q : Nat, q < H.size → H1[q]? = H[q]? := fun q hq => by rw [← hH1, Array.getElem?_push, if_neg (Nat.ne_of_lt hq)]
  rw [hP.1] at e1 ⊢
  exact kk p e s m args below meth c Q C0 H1 locs ls0 (hP.push e1 z1 o1) ⟨Nat.le_trans hS.1 (by omega), fun x h1 h2 => (o1 x (Nat.lt_of_lt_of_le h1 hS.1)).trans (hS.2.1 x h1 h2), hS.2.2⟩ hl
/-- Object.<init> -/
theorem sv_objInit {i a : Nat} (h1 : Cond.methodLink own i Lib.objectInit ∈ gw) (h2 : Cond.instanceMethod Lib.objectInit ∈ gw) (h3 : Cond.code Lib.objectInit ⟨#[0xb1]⟩ 1 none ∈ gw) (hfr : 1 ≤ R.frames) (hlo : (st.map fun v => v.category).sum + 12 ≤ R.locals) (d : decode cc pc = .ok (.invokespecial i, 3)) (kk : sv_V G R own nm cc nL rt Post cells slots n f (pc + 3) ls st) : sv_V G R own nm cc nL rt Post cells slots n f pc ls (.ref a :: st) := by
  intro p e s m args below meth c Q C0 H locs ls0 hP hS hl
  obtain ⟨hx, hb, hml, hown, hts, hK, hb0, hnm', hret⟩ := id C0
  refine W.objInit hx hb hown (hts _ h1) (hts _ h2) (hts _ h3) rfl (by rw [hml]; exact hl.1) rfl d hfr (by show 2 * 0 + _ + 12 ≤ _; omega) ?_
  exact kk p e s m args below meth c Q C0 H locs ls0 hP hS hl
/-- System.arraycopy of int rows -/
theorem sv_copy {k0 k1 len0 len1 i : Nat} {g0 g1 : Nat → Int32} {sp dp z : Int32} (w1 : Cond.methodLink own i arraycopyName ∈ gw) (w2 : Cond.native arraycopyName ∈ gw) (w3 : Cond.static arraycopyName ∈ gw) (w4 : Cond.initialized "java/lang/System" ∈ gw) (hk0 : k0 < n) (hk1 : k1 < n) (hf0 : f k0 = .inl (G.2.2.1.1, len0, .inl g0)) (hf1 : f k1 = .inl (G.2.2.1.1, len1, .inl g1)) (h1 : ¬ sp < 0) (h2 : ¬ dp < 0) (h3 : ¬ z < 0) (h4 : sp.toNatClampNeg + z.toNatClampNeg ≤ len0) (h5 : dp.toNatClampNeg + z.toNatClampNeg ≤ len1) (hfr : 1 ≤ R.frames) (hlo : (st.map fun v => v.category).sum + (nativeFrameWords "java/lang/System" "arraycopy" 5 + 11) ≤ R.locals) (d : decode cc pc = .ok (.invokestatic i, 3))
    (kk : sv_V G R own nm cc nL rt Post cells slots n (va_up f k1 (.inl (G.2.2.1.1, len1, .inl (va_cpy g0 g1 sp.toNatClampNeg dp.toNatClampNeg z.toNatClampNeg)))) (pc + 3) ls st) : sv_V G R own nm cc nL rt Post cells slots n f pc ls (.int z :: .int dp :: .ref (gB G + k1) :: .int sp :: .ref (gB G + k0) :: st) := by
  intro p e s m args below meth c Q C0 H locs ls0 hP hS hl
  obtain ⟨hx, hb, hml, hown, hts, hK, hb0, hnm', hret⟩ := id C0
  have nn : ∀ z : Int32, ¬ z < 0 → z.toInt = (z.toNatClampNeg : Int) := by
    intro z hz
    have hz0 : (0 : Int) ≤ z.toInt := by
      have := Int32.not_lt.mp hz
      simpa using Int32.le_iff_toInt_le.mp this
    show z.toInt = ((z.toInt.toNat : Nat) : Int)
    omega
  have hc0 := hP.2 k0 hk0
  rw [hf0] at hc0
  have hc1 := hP.2 k1 hk1
  rw [hf1] at hc1
  intro T hT X
  obtain ⟨-, kc0, hkc0, cm0, hkk0⟩ := (hK.1.2 0 _ rfl).1 len0 (fun j => .int (g0 j))
  obtain ⟨-, kc1, hkc1, cm1, hkk1⟩ := (hK.1.2 0 _ rfl).1 len1 (fun j => .int (g1 j))
  obtain ⟨vm', X', step⟩ := X.arraycopy hx hown (hts _ w1) (hts _ w2) (hts _ w3) (hts _ w4) (src := gB G + k0) (dst := gB G + k1) (cs := vp_cell G.2.2.1.1 (len0, .inl g0)) (cd := vp_cell G.2.2.1.1 (len1, .inl g1)) (srcPos := sp) (destPos := dp) (n := z) (by rw [hT]; exact hc0) (by rw [hT]; exact hc1)
    (fun _ h => by cases h) (fun _ h => by cases h) (fun h => by cases h) (fun h => by cases h) hkc0 hkc1 hkk0 hkk1 rfl h1 h2 h3
    (by rw [nn sp h1, nn z h3]; show ¬ _ > ((arrV _ len0 (fun j => .int (g0 j))).slots.size : Int); rw [arrV_size]; omega)
    (by rw [nn dp h2, nn z h3]; show ¬ _ > ((arrV _ len1 (fun j => .int (g1 j))).slots.size : Int); rw [arrV_size]; omega)
    (fun vm₁ _ i hi => by
      have e : (vp_cell G.2.2.1.1 (len0, .inl g0)).slots.getD (sp.toNatClampNeg + i) .null = .int (g0 (sp.toNatClampNeg + i)) := by
        show (arrV _ len0 (fun j => .int (g0 j))).slots.getD _ _ = _
        rw [Array.getD_eq_getD_getElem?, arrV_read _ _ (by omega)]
        rfl
      refine ⟨?_, ?_⟩
      · rw [e]; rfl
      · rw [e]
        exact trivial)
    (g := F0 m pc ls0 (.int z :: .int dp :: .ref (gB G + k1) :: .int sp :: .ref (gB G + k0) :: st)) rfl (by rw [hml]; exact hl.1) (rest := st) rfl (by rw [hb]; exact d) hfr (by show 2 * 0 + _ + _ ≤ _; omega)
  have e1 : copied (vp_cell G.2.2.1.1 (len0, .inl g0)) (vp_cell G.2.2.1.1 (len1, .inl g1)) sp dp z = vp_cell G.2.2.1.1 (len1, .inl (va_cpy g0 g1 sp.toNatClampNeg dp.toNatClampNeg z.toNatClampNeg)) := va_copied (fun z => .int z) _ _ g0 g1 h4
  rw [e1] at X' step
  have hlt : gB G + k1 < H.size := (Array.getElem?_eq_some_iff.mp hc1).1
  have hheap : ((T.setVm vm').setCell (gB G + k1) (vp_cell G.2.2.1.1 (len1, .inl (va_cpy g0 g1 sp.toNatClampNeg dp.toNatClampNeg z.toNatClampNeg)))).heap = H.setIfInBounds (gB G + k1) (vp_cell G.2.2.1.1 (len1, .inl (va_cpy g0 g1 sp.toNatClampNeg dp.toNatClampNeg z.toNatClampNeg))) := by rw [← hT]; rfl
  have oq : ∀ q : Nat, q ≠ gB G + k1 → (H.setIfInBounds (gB G + k1) (vp_cell G.2.2.1.1 (len1, .inl (va_cpy g0 g1 sp.toNatClampNeg dp.toNatClampNeg z.toNatClampNeg))))[q]? = H[q]? := fun q hq => by simp [Array.getElem?_setIfInBounds, Ne.symm hq]
  obtain ⟨t, a1, b1⟩ := kk p e s m args below meth c Q C0 _ _ ls0 (hP.set hk1 (show (H.setIfInBounds (gB G + k1) _)[gB G + k1]? = some _ by simp [Array.getElem?_setIfInBounds, hlt]) (by simp) oq) ⟨by simp; exact hS.1, fun q g1 g2 => by
      rw [oq q (fun e => g2 (by rw [e]; exact Nat.le_add_right _ _))]
      exact hS.2.1 q g1 g2, fun q hq => by
      rcases List.mem_append.mp hq with h | h
      · exact hS.2.2 q h
      · obtain ⟨z, -, hz⟩ := List.mem_map.mp h
        rw [← hz]
        exact Nat.le_add_right _ _⟩ hl _ hheap X'
  exact ⟨t, step t a1, b1⟩
end SVH
end
section
/-- the contract of a method of ours at one start: its answer and the cells behind it -/
def sv_Ct (G : GT) (y : MethodName) (R : Room) (cc : ByteArray) (nL : Nat) (rt : Option FieldType) (av : List Value) (n : Nat) (f : Nat → va_E) (Po : Option Value → Nat → (Nat → va_E) → Prop) : Prop :=
  Met G.1 y (Cond.code y cc nL rt :: gw) R (va_Pc av (fun U => sv_P G n f U.heap ∧ sv_K G U ∧ gB G ≤ U.heap.size)) (fun _ s oc t => (∃ (r : Option Value) (n' : Nat) (f' : Nat → va_E), oc = .returned r ∧ Po r n' f' ∧ sv_P G n' f' t.heap) ∧ va_F (gA G) s t) R.cells R.slots (gA G)
theorem sv_Ct.of {G : GT} {y : MethodName} {R : Room} {cc : ByteArray} {nL : Nat} {rt : Option FieldType} {av : List Value} {n : Nat} {f : Nat → va_E} {Po : Option Value → Nat → (Nat → va_E) → Prop} (hy : plainName y.cls = true) (hle : (lg_sl av).length ≤ nL)
    (h : sv_V G R y.cls y.name cc nL rt (fun r c s n' f' => c = R.cells ∧ s = R.slots ∧ Po r n' f') 0 0 n f 0 (lv_args 0 av) []) : sv_Ct G y R cc nL rt av n f Po := by
  refine Met.ofW (cc := cc) (maxL := nL) (ret := rt) hy rfl ?_
  intro p e s m args below meth c s₁ B hml hv
  obtain ⟨rfl, hP, hK, hb0⟩ := hv
  have hts : ∀ w ∈ gw, w.before av.toArray s = true := fun w hw => atoms_spec (ws := Cond.code y cc nL rt :: gw) B.pre w (List.mem_cons_of_mem _ hw)
  rw [lg_entry_eq]
  refine h p e s m _ below meth c _ ⟨B.exec, B.bytes, hml, findClass_of_methodNamed B.named, hts, hK, hb0, (name_of_methodNamed B.named B.method).1, ?_⟩ s.heap [] _ hP va_S.rf (lv_entry av hle)
  intro H locs cells slots ls pc st r n f hret hpost hP hS
  obtain ⟨rfl, rfl, hpost⟩ := hpost
  rcases hret with ⟨d, rfl, hr, rfl⟩ | ⟨d, v, ty, rfl, hr, hn, rfl⟩ | ⟨d, v, rfl, hr, rfl⟩ | ⟨d, a, C, rfl, hr, rfl⟩
  · exact W.vret B.exec B.bytes (B.returns.trans hr) (fun t ht hW => ⟨⟨_, n, f, rfl, hpost, by rw [ht]; exact hP⟩, hS.F ht⟩) hS.2.2 d
  · exact W.zret B.exec B.bytes (B.returns.trans hr) hn (fun t ht hW => ⟨⟨_, n, f, rfl, hpost, by rw [ht]; exact hP⟩, hS.F ht⟩) hS.2.2 d
  · exact W.lret B.exec B.bytes (B.returns.trans hr) (fun t ht hW => ⟨⟨_, n, f, rfl, hpost, by rw [ht]; exact hP⟩, hS.F ht⟩) hS.2.2 d
  · exact W.aret B.exec B.bytes (B.returns.trans hr) (Or.inl ⟨_, rfl⟩) (Or.inr ⟨_, rfl⟩) (fun t ht hW => ⟨⟨_, n, f, rfl, hpost, by rw [ht]; exact hP⟩, hS.F ht⟩) hS.2.2 d
/-- a weaker end -/
theorem sv_Ct.imp {G : GT} {y : MethodName} {R : Room} {cc : ByteArray} {nL : Nat} {rt : Option FieldType} {av : List Value} {n : Nat} {f : Nat → va_E} {Po Po2 : Option Value → Nat → (Nat → va_E) → Prop} (hp : ∀ r n' f', Po r n' f' → Po2 r n' f') (h : sv_Ct G y R cc nL rt av n f Po) : sv_Ct G y R cc nL rt av n f Po2 := by
  intro p e ha hc hk s m args below hf happ hP hX
  obtain ⟨t, o, h1, h2, h3, ⟨⟨⟨r, n', f', e1, e2, e3⟩, hF⟩, hL⟩⟩ := h p e ha hc hk s m args below hf happ hP hX
  exact ⟨t, o, h1, h2, h3, ⟨⟨⟨r, n', f', e1, hp _ _ _ e2, e3⟩, hF⟩, hL⟩⟩
/-- names that a call must not have, and its number of arguments -/
def sv_nm (y : MethodName) (k : Nat) : Prop := y.cls ≠ "java/lang/invoke/MethodHandle" ∧ y.cls ≠ "java/lang/invoke/VarHandle" ∧ (parseMethodDescriptor y.desc).map (fun d => d.parameters.length) = some k
theorem sv_goodC {y : MethodName} {cc : ByteArray} {nL : Nat} {rt : Option FieldType} (h : Cond.code y cc nL rt ∈ gw) : GoodIn gw (Cond.code y cc nL rt :: gw) := fun w hw => (List.mem_cons.mp hw).elim (fun e => by rw [e]; exact gw_good _ h) (fun h => gw_good _ h)
theorem sv_goodA {big a b : List Cond} (ha : GoodIn big a) (hb : GoodIn big b) : GoodIn big (a ++ b) := fun w h => (List.mem_append.mp h).elim (ha w) (hb w)
theorem sv_goodL {ws : List Cond} (h : ∀ w ∈ ws, w ∈ gw) : GoodIn gw ws := fun w hw => gw_good w (h w hw)
section SVC
variable {G : GT} {R : Room} {own nm : String} {cc : ByteArray} {nL : Nat} {rt : Option FieldType} {Post : Option Value → Nat → Nat → Nat → (Nat → va_E) → Prop} {cells slots n : Nat} {f : Nat → va_E} {pc : Nat} {ls : List (Nat × Value)} {st : List Value}
variable {y : MethodName} {R2 : Room} {cc2 : ByteArray} {nL2 : Nat} {rt2 : Option FieldType} {As : List Value} {Po : Option Value → Nat → (Nat → va_E) → Prop} {i : Nat}
theorem sv_blind {av : List Value} : FrameBlind (va_Pc av (fun U => sv_P G n f U.heap ∧ sv_K G U ∧ gB G ≤ U.heap.size)) := fun _ _ g mk q => ⟨q.1, q.2.1, q.2.2.1.calling g mk _, q.2.2.2⟩
/-- behind a call -/
theorem sv_after {rest : List Value} {p : Program} {e : Env} {s : State} {m : MethodId} {args : Array Value} {below : List Frame} {meth : Method} {c : Code} {Q : State → Prop} (C0 : sv_C G R own nm cc nL rt Post p e s m args below meth c Q) {H : Heap} {locs : List Loc} {ls0 : Array Slot} (hS : va_S (gA G) s.heap H locs) (hl : lv_has ls0 nL ls)
    (hr : va_Run p G.1 e R s m args below meth c H locs cells slots R2.cells R2.slots (F0 m pc ls0 st) rest (fun s oc t => (∃ (r : Option Value) (n' : Nat) (f' : Nat → va_E), oc = .returned r ∧ Po r n' f' ∧ sv_P G n' f' t.heap) ∧ va_F (gA G) s t) (gA G))
    (kk : ∀ r n' f', Po r n' f' → sv_V G R own nm cc nL rt Post (cells + R2.cells) (slots + R2.slots) n' f' (pc + 3) ls (r.toList ++ rest)) : W p G.1 e R s m args below meth c H locs cells slots Q (F0 m pc ls0 st) := by
  intro T hT X
  obtain ⟨v, st₀, t, T', L, h0, X', hL, e1, e2, ⟨⟨r, n', f', hv, hp, hb'⟩, hz, hk⟩, go⟩ := hr T hT X
  cases hv
  rw [h0] at hz hk
  obtain ⟨t2, a1, b1⟩ := kk v n' f' hp p e s m args below meth c Q C0 T'.heap (locs ++ L) ls0 (by rw [e1]; exact hb')
    ⟨Nat.le_trans hS.1 (by rw [e1]; exact hz), fun q h1 h2 => by rw [e1, hk q (Nat.lt_of_lt_of_le h1 hS.1) h2]; exact hS.2.1 q h1 h2, fun q hq => by
      rcases List.mem_append.mp hq with h | h
      · exact hS.2.2 q h
      · exact hL q h⟩ hl T' rfl X'
  exact ⟨t2, go t2 a1, b1⟩
theorem sv_callV {k ci N : Nat} {T : u_T} {fs : List Value} {rest : List Value} (hC : sv_Ct G y R2 cc2 nL2 rt2 (.ref (gB G + k) :: As) n f Po) (hw : ∀ w ∈ [Cond.methodLink own i y, .instanceMethod y, .selects y.cls y y, .initialized y.cls, .code y cc2 nL2 rt2], w ∈ gw) (hd : sv_nm y As.length) (hR : R2.frames + 1 ≤ R.frames ∧ 8 + (nL2 + 11) + R2.locals ≤ R.locals) (hci : vwCl[ci]? = some (y.cls, T, N)) (hk : k < n) (hf : f k = .inr (ci, fs)) (hst : st = As.reverse ++ .ref (gB G + k) :: rest) (hcat : (rest.map fun v => v.category).sum ≤ 8) (d : decode cc pc = .ok (.invokevirtual i, 3)) (hcs : cells + R2.cells ≤ R.cells ∧ slots + R2.slots ≤ R.slots)
    (kk : ∀ r n' f', Po r n' f' → sv_V G R own nm cc nL rt Post (cells + R2.cells) (slots + R2.slots) n' f' (pc + 3) ls (r.toList ++ rest)) : sv_V G R own nm cc nL rt Post cells slots n f pc ls st := by
  intro p e s m args below meth c Q C0 H locs ls0 hP hS hl
  obtain ⟨hx, hb, hml, hown, hts, hK, hb0, hnm', hret⟩ := id C0
  exact sv_after C0 hS hl (va_runV (As := As) (rest := rest) ⟨hx, hb, hml, hown, hts⟩ hC (cwV As.length hts (sv_goodA (sv_goodL (fun w h => hw w (by simp only [List.mem_cons, List.not_mem_nil, or_false] at h ⊢; rcases h with h | h | h | h <;> simp [h]))) (sv_goodC (hw _ (by simp)))) rfl rfl rfl ⟨rfl, hd⟩ hR) ⟨sv_blind, va_recv hK.1 (hP.one hk hf) hci (q0 := 0) rfl, fun U hU hW => ⟨rfl, by rw [hU]; exact hP, hK.next hS hU hW, by rw [hU, hP.1]; exact Nat.le_add_right _ _⟩⟩ rfl rfl hl.1 hst (lv_room hcat) d hcs) kk
theorem sv_callS {rest : List Value} (hC : sv_Ct G y R2 cc2 nL2 rt2 As n f Po) (hw : ∀ w ∈ [Cond.methodLink own i y, .static y, .initialized y.cls, .code y cc2 nL2 rt2], w ∈ gw) (hd : sv_nm y As.length) (hR : R2.frames + 1 ≤ R.frames ∧ 8 + (nL2 + 11) + R2.locals ≤ R.locals) (hst : st = As.reverse ++ rest) (hcat : (rest.map fun v => v.category).sum ≤ 8) (d : decode cc pc = .ok (.invokestatic i, 3)) (hcs : cells + R2.cells ≤ R.cells ∧ slots + R2.slots ≤ R.slots)
    (kk : ∀ r n' f', Po r n' f' → sv_V G R own nm cc nL rt Post (cells + R2.cells) (slots + R2.slots) n' f' (pc + 3) ls (r.toList ++ rest)) : sv_V G R own nm cc nL rt Post cells slots n f pc ls st := by
  intro p e s m args below meth c Q C0 H locs ls0 hP hS hl
  obtain ⟨hx, hb, hml, hown, hts, hK, hb0, hnm', hret⟩ := id C0
  exact sv_after C0 hS hl (va_runS (As := As) (rest := rest) ⟨hx, hb, hml, hown, hts⟩ hC (va_cwS As.length hts (sv_goodA (sv_goodL (fun w h => hw w (by simp only [List.mem_cons, List.not_mem_nil, or_false] at h ⊢; rcases h with h | h | h <;> simp [h]))) (sv_goodC (hw _ (by simp)))) rfl rfl rfl hd hR) ⟨sv_blind, fun U hU hW => ⟨rfl, by rw [hU]; exact hP, hK.next hS hU hW, by rw [hU, hP.1]; exact Nat.le_add_right _ _⟩⟩ rfl rfl hl.1 hst (lv_room hcat) d hcs) kk
theorem sv_callSN {host : String} {rest : List Value} (hC : sv_Ct G y R2 cc2 nL2 rt2 As n f Po) (hn : Cond.methodLinkNest own i y host ∈ lw_tbl) (hw : ∀ w ∈ [Cond.static y, .initialized y.cls, .code y cc2 nL2 rt2], w ∈ gw) (hd : sv_nm y As.length) (hR : R2.frames + 1 ≤ R.frames ∧ 8 + (nL2 + 11) + R2.locals ≤ R.locals) (hst : st = As.reverse ++ rest) (hcat : (rest.map fun v => v.category).sum ≤ 8) (d : decode cc pc = .ok (.invokestatic i, 3)) (hcs : cells + R2.cells ≤ R.cells ∧ slots + R2.slots ≤ R.slots)
    (kk : ∀ r n' f', Po r n' f' → sv_V G R own nm cc nL rt Post (cells + R2.cells) (slots + R2.slots) n' f' (pc + 3) ls (r.toList ++ rest)) : sv_V G R own nm cc nL rt Post cells slots n f pc ls st := by
  intro p e s m args below meth c Q C0 H locs ls0 hP hS hl
  obtain ⟨hx, hb, hml, hown, hts, hK, hb0, hnm', hret⟩ := id C0
  exact sv_after C0 hS hl (va_runSN (As := As) (rest := rest) ⟨hx, hb, hml, hown, hts⟩ hC ⟨va_cnB As.length hts (sv_goodC (hw _ (by simp))) rfl rfl rfl (hK.2.1 _ hn rfl) (hts _ (hw _ (by simp))) hd hR, hts _ (hw _ (by simp)), trivial⟩ ⟨sv_blind, fun U hU hW => ⟨rfl, by rw [hU]; exact hP, hK.next hS hU hW, by rw [hU, hP.1]; exact Nat.le_add_right _ _⟩⟩ rfl rfl hl.1 hst (lv_room hcat) d hcs) kk
theorem sv_callI {k : Nat} {rest : List Value} (hC : sv_Ct G y R2 cc2 nL2 none (.ref (gB G + k) :: As) n f Po) (hw : ∀ w ∈ [Cond.methodLink own i y, .instanceMethod y, .initialized y.cls, .code y cc2 nL2 none], w ∈ gw) (hy : y.name = "<init>") (hd : sv_nm y As.length) (hR : R2.frames + 1 ≤ R.frames ∧ 8 + (nL2 + 11) + R2.locals ≤ R.locals) (hst : st = As.reverse ++ .ref (gB G + k) :: rest) (hcat : (rest.map fun v => v.category).sum ≤ 8) (d : decode cc pc = .ok (.invokespecial i, 3)) (hcs : cells + R2.cells ≤ R.cells ∧ slots + R2.slots ≤ R.slots)
    (kk : ∀ r n' f', Po r n' f' → sv_V G R own nm cc nL rt Post (cells + R2.cells) (slots + R2.slots) n' f' (pc + 3) ls (r.toList ++ rest)) : sv_V G R own nm cc nL rt Post cells slots n f pc ls st := by
  intro p e s m args below meth c Q C0 H locs ls0 hP hS hl
  obtain ⟨hx, hb, hml, hown, hts, hK, hb0, hnm', hret⟩ := id C0
  exact sv_after C0 hS hl (va_runI (As := As) (rest := rest) ⟨hx, hb, hml, hown, hts⟩ hC (cwI As.length hts (sv_goodC (hw _ (by simp))) rfl rfl rfl (hts _ (hw _ (by simp))) (hts _ (hw _ (by simp))) (hts _ (hw _ (by simp))) hy hd hR) ⟨sv_blind, fun U hU hW => ⟨rfl, by rw [hU]; exact hP, hK.next hS hU hW, by rw [hU, hP.1]; exact Nat.le_add_right _ _⟩⟩ rfl rfl hl.1 hst (lv_room hcat) d hcs) kk
theorem sv_callIN {k : Nat} {host : String} {rest : List Value} (hC : sv_Ct G y R2 cc2 nL2 none (.ref (gB G + k) :: As) n f Po) (hn : Cond.methodLinkNest own i y host ∈ lw_tbl) (hw : ∀ w ∈ [Cond.instanceMethod y, .initialized y.cls, .code y cc2 nL2 none], w ∈ gw) (hy : y.name = "<init>") (hd : sv_nm y As.length) (hR : R2.frames + 1 ≤ R.frames ∧ 8 + (nL2 + 11) + R2.locals ≤ R.locals) (hst : st = As.reverse ++ .ref (gB G + k) :: rest) (hcat : (rest.map fun v => v.category).sum ≤ 8) (d : decode cc pc = .ok (.invokespecial i, 3)) (hcs : cells + R2.cells ≤ R.cells ∧ slots + R2.slots ≤ R.slots)
    (kk : ∀ r n' f', Po r n' f' → sv_V G R own nm cc nL rt Post (cells + R2.cells) (slots + R2.slots) n' f' (pc + 3) ls (r.toList ++ rest)) : sv_V G R own nm cc nL rt Post cells slots n f pc ls st := by
  intro p e s m args below meth c Q C0 H locs ls0 hP hS hl
  obtain ⟨hx, hb, hml, hown, hts, hK, hb0, hnm', hret⟩ := id C0
  exact sv_after C0 hS hl (va_runIN (As := As) (rest := rest) ⟨hx, hb, hml, hown, hts⟩ hC ⟨va_cnB As.length hts (sv_goodC (hw _ (by simp))) rfl rfl rfl (hK.2.1 _ hn rfl) (hts _ (hw _ (by simp))) hd hR, hy, hts _ (hw _ (by simp))⟩ ⟨sv_blind, fun U hU hW => ⟨rfl, by rw [hU]; exact hP, hK.next hS hU hW, by rw [hU, hP.1]; exact Nat.le_add_right _ _⟩⟩ rfl rfl hl.1 hst (lv_room hcat) d hcs) kk
end SVC
end
section
theorem in_RL : Cond.initialized RL ∈ gw := gw_at 0 (by decide +kernel) rfl
theorem in_RX9 : Cond.initialized RX9 ∈ gw := gw_at 1 (by decide +kernel) rfl
theorem in_RX8 : Cond.initialized RX8 ∈ gw := gw_at 2 (by decide +kernel) rfl
theorem in_RX4 : Cond.initialized RX4 ∈ gw := gw_at 3 (by decide +kernel) rfl
theorem in_RX6 : Cond.initialized RX6 ∈ gw := gw_at 4 (by decide +kernel) rfl
theorem in_RX3 : Cond.initialized RX3 ∈ gw := gw_at 5 (by decide +kernel) rfl
theorem in_RX0 : Cond.initialized RX0 ∈ gw := gw_at 6 (by decide +kernel) rfl
theorem in_RX2 : Cond.initialized RX2 ∈ gw := gw_at 7 (by decide +kernel) rfl
theorem in_RX5 : Cond.initialized RX5 ∈ gw := gw_at 8 (by decide +kernel) rfl
theorem in_RX1 : Cond.initialized RX1 ∈ gw := gw_at 9 (by decide +kernel) rfl
theorem in_RX7 : Cond.initialized RX7 ∈ gw := gw_at 10 (by decide +kernel) rfl
theorem in_RX10 : Cond.initialized RX10 ∈ gw := gw_at 11 (by decide +kernel) rfl
theorem in_RJ0 : Cond.initialized RJ0 ∈ gw := gw_at 12 (by decide +kernel) rfl
theorem in_RJ1 : Cond.initialized RJ1 ∈ gw := gw_at 13 (by decide +kernel) rfl
theorem in_RJ9 : Cond.initialized RJ9 ∈ gw := gw_at 14 (by decide +kernel) rfl
theorem in_RJ2 : Cond.initialized RJ2 ∈ gw := gw_at 15 (by decide +kernel) rfl
theorem in_RJ3 : Cond.initialized RJ3 ∈ gw := gw_at 16 (by decide +kernel) rfl
theorem in_RJ11 : Cond.initialized RJ11 ∈ gw := gw_at 17 (by decide +kernel) rfl
theorem in_RJ7 : Cond.initialized RJ7 ∈ gw := gw_at 18 (by decide +kernel) rfl
theorem in_RJ10 : Cond.initialized RJ10 ∈ gw := gw_at 19 (by decide +kernel) rfl
theorem in_RJ6 : Cond.initialized RJ6 ∈ gw := gw_at 20 (by decide +kernel) rfl
theorem cl_RL_7 : Cond.classLink RL 7 RX9 ∈ gw := gw_at 21 (by decide +kernel) rfl
theorem ib_RX9 : Cond.instantiable RX9 12 ∈ gw := gw_at 22 (by decide +kernel) rfl
theorem ml_RL_9 : Cond.methodLink RL 9 yX9_init ∈ gw := gw_at 23 (by decide +kernel) rfl
theorem im_X9_init : Cond.instanceMethod yX9_init ∈ gw := gw_at 24 (by decide +kernel) rfl
theorem cd_X9_init : Cond.code yX9_init cX9_init 2 none ∈ gw := gw_at 25 (by decide +kernel) rfl
theorem ml_RX9_1 : Cond.methodLink RX9 1 Lib.objectInit ∈ gw := gw_at 26 (by decide +kernel) rfl
theorem im_objInit : Cond.instanceMethod Lib.objectInit ∈ gw := gw_at 27 (by decide +kernel) rfl
theorem cd_objInit : Cond.code Lib.objectInit ⟨#[0xb1]⟩ 1 none ∈ gw := gw_at 28 (by decide +kernel) rfl
theorem cl_RX9_7 : Cond.classLink RX9 7 RX8 ∈ gw := gw_at 29 (by decide +kernel) rfl
theorem ib_RX8 : Cond.instantiable RX8 2 ∈ gw := gw_at 30 (by decide +kernel) rfl
theorem ml_RX9_9 : Cond.methodLinkNest RX9 9 yX8_init "SideStep" ∈ lw_tbl := List.mem_append_right _ (List.mem_of_getElem? (i := 31) (by decide +kernel))
theorem im_X8_init : Cond.instanceMethod yX8_init ∈ gw := gw_at 32 (by decide +kernel) rfl
theorem cd_X8_init : Cond.code yX8_init cX8_init 1 none ∈ gw := gw_at 33 (by decide +kernel) rfl
theorem ml_RX8_3 : Cond.methodLink RX8 3 Lib.objectInit ∈ gw := gw_at 34 (by decide +kernel) rfl
theorem fl_RX8_9 : Cond.fieldLink RX8 9 "SideStep$Text" "letters" "[I" ∈ gw := gw_at 35 (by decide +kernel) rfl
theorem fl_RX9_76 : Cond.fieldLink RX9 76 "SideStep$Text" "letters" "[I" ∈ gw := gw_at 36 (by decide +kernel) rfl
theorem fl_RX8_21 : Cond.fieldLink RX8 21 "SideStep$Text" "length" "I" ∈ gw := gw_at 37 (by decide +kernel) rfl
theorem fl_RX9_72 : Cond.fieldLink RX9 72 "SideStep$Text" "length" "I" ∈ gw := gw_at 38 (by decide +kernel) rfl
theorem ac_int : Cond.arrayClass .int ∈ gw := gw_at 44 (by decide +kernel) rfl
theorem cl_RX9_16 : Cond.classLink RX9 16 RX4 ∈ gw := gw_at 45 (by decide +kernel) rfl
theorem ib_RX4 : Cond.instantiable RX4 5 ∈ gw := gw_at 46 (by decide +kernel) rfl
theorem ml_RX9_18 : Cond.methodLinkNest RX9 18 yX4_init "SideStep" ∈ lw_tbl := List.mem_append_right _ (List.mem_of_getElem? (i := 47) (by decide +kernel))
theorem im_X4_init : Cond.instanceMethod yX4_init ∈ gw := gw_at 48 (by decide +kernel) rfl
theorem cd_X4_init : Cond.code yX4_init cX4_init 1 none ∈ gw := gw_at 49 (by decide +kernel) rfl
theorem ml_RX4_3 : Cond.methodLink RX4 3 Lib.objectInit ∈ gw := gw_at 50 (by decide +kernel) rfl
theorem fl_RX4_9 : Cond.fieldLink RX4 9 "SideStep$Program" "kind" "[I" ∈ gw := gw_at 51 (by decide +kernel) rfl
theorem fl_RX3_62 : Cond.fieldLink RX3 62 "SideStep$Program" "kind" "[I" ∈ gw := gw_at 52 (by decide +kernel) rfl
theorem fl_RX9_217 : Cond.fieldLink RX9 217 "SideStep$Program" "kind" "[I" ∈ gw := gw_at 53 (by decide +kernel) rfl
theorem fl_RX4_15 : Cond.fieldLink RX4 15 "SideStep$Program" "first" "[I" ∈ gw := gw_at 54 (by decide +kernel) rfl
theorem fl_RX3_56 : Cond.fieldLink RX3 56 "SideStep$Program" "first" "[I" ∈ gw := gw_at 55 (by decide +kernel) rfl
theorem fl_RX9_229 : Cond.fieldLink RX9 229 "SideStep$Program" "first" "[I" ∈ gw := gw_at 56 (by decide +kernel) rfl
theorem fl_RX4_18 : Cond.fieldLink RX4 18 "SideStep$Program" "second" "[I" ∈ gw := gw_at 57 (by decide +kernel) rfl
theorem fl_RX3_59 : Cond.fieldLink RX3 59 "SideStep$Program" "second" "[I" ∈ gw := gw_at 58 (by decide +kernel) rfl
theorem fl_RX9_226 : Cond.fieldLink RX9 226 "SideStep$Program" "second" "[I" ∈ gw := gw_at 59 (by decide +kernel) rfl
theorem fl_RX4_21 : Cond.fieldLink RX4 21 "SideStep$Program" "model" "[I" ∈ gw := gw_at 60 (by decide +kernel) rfl
theorem fl_RX6_116 : Cond.fieldLink RX6 116 "SideStep$Program" "model" "[I" ∈ gw := gw_at 61 (by decide +kernel) rfl
theorem fl_RX8_15 : Cond.fieldLink RX8 15 "SideStep$Program" "size" "I" ∈ gw := gw_at 62 (by decide +kernel) rfl
theorem fl_RX4_24 : Cond.fieldLink RX4 24 "SideStep$Program" "size" "I" ∈ gw := gw_at 63 (by decide +kernel) rfl
theorem fl_RX9_93 : Cond.fieldLink RX9 93 "SideStep$Program" "size" "I" ∈ gw := gw_at 64 (by decide +kernel) rfl
theorem cl_RX9_26 : Cond.classLink RX9 26 RX6 ∈ gw := gw_at 76 (by decide +kernel) rfl
theorem ib_RX6 : Cond.instantiable RX6 7 ∈ gw := gw_at 77 (by decide +kernel) rfl
theorem ml_RX9_28 : Cond.methodLinkNest RX9 28 yX6_init "SideStep" ∈ lw_tbl := List.mem_append_right _ (List.mem_of_getElem? (i := 78) (by decide +kernel))
theorem im_X6_init : Cond.instanceMethod yX6_init ∈ gw := gw_at 79 (by decide +kernel) rfl
theorem cd_X6_init : Cond.code yX6_init cX6_init 1 none ∈ gw := gw_at 80 (by decide +kernel) rfl
theorem ml_RX6_3 : Cond.methodLink RX6 3 Lib.objectInit ∈ gw := gw_at 81 (by decide +kernel) rfl
theorem cl_RX6_9 : Cond.classLink RX6 9 RX3 ∈ gw := gw_at 82 (by decide +kernel) rfl
theorem ib_RX3 : Cond.instantiable RX3 8 ∈ gw := gw_at 83 (by decide +kernel) rfl
theorem ml_RX6_11 : Cond.methodLinkNest RX6 11 yX3_init "SideStep" ∈ lw_tbl := List.mem_append_right _ (List.mem_of_getElem? (i := 84) (by decide +kernel))
theorem im_X3_init : Cond.instanceMethod yX3_init ∈ gw := gw_at 85 (by decide +kernel) rfl
theorem cd_X3_init : Cond.code yX3_init cX3_init 1 none ∈ gw := gw_at 86 (by decide +kernel) rfl
theorem ml_RX3_3 : Cond.methodLink RX3 3 Lib.objectInit ∈ gw := gw_at 87 (by decide +kernel) rfl
theorem fl_RX3_9 : Cond.fieldLink RX3 9 "SideStep$Machine" "registers" "[I" ∈ gw := gw_at 88 (by decide +kernel) rfl
theorem fl_RX9_153 : Cond.fieldLink RX9 153 "SideStep$Machine" "registers" "[I" ∈ gw := gw_at 89 (by decide +kernel) rfl
theorem fl_RX0_55 : Cond.fieldLink RX0 55 "SideStep$Machine" "registers" "[I" ∈ gw := gw_at 90 (by decide +kernel) rfl
theorem fl_RX3_15 : Cond.fieldLink RX3 15 "SideStep$Machine" "cells" "[I" ∈ gw := gw_at 91 (by decide +kernel) rfl
theorem fl_RX9_159 : Cond.fieldLink RX9 159 "SideStep$Machine" "cells" "[I" ∈ gw := gw_at 92 (by decide +kernel) rfl
theorem fl_RX6_90 : Cond.fieldLink RX6 90 "SideStep$Machine" "cells" "[I" ∈ gw := gw_at 93 (by decide +kernel) rfl
theorem fl_RX3_18 : Cond.fieldLink RX3 18 "SideStep$Machine" "stack" "[I" ∈ gw := gw_at 94 (by decide +kernel) rfl
theorem fl_RX9_162 : Cond.fieldLink RX9 162 "SideStep$Machine" "stack" "[I" ∈ gw := gw_at 95 (by decide +kernel) rfl
theorem fl_RX3_27 : Cond.fieldLink RX3 27 "SideStep$Machine" "depth" "I" ∈ gw := gw_at 96 (by decide +kernel) rfl
theorem fl_RX6_63 : Cond.fieldLink RX6 63 "SideStep$Machine" "depth" "I" ∈ gw := gw_at 97 (by decide +kernel) rfl
theorem fl_RX9_105 : Cond.fieldLink RX9 105 "SideStep$Machine" "depth" "I" ∈ gw := gw_at 98 (by decide +kernel) rfl
theorem fl_RX3_31 : Cond.fieldLink RX3 31 "SideStep$Machine" "counter" "I" ∈ gw := gw_at 99 (by decide +kernel) rfl
theorem fl_RX1_33 : Cond.fieldLink RX1 33 "SideStep$Machine" "counter" "I" ∈ gw := gw_at 100 (by decide +kernel) rfl
theorem fl_RX7_86 : Cond.fieldLink RX7 86 "SideStep$Machine" "counter" "I" ∈ gw := gw_at 101 (by decide +kernel) rfl
theorem fl_RX9_100 : Cond.fieldLink RX9 100 "SideStep$Machine" "counter" "I" ∈ gw := gw_at 102 (by decide +kernel) rfl
theorem fl_RX6_81 : Cond.fieldLink RX6 81 "SideStep$Machine" "counter" "I" ∈ gw := gw_at 103 (by decide +kernel) rfl
theorem fl_RX0_46 : Cond.fieldLink RX0 46 "SideStep$Machine" "counter" "I" ∈ gw := gw_at 104 (by decide +kernel) rfl
theorem fl_RX3_34 : Cond.fieldLink RX3 34 "SideStep$Machine" "halted" "Z" ∈ gw := gw_at 105 (by decide +kernel) rfl
theorem fl_RX1_26 : Cond.fieldLink RX1 26 "SideStep$Machine" "halted" "Z" ∈ gw := gw_at 106 (by decide +kernel) rfl
theorem fl_RX7_74 : Cond.fieldLink RX7 74 "SideStep$Machine" "halted" "Z" ∈ gw := gw_at 107 (by decide +kernel) rfl
theorem fl_RX6_69 : Cond.fieldLink RX6 69 "SideStep$Machine" "halted" "Z" ∈ gw := gw_at 108 (by decide +kernel) rfl
theorem fl_RX9_108 : Cond.fieldLink RX9 108 "SideStep$Machine" "halted" "Z" ∈ gw := gw_at 109 (by decide +kernel) rfl
theorem fl_RX3_38 : Cond.fieldLink RX3 38 "SideStep$Machine" "puts" "I" ∈ gw := gw_at 110 (by decide +kernel) rfl
theorem fl_RX9_112 : Cond.fieldLink RX9 112 "SideStep$Machine" "puts" "I" ∈ gw := gw_at 111 (by decide +kernel) rfl
theorem fl_RX3_41 : Cond.fieldLink RX3 41 "SideStep$Machine" "digest" "I" ∈ gw := gw_at 112 (by decide +kernel) rfl
theorem fl_RX9_115 : Cond.fieldLink RX9 115 "SideStep$Machine" "digest" "I" ∈ gw := gw_at 113 (by decide +kernel) rfl
theorem cl_RX6_18 : Cond.classLink RX6 18 RX0 ∈ gw := gw_at 131 (by decide +kernel) rfl
theorem ib_RX0 : Cond.instantiable RX0 1 ∈ gw := gw_at 132 (by decide +kernel) rfl
theorem ml_RX6_20 : Cond.methodLink RX6 20 yX0_init ∈ gw := gw_at 133 (by decide +kernel) rfl
theorem im_X0_init : Cond.instanceMethod yX0_init ∈ gw := gw_at 134 (by decide +kernel) rfl
theorem cd_X0_init : Cond.code yX0_init cX0_init 1 none ∈ gw := gw_at 135 (by decide +kernel) rfl
theorem ml_RX0_3 : Cond.methodLink RX0 3 Lib.objectInit ∈ gw := gw_at 136 (by decide +kernel) rfl
theorem ml_RX0_15 : Cond.methodLink RX0 15 yX0_begin ∈ gw := gw_at 137 (by decide +kernel) rfl
theorem im_X0_begin : Cond.instanceMethod yX0_begin ∈ gw := gw_at 138 (by decide +kernel) rfl
theorem sl_X0_begin : Cond.selects RX0 yX0_begin yX0_begin ∈ gw := gw_at 139 (by decide +kernel) rfl
theorem cd_X0_begin : Cond.code yX0_begin cX0_begin 2 none ∈ gw := gw_at 140 (by decide +kernel) rfl
theorem ml_RX0_18 : Cond.methodLink RX0 18 yX0_disarm ∈ gw := gw_at 141 (by decide +kernel) rfl
theorem im_X0_disarm : Cond.instanceMethod yX0_disarm ∈ gw := gw_at 143 (by decide +kernel) rfl
theorem cd_X0_disarm : Cond.code yX0_disarm cX0_disarm 3 none ∈ gw := gw_at 144 (by decide +kernel) rfl
theorem fl_RX0_9 : Cond.fieldLink RX0 9 "SideStep$Breaks" "properties" "[I" ∈ gw := gw_at 145 (by decide +kernel) rfl
theorem fl_RX6_12 : Cond.fieldLink RX6 12 "SideStep$State" "machine" "LSideStep$Machine;" ∈ gw := gw_at 149 (by decide +kernel) rfl
theorem fl_RX7_66 : Cond.fieldLink RX7 66 "SideStep$State" "machine" "LSideStep$Machine;" ∈ gw := gw_at 150 (by decide +kernel) rfl
theorem fl_RX9_96 : Cond.fieldLink RX9 96 "SideStep$State" "machine" "LSideStep$Machine;" ∈ gw := gw_at 151 (by decide +kernel) rfl
theorem fl_RX6_21 : Cond.fieldLink RX6 21 "SideStep$State" "breaks" "LSideStep$Breaks;" ∈ gw := gw_at 152 (by decide +kernel) rfl
theorem fl_RX7_34 : Cond.fieldLink RX7 34 "SideStep$State" "breaks" "LSideStep$Breaks;" ∈ gw := gw_at 153 (by decide +kernel) rfl
theorem fl_RX9_118 : Cond.fieldLink RX9 118 "SideStep$State" "breaks" "LSideStep$Breaks;" ∈ gw := gw_at 154 (by decide +kernel) rfl
theorem fl_RX6_25 : Cond.fieldLink RX6 25 "SideStep$State" "copies" "[I" ∈ gw := gw_at 155 (by decide +kernel) rfl
theorem fl_RX9_172 : Cond.fieldLink RX9 172 "SideStep$State" "copies" "[I" ∈ gw := gw_at 156 (by decide +kernel) rfl
theorem fl_RX6_33 : Cond.fieldLink RX6 33 "SideStep$State" "copyCount" "I" ∈ gw := gw_at 157 (by decide +kernel) rfl
theorem fl_RX9_131 : Cond.fieldLink RX9 131 "SideStep$State" "copyCount" "I" ∈ gw := gw_at 158 (by decide +kernel) rfl
theorem fl_RX6_37 : Cond.fieldLink RX6 37 "SideStep$State" "watched" "I" ∈ gw := gw_at 159 (by decide +kernel) rfl
theorem fl_RX9_128 : Cond.fieldLink RX9 128 "SideStep$State" "watched" "I" ∈ gw := gw_at 160 (by decide +kernel) rfl
theorem fl_RX6_40 : Cond.fieldLink RX6 40 "SideStep$State" "cost" "I" ∈ gw := gw_at 161 (by decide +kernel) rfl
theorem fl_RX9_134 : Cond.fieldLink RX9 134 "SideStep$State" "cost" "I" ∈ gw := gw_at 162 (by decide +kernel) rfl
theorem fl_RX6_43 : Cond.fieldLink RX6 43 "SideStep$State" "clock" "I" ∈ gw := gw_at 163 (by decide +kernel) rfl
theorem fl_RX9_137 : Cond.fieldLink RX9 137 "SideStep$State" "clock" "I" ∈ gw := gw_at 164 (by decide +kernel) rfl
theorem cl_RX9_36 : Cond.classLink RX9 36 RX2 ∈ gw := gw_at 180 (by decide +kernel) rfl
theorem ib_RX2 : Cond.instantiable RX2 3 ∈ gw := gw_at 181 (by decide +kernel) rfl
theorem ml_RX9_38 : Cond.methodLink RX9 38 yX2_init ∈ gw := gw_at 182 (by decide +kernel) rfl
theorem im_X2_init : Cond.instanceMethod yX2_init ∈ gw := gw_at 183 (by decide +kernel) rfl
theorem cd_X2_init : Cond.code yX2_init cX2_init 2 none ∈ gw := gw_at 184 (by decide +kernel) rfl
theorem ml_RX2_3 : Cond.methodLink RX2 3 Lib.objectInit ∈ gw := gw_at 185 (by decide +kernel) rfl
theorem cl_RX2_9 : Cond.classLink RX2 9 RX6 ∈ gw := gw_at 186 (by decide +kernel) rfl
theorem ml_RX2_17 : Cond.methodLinkNest RX2 17 yX6_init "SideStep" ∈ lw_tbl := List.mem_append_right _ (List.mem_of_getElem? (i := 188) (by decide +kernel))
theorem fl_RX2_11 : Cond.fieldLink RX2 11 "SideStep$History" "ring" "[LSideStep$State;" ∈ gw := gw_at 189 (by decide +kernel) rfl
theorem fl_RX2_22 : Cond.fieldLink RX2 22 "SideStep$History" "next" "I" ∈ gw := gw_at 190 (by decide +kernel) rfl
theorem fl_RX2_18 : Cond.fieldLink RX2 18 "SideStep$History" "held" "I" ∈ gw := gw_at 191 (by decide +kernel) rfl
theorem fl_RX9_143 : Cond.fieldLink RX9 143 "SideStep$History" "held" "I" ∈ gw := gw_at 192 (by decide +kernel) rfl
theorem cl_RX9_51 : Cond.classLink RX9 51 RX5 ∈ gw := gw_at 200 (by decide +kernel) rfl
theorem ib_RX5 : Cond.instantiable RX5 3 ∈ gw := gw_at 201 (by decide +kernel) rfl
theorem ml_RX9_53 : Cond.methodLinkNest RX9 53 yX5_init "SideStep" ∈ lw_tbl := List.mem_append_right _ (List.mem_of_getElem? (i := 202) (by decide +kernel))
theorem im_X5_init : Cond.instanceMethod yX5_init ∈ gw := gw_at 203 (by decide +kernel) rfl
theorem cd_X5_init : Cond.code yX5_init cX5_init 1 none ∈ gw := gw_at 204 (by decide +kernel) rfl
theorem ml_RX5_3 : Cond.methodLink RX5 3 Lib.objectInit ∈ gw := gw_at 205 (by decide +kernel) rfl
theorem fl_RX5_9 : Cond.fieldLink RX5 9 "SideStep$Sights" "number" "[I" ∈ gw := gw_at 206 (by decide +kernel) rfl
theorem fl_RX5_15 : Cond.fieldLink RX5 15 "SideStep$Sights" "was" "[Z" ∈ gw := gw_at 207 (by decide +kernel) rfl
theorem fl_RX5_19 : Cond.fieldLink RX5 19 "SideStep$Sights" "count" "I" ∈ gw := gw_at 208 (by decide +kernel) rfl
theorem fl_RX9_146 : Cond.fieldLink RX9 146 "SideStep$Sights" "count" "I" ∈ gw := gw_at 209 (by decide +kernel) rfl
theorem ac_boolean : Cond.arrayClass .boolean ∈ gw := gw_at 217 (by decide +kernel) rfl
theorem cl_RX9_58 : Cond.classLink RX9 58 RX1 ∈ gw := gw_at 218 (by decide +kernel) rfl
theorem ib_RX1 : Cond.instantiable RX1 3 ∈ gw := gw_at 219 (by decide +kernel) rfl
theorem ml_RX9_60 : Cond.methodLinkNest RX9 60 yX1_init "SideStep" ∈ lw_tbl := List.mem_append_right _ (List.mem_of_getElem? (i := 220) (by decide +kernel))
theorem im_X1_init : Cond.instanceMethod yX1_init ∈ gw := gw_at 221 (by decide +kernel) rfl
theorem cd_X1_init : Cond.code yX1_init cX1_init 1 none ∈ gw := gw_at 222 (by decide +kernel) rfl
theorem ml_RX1_3 : Cond.methodLink RX1 3 Lib.objectInit ∈ gw := gw_at 223 (by decide +kernel) rfl
theorem cl_RX1_9 : Cond.classLink RX1 9 RX3 ∈ gw := gw_at 224 (by decide +kernel) rfl
theorem ml_RX1_11 : Cond.methodLinkNest RX1 11 yX3_init "SideStep" ∈ lw_tbl := List.mem_append_right _ (List.mem_of_getElem? (i := 225) (by decide +kernel))
theorem fl_RX1_12 : Cond.fieldLink RX1 12 "SideStep$FreeRun" "machine" "LSideStep$Machine;" ∈ gw := gw_at 226 (by decide +kernel) rfl
theorem fl_RX9_246 : Cond.fieldLink RX9 246 "SideStep$FreeRun" "machine" "LSideStep$Machine;" ∈ gw := gw_at 227 (by decide +kernel) rfl
theorem fl_RX1_22 : Cond.fieldLink RX1 22 "SideStep$FreeRun" "steps" "I" ∈ gw := gw_at 228 (by decide +kernel) rfl
theorem fl_RX9_243 : Cond.fieldLink RX9 243 "SideStep$FreeRun" "steps" "I" ∈ gw := gw_at 229 (by decide +kernel) rfl
theorem fl_RX1_30 : Cond.fieldLink RX1 30 "SideStep$FreeRun" "reason" "I" ∈ gw := gw_at 230 (by decide +kernel) rfl
theorem fl_RX9_240 : Cond.fieldLink RX9 240 "SideStep$FreeRun" "reason" "I" ∈ gw := gw_at 231 (by decide +kernel) rfl
theorem cl_RX9_65 : Cond.classLink RX9 65 RX7 ∈ gw := gw_at 239 (by decide +kernel) rfl
theorem ib_RX7 : Cond.instantiable RX7 8 ∈ gw := gw_at 240 (by decide +kernel) rfl
theorem ml_RX9_67 : Cond.methodLinkNest RX9 67 yX7_init "SideStep" ∈ lw_tbl := List.mem_append_right _ (List.mem_of_getElem? (i := 241) (by decide +kernel))
theorem im_X7_init : Cond.instanceMethod yX7_init ∈ gw := gw_at 242 (by decide +kernel) rfl
theorem cd_X7_init : Cond.code yX7_init cX7_init 1 none ∈ gw := gw_at 243 (by decide +kernel) rfl
theorem ml_RX7_3 : Cond.methodLink RX7 3 Lib.objectInit ∈ gw := gw_at 244 (by decide +kernel) rfl
theorem cl_RX7_9 : Cond.classLink RX7 9 RX3 ∈ gw := gw_at 245 (by decide +kernel) rfl
theorem ml_RX7_11 : Cond.methodLinkNest RX7 11 yX3_init "SideStep" ∈ lw_tbl := List.mem_append_right _ (List.mem_of_getElem? (i := 246) (by decide +kernel))
theorem fl_RX7_12 : Cond.fieldLink RX7 12 "SideStep$Stops" "machine" "LSideStep$Machine;" ∈ gw := gw_at 247 (by decide +kernel) rfl
theorem fl_RX7_18 : Cond.fieldLink RX7 18 "SideStep$Stops" "places" "[I" ∈ gw := gw_at 248 (by decide +kernel) rfl
theorem fl_RX7_22 : Cond.fieldLink RX7 22 "SideStep$Stops" "ignores" "[I" ∈ gw := gw_at 249 (by decide +kernel) rfl
theorem fl_RX7_25 : Cond.fieldLink RX7 25 "SideStep$Stops" "left" "[I" ∈ gw := gw_at 250 (by decide +kernel) rfl
theorem fl_RX7_28 : Cond.fieldLink RX7 28 "SideStep$Stops" "trail" "[I" ∈ gw := gw_at 251 (by decide +kernel) rfl
theorem fl_RX7_31 : Cond.fieldLink RX7 31 "SideStep$Stops" "values" "[I" ∈ gw := gw_at 252 (by decide +kernel) rfl
theorem fl_RX7_71 : Cond.fieldLink RX7 71 "SideStep$Stops" "length" "I" ∈ gw := gw_at 253 (by decide +kernel) rfl
theorem fl_RX7_48 : Cond.fieldLink RX7 48 "SideStep$Stops" "count" "I" ∈ gw := gw_at 254 (by decide +kernel) rfl
theorem fl_RX9_283 : Cond.fieldLink RX9 283 "SideStep$Stops" "count" "I" ∈ gw := gw_at 255 (by decide +kernel) rfl
theorem fl_RX9_10 : Cond.fieldLink RX9 10 "SideStep" "text" "LSideStep$Text;" ∈ gw := gw_at 273 (by decide +kernel) rfl
theorem fl_RX9_19 : Cond.fieldLink RX9 19 "SideStep" "program" "LSideStep$Program;" ∈ gw := gw_at 274 (by decide +kernel) rfl
theorem fl_RX9_23 : Cond.fieldLink RX9 23 "SideStep" "draft" "LSideStep$Program;" ∈ gw := gw_at 275 (by decide +kernel) rfl
theorem fl_RX9_29 : Cond.fieldLink RX9 29 "SideStep" "now" "LSideStep$State;" ∈ gw := gw_at 276 (by decide +kernel) rfl
theorem fl_RX9_33 : Cond.fieldLink RX9 33 "SideStep" "trial" "LSideStep$State;" ∈ gw := gw_at 277 (by decide +kernel) rfl
theorem fl_RX9_39 : Cond.fieldLink RX9 39 "SideStep" "history" "LSideStep$History;" ∈ gw := gw_at 278 (by decide +kernel) rfl
theorem fl_RX9_43 : Cond.fieldLink RX9 43 "SideStep" "slots" "[LSideStep$State;" ∈ gw := gw_at 279 (by decide +kernel) rfl
theorem fl_RX9_47 : Cond.fieldLink RX9 47 "SideStep" "kept" "[Z" ∈ gw := gw_at 280 (by decide +kernel) rfl
theorem fl_RX9_54 : Cond.fieldLink RX9 54 "SideStep" "sights" "LSideStep$Sights;" ∈ gw := gw_at 281 (by decide +kernel) rfl
theorem fl_RX9_61 : Cond.fieldLink RX9 61 "SideStep" "run" "LSideStep$FreeRun;" ∈ gw := gw_at 282 (by decide +kernel) rfl
theorem fl_RX9_68 : Cond.fieldLink RX9 68 "SideStep" "stops" "LSideStep$Stops;" ∈ gw := gw_at 283 (by decide +kernel) rfl
theorem fl_RX9_297 : Cond.fieldLink RX9 297 "SideStep" "seed" "J" ∈ gw := gw_at 284 (by decide +kernel) rfl
theorem ml_RL_13 : Cond.methodLink RL 13 yX9_write ∈ gw := gw_at 310 (by decide +kernel) rfl
theorem im_X9_write : Cond.instanceMethod yX9_write ∈ gw := gw_at 311 (by decide +kernel) rfl
theorem sl_X9_write : Cond.selects RX9 yX9_write yX9_write ∈ gw := gw_at 312 (by decide +kernel) rfl
theorem cd_X9_write : Cond.code yX9_write cX9_write 2 (some .int) ∈ gw := gw_at 313 (by decide +kernel) rfl
theorem ml_RL_18 : Cond.methodLink RL 18 yX9_wipe ∈ gw := gw_at 314 (by decide +kernel) rfl
theorem im_X9_wipe : Cond.instanceMethod yX9_wipe ∈ gw := gw_at 315 (by decide +kernel) rfl
theorem sl_X9_wipe : Cond.selects RX9 yX9_wipe yX9_wipe ∈ gw := gw_at 316 (by decide +kernel) rfl
theorem cd_X9_wipe : Cond.code yX9_wipe cX9_wipe 2 (some .int) ∈ gw := gw_at 317 (by decide +kernel) rfl
theorem ml_RL_23 : Cond.methodLink RL 23 yX9_fault ∈ gw := gw_at 318 (by decide +kernel) rfl
theorem im_X9_fault : Cond.instanceMethod yX9_fault ∈ gw := gw_at 319 (by decide +kernel) rfl
theorem sl_X9_fault : Cond.selects RX9 yX9_fault yX9_fault ∈ gw := gw_at 320 (by decide +kernel) rfl
theorem cd_X9_fault : Cond.code yX9_fault cX9_fault 1 (some .int) ∈ gw := gw_at 321 (by decide +kernel) rfl
theorem ml_RX9_80 : Cond.methodLink RX9 80 yX8_readInto ∈ gw := gw_at 322 (by decide +kernel) rfl
theorem im_X8_readInto : Cond.instanceMethod yX8_readInto ∈ gw := gw_at 323 (by decide +kernel) rfl
theorem sl_X8_readInto : Cond.selects RX8 yX8_readInto yX8_readInto ∈ gw := gw_at 324 (by decide +kernel) rfl
theorem cd_X8_readInto : Cond.code yX8_readInto cX8_readInto 7 (some .int) ∈ gw := gw_at 325 (by decide +kernel) rfl
theorem ml_RX8_26 : Cond.methodLink RX8 26 yJ0_indexOf_0f7a4 ∈ gw := gw_at 327 (by decide +kernel) rfl
theorem im_J0_indexOf_0f7a4 : Cond.instanceMethod yJ0_indexOf_0f7a4 ∈ gw := gw_at 328 (by decide +kernel) rfl
theorem sl_J0_indexOf_0f7a4 : Cond.selects RJ0 yJ0_indexOf_0f7a4 yJ0_indexOf_0f7a4 ∈ gw := gw_at 329 (by decide +kernel) rfl
theorem cd_J0_indexOf_0f7a4 : Cond.code yJ0_indexOf_0f7a4 cJ0_indexOf_0f7a4 2 (some .int) ∈ gw := gw_at 330 (by decide +kernel) rfl
theorem ml_RJ0_633 : Cond.methodLink RJ0 633 yJ0_indexOf_7cf53 ∈ gw := gw_at 331 (by decide +kernel) rfl
theorem im_J0_indexOf_7cf53 : Cond.instanceMethod yJ0_indexOf_7cf53 ∈ gw := gw_at 332 (by decide +kernel) rfl
theorem sl_J0_indexOf_7cf53 : Cond.selects RJ0 yJ0_indexOf_7cf53 yJ0_indexOf_7cf53 ∈ gw := gw_at 333 (by decide +kernel) rfl
theorem cd_J0_indexOf_7cf53 : Cond.code yJ0_indexOf_7cf53 cJ0_indexOf_7cf53 3 (some .int) ∈ gw := gw_at 334 (by decide +kernel) rfl
theorem ml_RJ0_492 : Cond.methodLink RJ0 492 yJ0_isLatin1_aae02 ∈ gw := gw_at 335 (by decide +kernel) rfl
theorem im_J0_isLatin1_aae02 : Cond.instanceMethod yJ0_isLatin1_aae02 ∈ gw := gw_at 336 (by decide +kernel) rfl
theorem sl_J0_isLatin1_aae02 : Cond.selects RJ0 yJ0_isLatin1_aae02 yJ0_isLatin1_aae02 ∈ gw := gw_at 337 (by decide +kernel) rfl
theorem cd_J0_isLatin1_aae02 : Cond.code yJ0_isLatin1_aae02 cJ0_isLatin1_aae02 1 (some .boolean) ∈ gw := gw_at 338 (by decide +kernel) rfl
theorem fl_RJ0_38 : Cond.fieldLink RJ0 38 "java/lang/String" "COMPACT_STRINGS" "Z" ∈ gw := gw_at 339 (by decide +kernel) rfl
theorem ml_RJ0_505 : Cond.methodLink RJ0 505 yJ0_length_8abf5 ∈ gw := gw_at 341 (by decide +kernel) rfl
theorem im_J0_length_8abf5 : Cond.instanceMethod yJ0_length_8abf5 ∈ gw := gw_at 342 (by decide +kernel) rfl
theorem sl_J0_length_8abf5 : Cond.selects RJ0 yJ0_length_8abf5 yJ0_length_8abf5 ∈ gw := gw_at 343 (by decide +kernel) rfl
theorem cd_J0_length_8abf5 : Cond.code yJ0_length_8abf5 cJ0_length_8abf5 1 (some .int) ∈ gw := gw_at 344 (by decide +kernel) rfl
theorem ml_RJ0_335 : Cond.methodLink RJ0 335 yJ0_coder_7d493 ∈ gw := gw_at 345 (by decide +kernel) rfl
theorem im_J0_coder_7d493 : Cond.instanceMethod yJ0_coder_7d493 ∈ gw := gw_at 346 (by decide +kernel) rfl
theorem sl_J0_coder_7d493 : Cond.selects RJ0 yJ0_coder_7d493 yJ0_coder_7d493 ∈ gw := gw_at 347 (by decide +kernel) rfl
theorem cd_J0_coder_7d493 : Cond.code yJ0_coder_7d493 cJ0_coder_7d493 1 (some .byte) ∈ gw := gw_at 348 (by decide +kernel) rfl
theorem ml_RJ0_637 : Cond.methodLink RJ0 637 yJ1_indexOf_4cfef ∈ gw := gw_at 349 (by decide +kernel) rfl
theorem st_J1_indexOf_4cfef : Cond.static yJ1_indexOf_4cfef ∈ gw := gw_at 350 (by decide +kernel) rfl
theorem cd_J1_indexOf_4cfef : Cond.code yJ1_indexOf_4cfef cJ1_indexOf_4cfef 4 (some .int) ∈ gw := gw_at 351 (by decide +kernel) rfl
theorem ml_RJ1_88 : Cond.methodLink RJ1 88 yJ1_canEncode_9a6ad ∈ gw := gw_at 352 (by decide +kernel) rfl
theorem st_J1_canEncode_9a6ad : Cond.static yJ1_canEncode_9a6ad ∈ gw := gw_at 353 (by decide +kernel) rfl
theorem cd_J1_canEncode_9a6ad : Cond.code yJ1_canEncode_9a6ad cJ1_canEncode_9a6ad 1 (some .boolean) ∈ gw := gw_at 354 (by decide +kernel) rfl
theorem ml_RJ1_92 : Cond.methodLink RJ1 92 yJ9_max_7cf53 ∈ gw := gw_at 355 (by decide +kernel) rfl
theorem st_J9_max_7cf53 : Cond.static yJ9_max_7cf53 ∈ gw := gw_at 356 (by decide +kernel) rfl
theorem cd_J9_max_7cf53 : Cond.code yJ9_max_7cf53 cJ9_max_7cf53 2 (some .int) ∈ gw := gw_at 357 (by decide +kernel) rfl
theorem ml_RJ1_38 : Cond.methodLink RJ1 38 yJ9_min_7cf53 ∈ gw := gw_at 358 (by decide +kernel) rfl
theorem st_J9_min_7cf53 : Cond.static yJ9_min_7cf53 ∈ gw := gw_at 359 (by decide +kernel) rfl
theorem cd_J9_min_7cf53 : Cond.code yJ9_min_7cf53 cJ9_min_7cf53 2 (some .int) ∈ gw := gw_at 360 (by decide +kernel) rfl
theorem ml_RJ1_95 : Cond.methodLink RJ1 95 yJ1_indexOfChar_4cfef ∈ gw := gw_at 361 (by decide +kernel) rfl
theorem st_J1_indexOfChar_4cfef : Cond.static yJ1_indexOfChar_4cfef ∈ gw := gw_at 362 (by decide +kernel) rfl
theorem cd_J1_indexOfChar_4cfef : Cond.code yJ1_indexOfChar_4cfef cJ1_indexOfChar_4cfef 6 (some .int) ∈ gw := gw_at 363 (by decide +kernel) rfl
theorem ml_RJ0_640 : Cond.methodLink RJ0 640 yJ2_indexOf_4cfef ∈ gw := gw_at 364 (by decide +kernel) rfl
theorem st_J2_indexOf_4cfef : Cond.static yJ2_indexOf_4cfef ∈ gw := gw_at 365 (by decide +kernel) rfl
theorem cd_J2_indexOf_4cfef : Cond.code yJ2_indexOf_4cfef cJ2_indexOf_4cfef 4 (some .int) ∈ gw := gw_at 366 (by decide +kernel) rfl
theorem ml_RJ2_224 : Cond.methodLink RJ2 224 yJ9_max_7cf53 ∈ gw := gw_at 367 (by decide +kernel) rfl
theorem ml_RJ2_183 : Cond.methodLink RJ2 183 yJ9_min_7cf53 ∈ gw := gw_at 368 (by decide +kernel) rfl
theorem ck_RJ2_227 : Cond.constant RJ2 227 65536 ∈ gw := gw_at 369 (by decide +kernel) rfl
theorem ml_RJ2_228 : Cond.methodLink RJ2 228 yJ2_indexOfChar_4cfef ∈ gw := gw_at 370 (by decide +kernel) rfl
theorem st_J2_indexOfChar_4cfef : Cond.static yJ2_indexOfChar_4cfef ∈ gw := gw_at 371 (by decide +kernel) rfl
theorem cd_J2_indexOfChar_4cfef : Cond.code yJ2_indexOfChar_4cfef cJ2_indexOfChar_4cfef 4 (some .int) ∈ gw := gw_at 372 (by decide +kernel) rfl
theorem ml_RJ2_96 : Cond.methodLink RJ2 96 yJ2_checkBoundsBeginEnd_d044e ∈ gw := gw_at 373 (by decide +kernel) rfl
theorem st_J2_checkBoundsBeginEnd_d044e : Cond.static yJ2_checkBoundsBeginEnd_d044e ∈ gw := gw_at 374 (by decide +kernel) rfl
theorem cd_J2_checkBoundsBeginEnd_d044e : Cond.code yJ2_checkBoundsBeginEnd_d044e cJ2_checkBoundsBeginEnd_d044e 3 none ∈ gw := gw_at 375 (by decide +kernel) rfl
theorem ml_RJ2_48 : Cond.methodLink RJ2 48 yJ2_length_9d52b ∈ gw := gw_at 376 (by decide +kernel) rfl
theorem st_J2_length_9d52b : Cond.static yJ2_length_9d52b ∈ gw := gw_at 377 (by decide +kernel) rfl
theorem cd_J2_length_9d52b : Cond.code yJ2_length_9d52b cJ2_length_9d52b 1 (some .int) ∈ gw := gw_at 378 (by decide +kernel) rfl
theorem ml_RJ2_241 : Cond.methodLink RJ2 241 yJ0_checkBoundsBeginEnd_23922 ∈ gw := gw_at 379 (by decide +kernel) rfl
theorem st_J0_checkBoundsBeginEnd_23922 : Cond.static yJ0_checkBoundsBeginEnd_23922 ∈ gw := gw_at 380 (by decide +kernel) rfl
theorem cd_J0_checkBoundsBeginEnd_23922 : Cond.code yJ0_checkBoundsBeginEnd_23922 cJ0_checkBoundsBeginEnd_23922 3 none ∈ gw := gw_at 381 (by decide +kernel) rfl
theorem fl_RJ0_1053 : Cond.fieldLink RJ0 1053 "jdk/internal/util/Preconditions" "SIOOBE_FORMATTER" "Ljava/util/function/BiFunction;" ∈ gw := gw_at 382 (by decide +kernel) rfl
theorem ml_RJ0_1062 : Cond.methodLink RJ0 1062 yJ3_checkFromToIndex_8c36e ∈ gw := gw_at 384 (by decide +kernel) rfl
theorem st_J3_checkFromToIndex_8c36e : Cond.static yJ3_checkFromToIndex_8c36e ∈ gw := gw_at 385 (by decide +kernel) rfl
theorem cd_J3_checkFromToIndex_8c36e : Cond.code yJ3_checkFromToIndex_8c36e cJ3_checkFromToIndex_8c36e 4 (some .int) ∈ gw := gw_at 386 (by decide +kernel) rfl
theorem ml_RJ2_244 : Cond.methodLink RJ2 244 yJ2_indexOfCharUnsafe_4cfef ∈ gw := gw_at 387 (by decide +kernel) rfl
theorem st_J2_indexOfCharUnsafe_4cfef : Cond.static yJ2_indexOfCharUnsafe_4cfef ∈ gw := gw_at 388 (by decide +kernel) rfl
theorem cd_J2_indexOfCharUnsafe_4cfef : Cond.code yJ2_indexOfCharUnsafe_4cfef cJ2_indexOfCharUnsafe_4cfef 5 (some .int) ∈ gw := gw_at 389 (by decide +kernel) rfl
theorem ml_RJ2_71 : Cond.methodLink RJ2 71 yJ2_getChar_3b067 ∈ gw := gw_at 390 (by decide +kernel) rfl
theorem st_J2_getChar_3b067 : Cond.static yJ2_getChar_3b067 ∈ gw := gw_at 391 (by decide +kernel) rfl
theorem cd_J2_getChar_3b067 : Cond.code yJ2_getChar_3b067 cJ2_getChar_3b067 2 (some .char) ∈ gw := gw_at 392 (by decide +kernel) rfl
theorem fl_RJ2_44 : Cond.fieldLink RJ2 44 "java/lang/StringUTF16" "$assertionsDisabled" "Z" ∈ gw := gw_at 393 (by decide +kernel) rfl
theorem fl_RJ2_59 : Cond.fieldLink RJ2 59 "java/lang/StringUTF16" "HI_BYTE_SHIFT" "I" ∈ gw := gw_at 395 (by decide +kernel) rfl
theorem fl_RJ2_63 : Cond.fieldLink RJ2 63 "java/lang/StringUTF16" "LO_BYTE_SHIFT" "I" ∈ gw := gw_at 397 (by decide +kernel) rfl
theorem ml_RJ2_232 : Cond.methodLink RJ2 232 yJ2_indexOfSupplementary_4cfef ∈ gw := gw_at 399 (by decide +kernel) rfl
theorem st_J2_indexOfSupplementary_4cfef : Cond.static yJ2_indexOfSupplementary_4cfef ∈ gw := gw_at 400 (by decide +kernel) rfl
theorem cd_J2_indexOfSupplementary_4cfef : Cond.code yJ2_indexOfSupplementary_4cfef cJ2_indexOfSupplementary_4cfef 7 (some .int) ∈ gw := gw_at 401 (by decide +kernel) rfl
theorem ml_RJ2_164 : Cond.methodLink RJ2 164 yJ11_isValidCodePoint_9a6ad ∈ gw := gw_at 402 (by decide +kernel) rfl
theorem st_J11_isValidCodePoint_9a6ad : Cond.static yJ11_isValidCodePoint_9a6ad ∈ gw := gw_at 403 (by decide +kernel) rfl
theorem cd_J11_isValidCodePoint_9a6ad : Cond.code yJ11_isValidCodePoint_9a6ad cJ11_isValidCodePoint_9a6ad 2 (some .boolean) ∈ gw := gw_at 404 (by decide +kernel) rfl
theorem ml_RJ2_157 : Cond.methodLink RJ2 157 yJ11_highSurrogate_5068e ∈ gw := gw_at 405 (by decide +kernel) rfl
theorem st_J11_highSurrogate_5068e : Cond.static yJ11_highSurrogate_5068e ∈ gw := gw_at 406 (by decide +kernel) rfl
theorem cd_J11_highSurrogate_5068e : Cond.code yJ11_highSurrogate_5068e cJ11_highSurrogate_5068e 1 (some .char) ∈ gw := gw_at 407 (by decide +kernel) rfl
theorem ck_RJ11_110 : Cond.constant RJ11 110 55232 ∈ gw := gw_at 408 (by decide +kernel) rfl
theorem ml_RJ2_161 : Cond.methodLink RJ2 161 yJ11_lowSurrogate_5068e ∈ gw := gw_at 409 (by decide +kernel) rfl
theorem st_J11_lowSurrogate_5068e : Cond.static yJ11_lowSurrogate_5068e ∈ gw := gw_at 410 (by decide +kernel) rfl
theorem cd_J11_lowSurrogate_5068e : Cond.code yJ11_lowSurrogate_5068e cJ11_lowSurrogate_5068e 1 (some .char) ∈ gw := gw_at 411 (by decide +kernel) rfl
theorem ck_RJ11_76 : Cond.constant RJ11 76 56320 ∈ gw := gw_at 412 (by decide +kernel) rfl
theorem ml_RX8_32 : Cond.methodLink RX8 32 yX8_formOf ∈ gw := gw_at 413 (by decide +kernel) rfl
theorem st_X8_formOf : Cond.static yX8_formOf ∈ gw := gw_at 414 (by decide +kernel) rfl
theorem cd_X8_formOf : Cond.code yX8_formOf cX8_formOf 1 (some (.object "java/lang/String")) ∈ gw := gw_at 415 (by decide +kernel) rfl
theorem ml_RX8_36 : Cond.methodLink RX8 36 yX8_endOfMatch ∈ gw := gw_at 424 (by decide +kernel) rfl
theorem im_X8_endOfMatch : Cond.instanceMethod yX8_endOfMatch ∈ gw := gw_at 426 (by decide +kernel) rfl
theorem cd_X8_endOfMatch : Cond.code yX8_endOfMatch cX8_endOfMatch 5 (some .int) ∈ gw := gw_at 427 (by decide +kernel) rfl
theorem ml_RX8_40 : Cond.methodLink RX8 40 yJ0_length_8abf5 ∈ gw := gw_at 428 (by decide +kernel) rfl
theorem ml_RX8_63 : Cond.methodLink RX8 63 yJ0_charAt_5068e ∈ gw := gw_at 429 (by decide +kernel) rfl
theorem im_J0_charAt_5068e : Cond.instanceMethod yJ0_charAt_5068e ∈ gw := gw_at 430 (by decide +kernel) rfl
theorem sl_J0_charAt_5068e : Cond.selects RJ0 yJ0_charAt_5068e yJ0_charAt_5068e ∈ gw := gw_at 431 (by decide +kernel) rfl
theorem cd_J0_charAt_5068e : Cond.code yJ0_charAt_5068e cJ0_charAt_5068e 2 (some .char) ∈ gw := gw_at 432 (by decide +kernel) rfl
theorem ml_RJ0_495 : Cond.methodLink RJ0 495 yJ1_charAt_3b067 ∈ gw := gw_at 433 (by decide +kernel) rfl
theorem st_J1_charAt_3b067 : Cond.static yJ1_charAt_3b067 ∈ gw := gw_at 434 (by decide +kernel) rfl
theorem cd_J1_charAt_3b067 : Cond.code yJ1_charAt_3b067 cJ1_charAt_3b067 2 (some .char) ∈ gw := gw_at 435 (by decide +kernel) rfl
theorem ml_RJ1_9 : Cond.methodLink RJ1 9 yJ0_checkIndex_df160 ∈ gw := gw_at 436 (by decide +kernel) rfl
theorem st_J0_checkIndex_df160 : Cond.static yJ0_checkIndex_df160 ∈ gw := gw_at 437 (by decide +kernel) rfl
theorem cd_J0_checkIndex_df160 : Cond.code yJ0_checkIndex_df160 cJ0_checkIndex_df160 2 none ∈ gw := gw_at 438 (by decide +kernel) rfl
theorem ml_RJ0_1059 : Cond.methodLink RJ0 1059 yJ3_checkIndex_8e157 ∈ gw := gw_at 439 (by decide +kernel) rfl
theorem st_J3_checkIndex_8e157 : Cond.static yJ3_checkIndex_8e157 ∈ gw := gw_at 440 (by decide +kernel) rfl
theorem cd_J3_checkIndex_8e157 : Cond.code yJ3_checkIndex_8e157 cJ3_checkIndex_8e157 3 (some .int) ∈ gw := gw_at 441 (by decide +kernel) rfl
theorem ml_RJ0_498 : Cond.methodLink RJ0 498 yJ2_charAt_3b067 ∈ gw := gw_at 442 (by decide +kernel) rfl
theorem st_J2_charAt_3b067 : Cond.static yJ2_charAt_3b067 ∈ gw := gw_at 443 (by decide +kernel) rfl
theorem cd_J2_charAt_3b067 : Cond.code yJ2_charAt_3b067 cJ2_charAt_3b067 2 (some .char) ∈ gw := gw_at 444 (by decide +kernel) rfl
theorem ml_RJ2_67 : Cond.methodLink RJ2 67 yJ2_checkIndex_2214a ∈ gw := gw_at 445 (by decide +kernel) rfl
theorem st_J2_checkIndex_2214a : Cond.static yJ2_checkIndex_2214a ∈ gw := gw_at 446 (by decide +kernel) rfl
theorem cd_J2_checkIndex_2214a : Cond.code yJ2_checkIndex_2214a cJ2_checkIndex_2214a 2 none ∈ gw := gw_at 447 (by decide +kernel) rfl
theorem ml_RJ2_414 : Cond.methodLink RJ2 414 yJ0_checkIndex_df160 ∈ gw := gw_at 448 (by decide +kernel) rfl
theorem ml_RX8_67 : Cond.methodLink RX8 67 yX8_fits ∈ gw := gw_at 449 (by decide +kernel) rfl
theorem im_X8_fits : Cond.instanceMethod yX8_fits ∈ gw := gw_at 451 (by decide +kernel) rfl
theorem cd_X8_fits : Cond.code yX8_fits cX8_fits 4 (some .boolean) ∈ gw := gw_at 452 (by decide +kernel) rfl
theorem ml_RX8_43 : Cond.methodLink RX8 43 yX8_addInstruction ∈ gw := gw_at 453 (by decide +kernel) rfl
theorem im_X8_addInstruction : Cond.instanceMethod yX8_addInstruction ∈ gw := gw_at 455 (by decide +kernel) rfl
theorem cd_X8_addInstruction : Cond.code yX8_addInstruction cX8_addInstruction 4 none ∈ gw := gw_at 456 (by decide +kernel) rfl
theorem ml_RX8_71 : Cond.methodLink RX8 71 yX8_distance ∈ gw := gw_at 457 (by decide +kernel) rfl
theorem im_X8_distance : Cond.instanceMethod yX8_distance ∈ gw := gw_at 459 (by decide +kernel) rfl
theorem cd_X8_distance : Cond.code yX8_distance cX8_distance 2 (some .int) ∈ gw := gw_at 460 (by decide +kernel) rfl
theorem ml_RX8_78 : Cond.methodLink RX8 78 yX8_digit ∈ gw := gw_at 461 (by decide +kernel) rfl
theorem im_X8_digit : Cond.instanceMethod yX8_digit ∈ gw := gw_at 463 (by decide +kernel) rfl
theorem cd_X8_digit : Cond.code yX8_digit cX8_digit 2 (some .int) ∈ gw := gw_at 464 (by decide +kernel) rfl
theorem ml_RX8_74 : Cond.methodLink RX8 74 yX4_add ∈ gw := gw_at 465 (by decide +kernel) rfl
theorem im_X4_add : Cond.instanceMethod yX4_add ∈ gw := gw_at 466 (by decide +kernel) rfl
theorem sl_X4_add : Cond.selects RX4 yX4_add yX4_add ∈ gw := gw_at 467 (by decide +kernel) rfl
theorem cd_X4_add : Cond.code yX4_add cX4_add 4 none ∈ gw := gw_at 468 (by decide +kernel) rfl
theorem ml_RX4_28 : Cond.methodLink RX4 28 yX4_modelOf ∈ gw := gw_at 469 (by decide +kernel) rfl
theorem im_X4_modelOf : Cond.instanceMethod yX4_modelOf ∈ gw := gw_at 471 (by decide +kernel) rfl
theorem cd_X4_modelOf : Cond.code yX4_modelOf cX4_modelOf 3 (some .int) ∈ gw := gw_at 472 (by decide +kernel) rfl
theorem ac_byte : Cond.arrayClass .byte ∈ gw := gw_at 473 (by decide +kernel) rfl
theorem ml_RL_27 : Cond.methodLink RL 27 yX9_code ∈ gw := gw_at 474 (by decide +kernel) rfl
theorem im_X9_code : Cond.instanceMethod yX9_code ∈ gw := gw_at 475 (by decide +kernel) rfl
theorem sl_X9_code : Cond.selects RX9 yX9_code yX9_code ∈ gw := gw_at 476 (by decide +kernel) rfl
theorem cd_X9_code : Cond.code yX9_code cX9_code 1 (some .int) ∈ gw := gw_at 477 (by decide +kernel) rfl
theorem ml_RX9_84 : Cond.methodLink RX9 84 yX6_begin ∈ gw := gw_at 478 (by decide +kernel) rfl
theorem im_X6_begin : Cond.instanceMethod yX6_begin ∈ gw := gw_at 479 (by decide +kernel) rfl
theorem sl_X6_begin : Cond.selects RX6 yX6_begin yX6_begin ∈ gw := gw_at 480 (by decide +kernel) rfl
theorem cd_X6_begin : Cond.code yX6_begin cX6_begin 1 none ∈ gw := gw_at 481 (by decide +kernel) rfl
theorem ml_RX6_29 : Cond.methodLink RX6 29 yX3_begin ∈ gw := gw_at 482 (by decide +kernel) rfl
theorem im_X3_begin : Cond.instanceMethod yX3_begin ∈ gw := gw_at 483 (by decide +kernel) rfl
theorem sl_X3_begin : Cond.selects RX3 yX3_begin yX3_begin ∈ gw := gw_at 484 (by decide +kernel) rfl
theorem cd_X3_begin : Cond.code yX3_begin cX3_begin 1 none ∈ gw := gw_at 485 (by decide +kernel) rfl
theorem ml_RX3_21 : Cond.methodLink RX3 21 yJ7_fill_53178 ∈ gw := gw_at 486 (by decide +kernel) rfl
theorem st_J7_fill_53178 : Cond.static yJ7_fill_53178 ∈ gw := gw_at 487 (by decide +kernel) rfl
theorem cd_J7_fill_53178 : Cond.code yJ7_fill_53178 cJ7_fill_53178 4 none ∈ gw := gw_at 488 (by decide +kernel) rfl
theorem ml_RX6_32 : Cond.methodLink RX6 32 yX0_begin ∈ gw := gw_at 489 (by decide +kernel) rfl
theorem ml_RX9_87 : Cond.methodLink RX9 87 yX2_clear ∈ gw := gw_at 490 (by decide +kernel) rfl
theorem im_X2_clear : Cond.instanceMethod yX2_clear ∈ gw := gw_at 491 (by decide +kernel) rfl
theorem sl_X2_clear : Cond.selects RX2 yX2_clear yX2_clear ∈ gw := gw_at 492 (by decide +kernel) rfl
theorem cd_X2_clear : Cond.code yX2_clear cX2_clear 1 none ∈ gw := gw_at 493 (by decide +kernel) rfl
theorem ml_RX9_90 : Cond.methodLink RX9 90 yX9_emptySlots ∈ gw := gw_at 494 (by decide +kernel) rfl
theorem im_X9_emptySlots : Cond.instanceMethod yX9_emptySlots ∈ gw := gw_at 496 (by decide +kernel) rfl
theorem cd_X9_emptySlots : Cond.code yX9_emptySlots cX9_emptySlots 2 none ∈ gw := gw_at 497 (by decide +kernel) rfl
theorem ml_RL_31 : Cond.methodLink RL 31 yX9_about ∈ gw := gw_at 498 (by decide +kernel) rfl
theorem im_X9_about : Cond.instanceMethod yX9_about ∈ gw := gw_at 499 (by decide +kernel) rfl
theorem sl_X9_about : Cond.selects RX9 yX9_about yX9_about ∈ gw := gw_at 500 (by decide +kernel) rfl
theorem cd_X9_about : Cond.code yX9_about cX9_about 2 (some .int) ∈ gw := gw_at 501 (by decide +kernel) rfl
theorem ml_RX9_122 : Cond.methodLink RX9 122 yX0_armedSet ∈ gw := gw_at 502 (by decide +kernel) rfl
theorem im_X0_armedSet : Cond.instanceMethod yX0_armedSet ∈ gw := gw_at 503 (by decide +kernel) rfl
theorem sl_X0_armedSet : Cond.selects RX0 yX0_armedSet yX0_armedSet ∈ gw := gw_at 504 (by decide +kernel) rfl
theorem cd_X0_armedSet : Cond.code yX0_armedSet cX0_armedSet 3 (some .int) ∈ gw := gw_at 505 (by decide +kernel) rfl
theorem ml_RX0_32 : Cond.methodLink RX0 32 yX0_isArmed ∈ gw := gw_at 506 (by decide +kernel) rfl
theorem im_X0_isArmed : Cond.instanceMethod yX0_isArmed ∈ gw := gw_at 507 (by decide +kernel) rfl
theorem sl_X0_isArmed : Cond.selects RX0 yX0_isArmed yX0_isArmed ∈ gw := gw_at 508 (by decide +kernel) rfl
theorem cd_X0_isArmed : Cond.code yX0_isArmed cX0_isArmed 2 (some .boolean) ∈ gw := gw_at 509 (by decide +kernel) rfl
theorem ml_RX9_140 : Cond.methodLink RX9 140 yX4_different ∈ gw := gw_at 510 (by decide +kernel) rfl
theorem im_X4_different : Cond.instanceMethod yX4_different ∈ gw := gw_at 511 (by decide +kernel) rfl
theorem sl_X4_different : Cond.selects RX4 yX4_different yX4_different ∈ gw := gw_at 512 (by decide +kernel) rfl
theorem cd_X4_different : Cond.code yX4_different cX4_different 3 (some .int) ∈ gw := gw_at 513 (by decide +kernel) rfl
theorem ml_RL_35 : Cond.methodLink RL 35 yX9_register ∈ gw := gw_at 514 (by decide +kernel) rfl
theorem im_X9_register : Cond.instanceMethod yX9_register ∈ gw := gw_at 515 (by decide +kernel) rfl
theorem sl_X9_register : Cond.selects RX9 yX9_register yX9_register ∈ gw := gw_at 516 (by decide +kernel) rfl
theorem cd_X9_register : Cond.code yX9_register cX9_register 2 (some .int) ∈ gw := gw_at 517 (by decide +kernel) rfl
theorem ml_RX9_149 : Cond.methodLink RX9 149 yX9_isRegister ∈ gw := gw_at 518 (by decide +kernel) rfl
theorem st_X9_isRegister : Cond.static yX9_isRegister ∈ gw := gw_at 519 (by decide +kernel) rfl
theorem cd_X9_isRegister : Cond.code yX9_isRegister cX9_isRegister 1 (some .boolean) ∈ gw := gw_at 520 (by decide +kernel) rfl
theorem ml_RL_39 : Cond.methodLink RL 39 yX9_cell ∈ gw := gw_at 521 (by decide +kernel) rfl
theorem im_X9_cell : Cond.instanceMethod yX9_cell ∈ gw := gw_at 522 (by decide +kernel) rfl
theorem sl_X9_cell : Cond.selects RX9 yX9_cell yX9_cell ∈ gw := gw_at 523 (by decide +kernel) rfl
theorem cd_X9_cell : Cond.code yX9_cell cX9_cell 2 (some .int) ∈ gw := gw_at 524 (by decide +kernel) rfl
theorem ml_RX9_156 : Cond.methodLink RX9 156 yX9_isCell ∈ gw := gw_at 525 (by decide +kernel) rfl
theorem st_X9_isCell : Cond.static yX9_isCell ∈ gw := gw_at 526 (by decide +kernel) rfl
theorem cd_X9_isCell : Cond.code yX9_isCell cX9_isCell 1 (some .boolean) ∈ gw := gw_at 527 (by decide +kernel) rfl
theorem ml_RL_43 : Cond.methodLink RL 43 yX9_stack ∈ gw := gw_at 528 (by decide +kernel) rfl
theorem im_X9_stack : Cond.instanceMethod yX9_stack ∈ gw := gw_at 529 (by decide +kernel) rfl
theorem sl_X9_stack : Cond.selects RX9 yX9_stack yX9_stack ∈ gw := gw_at 530 (by decide +kernel) rfl
theorem cd_X9_stack : Cond.code yX9_stack cX9_stack 2 (some .int) ∈ gw := gw_at 531 (by decide +kernel) rfl
theorem ml_RL_47 : Cond.methodLink RL 47 yX9_broken ∈ gw := gw_at 532 (by decide +kernel) rfl
theorem im_X9_broken : Cond.instanceMethod yX9_broken ∈ gw := gw_at 533 (by decide +kernel) rfl
theorem sl_X9_broken : Cond.selects RX9 yX9_broken yX9_broken ∈ gw := gw_at 534 (by decide +kernel) rfl
theorem cd_X9_broken : Cond.code yX9_broken cX9_broken 3 (some .int) ∈ gw := gw_at 535 (by decide +kernel) rfl
theorem ml_RX9_165 : Cond.methodLink RX9 165 yX4_has ∈ gw := gw_at 536 (by decide +kernel) rfl
theorem im_X4_has : Cond.instanceMethod yX4_has ∈ gw := gw_at 537 (by decide +kernel) rfl
theorem sl_X4_has : Cond.selects RX4 yX4_has yX4_has ∈ gw := gw_at 538 (by decide +kernel) rfl
theorem cd_X4_has : Cond.code yX4_has cX4_has 2 (some .boolean) ∈ gw := gw_at 539 (by decide +kernel) rfl
theorem ml_RX9_168 : Cond.methodLink RX9 168 yX0_property ∈ gw := gw_at 540 (by decide +kernel) rfl
theorem im_X0_property : Cond.instanceMethod yX0_property ∈ gw := gw_at 541 (by decide +kernel) rfl
theorem sl_X0_property : Cond.selects RX0 yX0_property yX0_property ∈ gw := gw_at 542 (by decide +kernel) rfl
theorem cd_X0_property : Cond.code yX0_property cX0_property 3 (some .int) ∈ gw := gw_at 543 (by decide +kernel) rfl
theorem ml_RL_52 : Cond.methodLink RL 52 yX9_copy ∈ gw := gw_at 544 (by decide +kernel) rfl
theorem im_X9_copy : Cond.instanceMethod yX9_copy ∈ gw := gw_at 545 (by decide +kernel) rfl
theorem sl_X9_copy : Cond.selects RX9 yX9_copy yX9_copy ∈ gw := gw_at 546 (by decide +kernel) rfl
theorem cd_X9_copy : Cond.code yX9_copy cX9_copy 2 (some .int) ∈ gw := gw_at 547 (by decide +kernel) rfl
theorem ml_RL_56 : Cond.methodLink RL 56 yX9_plan ∈ gw := gw_at 548 (by decide +kernel) rfl
theorem im_X9_plan : Cond.instanceMethod yX9_plan ∈ gw := gw_at 549 (by decide +kernel) rfl
theorem sl_X9_plan : Cond.selects RX9 yX9_plan yX9_plan ∈ gw := gw_at 550 (by decide +kernel) rfl
theorem cd_X9_plan : Cond.code yX9_plan cX9_plan 2 (some .int) ∈ gw := gw_at 551 (by decide +kernel) rfl
theorem ml_RX9_175 : Cond.methodLink RX9 175 yX6_allows ∈ gw := gw_at 552 (by decide +kernel) rfl
theorem im_X6_allows : Cond.instanceMethod yX6_allows ∈ gw := gw_at 553 (by decide +kernel) rfl
theorem sl_X6_allows : Cond.selects RX6 yX6_allows yX6_allows ∈ gw := gw_at 554 (by decide +kernel) rfl
theorem cd_X6_allows : Cond.code yX6_allows cX6_allows 2 (some .boolean) ∈ gw := gw_at 555 (by decide +kernel) rfl
theorem ml_RX9_178 : Cond.methodLink RX9 178 yX2_remember ∈ gw := gw_at 556 (by decide +kernel) rfl
theorem im_X2_remember : Cond.instanceMethod yX2_remember ∈ gw := gw_at 557 (by decide +kernel) rfl
theorem sl_X2_remember : Cond.selects RX2 yX2_remember yX2_remember ∈ gw := gw_at 558 (by decide +kernel) rfl
theorem cd_X2_remember : Cond.code yX2_remember cX2_remember 2 none ∈ gw := gw_at 559 (by decide +kernel) rfl
theorem ml_RX2_25 : Cond.methodLink RX2 25 yX6_takeFrom ∈ gw := gw_at 560 (by decide +kernel) rfl
theorem im_X6_takeFrom : Cond.instanceMethod yX6_takeFrom ∈ gw := gw_at 561 (by decide +kernel) rfl
theorem sl_X6_takeFrom : Cond.selects RX6 yX6_takeFrom yX6_takeFrom ∈ gw := gw_at 562 (by decide +kernel) rfl
theorem cd_X6_takeFrom : Cond.code yX6_takeFrom cX6_takeFrom 2 none ∈ gw := gw_at 563 (by decide +kernel) rfl
theorem ml_RX6_46 : Cond.methodLink RX6 46 yX3_takeFrom ∈ gw := gw_at 564 (by decide +kernel) rfl
theorem im_X3_takeFrom : Cond.instanceMethod yX3_takeFrom ∈ gw := gw_at 565 (by decide +kernel) rfl
theorem sl_X3_takeFrom : Cond.selects RX3 yX3_takeFrom yX3_takeFrom ∈ gw := gw_at 566 (by decide +kernel) rfl
theorem cd_X3_takeFrom : Cond.code yX3_takeFrom cX3_takeFrom 2 none ∈ gw := gw_at 567 (by decide +kernel) rfl
theorem ml_RX3_44 : Cond.methodLink RX3 44 arraycopyName ∈ gw := gw_at 568 (by decide +kernel) rfl
theorem st_arraycopy : Cond.static arraycopyName ∈ gw := gw_at 569 (by decide +kernel) rfl
theorem nt_arraycopy : Cond.native arraycopyName ∈ gw := gw_at 570 (by decide +kernel) rfl
theorem ml_RX6_50 : Cond.methodLink RX6 50 yX0_takeFrom ∈ gw := gw_at 571 (by decide +kernel) rfl
theorem im_X0_takeFrom : Cond.instanceMethod yX0_takeFrom ∈ gw := gw_at 572 (by decide +kernel) rfl
theorem sl_X0_takeFrom : Cond.selects RX0 yX0_takeFrom yX0_takeFrom ∈ gw := gw_at 573 (by decide +kernel) rfl
theorem cd_X0_takeFrom : Cond.code yX0_takeFrom cX0_takeFrom 2 none ∈ gw := gw_at 574 (by decide +kernel) rfl
theorem ml_RX0_22 : Cond.methodLink RX0 22 arraycopyName ∈ gw := gw_at 575 (by decide +kernel) rfl
theorem ml_RX6_53 : Cond.methodLink RX6 53 arraycopyName ∈ gw := gw_at 576 (by decide +kernel) rfl
theorem ml_RX2_29 : Cond.methodLink RX2 29 yJ9_min_7cf53 ∈ gw := gw_at 577 (by decide +kernel) rfl
theorem ml_RX9_182 : Cond.methodLink RX9 182 yX6_perform ∈ gw := gw_at 578 (by decide +kernel) rfl
theorem im_X6_perform : Cond.instanceMethod yX6_perform ∈ gw := gw_at 579 (by decide +kernel) rfl
theorem sl_X6_perform : Cond.selects RX6 yX6_perform yX6_perform ∈ gw := gw_at 580 (by decide +kernel) rfl
theorem cd_X6_perform : Cond.code yX6_perform cX6_perform 6 (some .int) ∈ gw := gw_at 581 (by decide +kernel) rfl
theorem ml_RX6_66 : Cond.methodLink RX6 66 yX6_allows ∈ gw := gw_at 582 (by decide +kernel) rfl
theorem ml_RX6_73 : Cond.methodLink RX6 73 yX6_reasonAfterStep ∈ gw := gw_at 583 (by decide +kernel) rfl
theorem im_X6_reasonAfterStep : Cond.instanceMethod yX6_reasonAfterStep ∈ gw := gw_at 585 (by decide +kernel) rfl
theorem cd_X6_reasonAfterStep : Cond.code yX6_reasonAfterStep cX6_reasonAfterStep 5 (some .int) ∈ gw := gw_at 586 (by decide +kernel) rfl
theorem ml_RX6_84 : Cond.methodLink RX6 84 yX4_savedCell ∈ gw := gw_at 587 (by decide +kernel) rfl
theorem im_X4_savedCell : Cond.instanceMethod yX4_savedCell ∈ gw := gw_at 588 (by decide +kernel) rfl
theorem sl_X4_savedCell : Cond.selects RX4 yX4_savedCell yX4_savedCell ∈ gw := gw_at 589 (by decide +kernel) rfl
theorem cd_X4_savedCell : Cond.code yX4_savedCell cX4_savedCell 2 (some .int) ∈ gw := gw_at 590 (by decide +kernel) rfl
theorem ml_RX4_32 : Cond.methodLink RX4 32 yX4_has ∈ gw := gw_at 591 (by decide +kernel) rfl
theorem ml_RX6_59 : Cond.methodLinkNest RX6 59 yX9_isCell "SideStep" ∈ lw_tbl := List.mem_append_right _ (List.mem_of_getElem? (i := 592) (by decide +kernel))
theorem ml_RX6_93 : Cond.methodLink RX6 93 yX3_step ∈ gw := gw_at 593 (by decide +kernel) rfl
theorem im_X3_step : Cond.instanceMethod yX3_step ∈ gw := gw_at 594 (by decide +kernel) rfl
theorem sl_X3_step : Cond.selects RX3 yX3_step yX3_step ∈ gw := gw_at 595 (by decide +kernel) rfl
theorem cd_X3_step : Cond.code yX3_step cX3_step 6 (some .boolean) ∈ gw := gw_at 596 (by decide +kernel) rfl
theorem ml_RX3_50 : Cond.methodLink RX3 50 yX4_has ∈ gw := gw_at 597 (by decide +kernel) rfl
theorem ml_RX3_65 : Cond.methodLink RX3 65 yX3_putOut ∈ gw := gw_at 598 (by decide +kernel) rfl
theorem im_X3_putOut : Cond.instanceMethod yX3_putOut ∈ gw := gw_at 600 (by decide +kernel) rfl
theorem cd_X3_putOut : Cond.code yX3_putOut cX3_putOut 2 none ∈ gw := gw_at 601 (by decide +kernel) rfl
theorem ml_RX6_97 : Cond.methodLink RX6 97 yX6_charge ∈ gw := gw_at 602 (by decide +kernel) rfl
theorem im_X6_charge : Cond.instanceMethod yX6_charge ∈ gw := gw_at 604 (by decide +kernel) rfl
theorem cd_X6_charge : Cond.code yX6_charge cX6_charge 3 none ∈ gw := gw_at 605 (by decide +kernel) rfl
theorem ml_RX6_108 : Cond.methodLink RX6 108 yJ6_bitCount_0f7a4 ∈ gw := gw_at 606 (by decide +kernel) rfl
theorem st_J6_bitCount_0f7a4 : Cond.static yJ6_bitCount_0f7a4 ∈ gw := gw_at 607 (by decide +kernel) rfl
theorem cd_J6_bitCount_0f7a4 : Cond.code yJ6_bitCount_0f7a4 cJ6_bitCount_0f7a4 1 (some .int) ∈ gw := gw_at 608 (by decide +kernel) rfl
theorem ck_RJ6_265 : Cond.constant RJ6 265 1431655765 ∈ gw := gw_at 609 (by decide +kernel) rfl
theorem ck_RJ6_266 : Cond.constant RJ6 266 858993459 ∈ gw := gw_at 610 (by decide +kernel) rfl
theorem ck_RJ6_267 : Cond.constant RJ6 267 252645135 ∈ gw := gw_at 611 (by decide +kernel) rfl
theorem ml_RX6_113 : Cond.methodLink RX6 113 yX0_isArmed ∈ gw := gw_at 612 (by decide +kernel) rfl
theorem ml_RX6_119 : Cond.methodLink RX6 119 yX6_keepCopy ∈ gw := gw_at 613 (by decide +kernel) rfl
theorem im_X6_keepCopy : Cond.instanceMethod yX6_keepCopy ∈ gw := gw_at 615 (by decide +kernel) rfl
theorem cd_X6_keepCopy : Cond.code yX6_keepCopy cX6_keepCopy 3 none ∈ gw := gw_at 616 (by decide +kernel) rfl
theorem ml_RX6_101 : Cond.methodLink RX6 101 yX6_isWatched ∈ gw := gw_at 617 (by decide +kernel) rfl
theorem im_X6_isWatched : Cond.instanceMethod yX6_isWatched ∈ gw := gw_at 618 (by decide +kernel) rfl
theorem sl_X6_isWatched : Cond.selects RX6 yX6_isWatched yX6_isWatched ∈ gw := gw_at 619 (by decide +kernel) rfl
theorem cd_X6_isWatched : Cond.code yX6_isWatched cX6_isWatched 2 (some .boolean) ∈ gw := gw_at 620 (by decide +kernel) rfl
theorem ml_RX6_104 : Cond.methodLink RX6 104 yX0_stop ∈ gw := gw_at 621 (by decide +kernel) rfl
theorem im_X0_stop : Cond.instanceMethod yX0_stop ∈ gw := gw_at 622 (by decide +kernel) rfl
theorem sl_X0_stop : Cond.selects RX0 yX0_stop yX0_stop ∈ gw := gw_at 623 (by decide +kernel) rfl
theorem cd_X0_stop : Cond.code yX0_stop cX0_stop 3 (some .boolean) ∈ gw := gw_at 624 (by decide +kernel) rfl
theorem ml_RX0_58 : Cond.methodLink RX0 58 yX0_apply ∈ gw := gw_at 625 (by decide +kernel) rfl
theorem im_X0_apply : Cond.instanceMethod yX0_apply ∈ gw := gw_at 626 (by decide +kernel) rfl
theorem sl_X0_apply : Cond.selects RX0 yX0_apply yX0_apply ∈ gw := gw_at 627 (by decide +kernel) rfl
theorem cd_X0_apply : Cond.code yX0_apply cX0_apply 7 (some .boolean) ∈ gw := gw_at 628 (by decide +kernel) rfl
theorem ml_RX0_52 : Cond.methodLinkNest RX0 52 yX9_isRegister "SideStep" ∈ lw_tbl := List.mem_append_right _ (List.mem_of_getElem? (i := 629) (by decide +kernel))
theorem ml_RX6_77 : Cond.methodLink RX6 77 yX6_isDone ∈ gw := gw_at 630 (by decide +kernel) rfl
theorem im_X6_isDone : Cond.instanceMethod yX6_isDone ∈ gw := gw_at 632 (by decide +kernel) rfl
theorem cd_X6_isDone : Cond.code yX6_isDone cX6_isDone 3 (some .boolean) ∈ gw := gw_at 633 (by decide +kernel) rfl
theorem ml_RL_60 : Cond.methodLink RL 60 yX9_set ∈ gw := gw_at 634 (by decide +kernel) rfl
theorem im_X9_set : Cond.instanceMethod yX9_set ∈ gw := gw_at 635 (by decide +kernel) rfl
theorem sl_X9_set : Cond.selects RX9 yX9_set yX9_set ∈ gw := gw_at 636 (by decide +kernel) rfl
theorem cd_X9_set : Cond.code yX9_set cX9_set 4 (some .int) ∈ gw := gw_at 637 (by decide +kernel) rfl
theorem ml_RX9_186 : Cond.methodLink RX9 186 yX9_exchange ∈ gw := gw_at 638 (by decide +kernel) rfl
theorem im_X9_exchange : Cond.instanceMethod yX9_exchange ∈ gw := gw_at 640 (by decide +kernel) rfl
theorem cd_X9_exchange : Cond.code yX9_exchange cX9_exchange 5 (some .int) ∈ gw := gw_at 641 (by decide +kernel) rfl
theorem ml_RX9_190 : Cond.methodLink RX9 190 yX9_moveCounter ∈ gw := gw_at 642 (by decide +kernel) rfl
theorem im_X9_moveCounter : Cond.instanceMethod yX9_moveCounter ∈ gw := gw_at 644 (by decide +kernel) rfl
theorem cd_X9_moveCounter : Cond.code yX9_moveCounter cX9_moveCounter 3 (some .int) ∈ gw := gw_at 645 (by decide +kernel) rfl
theorem ml_RL_65 : Cond.methodLink RL 65 yX9_smash ∈ gw := gw_at 646 (by decide +kernel) rfl
theorem im_X9_smash : Cond.instanceMethod yX9_smash ∈ gw := gw_at 647 (by decide +kernel) rfl
theorem sl_X9_smash : Cond.selects RX9 yX9_smash yX9_smash ∈ gw := gw_at 648 (by decide +kernel) rfl
theorem cd_X9_smash : Cond.code yX9_smash cX9_smash 7 (some .int) ∈ gw := gw_at 649 (by decide +kernel) rfl
theorem ml_RX9_194 : Cond.methodLink RX9 194 yX0_isFull ∈ gw := gw_at 650 (by decide +kernel) rfl
theorem im_X0_isFull : Cond.instanceMethod yX0_isFull ∈ gw := gw_at 651 (by decide +kernel) rfl
theorem sl_X0_isFull : Cond.selects RX0 yX0_isFull yX0_isFull ∈ gw := gw_at 652 (by decide +kernel) rfl
theorem cd_X0_isFull : Cond.code yX0_isFull cX0_isFull 2 (some .boolean) ∈ gw := gw_at 653 (by decide +kernel) rfl
theorem ml_RX0_28 : Cond.methodLink RX0 28 yX0_property ∈ gw := gw_at 654 (by decide +kernel) rfl
theorem ml_RX9_197 : Cond.methodLink RX9 197 yX0_add ∈ gw := gw_at 655 (by decide +kernel) rfl
theorem im_X0_add : Cond.instanceMethod yX0_add ∈ gw := gw_at 656 (by decide +kernel) rfl
theorem sl_X0_add : Cond.selects RX0 yX0_add yX0_add ∈ gw := gw_at 657 (by decide +kernel) rfl
theorem cd_X0_add : Cond.code yX0_add cX0_add 7 none ∈ gw := gw_at 658 (by decide +kernel) rfl
theorem ml_RL_70 : Cond.methodLink RL 70 yX9_lift ∈ gw := gw_at 659 (by decide +kernel) rfl
theorem im_X9_lift : Cond.instanceMethod yX9_lift ∈ gw := gw_at 660 (by decide +kernel) rfl
theorem sl_X9_lift : Cond.selects RX9 yX9_lift yX9_lift ∈ gw := gw_at 661 (by decide +kernel) rfl
theorem cd_X9_lift : Cond.code yX9_lift cX9_lift 2 (some .int) ∈ gw := gw_at 662 (by decide +kernel) rfl
theorem ml_RX9_201 : Cond.methodLink RX9 201 yX0_isArmed ∈ gw := gw_at 663 (by decide +kernel) rfl
theorem ml_RX9_204 : Cond.methodLink RX9 204 yX0_remove ∈ gw := gw_at 664 (by decide +kernel) rfl
theorem im_X0_remove : Cond.instanceMethod yX0_remove ∈ gw := gw_at 665 (by decide +kernel) rfl
theorem sl_X0_remove : Cond.selects RX0 yX0_remove yX0_remove ∈ gw := gw_at 666 (by decide +kernel) rfl
theorem cd_X0_remove : Cond.code yX0_remove cX0_remove 2 none ∈ gw := gw_at 667 (by decide +kernel) rfl
theorem ml_RL_74 : Cond.methodLink RL 74 yX9_watch ∈ gw := gw_at 668 (by decide +kernel) rfl
theorem im_X9_watch : Cond.instanceMethod yX9_watch ∈ gw := gw_at 669 (by decide +kernel) rfl
theorem sl_X9_watch : Cond.selects RX9 yX9_watch yX9_watch ∈ gw := gw_at 670 (by decide +kernel) rfl
theorem cd_X9_watch : Cond.code yX9_watch cX9_watch 2 (some .int) ∈ gw := gw_at 671 (by decide +kernel) rfl
theorem ml_RX9_208 : Cond.methodLink RX9 208 yX6_turnWatch ∈ gw := gw_at 672 (by decide +kernel) rfl
theorem im_X6_turnWatch : Cond.instanceMethod yX6_turnWatch ∈ gw := gw_at 673 (by decide +kernel) rfl
theorem sl_X6_turnWatch : Cond.selects RX6 yX6_turnWatch yX6_turnWatch ∈ gw := gw_at 674 (by decide +kernel) rfl
theorem cd_X6_turnWatch : Cond.code yX6_turnWatch cX6_turnWatch 2 (some .boolean) ∈ gw := gw_at 675 (by decide +kernel) rfl
theorem ml_RX9_211 : Cond.methodLink RX9 211 yX6_isWatched ∈ gw := gw_at 676 (by decide +kernel) rfl
theorem ml_RL_78 : Cond.methodLink RL 78 yX9_undo ∈ gw := gw_at 677 (by decide +kernel) rfl
theorem im_X9_undo : Cond.instanceMethod yX9_undo ∈ gw := gw_at 678 (by decide +kernel) rfl
theorem sl_X9_undo : Cond.selects RX9 yX9_undo yX9_undo ∈ gw := gw_at 679 (by decide +kernel) rfl
theorem cd_X9_undo : Cond.code yX9_undo cX9_undo 1 (some .int) ∈ gw := gw_at 680 (by decide +kernel) rfl
theorem ml_RX9_214 : Cond.methodLink RX9 214 yX2_takeBack ∈ gw := gw_at 681 (by decide +kernel) rfl
theorem im_X2_takeBack : Cond.instanceMethod yX2_takeBack ∈ gw := gw_at 682 (by decide +kernel) rfl
theorem sl_X2_takeBack : Cond.selects RX2 yX2_takeBack yX2_takeBack ∈ gw := gw_at 683 (by decide +kernel) rfl
theorem cd_X2_takeBack : Cond.code yX2_takeBack cX2_takeBack 2 none ∈ gw := gw_at 684 (by decide +kernel) rfl
theorem ml_RL_82 : Cond.methodLink RL 82 yX9_aside ∈ gw := gw_at 685 (by decide +kernel) rfl
theorem im_X9_aside : Cond.instanceMethod yX9_aside ∈ gw := gw_at 686 (by decide +kernel) rfl
theorem sl_X9_aside : Cond.selects RX9 yX9_aside yX9_aside ∈ gw := gw_at 687 (by decide +kernel) rfl
theorem cd_X9_aside : Cond.code yX9_aside cX9_aside 4 (some .int) ∈ gw := gw_at 688 (by decide +kernel) rfl
theorem ml_RX9_220 : Cond.methodLink RX9 220 yX9_followsAside ∈ gw := gw_at 689 (by decide +kernel) rfl
theorem im_X9_followsAside : Cond.instanceMethod yX9_followsAside ∈ gw := gw_at 691 (by decide +kernel) rfl
theorem cd_X9_followsAside : Cond.code yX9_followsAside cX9_followsAside 4 (some .int) ∈ gw := gw_at 692 (by decide +kernel) rfl
theorem ml_RX9_223 : Cond.methodLink RX9 223 yX9_corrections ∈ gw := gw_at 693 (by decide +kernel) rfl
theorem st_X9_corrections : Cond.static yX9_corrections ∈ gw := gw_at 694 (by decide +kernel) rfl
theorem cd_X9_corrections : Cond.code yX9_corrections cX9_corrections 1 (some .int) ∈ gw := gw_at 695 (by decide +kernel) rfl
theorem ml_RL_86 : Cond.methodLink RL 86 yX9_free ∈ gw := gw_at 696 (by decide +kernel) rfl
theorem im_X9_free : Cond.instanceMethod yX9_free ∈ gw := gw_at 697 (by decide +kernel) rfl
theorem sl_X9_free : Cond.selects RX9 yX9_free yX9_free ∈ gw := gw_at 698 (by decide +kernel) rfl
theorem cd_X9_free : Cond.code yX9_free cX9_free 2 (some .int) ∈ gw := gw_at 699 (by decide +kernel) rfl
theorem ml_RX9_232 : Cond.methodLink RX9 232 yX1_prepare ∈ gw := gw_at 700 (by decide +kernel) rfl
theorem im_X1_prepare : Cond.instanceMethod yX1_prepare ∈ gw := gw_at 701 (by decide +kernel) rfl
theorem sl_X1_prepare : Cond.selects RX1 yX1_prepare yX1_prepare ∈ gw := gw_at 702 (by decide +kernel) rfl
theorem cd_X1_prepare : Cond.code yX1_prepare cX1_prepare 2 none ∈ gw := gw_at 703 (by decide +kernel) rfl
theorem ml_RX1_18 : Cond.methodLink RX1 18 yX3_takeFrom ∈ gw := gw_at 704 (by decide +kernel) rfl
theorem ml_RX9_236 : Cond.methodLink RX9 236 yX1_go ∈ gw := gw_at 705 (by decide +kernel) rfl
theorem im_X1_go : Cond.instanceMethod yX1_go ∈ gw := gw_at 706 (by decide +kernel) rfl
theorem sl_X1_go : Cond.selects RX1 yX1_go yX1_go ∈ gw := gw_at 707 (by decide +kernel) rfl
theorem cd_X1_go : Cond.code yX1_go cX1_go 4 none ∈ gw := gw_at 708 (by decide +kernel) rfl
theorem ml_RX1_36 : Cond.methodLink RX1 36 yX4_has ∈ gw := gw_at 709 (by decide +kernel) rfl
theorem ml_RX1_42 : Cond.methodLink RX1 42 yX3_step ∈ gw := gw_at 710 (by decide +kernel) rfl
theorem ml_RL_92 : Cond.methodLink RL 92 yX9_judge ∈ gw := gw_at 711 (by decide +kernel) rfl
theorem im_X9_judge : Cond.instanceMethod yX9_judge ∈ gw := gw_at 712 (by decide +kernel) rfl
theorem sl_X9_judge : Cond.selects RX9 yX9_judge yX9_judge ∈ gw := gw_at 713 (by decide +kernel) rfl
theorem cd_X9_judge : Cond.code yX9_judge cX9_judge 6 (some .int) ∈ gw := gw_at 714 (by decide +kernel) rfl
theorem ml_RX9_247 : Cond.methodLink RX9 247 yX9_power ∈ gw := gw_at 715 (by decide +kernel) rfl
theorem st_X9_power : Cond.static yX9_power ∈ gw := gw_at 716 (by decide +kernel) rfl
theorem cd_X9_power : Cond.code yX9_power cX9_power 5 (some .long) ∈ gw := gw_at 717 (by decide +kernel) rfl
theorem ml_RX9_251 : Cond.methodLink RX9 251 yX6_takeFrom ∈ gw := gw_at 718 (by decide +kernel) rfl
theorem ml_RX9_254 : Cond.methodLink RX9 254 yX9_statementAt ∈ gw := gw_at 719 (by decide +kernel) rfl
theorem st_X9_statementAt : Cond.static yX9_statementAt ∈ gw := gw_at 720 (by decide +kernel) rfl
theorem cd_X9_statementAt : Cond.code yX9_statementAt cX9_statementAt 6 (some .int) ∈ gw := gw_at 721 (by decide +kernel) rfl
theorem ck_RX9_262 : Cond.constantLong RX9 262 1000 ∈ gw := gw_at 722 (by decide +kernel) rfl
theorem ml_RX9_258 : Cond.methodLink RX9 258 yX9_holds ∈ gw := gw_at 723 (by decide +kernel) rfl
theorem im_X9_holds : Cond.instanceMethod yX9_holds ∈ gw := gw_at 725 (by decide +kernel) rfl
theorem cd_X9_holds : Cond.code yX9_holds cX9_holds 5 (some .boolean) ∈ gw := gw_at 726 (by decide +kernel) rfl
theorem ml_RX9_264 : Cond.methodLink RX9 264 yX9_isGood ∈ gw := gw_at 727 (by decide +kernel) rfl
theorem st_X9_isGood : Cond.static yX9_isGood ∈ gw := gw_at 728 (by decide +kernel) rfl
theorem cd_X9_isGood : Cond.code yX9_isGood cX9_isGood 1 (some .boolean) ∈ gw := gw_at 729 (by decide +kernel) rfl
theorem ml_RX9_267 : Cond.methodLink RX9 267 yX9_takesBreak ∈ gw := gw_at 730 (by decide +kernel) rfl
theorem im_X9_takesBreak : Cond.instanceMethod yX9_takesBreak ∈ gw := gw_at 732 (by decide +kernel) rfl
theorem cd_X9_takesBreak : Cond.code yX9_takesBreak cX9_takesBreak 2 (some .boolean) ∈ gw := gw_at 733 (by decide +kernel) rfl
theorem ml_RL_97 : Cond.methodLink RL 97 yX9_see ∈ gw := gw_at 734 (by decide +kernel) rfl
theorem im_X9_see : Cond.instanceMethod yX9_see ∈ gw := gw_at 735 (by decide +kernel) rfl
theorem sl_X9_see : Cond.selects RX9 yX9_see yX9_see ∈ gw := gw_at 736 (by decide +kernel) rfl
theorem cd_X9_see : Cond.code yX9_see cX9_see 3 (some .int) ∈ gw := gw_at 737 (by decide +kernel) rfl
theorem ml_RX9_270 : Cond.methodLink RX9 270 yX5_add ∈ gw := gw_at 738 (by decide +kernel) rfl
theorem im_X5_add : Cond.instanceMethod yX5_add ∈ gw := gw_at 739 (by decide +kernel) rfl
theorem sl_X5_add : Cond.selects RX5 yX5_add yX5_add ∈ gw := gw_at 740 (by decide +kernel) rfl
theorem cd_X5_add : Cond.code yX5_add cX5_add 3 none ∈ gw := gw_at 741 (by decide +kernel) rfl
theorem ml_RL_101 : Cond.methodLink RL 101 yX9_unsee ∈ gw := gw_at 742 (by decide +kernel) rfl
theorem im_X9_unsee : Cond.instanceMethod yX9_unsee ∈ gw := gw_at 743 (by decide +kernel) rfl
theorem sl_X9_unsee : Cond.selects RX9 yX9_unsee yX9_unsee ∈ gw := gw_at 744 (by decide +kernel) rfl
theorem cd_X9_unsee : Cond.code yX9_unsee cX9_unsee 2 (some .int) ∈ gw := gw_at 745 (by decide +kernel) rfl
theorem ml_RL_105 : Cond.methodLink RL 105 yX9_which ∈ gw := gw_at 746 (by decide +kernel) rfl
theorem im_X9_which : Cond.instanceMethod yX9_which ∈ gw := gw_at 747 (by decide +kernel) rfl
theorem sl_X9_which : Cond.selects RX9 yX9_which yX9_which ∈ gw := gw_at 748 (by decide +kernel) rfl
theorem cd_X9_which : Cond.code yX9_which cX9_which 3 (some .int) ∈ gw := gw_at 749 (by decide +kernel) rfl
theorem ml_RX9_273 : Cond.methodLink RX9 273 yX5_areTrue ∈ gw := gw_at 750 (by decide +kernel) rfl
theorem im_X5_areTrue : Cond.instanceMethod yX5_areTrue ∈ gw := gw_at 751 (by decide +kernel) rfl
theorem sl_X5_areTrue : Cond.selects RX5 yX5_areTrue yX5_areTrue ∈ gw := gw_at 752 (by decide +kernel) rfl
theorem cd_X5_areTrue : Cond.code yX5_areTrue cX5_areTrue 3 (some .boolean) ∈ gw := gw_at 753 (by decide +kernel) rfl
theorem ml_RL_109 : Cond.methodLink RL 109 yX9_share ∈ gw := gw_at 754 (by decide +kernel) rfl
theorem im_X9_share : Cond.instanceMethod yX9_share ∈ gw := gw_at 755 (by decide +kernel) rfl
theorem sl_X9_share : Cond.selects RX9 yX9_share yX9_share ∈ gw := gw_at 756 (by decide +kernel) rfl
theorem cd_X9_share : Cond.code yX9_share cX9_share 4 (some .int) ∈ gw := gw_at 757 (by decide +kernel) rfl
theorem ml_RX9_276 : Cond.methodLink RX9 276 yX0_armedCount ∈ gw := gw_at 758 (by decide +kernel) rfl
theorem im_X0_armedCount : Cond.instanceMethod yX0_armedCount ∈ gw := gw_at 759 (by decide +kernel) rfl
theorem sl_X0_armedCount : Cond.selects RX0 yX0_armedCount yX0_armedCount ∈ gw := gw_at 760 (by decide +kernel) rfl
theorem cd_X0_armedCount : Cond.code yX0_armedCount cX0_armedCount 1 (some .int) ∈ gw := gw_at 761 (by decide +kernel) rfl
theorem ml_RX0_36 : Cond.methodLink RX0 36 yX0_armedSet ∈ gw := gw_at 762 (by decide +kernel) rfl
theorem ml_RX0_40 : Cond.methodLink RX0 40 yJ6_bitCount_0f7a4 ∈ gw := gw_at 763 (by decide +kernel) rfl
theorem ml_RX9_279 : Cond.methodLink RX9 279 yX7_measure ∈ gw := gw_at 764 (by decide +kernel) rfl
theorem im_X7_measure : Cond.instanceMethod yX7_measure ∈ gw := gw_at 765 (by decide +kernel) rfl
theorem sl_X7_measure : Cond.selects RX7 yX7_measure yX7_measure ∈ gw := gw_at 766 (by decide +kernel) rfl
theorem cd_X7_measure : Cond.code yX7_measure cX7_measure 4 none ∈ gw := gw_at 767 (by decide +kernel) rfl
theorem ml_RX7_40 : Cond.methodLink RX7 40 yX7_list ∈ gw := gw_at 768 (by decide +kernel) rfl
theorem im_X7_list : Cond.instanceMethod yX7_list ∈ gw := gw_at 770 (by decide +kernel) rfl
theorem cd_X7_list : Cond.code yX7_list cX7_list 3 none ∈ gw := gw_at 771 (by decide +kernel) rfl
theorem ml_RX7_56 : Cond.methodLink RX7 56 yX0_isArmed ∈ gw := gw_at 772 (by decide +kernel) rfl
theorem ml_RX7_62 : Cond.methodLink RX7 62 yX0_property ∈ gw := gw_at 773 (by decide +kernel) rfl
theorem ml_RX7_44 : Cond.methodLink RX7 44 yX7_follow ∈ gw := gw_at 774 (by decide +kernel) rfl
theorem im_X7_follow : Cond.instanceMethod yX7_follow ∈ gw := gw_at 776 (by decide +kernel) rfl
theorem cd_X7_follow : Cond.code yX7_follow cX7_follow 5 none ∈ gw := gw_at 777 (by decide +kernel) rfl
theorem ml_RX7_67 : Cond.methodLink RX7 67 yX3_takeFrom ∈ gw := gw_at 778 (by decide +kernel) rfl
theorem ml_RX7_78 : Cond.methodLink RX7 78 yX3_step ∈ gw := gw_at 779 (by decide +kernel) rfl
theorem ml_RX7_82 : Cond.methodLink RX7 82 yX0_apply ∈ gw := gw_at 780 (by decide +kernel) rfl
theorem ml_RX7_89 : Cond.methodLink RX7 89 yX7_indexOf ∈ gw := gw_at 781 (by decide +kernel) rfl
theorem im_X7_indexOf : Cond.instanceMethod yX7_indexOf ∈ gw := gw_at 783 (by decide +kernel) rfl
theorem cd_X7_indexOf : Cond.code yX7_indexOf cX7_indexOf 3 (some .int) ∈ gw := gw_at 784 (by decide +kernel) rfl
theorem ml_RX7_52 : Cond.methodLink RX7 52 yX7_valueOf ∈ gw := gw_at 785 (by decide +kernel) rfl
theorem im_X7_valueOf : Cond.instanceMethod yX7_valueOf ∈ gw := gw_at 787 (by decide +kernel) rfl
theorem cd_X7_valueOf : Cond.code yX7_valueOf cX7_valueOf 6 (some .int) ∈ gw := gw_at 788 (by decide +kernel) rfl
theorem ml_RX7_92 : Cond.methodLink RX7 92 arraycopyName ∈ gw := gw_at 789 (by decide +kernel) rfl
theorem ml_RX9_284 : Cond.methodLink RX9 284 yX9_factorial ∈ gw := gw_at 790 (by decide +kernel) rfl
theorem st_X9_factorial : Cond.static yX9_factorial ∈ gw := gw_at 791 (by decide +kernel) rfl
theorem cd_X9_factorial : Cond.code yX9_factorial cX9_factorial 3 (some .int) ∈ gw := gw_at 792 (by decide +kernel) rfl
theorem ml_RX9_287 : Cond.methodLink RX9 287 yX7_weightedGain ∈ gw := gw_at 793 (by decide +kernel) rfl
theorem im_X7_weightedGain : Cond.instanceMethod yX7_weightedGain ∈ gw := gw_at 794 (by decide +kernel) rfl
theorem sl_X7_weightedGain : Cond.selects RX7 yX7_weightedGain yX7_weightedGain ∈ gw := gw_at 795 (by decide +kernel) rfl
theorem cd_X7_weightedGain : Cond.code yX7_weightedGain cX7_weightedGain 8 (some .int) ∈ gw := gw_at 796 (by decide +kernel) rfl
theorem ml_RX7_98 : Cond.methodLink RX7 98 yJ6_bitCount_0f7a4 ∈ gw := gw_at 797 (by decide +kernel) rfl
theorem ml_RX7_103 : Cond.methodLinkNest RX7 103 yX9_factorial "SideStep" ∈ lw_tbl := List.mem_append_right _ (List.mem_of_getElem? (i := 798) (by decide +kernel))
theorem ml_RX9_290 : Cond.methodLink RX9 290 yX9_partOf ∈ gw := gw_at 799 (by decide +kernel) rfl
theorem st_X9_partOf : Cond.static yX9_partOf ∈ gw := gw_at 800 (by decide +kernel) rfl
theorem cd_X9_partOf : Cond.code yX9_partOf cX9_partOf 4 (some .int) ∈ gw := gw_at 801 (by decide +kernel) rfl
theorem ml_RX9_311 : Cond.methodLink RX9 311 yJ9_abs_0f7a4 ∈ gw := gw_at 802 (by decide +kernel) rfl
theorem st_J9_abs_0f7a4 : Cond.static yJ9_abs_0f7a4 ∈ gw := gw_at 803 (by decide +kernel) rfl
theorem cd_J9_abs_0f7a4 : Cond.code yJ9_abs_0f7a4 cJ9_abs_0f7a4 1 (some .int) ∈ gw := gw_at 804 (by decide +kernel) rfl
theorem ml_RX9_316 : Cond.methodLink RX9 316 yX9_commonDivisor ∈ gw := gw_at 805 (by decide +kernel) rfl
theorem st_X9_commonDivisor : Cond.static yX9_commonDivisor ∈ gw := gw_at 806 (by decide +kernel) rfl
theorem cd_X9_commonDivisor : Cond.code yX9_commonDivisor cX9_commonDivisor 6 (some .int) ∈ gw := gw_at 807 (by decide +kernel) rfl
theorem ml_RL_114 : Cond.methodLink RL 114 yX9_chance ∈ gw := gw_at 808 (by decide +kernel) rfl
theorem im_X9_chance : Cond.instanceMethod yX9_chance ∈ gw := gw_at 809 (by decide +kernel) rfl
theorem sl_X9_chance : Cond.selects RX9 yX9_chance yX9_chance ∈ gw := gw_at 810 (by decide +kernel) rfl
theorem cd_X9_chance : Cond.code yX9_chance cX9_chance 5 (some .int) ∈ gw := gw_at 811 (by decide +kernel) rfl
theorem ml_RX9_294 : Cond.methodLink RX9 294 yX7_weightOfAtLeast ∈ gw := gw_at 812 (by decide +kernel) rfl
theorem im_X7_weightOfAtLeast : Cond.instanceMethod yX7_weightOfAtLeast ∈ gw := gw_at 813 (by decide +kernel) rfl
theorem sl_X7_weightOfAtLeast : Cond.selects RX7 yX7_weightOfAtLeast yX7_weightOfAtLeast ∈ gw := gw_at 814 (by decide +kernel) rfl
theorem cd_X7_weightOfAtLeast : Cond.code yX7_weightOfAtLeast cX7_weightOfAtLeast 7 (some .int) ∈ gw := gw_at 815 (by decide +kernel) rfl
theorem ml_RX7_106 : Cond.methodLinkNest RX7 106 yX9_power "SideStep" ∈ lw_tbl := List.mem_append_right _ (List.mem_of_getElem? (i := 816) (by decide +kernel))
theorem ml_RL_119 : Cond.methodLink RL 119 yX9_seed ∈ gw := gw_at 817 (by decide +kernel) rfl
theorem im_X9_seed : Cond.instanceMethod yX9_seed ∈ gw := gw_at 818 (by decide +kernel) rfl
theorem sl_X9_seed : Cond.selects RX9 yX9_seed yX9_seed ∈ gw := gw_at 819 (by decide +kernel) rfl
theorem cd_X9_seed : Cond.code yX9_seed cX9_seed 5 (some .long) ∈ gw := gw_at 820 (by decide +kernel) rfl
theorem ml_RL_124 : Cond.methodLink RL 124 yX9_drawn ∈ gw := gw_at 821 (by decide +kernel) rfl
theorem im_X9_drawn : Cond.instanceMethod yX9_drawn ∈ gw := gw_at 822 (by decide +kernel) rfl
theorem sl_X9_drawn : Cond.selects RX9 yX9_drawn yX9_drawn ∈ gw := gw_at 823 (by decide +kernel) rfl
theorem cd_X9_drawn : Cond.code yX9_drawn cX9_drawn 4 (some .int) ∈ gw := gw_at 824 (by decide +kernel) rfl
theorem ck_RX9_301 : Cond.constantLong RX9 301 6364136223846793005 ∈ gw := gw_at 825 (by decide +kernel) rfl
theorem ck_RX9_303 : Cond.constantLong RX9 303 1442695040888963407 ∈ gw := gw_at 826 (by decide +kernel) rfl
theorem ml_RX9_305 : Cond.methodLink RX9 305 yX3_scatter ∈ gw := gw_at 827 (by decide +kernel) rfl
theorem im_X3_scatter : Cond.instanceMethod yX3_scatter ∈ gw := gw_at 828 (by decide +kernel) rfl
theorem sl_X3_scatter : Cond.selects RX3 yX3_scatter yX3_scatter ∈ gw := gw_at 829 (by decide +kernel) rfl
theorem cd_X3_scatter : Cond.code yX3_scatter cX3_scatter 3 none ∈ gw := gw_at 830 (by decide +kernel) rfl
theorem ml_RL_128 : Cond.methodLink RL 128 yX9_keep ∈ gw := gw_at 831 (by decide +kernel) rfl
theorem im_X9_keep : Cond.instanceMethod yX9_keep ∈ gw := gw_at 832 (by decide +kernel) rfl
theorem sl_X9_keep : Cond.selects RX9 yX9_keep yX9_keep ∈ gw := gw_at 833 (by decide +kernel) rfl
theorem cd_X9_keep : Cond.code yX9_keep cX9_keep 2 (some .int) ∈ gw := gw_at 834 (by decide +kernel) rfl
theorem ml_RX9_308 : Cond.methodLink RX9 308 yX9_isSlot ∈ gw := gw_at 835 (by decide +kernel) rfl
theorem st_X9_isSlot : Cond.static yX9_isSlot ∈ gw := gw_at 836 (by decide +kernel) rfl
theorem cd_X9_isSlot : Cond.code yX9_isSlot cX9_isSlot 1 (some .boolean) ∈ gw := gw_at 837 (by decide +kernel) rfl
theorem ml_RL_132 : Cond.methodLink RL 132 yX9_again ∈ gw := gw_at 838 (by decide +kernel) rfl
theorem im_X9_again : Cond.instanceMethod yX9_again ∈ gw := gw_at 839 (by decide +kernel) rfl
theorem sl_X9_again : Cond.selects RX9 yX9_again yX9_again ∈ gw := gw_at 840 (by decide +kernel) rfl
theorem cd_X9_again : Cond.code yX9_again cX9_again 2 (some .int) ∈ gw := gw_at 841 (by decide +kernel) rfl
theorem cl_RL_10 : Cond.classLink RL 10 RX10 ∈ gw := gw_at 842 (by decide +kernel) rfl
theorem ib_RX10 : Cond.instantiable RX10 28 ∈ gw := gw_at 843 (by decide +kernel) rfl
theorem ml_RL_12 : Cond.methodLink RL 12 yX10_init ∈ gw := gw_at 844 (by decide +kernel) rfl
theorem im_X10_init : Cond.instanceMethod yX10_init ∈ gw := gw_at 845 (by decide +kernel) rfl
theorem cd_X10_init : Cond.code yX10_init cX10_init 1 none ∈ gw := gw_at 846 (by decide +kernel) rfl
theorem ml_RX10_1 : Cond.methodLink RX10 1 Lib.objectInit ∈ gw := gw_at 847 (by decide +kernel) rfl
theorem ml_RX10_66 : Cond.methodLink RX10 66 yX10_clear ∈ gw := gw_at 848 (by decide +kernel) rfl
theorem st_X10_clear : Cond.static yX10_clear ∈ gw := gw_at 849 (by decide +kernel) rfl
theorem cd_X10_clear : Cond.code yX10_clear cX10_clear 2 none ∈ gw := gw_at 850 (by decide +kernel) rfl
theorem fl_RX10_7 : Cond.fieldLink RX10 7 "SideStepModel" "text" "[I" ∈ gw := gw_at 851 (by decide +kernel) rfl
theorem fl_RX10_79 : Cond.fieldLink RX10 79 "SideStepModel" "length" "I" ∈ gw := gw_at 852 (by decide +kernel) rfl
theorem fl_RX10_70 : Cond.fieldLink RX10 70 "SideStepModel" "many" "I" ∈ gw := gw_at 853 (by decide +kernel) rfl
theorem fl_RX10_13 : Cond.fieldLink RX10 13 "SideStepModel" "kind" "[I" ∈ gw := gw_at 854 (by decide +kernel) rfl
theorem fl_RX10_16 : Cond.fieldLink RX10 16 "SideStepModel" "one" "[I" ∈ gw := gw_at 855 (by decide +kernel) rfl
theorem fl_RX10_19 : Cond.fieldLink RX10 19 "SideStepModel" "two" "[I" ∈ gw := gw_at 856 (by decide +kernel) rfl
theorem fl_RX10_22 : Cond.fieldLink RX10 22 "SideStepModel" "now" "[I" ∈ gw := gw_at 857 (by decide +kernel) rfl
theorem fl_RX10_25 : Cond.fieldLink RX10 25 "SideStepModel" "trial" "[I" ∈ gw := gw_at 858 (by decide +kernel) rfl
theorem fl_RX10_28 : Cond.fieldLink RX10 28 "SideStepModel" "diary" "[I" ∈ gw := gw_at 859 (by decide +kernel) rfl
theorem fl_RX10_132 : Cond.fieldLink RX10 132 "SideStepModel" "acts" "I" ∈ gw := gw_at 860 (by decide +kernel) rfl
theorem fl_RX10_198 : Cond.fieldLink RX10 198 "SideStepModel" "next" "I" ∈ gw := gw_at 861 (by decide +kernel) rfl
theorem fl_RX10_31 : Cond.fieldLink RX10 31 "SideStepModel" "kept" "[I" ∈ gw := gw_at 862 (by decide +kernel) rfl
theorem fl_RX10_34 : Cond.fieldLink RX10 34 "SideStepModel" "isKept" "[Z" ∈ gw := gw_at 863 (by decide +kernel) rfl
theorem fl_RX10_38 : Cond.fieldLink RX10 38 "SideStepModel" "seenMany" "[I" ∈ gw := gw_at 864 (by decide +kernel) rfl
theorem fl_RX10_41 : Cond.fieldLink RX10 41 "SideStepModel" "seenIs" "[I" ∈ gw := gw_at 865 (by decide +kernel) rfl
theorem fl_RX10_195 : Cond.fieldLink RX10 195 "SideStepModel" "seen" "I" ∈ gw := gw_at 866 (by decide +kernel) rfl
theorem fl_RX10_258 : Cond.fieldLink RX10 258 "SideStepModel" "seed" "J" ∈ gw := gw_at 867 (by decide +kernel) rfl
theorem fl_RX10_62 : Cond.fieldLink RX10 62 "SideStepModel" "idle" "I" ∈ gw := gw_at 868 (by decide +kernel) rfl
theorem fl_RX10_186 : Cond.fieldLink RX10 186 "SideStepModel" "steps" "I" ∈ gw := gw_at 869 (by decide +kernel) rfl
theorem fl_RX10_44 : Cond.fieldLink RX10 44 "SideStepModel" "cells" "[I" ∈ gw := gw_at 870 (by decide +kernel) rfl
theorem fl_RX10_47 : Cond.fieldLink RX10 47 "SideStepModel" "places" "[I" ∈ gw := gw_at 871 (by decide +kernel) rfl
theorem fl_RX10_50 : Cond.fieldLink RX10 50 "SideStepModel" "worth" "[I" ∈ gw := gw_at 872 (by decide +kernel) rfl
theorem fl_RX10_89 : Cond.fieldLink RX10 89 "SideStepModel" "part" "I" ∈ gw := gw_at 873 (by decide +kernel) rfl
theorem fl_RX10_86 : Cond.fieldLink RX10 86 "SideStepModel" "readMany" "I" ∈ gw := gw_at 874 (by decide +kernel) rfl
theorem fl_RX10_53 : Cond.fieldLink RX10 53 "SideStepModel" "readKind" "[I" ∈ gw := gw_at 875 (by decide +kernel) rfl
theorem fl_RX10_56 : Cond.fieldLink RX10 56 "SideStepModel" "readOne" "[I" ∈ gw := gw_at 876 (by decide +kernel) rfl
theorem fl_RX10_59 : Cond.fieldLink RX10 59 "SideStepModel" "readTwo" "[I" ∈ gw := gw_at 877 (by decide +kernel) rfl
theorem fl_RX10_92 : Cond.fieldLink RX10 92 "SideStepModel" "sign" "I" ∈ gw := gw_at 878 (by decide +kernel) rfl
theorem ml_RL_17 : Cond.methodLink RL 17 yX10_write ∈ gw := gw_at 936 (by decide +kernel) rfl
theorem im_X10_write : Cond.instanceMethod yX10_write ∈ gw := gw_at 937 (by decide +kernel) rfl
theorem sl_X10_write : Cond.selects RX10 yX10_write yX10_write ∈ gw := gw_at 938 (by decide +kernel) rfl
theorem cd_X10_write : Cond.code yX10_write cX10_write 2 (some .int) ∈ gw := gw_at 939 (by decide +kernel) rfl
theorem ck_RX10_77 : Cond.constantLong RX10 77 255 ∈ gw := gw_at 940 (by decide +kernel) rfl
theorem ml_RX10_73 : Cond.methodLink RX10 73 yX10_in ∈ gw := gw_at 941 (by decide +kernel) rfl
theorem st_X10_in : Cond.static yX10_in ∈ gw := gw_at 942 (by decide +kernel) rfl
theorem cd_X10_in : Cond.code yX10_in cX10_in 6 (some .boolean) ∈ gw := gw_at 943 (by decide +kernel) rfl
theorem ml_RL_22 : Cond.methodLink RL 22 yX10_wipe ∈ gw := gw_at 944 (by decide +kernel) rfl
theorem im_X10_wipe : Cond.instanceMethod yX10_wipe ∈ gw := gw_at 945 (by decide +kernel) rfl
theorem sl_X10_wipe : Cond.selects RX10 yX10_wipe yX10_wipe ∈ gw := gw_at 946 (by decide +kernel) rfl
theorem cd_X10_wipe : Cond.code yX10_wipe cX10_wipe 2 (some .int) ∈ gw := gw_at 947 (by decide +kernel) rfl
theorem ml_RL_26 : Cond.methodLink RL 26 yX10_fault ∈ gw := gw_at 948 (by decide +kernel) rfl
theorem im_X10_fault : Cond.instanceMethod yX10_fault ∈ gw := gw_at 949 (by decide +kernel) rfl
theorem sl_X10_fault : Cond.selects RX10 yX10_fault yX10_fault ∈ gw := gw_at 950 (by decide +kernel) rfl
theorem cd_X10_fault : Cond.code yX10_fault cX10_fault 1 (some .int) ∈ gw := gw_at 951 (by decide +kernel) rfl
theorem ml_RX10_128 : Cond.methodLink RX10 128 yX10_readText ∈ gw := gw_at 952 (by decide +kernel) rfl
theorem im_X10_readText : Cond.instanceMethod yX10_readText ∈ gw := gw_at 954 (by decide +kernel) rfl
theorem cd_X10_readText : Cond.code yX10_readText cX10_readText 2 (some .int) ∈ gw := gw_at 955 (by decide +kernel) rfl
theorem ml_RX10_122 : Cond.methodLink RX10 122 yX10_takeSign ∈ gw := gw_at 956 (by decide +kernel) rfl
theorem im_X10_takeSign : Cond.instanceMethod yX10_takeSign ∈ gw := gw_at 958 (by decide +kernel) rfl
theorem cd_X10_takeSign : Cond.code yX10_takeSign cX10_takeSign 3 (some .boolean) ∈ gw := gw_at 959 (by decide +kernel) rfl
theorem ml_RX10_82 : Cond.methodLink RX10 82 yX10_kindOf ∈ gw := gw_at 960 (by decide +kernel) rfl
theorem st_X10_kindOf : Cond.static yX10_kindOf ∈ gw := gw_at 961 (by decide +kernel) rfl
theorem cd_X10_kindOf : Cond.code yX10_kindOf cX10_kindOf 1 (some .int) ∈ gw := gw_at 962 (by decide +kernel) rfl
theorem ml_RX10_125 : Cond.methodLink RX10 125 yX10_takeOf ∈ gw := gw_at 963 (by decide +kernel) rfl
theorem im_X10_takeOf : Cond.instanceMethod yX10_takeOf ∈ gw := gw_at 965 (by decide +kernel) rfl
theorem cd_X10_takeOf : Cond.code yX10_takeOf cX10_takeOf 4 (some .boolean) ∈ gw := gw_at 966 (by decide +kernel) rfl
theorem ml_RX10_109 : Cond.methodLink RX10 109 yX10_takeFar ∈ gw := gw_at 967 (by decide +kernel) rfl
theorem im_X10_takeFar : Cond.instanceMethod yX10_takeFar ∈ gw := gw_at 969 (by decide +kernel) rfl
theorem cd_X10_takeFar : Cond.code yX10_takeFar cX10_takeFar 2 (some .boolean) ∈ gw := gw_at 970 (by decide +kernel) rfl
theorem ck_RX10_95 : Cond.constantLong RX10 95 48 ∈ gw := gw_at 971 (by decide +kernel) rfl
theorem ck_RX10_97 : Cond.constantLong RX10 97 57 ∈ gw := gw_at 972 (by decide +kernel) rfl
theorem ml_RX10_99 : Cond.methodLink RX10 99 yX10_ended ∈ gw := gw_at 973 (by decide +kernel) rfl
theorem im_X10_ended : Cond.instanceMethod yX10_ended ∈ gw := gw_at 975 (by decide +kernel) rfl
theorem cd_X10_ended : Cond.code yX10_ended cX10_ended 2 (some .boolean) ∈ gw := gw_at 976 (by decide +kernel) rfl
theorem ml_RX10_113 : Cond.methodLink RX10 113 yX10_takeCall ∈ gw := gw_at 977 (by decide +kernel) rfl
theorem im_X10_takeCall : Cond.instanceMethod yX10_takeCall ∈ gw := gw_at 979 (by decide +kernel) rfl
theorem cd_X10_takeCall : Cond.code yX10_takeCall cX10_takeCall 3 (some .boolean) ∈ gw := gw_at 980 (by decide +kernel) rfl
theorem ck_RX10_103 : Cond.constantLong RX10 103 9 ∈ gw := gw_at 981 (by decide +kernel) rfl
theorem ck_RX10_105 : Cond.constantLong RX10 105 5 ∈ gw := gw_at 982 (by decide +kernel) rfl
theorem ml_RX10_116 : Cond.methodLink RX10 116 yX10_takeFirst ∈ gw := gw_at 983 (by decide +kernel) rfl
theorem im_X10_takeFirst : Cond.instanceMethod yX10_takeFirst ∈ gw := gw_at 985 (by decide +kernel) rfl
theorem cd_X10_takeFirst : Cond.code yX10_takeFirst cX10_takeFirst 3 (some .boolean) ∈ gw := gw_at 986 (by decide +kernel) rfl
theorem ck_RX10_107 : Cond.constantLong RX10 107 3 ∈ gw := gw_at 987 (by decide +kernel) rfl
theorem ck_RX10_120 : Cond.constantLong RX10 120 7 ∈ gw := gw_at 988 (by decide +kernel) rfl
theorem ml_RL_30 : Cond.methodLink RL 30 yX10_code ∈ gw := gw_at 989 (by decide +kernel) rfl
theorem im_X10_code : Cond.instanceMethod yX10_code ∈ gw := gw_at 990 (by decide +kernel) rfl
theorem sl_X10_code : Cond.selects RX10 yX10_code yX10_code ∈ gw := gw_at 991 (by decide +kernel) rfl
theorem cd_X10_code : Cond.code yX10_code cX10_code 2 (some .int) ∈ gw := gw_at 992 (by decide +kernel) rfl
theorem ml_RL_34 : Cond.methodLink RL 34 yX10_about ∈ gw := gw_at 993 (by decide +kernel) rfl
theorem im_X10_about : Cond.instanceMethod yX10_about ∈ gw := gw_at 994 (by decide +kernel) rfl
theorem sl_X10_about : Cond.selects RX10 yX10_about yX10_about ∈ gw := gw_at 995 (by decide +kernel) rfl
theorem cd_X10_about : Cond.code yX10_about cX10_about 2 (some .int) ∈ gw := gw_at 996 (by decide +kernel) rfl
theorem ml_RX10_189 : Cond.methodLink RX10 189 yX10_counted ∈ gw := gw_at 997 (by decide +kernel) rfl
theorem im_X10_counted : Cond.instanceMethod yX10_counted ∈ gw := gw_at 999 (by decide +kernel) rfl
theorem cd_X10_counted : Cond.code yX10_counted cX10_counted 3 (some .int) ∈ gw := gw_at 1000 (by decide +kernel) rfl
theorem ml_RX10_192 : Cond.methodLink RX10 192 yX10_unlike ∈ gw := gw_at 1001 (by decide +kernel) rfl
theorem im_X10_unlike : Cond.instanceMethod yX10_unlike ∈ gw := gw_at 1003 (by decide +kernel) rfl
theorem cd_X10_unlike : Cond.code yX10_unlike cX10_unlike 3 (some .int) ∈ gw := gw_at 1004 (by decide +kernel) rfl
theorem ml_RX10_149 : Cond.methodLink RX10 149 yX10_leastAlike ∈ gw := gw_at 1005 (by decide +kernel) rfl
theorem im_X10_leastAlike : Cond.instanceMethod yX10_leastAlike ∈ gw := gw_at 1007 (by decide +kernel) rfl
theorem cd_X10_leastAlike : Cond.code yX10_leastAlike cX10_leastAlike 4 (some .int) ∈ gw := gw_at 1008 (by decide +kernel) rfl
theorem ml_RX10_146 : Cond.methodLink RX10 146 yX10_areAlike ∈ gw := gw_at 1009 (by decide +kernel) rfl
theorem im_X10_areAlike : Cond.instanceMethod yX10_areAlike ∈ gw := gw_at 1011 (by decide +kernel) rfl
theorem cd_X10_areAlike : Cond.code yX10_areAlike cX10_areAlike 3 (some .boolean) ∈ gw := gw_at 1012 (by decide +kernel) rfl
theorem ml_RL_38 : Cond.methodLink RL 38 yX10_register ∈ gw := gw_at 1013 (by decide +kernel) rfl
theorem im_X10_register : Cond.instanceMethod yX10_register ∈ gw := gw_at 1014 (by decide +kernel) rfl
theorem sl_X10_register : Cond.selects RX10 yX10_register yX10_register ∈ gw := gw_at 1015 (by decide +kernel) rfl
theorem cd_X10_register : Cond.code yX10_register cX10_register 2 (some .int) ∈ gw := gw_at 1016 (by decide +kernel) rfl
theorem ml_RL_42 : Cond.methodLink RL 42 yX10_cell ∈ gw := gw_at 1017 (by decide +kernel) rfl
theorem im_X10_cell : Cond.instanceMethod yX10_cell ∈ gw := gw_at 1018 (by decide +kernel) rfl
theorem sl_X10_cell : Cond.selects RX10 yX10_cell yX10_cell ∈ gw := gw_at 1019 (by decide +kernel) rfl
theorem cd_X10_cell : Cond.code yX10_cell cX10_cell 2 (some .int) ∈ gw := gw_at 1020 (by decide +kernel) rfl
theorem ml_RL_46 : Cond.methodLink RL 46 yX10_stack ∈ gw := gw_at 1021 (by decide +kernel) rfl
theorem im_X10_stack : Cond.instanceMethod yX10_stack ∈ gw := gw_at 1022 (by decide +kernel) rfl
theorem sl_X10_stack : Cond.selects RX10 yX10_stack yX10_stack ∈ gw := gw_at 1023 (by decide +kernel) rfl
theorem cd_X10_stack : Cond.code yX10_stack cX10_stack 2 (some .int) ∈ gw := gw_at 1024 (by decide +kernel) rfl
theorem ml_RL_51 : Cond.methodLink RL 51 yX10_broken ∈ gw := gw_at 1025 (by decide +kernel) rfl
theorem im_X10_broken : Cond.instanceMethod yX10_broken ∈ gw := gw_at 1026 (by decide +kernel) rfl
theorem sl_X10_broken : Cond.selects RX10 yX10_broken yX10_broken ∈ gw := gw_at 1027 (by decide +kernel) rfl
theorem cd_X10_broken : Cond.code yX10_broken cX10_broken 5 (some .int) ∈ gw := gw_at 1028 (by decide +kernel) rfl
theorem ml_RX10_135 : Cond.methodLink RX10 135 yX10_isPlace ∈ gw := gw_at 1029 (by decide +kernel) rfl
theorem im_X10_isPlace : Cond.instanceMethod yX10_isPlace ∈ gw := gw_at 1031 (by decide +kernel) rfl
theorem cd_X10_isPlace : Cond.code yX10_isPlace cX10_isPlace 2 (some .boolean) ∈ gw := gw_at 1032 (by decide +kernel) rfl
theorem ml_RL_55 : Cond.methodLink RL 55 yX10_copy ∈ gw := gw_at 1033 (by decide +kernel) rfl
theorem im_X10_copy : Cond.instanceMethod yX10_copy ∈ gw := gw_at 1034 (by decide +kernel) rfl
theorem sl_X10_copy : Cond.selects RX10 yX10_copy yX10_copy ∈ gw := gw_at 1035 (by decide +kernel) rfl
theorem cd_X10_copy : Cond.code yX10_copy cX10_copy 2 (some .int) ∈ gw := gw_at 1036 (by decide +kernel) rfl
theorem ml_RL_59 : Cond.methodLink RL 59 yX10_plan ∈ gw := gw_at 1037 (by decide +kernel) rfl
theorem im_X10_plan : Cond.instanceMethod yX10_plan ∈ gw := gw_at 1038 (by decide +kernel) rfl
theorem sl_X10_plan : Cond.selects RX10 yX10_plan yX10_plan ∈ gw := gw_at 1039 (by decide +kernel) rfl
theorem cd_X10_plan : Cond.code yX10_plan cX10_plan 2 (some .int) ∈ gw := gw_at 1040 (by decide +kernel) rfl
theorem ml_RX10_201 : Cond.methodLink RX10 201 yX10_note ∈ gw := gw_at 1041 (by decide +kernel) rfl
theorem im_X10_note : Cond.instanceMethod yX10_note ∈ gw := gw_at 1043 (by decide +kernel) rfl
theorem cd_X10_note : Cond.code yX10_note cX10_note 2 none ∈ gw := gw_at 1044 (by decide +kernel) rfl
theorem ml_RX10_204 : Cond.methodLink RX10 204 yX10_planOn ∈ gw := gw_at 1045 (by decide +kernel) rfl
theorem im_X10_planOn : Cond.instanceMethod yX10_planOn ∈ gw := gw_at 1047 (by decide +kernel) rfl
theorem cd_X10_planOn : Cond.code yX10_planOn cX10_planOn 6 (some .int) ∈ gw := gw_at 1048 (by decide +kernel) rfl
theorem ml_RX10_179 : Cond.methodLink RX10 179 yX10_step ∈ gw := gw_at 1049 (by decide +kernel) rfl
theorem im_X10_step : Cond.instanceMethod yX10_step ∈ gw := gw_at 1051 (by decide +kernel) rfl
theorem cd_X10_step : Cond.code yX10_step cX10_step 3 (some .boolean) ∈ gw := gw_at 1052 (by decide +kernel) rfl
theorem ml_RX10_152 : Cond.methodLink RX10 152 yX10_bareStep ∈ gw := gw_at 1053 (by decide +kernel) rfl
theorem im_X10_bareStep : Cond.instanceMethod yX10_bareStep ∈ gw := gw_at 1055 (by decide +kernel) rfl
theorem cd_X10_bareStep : Cond.code yX10_bareStep cX10_bareStep 3 (some .boolean) ∈ gw := gw_at 1056 (by decide +kernel) rfl
theorem ml_RX10_138 : Cond.methodLink RX10 138 yX10_doesFault ∈ gw := gw_at 1057 (by decide +kernel) rfl
theorem im_X10_doesFault : Cond.instanceMethod yX10_doesFault ∈ gw := gw_at 1059 (by decide +kernel) rfl
theorem cd_X10_doesFault : Cond.code yX10_doesFault cX10_doesFault 3 (some .boolean) ∈ gw := gw_at 1060 (by decide +kernel) rfl
theorem ml_RX10_142 : Cond.methodLink RX10 142 yX10_perform ∈ gw := gw_at 1061 (by decide +kernel) rfl
theorem im_X10_perform : Cond.instanceMethod yX10_perform ∈ gw := gw_at 1063 (by decide +kernel) rfl
theorem cd_X10_perform : Cond.code yX10_perform cX10_perform 6 (some .int) ∈ gw := gw_at 1064 (by decide +kernel) rfl
theorem ml_RX10_156 : Cond.methodLink RX10 156 yX10_keepCopy ∈ gw := gw_at 1065 (by decide +kernel) rfl
theorem im_X10_keepCopy : Cond.instanceMethod yX10_keepCopy ∈ gw := gw_at 1067 (by decide +kernel) rfl
theorem cd_X10_keepCopy : Cond.code yX10_keepCopy cX10_keepCopy 5 none ∈ gw := gw_at 1068 (by decide +kernel) rfl
theorem ml_RX10_160 : Cond.methodLink RX10 160 yX10_ones ∈ gw := gw_at 1069 (by decide +kernel) rfl
theorem st_X10_ones : Cond.static yX10_ones ∈ gw := gw_at 1070 (by decide +kernel) rfl
theorem cd_X10_ones : Cond.code yX10_ones cX10_ones 3 (some .int) ∈ gw := gw_at 1071 (by decide +kernel) rfl
theorem ml_RX10_182 : Cond.methodLink RX10 182 yX10_reason ∈ gw := gw_at 1072 (by decide +kernel) rfl
theorem im_X10_reason : Cond.instanceMethod yX10_reason ∈ gw := gw_at 1074 (by decide +kernel) rfl
theorem cd_X10_reason : Cond.code yX10_reason cX10_reason 5 (some .int) ∈ gw := gw_at 1075 (by decide +kernel) rfl
theorem ml_RX10_169 : Cond.methodLink RX10 169 yX10_isChanged ∈ gw := gw_at 1076 (by decide +kernel) rfl
theorem im_X10_isChanged : Cond.instanceMethod yX10_isChanged ∈ gw := gw_at 1078 (by decide +kernel) rfl
theorem cd_X10_isChanged : Cond.code yX10_isChanged cX10_isChanged 4 (some .boolean) ∈ gw := gw_at 1079 (by decide +kernel) rfl
theorem ml_RX10_163 : Cond.methodLink RX10 163 yX10_has ∈ gw := gw_at 1080 (by decide +kernel) rfl
theorem st_X10_has : Cond.static yX10_has ∈ gw := gw_at 1081 (by decide +kernel) rfl
theorem cd_X10_has : Cond.code yX10_has cX10_has 2 (some .boolean) ∈ gw := gw_at 1082 (by decide +kernel) rfl
theorem ml_RX10_172 : Cond.methodLink RX10 172 yX10_isStopped ∈ gw := gw_at 1083 (by decide +kernel) rfl
theorem im_X10_isStopped : Cond.instanceMethod yX10_isStopped ∈ gw := gw_at 1085 (by decide +kernel) rfl
theorem cd_X10_isStopped : Cond.code yX10_isStopped cX10_isStopped 3 (some .boolean) ∈ gw := gw_at 1086 (by decide +kernel) rfl
theorem ml_RX10_166 : Cond.methodLink RX10 166 yX10_applies ∈ gw := gw_at 1087 (by decide +kernel) rfl
theorem im_X10_applies : Cond.instanceMethod yX10_applies ∈ gw := gw_at 1089 (by decide +kernel) rfl
theorem cd_X10_applies : Cond.code yX10_applies cX10_applies 7 (some .boolean) ∈ gw := gw_at 1090 (by decide +kernel) rfl
theorem ml_RX10_175 : Cond.methodLink RX10 175 yX10_isThrough ∈ gw := gw_at 1091 (by decide +kernel) rfl
theorem st_X10_isThrough : Cond.static yX10_isThrough ∈ gw := gw_at 1092 (by decide +kernel) rfl
theorem cd_X10_isThrough : Cond.code yX10_isThrough cX10_isThrough 3 (some .boolean) ∈ gw := gw_at 1093 (by decide +kernel) rfl
theorem ml_RL_64 : Cond.methodLink RL 64 yX10_set ∈ gw := gw_at 1094 (by decide +kernel) rfl
theorem im_X10_set : Cond.instanceMethod yX10_set ∈ gw := gw_at 1095 (by decide +kernel) rfl
theorem sl_X10_set : Cond.selects RX10 yX10_set yX10_set ∈ gw := gw_at 1096 (by decide +kernel) rfl
theorem cd_X10_set : Cond.code yX10_set cX10_set 5 (some .int) ∈ gw := gw_at 1097 (by decide +kernel) rfl
theorem ck_RX10_208 : Cond.constantLong RX10 208 2 ∈ gw := gw_at 1098 (by decide +kernel) rfl
theorem ml_RX10_210 : Cond.methodLink RX10 210 yX10_tellAt ∈ gw := gw_at 1099 (by decide +kernel) rfl
theorem im_X10_tellAt : Cond.instanceMethod yX10_tellAt ∈ gw := gw_at 1101 (by decide +kernel) rfl
theorem cd_X10_tellAt : Cond.code yX10_tellAt cX10_tellAt 4 (some .int) ∈ gw := gw_at 1102 (by decide +kernel) rfl
theorem ml_RL_69 : Cond.methodLink RL 69 yX10_smash ∈ gw := gw_at 1103 (by decide +kernel) rfl
theorem im_X10_smash : Cond.instanceMethod yX10_smash ∈ gw := gw_at 1104 (by decide +kernel) rfl
theorem sl_X10_smash : Cond.selects RX10 yX10_smash yX10_smash ∈ gw := gw_at 1105 (by decide +kernel) rfl
theorem cd_X10_smash : Cond.code yX10_smash cX10_smash 7 (some .int) ∈ gw := gw_at 1106 (by decide +kernel) rfl
theorem ml_RX10_214 : Cond.methodLink RX10 214 yX10_breakOn ∈ gw := gw_at 1107 (by decide +kernel) rfl
theorem st_X10_breakOn : Cond.static yX10_breakOn ∈ gw := gw_at 1108 (by decide +kernel) rfl
theorem cd_X10_breakOn : Cond.code yX10_breakOn cX10_breakOn 6 none ∈ gw := gw_at 1109 (by decide +kernel) rfl
theorem ml_RL_73 : Cond.methodLink RL 73 yX10_lift ∈ gw := gw_at 1110 (by decide +kernel) rfl
theorem im_X10_lift : Cond.instanceMethod yX10_lift ∈ gw := gw_at 1111 (by decide +kernel) rfl
theorem sl_X10_lift : Cond.selects RX10 yX10_lift yX10_lift ∈ gw := gw_at 1112 (by decide +kernel) rfl
theorem cd_X10_lift : Cond.code yX10_lift cX10_lift 2 (some .int) ∈ gw := gw_at 1113 (by decide +kernel) rfl
theorem ml_RL_77 : Cond.methodLink RL 77 yX10_watch ∈ gw := gw_at 1114 (by decide +kernel) rfl
theorem im_X10_watch : Cond.instanceMethod yX10_watch ∈ gw := gw_at 1115 (by decide +kernel) rfl
theorem sl_X10_watch : Cond.selects RX10 yX10_watch yX10_watch ∈ gw := gw_at 1116 (by decide +kernel) rfl
theorem cd_X10_watch : Cond.code yX10_watch cX10_watch 2 (some .int) ∈ gw := gw_at 1117 (by decide +kernel) rfl
theorem ml_RL_81 : Cond.methodLink RL 81 yX10_undo ∈ gw := gw_at 1118 (by decide +kernel) rfl
theorem im_X10_undo : Cond.instanceMethod yX10_undo ∈ gw := gw_at 1119 (by decide +kernel) rfl
theorem sl_X10_undo : Cond.selects RX10 yX10_undo yX10_undo ∈ gw := gw_at 1120 (by decide +kernel) rfl
theorem cd_X10_undo : Cond.code yX10_undo cX10_undo 2 (some .int) ∈ gw := gw_at 1121 (by decide +kernel) rfl
theorem ml_RL_85 : Cond.methodLink RL 85 yX10_aside ∈ gw := gw_at 1122 (by decide +kernel) rfl
theorem im_X10_aside : Cond.instanceMethod yX10_aside ∈ gw := gw_at 1123 (by decide +kernel) rfl
theorem sl_X10_aside : Cond.selects RX10 yX10_aside yX10_aside ∈ gw := gw_at 1124 (by decide +kernel) rfl
theorem cd_X10_aside : Cond.code yX10_aside cX10_aside 5 (some .int) ∈ gw := gw_at 1125 (by decide +kernel) rfl
theorem ml_RX10_218 : Cond.methodLink RX10 218 yX10_copyRow ∈ gw := gw_at 1126 (by decide +kernel) rfl
theorem st_X10_copyRow : Cond.static yX10_copyRow ∈ gw := gw_at 1127 (by decide +kernel) rfl
theorem cd_X10_copyRow : Cond.code yX10_copyRow cX10_copyRow 3 none ∈ gw := gw_at 1128 (by decide +kernel) rfl
theorem ml_RL_89 : Cond.methodLink RL 89 yX10_free ∈ gw := gw_at 1129 (by decide +kernel) rfl
theorem im_X10_free : Cond.instanceMethod yX10_free ∈ gw := gw_at 1130 (by decide +kernel) rfl
theorem sl_X10_free : Cond.selects RX10 yX10_free yX10_free ∈ gw := gw_at 1131 (by decide +kernel) rfl
theorem cd_X10_free : Cond.code yX10_free cX10_free 3 (some .int) ∈ gw := gw_at 1132 (by decide +kernel) rfl
theorem ml_RX10_222 : Cond.methodLink RX10 222 yX10_freeOn ∈ gw := gw_at 1133 (by decide +kernel) rfl
theorem im_X10_freeOn : Cond.instanceMethod yX10_freeOn ∈ gw := gw_at 1135 (by decide +kernel) rfl
theorem cd_X10_freeOn : Cond.code yX10_freeOn cX10_freeOn 1 (some .int) ∈ gw := gw_at 1136 (by decide +kernel) rfl
theorem ml_RL_96 : Cond.methodLink RL 96 yX10_judge ∈ gw := gw_at 1137 (by decide +kernel) rfl
theorem im_X10_judge : Cond.instanceMethod yX10_judge ∈ gw := gw_at 1138 (by decide +kernel) rfl
theorem sl_X10_judge : Cond.selects RX10 yX10_judge yX10_judge ∈ gw := gw_at 1139 (by decide +kernel) rfl
theorem cd_X10_judge : Cond.code yX10_judge cX10_judge 6 (some .int) ∈ gw := gw_at 1140 (by decide +kernel) rfl
theorem ck_RX10_227 : Cond.constantLong RX10 227 4 ∈ gw := gw_at 1141 (by decide +kernel) rfl
theorem ml_RX10_229 : Cond.methodLink RX10 229 yX10_thousands ∈ gw := gw_at 1142 (by decide +kernel) rfl
theorem st_X10_thousands : Cond.static yX10_thousands ∈ gw := gw_at 1143 (by decide +kernel) rfl
theorem cd_X10_thousands : Cond.code yX10_thousands cX10_thousands 4 (some .long) ∈ gw := gw_at 1144 (by decide +kernel) rfl
theorem ck_RX10_225 : Cond.constantLong RX10 225 1000 ∈ gw := gw_at 1145 (by decide +kernel) rfl
theorem ml_RX10_233 : Cond.methodLink RX10 233 yX10_judged ∈ gw := gw_at 1146 (by decide +kernel) rfl
theorem im_X10_judged : Cond.instanceMethod yX10_judged ∈ gw := gw_at 1148 (by decide +kernel) rfl
theorem cd_X10_judged : Cond.code yX10_judged cX10_judged 5 (some .boolean) ∈ gw := gw_at 1149 (by decide +kernel) rfl
theorem ml_RL_100 : Cond.methodLink RL 100 yX10_see ∈ gw := gw_at 1150 (by decide +kernel) rfl
theorem im_X10_see : Cond.instanceMethod yX10_see ∈ gw := gw_at 1151 (by decide +kernel) rfl
theorem sl_X10_see : Cond.selects RX10 yX10_see yX10_see ∈ gw := gw_at 1152 (by decide +kernel) rfl
theorem cd_X10_see : Cond.code yX10_see cX10_see 3 (some .int) ∈ gw := gw_at 1153 (by decide +kernel) rfl
theorem ck_RX10_236 : Cond.constantLong RX10 236 99 ∈ gw := gw_at 1154 (by decide +kernel) rfl
theorem ml_RL_104 : Cond.methodLink RL 104 yX10_unsee ∈ gw := gw_at 1155 (by decide +kernel) rfl
theorem im_X10_unsee : Cond.instanceMethod yX10_unsee ∈ gw := gw_at 1156 (by decide +kernel) rfl
theorem sl_X10_unsee : Cond.selects RX10 yX10_unsee yX10_unsee ∈ gw := gw_at 1157 (by decide +kernel) rfl
theorem cd_X10_unsee : Cond.code yX10_unsee cX10_unsee 2 (some .int) ∈ gw := gw_at 1158 (by decide +kernel) rfl
theorem ml_RL_108 : Cond.methodLink RL 108 yX10_which ∈ gw := gw_at 1159 (by decide +kernel) rfl
theorem im_X10_which : Cond.instanceMethod yX10_which ∈ gw := gw_at 1160 (by decide +kernel) rfl
theorem sl_X10_which : Cond.selects RX10 yX10_which yX10_which ∈ gw := gw_at 1161 (by decide +kernel) rfl
theorem cd_X10_which : Cond.code yX10_which cX10_which 6 (some .int) ∈ gw := gw_at 1162 (by decide +kernel) rfl
theorem ml_RL_113 : Cond.methodLink RL 113 yX10_share ∈ gw := gw_at 1163 (by decide +kernel) rfl
theorem im_X10_share : Cond.instanceMethod yX10_share ∈ gw := gw_at 1164 (by decide +kernel) rfl
theorem sl_X10_share : Cond.selects RX10 yX10_share yX10_share ∈ gw := gw_at 1165 (by decide +kernel) rfl
theorem cd_X10_share : Cond.code yX10_share cX10_share 8 (some .int) ∈ gw := gw_at 1166 (by decide +kernel) rfl
theorem ml_RX10_238 : Cond.methodLink RX10 238 yX10_layPlaces ∈ gw := gw_at 1167 (by decide +kernel) rfl
theorem im_X10_layPlaces : Cond.instanceMethod yX10_layPlaces ∈ gw := gw_at 1169 (by decide +kernel) rfl
theorem cd_X10_layPlaces : Cond.code yX10_layPlaces cX10_layPlaces 3 (some .int) ∈ gw := gw_at 1170 (by decide +kernel) rfl
theorem ml_RX10_241 : Cond.methodLink RX10 241 yX10_stopsBy ∈ gw := gw_at 1171 (by decide +kernel) rfl
theorem im_X10_stopsBy : Cond.instanceMethod yX10_stopsBy ∈ gw := gw_at 1173 (by decide +kernel) rfl
theorem cd_X10_stopsBy : Cond.code yX10_stopsBy cX10_stopsBy 4 (some .int) ∈ gw := gw_at 1174 (by decide +kernel) rfl
theorem ml_RX10_244 : Cond.methodLink RX10 244 yX10_factorial ∈ gw := gw_at 1175 (by decide +kernel) rfl
theorem st_X10_factorial : Cond.static yX10_factorial ∈ gw := gw_at 1176 (by decide +kernel) rfl
theorem cd_X10_factorial : Cond.code yX10_factorial cX10_factorial 3 (some .int) ∈ gw := gw_at 1177 (by decide +kernel) rfl
theorem ml_RX10_247 : Cond.methodLink RX10 247 yX10_fraction ∈ gw := gw_at 1178 (by decide +kernel) rfl
theorem st_X10_fraction : Cond.static yX10_fraction ∈ gw := gw_at 1179 (by decide +kernel) rfl
theorem cd_X10_fraction : Cond.code yX10_fraction cX10_fraction 6 (some .int) ∈ gw := gw_at 1180 (by decide +kernel) rfl
theorem ml_RL_118 : Cond.methodLink RL 118 yX10_chance ∈ gw := gw_at 1181 (by decide +kernel) rfl
theorem im_X10_chance : Cond.instanceMethod yX10_chance ∈ gw := gw_at 1182 (by decide +kernel) rfl
theorem sl_X10_chance : Cond.selects RX10 yX10_chance yX10_chance ∈ gw := gw_at 1183 (by decide +kernel) rfl
theorem cd_X10_chance : Cond.code yX10_chance cX10_chance 7 (some .int) ∈ gw := gw_at 1184 (by decide +kernel) rfl
theorem ck_RX10_251 : Cond.constantLong RX10 251 20 ∈ gw := gw_at 1185 (by decide +kernel) rfl
theorem ck_RX10_253 : Cond.constantLong RX10 253 10 ∈ gw := gw_at 1186 (by decide +kernel) rfl
theorem ml_RX10_255 : Cond.methodLink RX10 255 yX10_power ∈ gw := gw_at 1187 (by decide +kernel) rfl
theorem st_X10_power : Cond.static yX10_power ∈ gw := gw_at 1188 (by decide +kernel) rfl
theorem cd_X10_power : Cond.code yX10_power cX10_power 4 (some .int) ∈ gw := gw_at 1189 (by decide +kernel) rfl
theorem ml_RL_123 : Cond.methodLink RL 123 yX10_seed ∈ gw := gw_at 1190 (by decide +kernel) rfl
theorem im_X10_seed : Cond.instanceMethod yX10_seed ∈ gw := gw_at 1191 (by decide +kernel) rfl
theorem sl_X10_seed : Cond.selects RX10 yX10_seed yX10_seed ∈ gw := gw_at 1192 (by decide +kernel) rfl
theorem cd_X10_seed : Cond.code yX10_seed cX10_seed 5 (some .long) ∈ gw := gw_at 1193 (by decide +kernel) rfl
theorem ml_RL_127 : Cond.methodLink RL 127 yX10_drawn ∈ gw := gw_at 1194 (by decide +kernel) rfl
theorem im_X10_drawn : Cond.instanceMethod yX10_drawn ∈ gw := gw_at 1195 (by decide +kernel) rfl
theorem sl_X10_drawn : Cond.selects RX10 yX10_drawn yX10_drawn ∈ gw := gw_at 1196 (by decide +kernel) rfl
theorem cd_X10_drawn : Cond.code yX10_drawn cX10_drawn 6 (some .int) ∈ gw := gw_at 1197 (by decide +kernel) rfl
theorem ck_RX10_262 : Cond.constantLong RX10 262 6364136223846793005 ∈ gw := gw_at 1198 (by decide +kernel) rfl
theorem ck_RX10_264 : Cond.constantLong RX10 264 1442695040888963407 ∈ gw := gw_at 1199 (by decide +kernel) rfl
theorem ml_RL_131 : Cond.methodLink RL 131 yX10_keep ∈ gw := gw_at 1200 (by decide +kernel) rfl
theorem im_X10_keep : Cond.instanceMethod yX10_keep ∈ gw := gw_at 1201 (by decide +kernel) rfl
theorem sl_X10_keep : Cond.selects RX10 yX10_keep yX10_keep ∈ gw := gw_at 1202 (by decide +kernel) rfl
theorem cd_X10_keep : Cond.code yX10_keep cX10_keep 3 (some .int) ∈ gw := gw_at 1203 (by decide +kernel) rfl
theorem ml_RL_135 : Cond.methodLink RL 135 yX10_again ∈ gw := gw_at 1204 (by decide +kernel) rfl
theorem im_X10_again : Cond.instanceMethod yX10_again ∈ gw := gw_at 1205 (by decide +kernel) rfl
theorem sl_X10_again : Cond.selects RX10 yX10_again yX10_again ∈ gw := gw_at 1206 (by decide +kernel) rfl
theorem cd_X10_again : Cond.code yX10_again cX10_again 3 (some .int) ∈ gw := gw_at 1207 (by decide +kernel) rfl
theorem ck_RL_90 : Cond.constantLong RL 90 4294967295 ∈ gw := gw_at 1208 (by decide +kernel) rfl
theorem fl_RJ0_15 : Cond.fieldLink RJ0 15 "java/lang/String" "coder" "B" ∈ gw := gw_at 1209 (by decide +kernel) rfl
theorem fl_RJ0_9 : Cond.fieldLink RJ0 9 "java/lang/String" "value" "[B" ∈ gw := gw_at 1210 (by decide +kernel) rfl
theorem sl_X0_disarm : Cond.selects RX0 yX0_disarm yX0_disarm ∈ gw := gw_sel 0 (by decide +kernel) rfl
theorem sl_X8_endOfMatch : Cond.selects RX8 yX8_endOfMatch yX8_endOfMatch ∈ gw := gw_sel 1 (by decide +kernel) rfl
theorem sl_X8_fits : Cond.selects RX8 yX8_fits yX8_fits ∈ gw := gw_sel 2 (by decide +kernel) rfl
theorem sl_X8_addInstruction : Cond.selects RX8 yX8_addInstruction yX8_addInstruction ∈ gw := gw_sel 3 (by decide +kernel) rfl
theorem sl_X8_distance : Cond.selects RX8 yX8_distance yX8_distance ∈ gw := gw_sel 4 (by decide +kernel) rfl
theorem sl_X8_digit : Cond.selects RX8 yX8_digit yX8_digit ∈ gw := gw_sel 5 (by decide +kernel) rfl
theorem sl_X4_modelOf : Cond.selects RX4 yX4_modelOf yX4_modelOf ∈ gw := gw_sel 6 (by decide +kernel) rfl
theorem sl_X9_emptySlots : Cond.selects RX9 yX9_emptySlots yX9_emptySlots ∈ gw := gw_sel 7 (by decide +kernel) rfl
theorem sl_X6_reasonAfterStep : Cond.selects RX6 yX6_reasonAfterStep yX6_reasonAfterStep ∈ gw := gw_sel 8 (by decide +kernel) rfl
theorem sl_X3_putOut : Cond.selects RX3 yX3_putOut yX3_putOut ∈ gw := gw_sel 9 (by decide +kernel) rfl
theorem sl_X6_charge : Cond.selects RX6 yX6_charge yX6_charge ∈ gw := gw_sel 10 (by decide +kernel) rfl
theorem sl_X6_keepCopy : Cond.selects RX6 yX6_keepCopy yX6_keepCopy ∈ gw := gw_sel 11 (by decide +kernel) rfl
theorem sl_X6_isDone : Cond.selects RX6 yX6_isDone yX6_isDone ∈ gw := gw_sel 12 (by decide +kernel) rfl
theorem sl_X9_exchange : Cond.selects RX9 yX9_exchange yX9_exchange ∈ gw := gw_sel 13 (by decide +kernel) rfl
theorem sl_X9_moveCounter : Cond.selects RX9 yX9_moveCounter yX9_moveCounter ∈ gw := gw_sel 14 (by decide +kernel) rfl
theorem sl_X9_followsAside : Cond.selects RX9 yX9_followsAside yX9_followsAside ∈ gw := gw_sel 15 (by decide +kernel) rfl
theorem sl_X9_holds : Cond.selects RX9 yX9_holds yX9_holds ∈ gw := gw_sel 16 (by decide +kernel) rfl
theorem sl_X9_takesBreak : Cond.selects RX9 yX9_takesBreak yX9_takesBreak ∈ gw := gw_sel 17 (by decide +kernel) rfl
theorem sl_X7_list : Cond.selects RX7 yX7_list yX7_list ∈ gw := gw_sel 18 (by decide +kernel) rfl
theorem sl_X7_follow : Cond.selects RX7 yX7_follow yX7_follow ∈ gw := gw_sel 19 (by decide +kernel) rfl
theorem sl_X7_indexOf : Cond.selects RX7 yX7_indexOf yX7_indexOf ∈ gw := gw_sel 20 (by decide +kernel) rfl
theorem sl_X7_valueOf : Cond.selects RX7 yX7_valueOf yX7_valueOf ∈ gw := gw_sel 21 (by decide +kernel) rfl
theorem sl_X10_readText : Cond.selects RX10 yX10_readText yX10_readText ∈ gw := gw_sel 22 (by decide +kernel) rfl
theorem sl_X10_takeSign : Cond.selects RX10 yX10_takeSign yX10_takeSign ∈ gw := gw_sel 23 (by decide +kernel) rfl
theorem sl_X10_takeOf : Cond.selects RX10 yX10_takeOf yX10_takeOf ∈ gw := gw_sel 24 (by decide +kernel) rfl
theorem sl_X10_takeFar : Cond.selects RX10 yX10_takeFar yX10_takeFar ∈ gw := gw_sel 25 (by decide +kernel) rfl
theorem sl_X10_ended : Cond.selects RX10 yX10_ended yX10_ended ∈ gw := gw_sel 26 (by decide +kernel) rfl
theorem sl_X10_takeCall : Cond.selects RX10 yX10_takeCall yX10_takeCall ∈ gw := gw_sel 27 (by decide +kernel) rfl
theorem sl_X10_takeFirst : Cond.selects RX10 yX10_takeFirst yX10_takeFirst ∈ gw := gw_sel 28 (by decide +kernel) rfl
theorem sl_X10_counted : Cond.selects RX10 yX10_counted yX10_counted ∈ gw := gw_sel 29 (by decide +kernel) rfl
theorem sl_X10_unlike : Cond.selects RX10 yX10_unlike yX10_unlike ∈ gw := gw_sel 30 (by decide +kernel) rfl
theorem sl_X10_leastAlike : Cond.selects RX10 yX10_leastAlike yX10_leastAlike ∈ gw := gw_sel 31 (by decide +kernel) rfl
theorem sl_X10_areAlike : Cond.selects RX10 yX10_areAlike yX10_areAlike ∈ gw := gw_sel 32 (by decide +kernel) rfl
theorem sl_X10_isPlace : Cond.selects RX10 yX10_isPlace yX10_isPlace ∈ gw := gw_sel 33 (by decide +kernel) rfl
theorem sl_X10_note : Cond.selects RX10 yX10_note yX10_note ∈ gw := gw_sel 34 (by decide +kernel) rfl
theorem sl_X10_planOn : Cond.selects RX10 yX10_planOn yX10_planOn ∈ gw := gw_sel 35 (by decide +kernel) rfl
theorem sl_X10_step : Cond.selects RX10 yX10_step yX10_step ∈ gw := gw_sel 36 (by decide +kernel) rfl
theorem sl_X10_bareStep : Cond.selects RX10 yX10_bareStep yX10_bareStep ∈ gw := gw_sel 37 (by decide +kernel) rfl
theorem sl_X10_doesFault : Cond.selects RX10 yX10_doesFault yX10_doesFault ∈ gw := gw_sel 38 (by decide +kernel) rfl
theorem sl_X10_perform : Cond.selects RX10 yX10_perform yX10_perform ∈ gw := gw_sel 39 (by decide +kernel) rfl
theorem sl_X10_keepCopy : Cond.selects RX10 yX10_keepCopy yX10_keepCopy ∈ gw := gw_sel 40 (by decide +kernel) rfl
theorem sl_X10_reason : Cond.selects RX10 yX10_reason yX10_reason ∈ gw := gw_sel 41 (by decide +kernel) rfl
theorem sl_X10_isChanged : Cond.selects RX10 yX10_isChanged yX10_isChanged ∈ gw := gw_sel 42 (by decide +kernel) rfl
theorem sl_X10_isStopped : Cond.selects RX10 yX10_isStopped yX10_isStopped ∈ gw := gw_sel 43 (by decide +kernel) rfl
theorem sl_X10_applies : Cond.selects RX10 yX10_applies yX10_applies ∈ gw := gw_sel 44 (by decide +kernel) rfl
theorem sl_X10_tellAt : Cond.selects RX10 yX10_tellAt yX10_tellAt ∈ gw := gw_sel 45 (by decide +kernel) rfl
theorem sl_X10_freeOn : Cond.selects RX10 yX10_freeOn yX10_freeOn ∈ gw := gw_sel 46 (by decide +kernel) rfl
theorem sl_X10_judged : Cond.selects RX10 yX10_judged yX10_judged ∈ gw := gw_sel 47 (by decide +kernel) rfl
theorem sl_X10_layPlaces : Cond.selects RX10 yX10_layPlaces yX10_layPlaces ∈ gw := gw_sel 48 (by decide +kernel) rfl
theorem sl_X10_stopsBy : Cond.selects RX10 yX10_stopsBy yX10_stopsBy ∈ gw := gw_sel 49 (by decide +kernel) rfl
theorem uw_X0 : ∀ w ∈ u_ws RX0 TX0 1, w ∈ gw := fun w h => gw_in ((show ∀ w ∈ u_ws RX0 TX0 1, w ∈ lw_tbl by decide +kernel) w h) (List.all_eq_true.mp (show (u_ws RX0 TX0 1).all goodWord = true by decide +kernel) w h)
theorem uw_X1 : ∀ w ∈ u_ws RX1 TX1 3, w ∈ gw := fun w h => gw_in ((show ∀ w ∈ u_ws RX1 TX1 3, w ∈ lw_tbl by decide +kernel) w h) (List.all_eq_true.mp (show (u_ws RX1 TX1 3).all goodWord = true by decide +kernel) w h)
theorem uw_X2 : ∀ w ∈ u_ws RX2 TX2 3, w ∈ gw := fun w h => gw_in ((show ∀ w ∈ u_ws RX2 TX2 3, w ∈ lw_tbl by decide +kernel) w h) (List.all_eq_true.mp (show (u_ws RX2 TX2 3).all goodWord = true by decide +kernel) w h)
theorem uw_X3 : ∀ w ∈ u_ws RX3 TX3 8, w ∈ gw := fun w h => gw_in ((show ∀ w ∈ u_ws RX3 TX3 8, w ∈ lw_tbl by decide +kernel) w h) (List.all_eq_true.mp (show (u_ws RX3 TX3 8).all goodWord = true by decide +kernel) w h)
theorem uw_X4 : ∀ w ∈ u_ws RX4 TX4 5, w ∈ gw := fun w h => gw_in ((show ∀ w ∈ u_ws RX4 TX4 5, w ∈ lw_tbl by decide +kernel) w h) (List.all_eq_true.mp (show (u_ws RX4 TX4 5).all goodWord = true by decide +kernel) w h)
theorem uw_X5 : ∀ w ∈ u_ws RX5 TX5 3, w ∈ gw := fun w h => gw_in ((show ∀ w ∈ u_ws RX5 TX5 3, w ∈ lw_tbl by decide +kernel) w h) (List.all_eq_true.mp (show (u_ws RX5 TX5 3).all goodWord = true by decide +kernel) w h)
theorem uw_X6 : ∀ w ∈ u_ws RX6 TX6 7, w ∈ gw := fun w h => gw_in ((show ∀ w ∈ u_ws RX6 TX6 7, w ∈ lw_tbl by decide +kernel) w h) (List.all_eq_true.mp (show (u_ws RX6 TX6 7).all goodWord = true by decide +kernel) w h)
theorem uw_X7 : ∀ w ∈ u_ws RX7 TX7 8, w ∈ gw := fun w h => gw_in ((show ∀ w ∈ u_ws RX7 TX7 8, w ∈ lw_tbl by decide +kernel) w h) (List.all_eq_true.mp (show (u_ws RX7 TX7 8).all goodWord = true by decide +kernel) w h)
theorem uw_X8 : ∀ w ∈ u_ws RX8 TX8 2, w ∈ gw := fun w h => gw_in ((show ∀ w ∈ u_ws RX8 TX8 2, w ∈ lw_tbl by decide +kernel) w h) (List.all_eq_true.mp (show (u_ws RX8 TX8 2).all goodWord = true by decide +kernel) w h)
theorem uw_X9 : ∀ w ∈ u_ws RX9 TX9 12, w ∈ gw := fun w h => gw_in ((show ∀ w ∈ u_ws RX9 TX9 12, w ∈ lw_tbl by decide +kernel) w h) (List.all_eq_true.mp (show (u_ws RX9 TX9 12).all goodWord = true by decide +kernel) w h)
theorem uw_X10 : ∀ w ∈ u_ws RX10 TX10 28, w ∈ gw := fun w h => gw_in ((show ∀ w ∈ u_ws RX10 TX10 28, w ∈ lw_tbl by decide +kernel) w h) (List.all_eq_true.mp (show (u_ws RX10 TX10 28).all goodWord = true by decide +kernel) w h)
theorem sv_w5 {a b c d e : Cond} (h1 : a ∈ gw) (h2 : b ∈ gw) (h3 : c ∈ gw) (h4 : d ∈ gw) (h5 : e ∈ gw) : ∀ w ∈ [a, b, c, d, e], w ∈ gw := List.forall_mem_cons.mpr ⟨h1, List.forall_mem_cons.mpr ⟨h2, List.forall_mem_cons.mpr ⟨h3, List.forall_mem_cons.mpr ⟨h4, List.forall_mem_cons.mpr ⟨h5, fun _ h => absurd h List.not_mem_nil⟩⟩⟩⟩⟩
theorem sv_w4 {a b c d : Cond} (h1 : a ∈ gw) (h2 : b ∈ gw) (h3 : c ∈ gw) (h4 : d ∈ gw) : ∀ w ∈ [a, b, c, d], w ∈ gw := List.forall_mem_cons.mpr ⟨h1, List.forall_mem_cons.mpr ⟨h2, List.forall_mem_cons.mpr ⟨h3, List.forall_mem_cons.mpr ⟨h4, fun _ h => absurd h List.not_mem_nil⟩⟩⟩⟩
theorem sv_w3 {a b c : Cond} (h1 : a ∈ gw) (h2 : b ∈ gw) (h3 : c ∈ gw) : ∀ w ∈ [a, b, c], w ∈ gw := List.forall_mem_cons.mpr ⟨h1, List.forall_mem_cons.mpr ⟨h2, List.forall_mem_cons.mpr ⟨h3, fun _ h => absurd h List.not_mem_nil⟩⟩⟩
end
section
/-- the kind of each of our 197 cells: 0 to 10 an object of that class (vwCl), 11 a row of ints, 12 of booleans (with its length), 13 the ring, 14 the slots -/
def shL : List (Nat × Nat) := [(9, 0), (8, 0), (11, 80), (4, 0), (11, 16), (11, 16), (11, 16), (11, 16), (4, 0), (11, 16), (11, 16), (11, 16), (11, 16), (6, 0), (3, 0), (11, 4), (11, 8), (11, 8), (0, 0), (11, 96), (11, 3), (6, 0), (3, 0), (11, 4), (11, 8), (11, 8), (0, 0), (11, 96), (11, 3), (2, 0), (13, 14), (6, 0), (3, 0), (11, 4), (11, 8), (11, 8), (0, 0), (11, 96), (11, 3), (6, 0), (3, 0), (11, 4), (11, 8), (11, 8), (0, 0), (11, 96), (11, 3), (6, 0), (3, 0), (11, 4), (11, 8), (11, 8), (0, 0), (11, 96), (11, 3), (6, 0), (3, 0), (11, 4), (11, 8), (11, 8), (0, 0), (11, 96), (11, 3), (6, 0), (3, 0), (11, 4), (11, 8), (11, 8), (0, 0), (11, 96), (11, 3), (6, 0), (3, 0), (11, 4), (11, 8), (11, 8), (0, 0), (11, 96), (11, 3), (6, 0), (3, 0), (11, 4), (11, 8), (11, 8), (0, 0), (11, 96), (11, 3), (6, 0), (3, 0), (11, 4), (11, 8), (11, 8), (0, 0), (11, 96), (11, 3), (6, 0), (3, 0), (11, 4), (11, 8), (11, 8), (0, 0), (11, 96), (11, 3), (6, 0), (3, 0), (11, 4), (11, 8), (11, 8), (0, 0), (11, 96), (11, 3), (6, 0), (3, 0), (11, 4), (11, 8), (11, 8), (0, 0), (11, 96), (11, 3), (6, 0), (3, 0), (11, 4), (11, 8), (11, 8), (0, 0), (11, 96), (11, 3), (6, 0), (3, 0), (11, 4), (11, 8), (11, 8), (0, 0), (11, 96), (11, 3), (6, 0), (3, 0), (11, 4), (11, 8), (11, 8), (0, 0), (11, 96), (11, 3), (14, 2), (12, 2), (5, 0), (11, 6), (12, 6), (1, 0), (3, 0), (11, 4), (11, 8), (11, 8), (7, 0), (3, 0), (11, 4), (11, 8), (11, 8), (11, 6), (11, 6), (11, 6), (11, 1980), (11, 64), (6, 0), (3, 0), (11, 4), (11, 8), (11, 8), (0, 0), (11, 96), (11, 3), (6, 0), (3, 0), (11, 4), (11, 8), (11, 8), (0, 0), (11, 96), (11, 3), (10, 0), (11, 80), (11, 16), (11, 16), (11, 16), (11, 128), (11, 128), (11, 1792), (11, 256), (12, 2), (11, 6), (11, 6), (11, 8), (11, 6), (11, 64), (11, 16), (11, 16), (11, 16)]
def shp (k : Nat) : Nat × Nat := shL.getD k (99, 0)
theorem shp_lt {k : Nat} {c : Nat × Nat} (h : shp k = c) (hc : c ≠ (99, 0)) : k < 197 := by
  rcases Nat.lt_or_ge k 197 with q | q
  · exact q
  · exact absurd (h.symm.trans (by unfold shp; rw [List.getD_eq_getElem?_getD, List.getElem?_eq_none (by exact q)]; rfl)) hc
/-- a cell by its place, its kind and its contents -/
def cellOf (G : GT) (k : Nat) (c : Nat × Nat) (σ : Nat → Int32) (ℓ : Int64) : va_E := match c.1 with
  | 0 => .inr (0, [.ref (gB G + (k + 1))])
  | 1 => .inr (1, [.ref (gB G + (k + 1)), .int (σ 1), .int (σ 2)])
  | 2 => .inr (2, [.ref (gB G + (k + 1)), .int (σ 1), .int (σ 2)])
  | 3 => .inr (3, [.ref (gB G + (k + 1)), .ref (gB G + (k + 2)), .ref (gB G + (k + 3)), .int (σ 3), .int (σ 4), .int (σ 5), .int (σ 6), .int (σ 7)])
  | 4 => .inr (4, [.ref (gB G + (k + 1)), .ref (gB G + (k + 2)), .ref (gB G + (k + 3)), .ref (gB G + (k + 4)), .int (σ 4)])
  | 5 => .inr (5, [.ref (gB G + (k + 1)), .ref (gB G + (k + 2)), .int (σ 2)])
  | 6 => .inr (6, [.ref (gB G + (k + 1)), .ref (gB G + (k + 5)), .ref (gB G + (k + 7)), .int (σ 3), .int (σ 4), .int (σ 5), .int (σ 6)])
  | 7 => .inr (7, [.ref (gB G + (k + 1)), .ref (gB G + (k + 5)), .ref (gB G + (k + 6)), .ref (gB G + (k + 7)), .ref (gB G + (k + 8)), .ref (gB G + (k + 9)), .int (σ 6), .int (σ 7)])
  | 8 => .inr (8, [.ref (gB G + (k + 1)), .int (σ 1)])
  | 9 => .inr (9, [.ref (gB G + (k + 1)), .ref (gB G + (k + 3)), .ref (gB G + (k + 8)), .ref (gB G + (k + 13)), .ref (gB G + (k + 21)), .ref (gB G + (k + 29)), .ref (gB G + (k + 143)), .ref (gB G + (k + 144)), .ref (gB G + (k + 145)), .ref (gB G + (k + 148)), .ref (gB G + (k + 153)), .long ℓ])
  | 10 => .inr (10, [.ref (gB G + (k + 1)), .int (σ 1), .int (σ 2), .ref (gB G + (k + 2)), .ref (gB G + (k + 3)), .ref (gB G + (k + 4)), .ref (gB G + (k + 5)), .ref (gB G + (k + 6)), .ref (gB G + (k + 7)), .int (σ 9), .int (σ 10), .ref (gB G + (k + 8)), .ref (gB G + (k + 9)), .ref (gB G + (k + 10)), .ref (gB G + (k + 11)), .int (σ 15), .long ℓ, .int (σ 17), .int (σ 18), .ref (gB G + (k + 12)), .ref (gB G + (k + 13)), .ref (gB G + (k + 14)), .int (σ 22), .int (σ 23), .ref (gB G + (k + 15)), .ref (gB G + (k + 16)), .ref (gB G + (k + 17)), .int (σ 27)])
  | 11 => .inl (G.2.2.1.1, c.2, .inl σ)
  | 12 => .inl (G.2.2.1.2.1, c.2, .inl σ)
  | 13 => .inl (G.2.2.1.2.2, c.2, .inr (.inr (.inr (.inr (fun i => some (gB G + (k + 1 + 8 * i)))))))
  | _ => .inl (G.2.2.1.2.2, c.2, .inr (.inr (.inr (.inr (fun i => some (gB G + (k + 20 + 8 * i)))))))
def CF (G : GT) (S : Nat → Nat → Int32) (L : Nat → Int64) (k : Nat) : va_E := cellOf G k (shp k) (S k) (L k)
def up2 (S : Nat → Nat → Int32) (k j : Nat) (v : Int32) : Nat → Nat → Int32 := va_up S k (upd (S k) j v)
/-- two cells that hold the same where it counts -/
def ceq (e e' : va_E) : Prop := e = e' ∨ ∃ (c : ClassId) (len : Nat) (g g' : Nat → Int32), e = .inl (c, len, .inl g) ∧ e' = .inl (c, len, .inl g') ∧ ∀ j, j < len → g j = g' j
theorem ceq_refl (e : va_E) : ceq e e := Or.inl rfl
theorem ceq_at {D : va_G} {cl : List vw_C} {a : Nat} {e e' : va_E} {H : Heap} (h : ceq e e') (ha : va_at D cl (a, e) H) : va_at D cl (a, e') H := by
  rcases h with h | ⟨c, len, g, g', h1, h2, h3⟩
  · rw [← h]; exact ha
  · subst h1; subst h2
    show H[a]? = some (vp_cell c (len, .inl g'))
    have ha : H[a]? = some (vp_cell c (len, .inl g)) := ha
    rw [ha, vp_cell_i, vp_cell_i]
    congr 1
    unfold arrV
    congr 1
    congr 1
    funext j
    show Value.int (g j.val) = Value.int (g' j.val)
    rw [h3 j.val j.isLt]
theorem ceq_trans {a b c : va_E} (h : ceq a b) (h2 : ceq b c) : ceq a c := by
  rcases h with rfl | ⟨c1, l1, g1, g1', e1, e2, e3⟩
  · exact h2
  · rcases h2 with rfl | ⟨c2, l2, g2, g2', d1, d2, d3⟩
    · exact Or.inr ⟨c1, l1, g1, g1', e1, e2, e3⟩
    · subst e1; subst e2
      cases d1
      exact Or.inr ⟨c1, l1, g1, g2', rfl, d2, fun j hj => (e3 j hj).trans (d3 j hj)⟩
def wid (k : Nat) : Nat := if 11 ≤ (shp k).1 then (shp k).2 else 28
def sEq (S S' : Nat → Nat → Int32) : Prop := ∀ k, k < 197 → ∀ j, j < wid k → S k j = S' k j
theorem ceq_cell {G : GT} {k : Nat} {c : Nat × Nat} {σ σ' : Nat → Int32} {ℓ : Int64} (h : ∀ j, j < (if 11 ≤ c.1 then c.2 else 28) → σ j = σ' j) : ceq (cellOf G k c σ ℓ) (cellOf G k c σ' ℓ) := by
  obtain ⟨a, b⟩ := c
  unfold cellOf
  split
  all_goals (rename_i he; try (dsimp only at he; subst he))
  · exact Or.inl rfl
  · left; rw [h 1 (show 1 < 28 by decide), h 2 (show 2 < 28 by decide)]
  · left; rw [h 1 (show 1 < 28 by decide), h 2 (show 2 < 28 by decide)]
  · left; rw [h 3 (show 3 < 28 by decide), h 4 (show 4 < 28 by decide), h 5 (show 5 < 28 by decide), h 6 (show 6 < 28 by decide), h 7 (show 7 < 28 by decide)]
  · left; rw [h 4 (show 4 < 28 by decide)]
  · left; rw [h 2 (show 2 < 28 by decide)]
  · left; rw [h 3 (show 3 < 28 by decide), h 4 (show 4 < 28 by decide), h 5 (show 5 < 28 by decide), h 6 (show 6 < 28 by decide)]
  · left; rw [h 6 (show 6 < 28 by decide), h 7 (show 7 < 28 by decide)]
  · left; rw [h 1 (show 1 < 28 by decide)]
  · exact Or.inl rfl
  · left; rw [h 1 (show 1 < 28 by decide), h 2 (show 2 < 28 by decide), h 9 (show 9 < 28 by decide), h 10 (show 10 < 28 by decide), h 15 (show 15 < 28 by decide), h 17 (show 17 < 28 by decide), h 18 (show 18 < 28 by decide), h 22 (show 22 < 28 by decide), h 23 (show 23 < 28 by decide), h 27 (show 27 < 28 by decide)]
  · exact Or.inr ⟨_, _, _, _, rfl, rfl, fun j hj => h j hj⟩
  · exact Or.inr ⟨_, _, _, _, rfl, rfl, fun j hj => h j hj⟩
  · exact Or.inl rfl
  · exact Or.inl rfl
theorem sEq.ceq {G : GT} {S S' : Nat → Nat → Int32} {L : Nat → Int64} (h : sEq S S') {k : Nat} (hk : k < 197) : ceq (CF G S L k) (CF G S' L k) := ceq_cell (h k hk)
theorem sEq.rf (S : Nat → Nat → Int32) : sEq S S := fun _ _ _ _ => rfl
theorem CF_set {G : GT} {S : Nat → Nat → Int32} {L : Nat → Int64} {q j : Nat} {v : Int32} {e : va_E} (h : cellOf G q (shp q) (upd (S q) j v) (L q) = e) : ∀ k, k < 197 → va_up (CF G S L) q e k = CF G (up2 S q j v) L k := by
  intro k _
  by_cases hk : k = q
  · subst hk
    simp only [va_up, if_pos, CF, up2]
    exact h.symm
  · simp only [va_up, if_neg hk, CF, up2]
theorem CF_setL {G : GT} {S : Nat → Nat → Int32} {L : Nat → Int64} {q : Nat} {v : Int64} {e : va_E} (h : cellOf G q (shp q) (S q) v = e) : ∀ k, k < 197 → va_up (CF G S L) q e k = CF G S (va_up L q v) k := by
  intro k _
  by_cases hk : k = q
  · subst hk
    simp only [va_up, if_pos, CF]
    exact h.symm
  · simp only [va_up, if_neg hk, CF]
theorem CF_0 {G : GT} {S : Nat → Nat → Int32} {L : Nat → Int64} {q : Nat} (h : shp q = (0, 0)) : CF G S L q = .inr (0, [.ref (gB G + (q + 1))]) := by unfold CF; rw [h]; rfl
theorem CF_1 {G : GT} {S : Nat → Nat → Int32} {L : Nat → Int64} {q : Nat} (h : shp q = (1, 0)) : CF G S L q = .inr (1, [.ref (gB G + (q + 1)), .int (S q 1), .int (S q 2)]) := by unfold CF; rw [h]; rfl
theorem CF_2 {G : GT} {S : Nat → Nat → Int32} {L : Nat → Int64} {q : Nat} (h : shp q = (2, 0)) : CF G S L q = .inr (2, [.ref (gB G + (q + 1)), .int (S q 1), .int (S q 2)]) := by unfold CF; rw [h]; rfl
theorem CF_3 {G : GT} {S : Nat → Nat → Int32} {L : Nat → Int64} {q : Nat} (h : shp q = (3, 0)) : CF G S L q = .inr (3, [.ref (gB G + (q + 1)), .ref (gB G + (q + 2)), .ref (gB G + (q + 3)), .int (S q 3), .int (S q 4), .int (S q 5), .int (S q 6), .int (S q 7)]) := by unfold CF; rw [h]; rfl
theorem CF_4 {G : GT} {S : Nat → Nat → Int32} {L : Nat → Int64} {q : Nat} (h : shp q = (4, 0)) : CF G S L q = .inr (4, [.ref (gB G + (q + 1)), .ref (gB G + (q + 2)), .ref (gB G + (q + 3)), .ref (gB G + (q + 4)), .int (S q 4)]) := by unfold CF; rw [h]; rfl
theorem CF_5 {G : GT} {S : Nat → Nat → Int32} {L : Nat → Int64} {q : Nat} (h : shp q = (5, 0)) : CF G S L q = .inr (5, [.ref (gB G + (q + 1)), .ref (gB G + (q + 2)), .int (S q 2)]) := by unfold CF; rw [h]; rfl
theorem CF_6 {G : GT} {S : Nat → Nat → Int32} {L : Nat → Int64} {q : Nat} (h : shp q = (6, 0)) : CF G S L q = .inr (6, [.ref (gB G + (q + 1)), .ref (gB G + (q + 5)), .ref (gB G + (q + 7)), .int (S q 3), .int (S q 4), .int (S q 5), .int (S q 6)]) := by unfold CF; rw [h]; rfl
theorem CF_7 {G : GT} {S : Nat → Nat → Int32} {L : Nat → Int64} {q : Nat} (h : shp q = (7, 0)) : CF G S L q = .inr (7, [.ref (gB G + (q + 1)), .ref (gB G + (q + 5)), .ref (gB G + (q + 6)), .ref (gB G + (q + 7)), .ref (gB G + (q + 8)), .ref (gB G + (q + 9)), .int (S q 6), .int (S q 7)]) := by unfold CF; rw [h]; rfl
theorem CF_8 {G : GT} {S : Nat → Nat → Int32} {L : Nat → Int64} {q : Nat} (h : shp q = (8, 0)) : CF G S L q = .inr (8, [.ref (gB G + (q + 1)), .int (S q 1)]) := by unfold CF; rw [h]; rfl
theorem CF_9 {G : GT} {S : Nat → Nat → Int32} {L : Nat → Int64} {q : Nat} (h : shp q = (9, 0)) : CF G S L q = .inr (9, [.ref (gB G + (q + 1)), .ref (gB G + (q + 3)), .ref (gB G + (q + 8)), .ref (gB G + (q + 13)), .ref (gB G + (q + 21)), .ref (gB G + (q + 29)), .ref (gB G + (q + 143)), .ref (gB G + (q + 144)), .ref (gB G + (q + 145)), .ref (gB G + (q + 148)), .ref (gB G + (q + 153)), .long (L q)]) := by unfold CF; rw [h]; rfl
theorem CF_10 {G : GT} {S : Nat → Nat → Int32} {L : Nat → Int64} {q : Nat} (h : shp q = (10, 0)) : CF G S L q = .inr (10, [.ref (gB G + (q + 1)), .int (S q 1), .int (S q 2), .ref (gB G + (q + 2)), .ref (gB G + (q + 3)), .ref (gB G + (q + 4)), .ref (gB G + (q + 5)), .ref (gB G + (q + 6)), .ref (gB G + (q + 7)), .int (S q 9), .int (S q 10), .ref (gB G + (q + 8)), .ref (gB G + (q + 9)), .ref (gB G + (q + 10)), .ref (gB G + (q + 11)), .int (S q 15), .long (L q), .int (S q 17), .int (S q 18), .ref (gB G + (q + 12)), .ref (gB G + (q + 13)), .ref (gB G + (q + 14)), .int (S q 22), .int (S q 23), .ref (gB G + (q + 15)), .ref (gB G + (q + 16)), .ref (gB G + (q + 17)), .int (S q 27)]) := by unfold CF; rw [h]; rfl
theorem CF_11 {G : GT} {S : Nat → Nat → Int32} {L : Nat → Int64} {q len : Nat} (h : shp q = (11, len)) : CF G S L q = .inl (G.2.2.1.1, len, .inl (S q)) := by unfold CF; rw [h]; rfl
theorem CF_12 {G : GT} {S : Nat → Nat → Int32} {L : Nat → Int64} {q len : Nat} (h : shp q = (12, len)) : CF G S L q = .inl (G.2.2.1.2.1, len, .inl (S q)) := by unfold CF; rw [h]; rfl
theorem CF_13 {G : GT} {S : Nat → Nat → Int32} {L : Nat → Int64} {q len : Nat} (h : shp q = (13, len)) : CF G S L q = .inl (G.2.2.1.2.2, len, .inr (.inr (.inr (.inr (fun i => some (gB G + (q + 1 + 8 * i))))))) := by unfold CF; rw [h]; rfl
theorem CF_14 {G : GT} {S : Nat → Nat → Int32} {L : Nat → Int64} {q len : Nat} (h : shp q = (14, len)) : CF G S L q = .inl (G.2.2.1.2.2, len, .inr (.inr (.inr (.inr (fun i => some (gB G + (q + 20 + 8 * i))))))) := by unfold CF; rw [h]; rfl
def isMach (q : Nat) : Prop := shp q = (3, 0) ∧ shp (q + 1) = (11, 4) ∧ shp (q + 2) = (11, 8) ∧ shp (q + 3) = (11, 8)
def isBrk (q : Nat) : Prop := shp q = (0, 0) ∧ shp (q + 1) = (11, 96)
def isState (q : Nat) : Prop := shp q = (6, 0) ∧ isMach (q + 1) ∧ isBrk (q + 5) ∧ shp (q + 7) = (11, 3)
def isProg (q : Nat) : Prop := shp q = (4, 0) ∧ shp (q + 1) = (11, 16) ∧ shp (q + 2) = (11, 16) ∧ shp (q + 3) = (11, 16) ∧ shp (q + 4) = (11, 16)
section SL
variable {G : GT} {R : Room} {own nm : String} {cc : ByteArray} {nL : Nat} {rt : Option FieldType} {Post : Option Value → Nat → Nat → Nat → (Nat → va_E) → Prop} {cells slots n : Nat} {f : Nat → va_E} {pc : Nat} {ls : List (Nat × Value)} {st : List Value} {S S2 : Nat → Nat → Int32} {L L2 : Nat → Int64}
theorem sv_ceq {g : Nat → va_E} (h : ∀ k, k < n → ceq (f k) (g k)) (k : sv_V G R own nm cc nL rt Post cells slots n g pc ls st) : sv_V G R own nm cc nL rt Post cells slots n f pc ls st :=
  fun p e s m args below meth c Q C H locs ls0 hP hS hl => k p e s m args below meth c Q C H locs ls0 ⟨hP.1, fun j hj => ceq_at (h j hj) (hP.2 j hj)⟩ hS hl
theorem sv_seq {S' : Nat → Nat → Int32} (h : sEq S S') (k : sv_V G R own nm cc nL rt Post cells slots 197 (CF G S' L) pc ls st) : sv_V G R own nm cc nL rt Post cells slots 197 (CF G S L) pc ls st := sv_ceq (fun _ hk => h.ceq hk) k
theorem sv_eqS {S' : Nat → Nat → Int32} (h : S = S') (k : sv_V G R own nm cc nL rt Post cells slots 197 (CF G S' L) pc ls st) : sv_V G R own nm cc nL rt Post cells slots 197 (CF G S L) pc ls st := h ▸ k
/-- the end of a method that answers r0 and leaves S2, L2 -/
def sPo (G : GT) (R : Room) (r0 : Option Value) (S2 : Nat → Nat → Int32) (L2 : Nat → Int64) : Option Value → Nat → Nat → Nat → (Nat → va_E) → Prop := fun r c s n' f' => c = R.cells ∧ s = R.slots ∧ r = r0 ∧ n' = 197 ∧ ∀ k, k < 197 → ceq (f' k) (CF G S2 L2 k)
def sQ (G : GT) (r0 : Option Value) (S2 : Nat → Nat → Int32) (L2 : Nat → Int64) : Option Value → Nat → (Nat → va_E) → Prop := fun r n' f' => r = r0 ∧ n' = 197 ∧ ∀ k, k < 197 → ceq (f' k) (CF G S2 L2 k)
/-- y, begun with the arguments av over S, L, answers r0 and leaves S2, L2 -/
def sE (G : GT) (y : MethodName) (R : Room) (cc : ByteArray) (nL : Nat) (rt : Option FieldType) (av : List Value) (S : Nat → Nat → Int32) (L : Nat → Int64) (r0 : Option Value) (S2 : Nat → Nat → Int32) (L2 : Nat → Int64) : Prop := sv_Ct G y R cc nL rt av 197 (CF G S L) (sQ G r0 S2 L2)
theorem sE.of {y : MethodName} {av : List Value} {r0 : Option Value} (hy : plainName y.cls = true) (hle : (lg_sl av).length ≤ nL) (h : sv_V G R y.cls y.name cc nL rt (sPo G R r0 S2 L2) 0 0 197 (CF G S L) 0 (lv_args 0 av) []) : sE G y R cc nL rt av S L r0 S2 L2 := sv_Ct.of hy hle h
theorem sE.eq {y : MethodName} {av : List Value} {r0 r1 : Option Value} {S3 : Nat → Nat → Int32} (h : sE G y R cc nL rt av S L r0 S2 L2) (hr : r0 = r1) (hS : sEq S2 S3) : sE G y R cc nL rt av S L r1 S3 L2 := by
  subst hr
  exact sv_Ct.imp (fun r n' f' q => ⟨q.1, q.2.1, fun k hk => ceq_trans (q.2.2 k hk) (hS.ceq hk)⟩) h
theorem se_iret {v v0 : Int32} (hr : rt = some .int) (hz : R.cells = 0 ∧ R.slots = 0) (d : decode cc pc = .ok (.ireturn, 1)) (hv : v = v0) (hS : S = S2) : sv_V G R own nm cc nL rt (sPo G R (some (.int v0)) S2 L) 0 0 197 (CF G S L) pc ls [.int v] := sv_iret hr d ⟨hz.1.symm, hz.2.symm, by rw [hv], rfl, fun _ _ => by rw [hS]; exact ceq_refl _⟩
theorem se_zret {v v0 : Int32} (hr : rt = some .boolean) (hz : R.cells = 0 ∧ R.slots = 0) (d : decode cc pc = .ok (.ireturn, 1)) (hn : narrow .boolean (.int v) = .int v) (hv : v = v0) (hS : S = S2) : sv_V G R own nm cc nL rt (sPo G R (some (.int v0)) S2 L) 0 0 197 (CF G S L) pc ls [.int v] := sv_zret hr d hn ⟨hz.1.symm, hz.2.symm, by rw [hv], rfl, fun _ _ => by rw [hS]; exact ceq_refl _⟩
theorem se_lret {v v0 : Int64} (hr : rt = some .long) (hz : R.cells = 0 ∧ R.slots = 0) (d : decode cc pc = .ok (.lreturn, 1)) (hv : v = v0) (hS : S = S2) (hL : L = L2) : sv_V G R own nm cc nL rt (sPo G R (some (.long v0)) S2 L2) 0 0 197 (CF G S L) pc ls [.long v] := sv_lret hr d ⟨hz.1.symm, hz.2.symm, by rw [hv], rfl, fun _ _ => by rw [hS, hL]; exact ceq_refl _⟩
theorem se_aret {a a0 : Nat} {C : String} (hr : rt = some (.object C)) (hz : R.cells = 0 ∧ R.slots = 0) (d : decode cc pc = .ok (.areturn, 1)) (hv : a = a0) (hS : S = S2) : sv_V G R own nm cc nL rt (sPo G R (some (.ref a0)) S2 L) 0 0 197 (CF G S L) pc ls [.ref a] := sv_aret hr d ⟨hz.1.symm, hz.2.symm, by rw [hv], rfl, fun _ _ => by rw [hS]; exact ceq_refl _⟩
theorem se_vret (hr : rt = none) (hz : R.cells = 0 ∧ R.slots = 0) (d : decode cc pc = .ok (.return_, 1)) (hS : sEq S S2) : sv_V G R own nm cc nL rt (sPo G R none S2 L) 0 0 197 (CF G S L) pc ls [] := sv_vret hr d ⟨hz.1.symm, hz.2.symm, rfl, rfl, fun _ hk => hS.ceq hk⟩
theorem se_iretq {v v0 : Int32} (hr : rt = some .int) (hz : R.cells = 0 ∧ R.slots = 0) (d : decode cc pc = .ok (.ireturn, 1)) (hv : v = v0) (hS : sEq S S2) : sv_V G R own nm cc nL rt (sPo G R (some (.int v0)) S2 L) 0 0 197 (CF G S L) pc ls [.int v] := sv_iret hr d ⟨hz.1.symm, hz.2.symm, by rw [hv], rfl, fun _ hk => hS.ceq hk⟩
theorem se_zretq {v v0 : Int32} (hr : rt = some .boolean) (hz : R.cells = 0 ∧ R.slots = 0) (d : decode cc pc = .ok (.ireturn, 1)) (hn : narrow .boolean (.int v) = .int v) (hv : v = v0) (hS : sEq S S2) : sv_V G R own nm cc nL rt (sPo G R (some (.int v0)) S2 L) 0 0 197 (CF G S L) pc ls [.int v] := sv_zret hr d hn ⟨hz.1.symm, hz.2.symm, by rw [hv], rfl, fun _ hk => hS.ceq hk⟩
theorem sg_0_0 {q i : Nat} (hq : shp q = (0, 0)) (hl : Cond.fieldLink own i "SideStep$Breaks" "properties" "[I" ∈ gw) (d : decode cc pc = .ok (.getfield i, 3)) (kk : sv_V G R own nm cc nL rt Post cells slots 197 (CF G S L) (pc + 3) ls (.ref (gB G + (q + 1)) :: st)) : sv_V G R own nm cc nL rt Post cells slots 197 (CF G S L) pc ls (.ref (gB G + q) :: st) := sv_get (ci := 0) rfl uw_X0 0 (by decide) hl (shp_lt hq (by simp)) (CF_0 hq) rfl d kk
theorem sg_1_0 {q i : Nat} (hq : shp q = (1, 0)) (hl : Cond.fieldLink own i "SideStep$FreeRun" "machine" "LSideStep$Machine;" ∈ gw) (d : decode cc pc = .ok (.getfield i, 3)) (kk : sv_V G R own nm cc nL rt Post cells slots 197 (CF G S L) (pc + 3) ls (.ref (gB G + (q + 1)) :: st)) : sv_V G R own nm cc nL rt Post cells slots 197 (CF G S L) pc ls (.ref (gB G + q) :: st) := sv_get (ci := 1) rfl uw_X1 0 (by decide) hl (shp_lt hq (by simp)) (CF_1 hq) rfl d kk
theorem sg_1_1 {q i : Nat} (hq : shp q = (1, 0)) (hl : Cond.fieldLink own i "SideStep$FreeRun" "steps" "I" ∈ gw) (d : decode cc pc = .ok (.getfield i, 3)) (kk : sv_V G R own nm cc nL rt Post cells slots 197 (CF G S L) (pc + 3) ls (.int (S q 1) :: st)) : sv_V G R own nm cc nL rt Post cells slots 197 (CF G S L) pc ls (.ref (gB G + q) :: st) := sv_get (ci := 1) rfl uw_X1 1 (by decide) hl (shp_lt hq (by simp)) (CF_1 hq) rfl d kk
theorem sp_1_1 {q i : Nat} {v : Int32} (hq : shp q = (1, 0)) (hl : Cond.fieldLink own i "SideStep$FreeRun" "steps" "I" ∈ gw) (d : decode cc pc = .ok (.putfield i, 3)) (kk : sv_V G R own nm cc nL rt Post cells slots 197 (CF G (up2 S q 1 v) L) (pc + 3) ls st) : sv_V G R own nm cc nL rt Post cells slots 197 (CF G S L) pc ls (.int v :: .ref (gB G + q) :: st) := sv_put (ci := 1) rfl uw_X1 tyX1 tyX1_ok nmX1 1 (by decide) hl rfl rfl rfl (shp_lt hq (by simp)) (CF_1 hq) (by simp) d (sv_heap (CF_set (by rw [hq]; rfl)) kk)
theorem sg_1_2 {q i : Nat} (hq : shp q = (1, 0)) (hl : Cond.fieldLink own i "SideStep$FreeRun" "reason" "I" ∈ gw) (d : decode cc pc = .ok (.getfield i, 3)) (kk : sv_V G R own nm cc nL rt Post cells slots 197 (CF G S L) (pc + 3) ls (.int (S q 2) :: st)) : sv_V G R own nm cc nL rt Post cells slots 197 (CF G S L) pc ls (.ref (gB G + q) :: st) := sv_get (ci := 1) rfl uw_X1 2 (by decide) hl (shp_lt hq (by simp)) (CF_1 hq) rfl d kk
theorem sp_1_2 {q i : Nat} {v : Int32} (hq : shp q = (1, 0)) (hl : Cond.fieldLink own i "SideStep$FreeRun" "reason" "I" ∈ gw) (d : decode cc pc = .ok (.putfield i, 3)) (kk : sv_V G R own nm cc nL rt Post cells slots 197 (CF G (up2 S q 2 v) L) (pc + 3) ls st) : sv_V G R own nm cc nL rt Post cells slots 197 (CF G S L) pc ls (.int v :: .ref (gB G + q) :: st) := sv_put (ci := 1) rfl uw_X1 tyX1 tyX1_ok nmX1 2 (by decide) hl rfl rfl rfl (shp_lt hq (by simp)) (CF_1 hq) (by simp) d (sv_heap (CF_set (by rw [hq]; rfl)) kk)
theorem sg_2_0 {q i : Nat} (hq : shp q = (2, 0)) (hl : Cond.fieldLink own i "SideStep$History" "ring" "[LSideStep$State;" ∈ gw) (d : decode cc pc = .ok (.getfield i, 3)) (kk : sv_V G R own nm cc nL rt Post cells slots 197 (CF G S L) (pc + 3) ls (.ref (gB G + (q + 1)) :: st)) : sv_V G R own nm cc nL rt Post cells slots 197 (CF G S L) pc ls (.ref (gB G + q) :: st) := sv_get (ci := 2) rfl uw_X2 0 (by decide) hl (shp_lt hq (by simp)) (CF_2 hq) rfl d kk
theorem sg_2_1 {q i : Nat} (hq : shp q = (2, 0)) (hl : Cond.fieldLink own i "SideStep$History" "next" "I" ∈ gw) (d : decode cc pc = .ok (.getfield i, 3)) (kk : sv_V G R own nm cc nL rt Post cells slots 197 (CF G S L) (pc + 3) ls (.int (S q 1) :: st)) : sv_V G R own nm cc nL rt Post cells slots 197 (CF G S L) pc ls (.ref (gB G + q) :: st) := sv_get (ci := 2) rfl uw_X2 1 (by decide) hl (shp_lt hq (by simp)) (CF_2 hq) rfl d kk
theorem sp_2_1 {q i : Nat} {v : Int32} (hq : shp q = (2, 0)) (hl : Cond.fieldLink own i "SideStep$History" "next" "I" ∈ gw) (d : decode cc pc = .ok (.putfield i, 3)) (kk : sv_V G R own nm cc nL rt Post cells slots 197 (CF G (up2 S q 1 v) L) (pc + 3) ls st) : sv_V G R own nm cc nL rt Post cells slots 197 (CF G S L) pc ls (.int v :: .ref (gB G + q) :: st) := sv_put (ci := 2) rfl uw_X2 tyX2 tyX2_ok nmX2 1 (by decide) hl rfl rfl rfl (shp_lt hq (by simp)) (CF_2 hq) (by simp) d (sv_heap (CF_set (by rw [hq]; rfl)) kk)
theorem sg_2_2 {q i : Nat} (hq : shp q = (2, 0)) (hl : Cond.fieldLink own i "SideStep$History" "held" "I" ∈ gw) (d : decode cc pc = .ok (.getfield i, 3)) (kk : sv_V G R own nm cc nL rt Post cells slots 197 (CF G S L) (pc + 3) ls (.int (S q 2) :: st)) : sv_V G R own nm cc nL rt Post cells slots 197 (CF G S L) pc ls (.ref (gB G + q) :: st) := sv_get (ci := 2) rfl uw_X2 2 (by decide) hl (shp_lt hq (by simp)) (CF_2 hq) rfl d kk
theorem sp_2_2 {q i : Nat} {v : Int32} (hq : shp q = (2, 0)) (hl : Cond.fieldLink own i "SideStep$History" "held" "I" ∈ gw) (d : decode cc pc = .ok (.putfield i, 3)) (kk : sv_V G R own nm cc nL rt Post cells slots 197 (CF G (up2 S q 2 v) L) (pc + 3) ls st) : sv_V G R own nm cc nL rt Post cells slots 197 (CF G S L) pc ls (.int v :: .ref (gB G + q) :: st) := sv_put (ci := 2) rfl uw_X2 tyX2 tyX2_ok nmX2 2 (by decide) hl rfl rfl rfl (shp_lt hq (by simp)) (CF_2 hq) (by simp) d (sv_heap (CF_set (by rw [hq]; rfl)) kk)
theorem sg_3_0 {q i : Nat} (hq : shp q = (3, 0)) (hl : Cond.fieldLink own i "SideStep$Machine" "registers" "[I" ∈ gw) (d : decode cc pc = .ok (.getfield i, 3)) (kk : sv_V G R own nm cc nL rt Post cells slots 197 (CF G S L) (pc + 3) ls (.ref (gB G + (q + 1)) :: st)) : sv_V G R own nm cc nL rt Post cells slots 197 (CF G S L) pc ls (.ref (gB G + q) :: st) := sv_get (ci := 3) rfl uw_X3 0 (by decide) hl (shp_lt hq (by simp)) (CF_3 hq) rfl d kk
theorem sg_3_1 {q i : Nat} (hq : shp q = (3, 0)) (hl : Cond.fieldLink own i "SideStep$Machine" "cells" "[I" ∈ gw) (d : decode cc pc = .ok (.getfield i, 3)) (kk : sv_V G R own nm cc nL rt Post cells slots 197 (CF G S L) (pc + 3) ls (.ref (gB G + (q + 2)) :: st)) : sv_V G R own nm cc nL rt Post cells slots 197 (CF G S L) pc ls (.ref (gB G + q) :: st) := sv_get (ci := 3) rfl uw_X3 1 (by decide) hl (shp_lt hq (by simp)) (CF_3 hq) rfl d kk
theorem sg_3_2 {q i : Nat} (hq : shp q = (3, 0)) (hl : Cond.fieldLink own i "SideStep$Machine" "stack" "[I" ∈ gw) (d : decode cc pc = .ok (.getfield i, 3)) (kk : sv_V G R own nm cc nL rt Post cells slots 197 (CF G S L) (pc + 3) ls (.ref (gB G + (q + 3)) :: st)) : sv_V G R own nm cc nL rt Post cells slots 197 (CF G S L) pc ls (.ref (gB G + q) :: st) := sv_get (ci := 3) rfl uw_X3 2 (by decide) hl (shp_lt hq (by simp)) (CF_3 hq) rfl d kk
theorem sg_3_3 {q i : Nat} (hq : shp q = (3, 0)) (hl : Cond.fieldLink own i "SideStep$Machine" "depth" "I" ∈ gw) (d : decode cc pc = .ok (.getfield i, 3)) (kk : sv_V G R own nm cc nL rt Post cells slots 197 (CF G S L) (pc + 3) ls (.int (S q 3) :: st)) : sv_V G R own nm cc nL rt Post cells slots 197 (CF G S L) pc ls (.ref (gB G + q) :: st) := sv_get (ci := 3) rfl uw_X3 3 (by decide) hl (shp_lt hq (by simp)) (CF_3 hq) rfl d kk
theorem sp_3_3 {q i : Nat} {v : Int32} (hq : shp q = (3, 0)) (hl : Cond.fieldLink own i "SideStep$Machine" "depth" "I" ∈ gw) (d : decode cc pc = .ok (.putfield i, 3)) (kk : sv_V G R own nm cc nL rt Post cells slots 197 (CF G (up2 S q 3 v) L) (pc + 3) ls st) : sv_V G R own nm cc nL rt Post cells slots 197 (CF G S L) pc ls (.int v :: .ref (gB G + q) :: st) := sv_put (ci := 3) rfl uw_X3 tyX3 tyX3_ok nmX3 3 (by decide) hl rfl rfl rfl (shp_lt hq (by simp)) (CF_3 hq) (by simp) d (sv_heap (CF_set (by rw [hq]; rfl)) kk)
theorem sg_3_4 {q i : Nat} (hq : shp q = (3, 0)) (hl : Cond.fieldLink own i "SideStep$Machine" "counter" "I" ∈ gw) (d : decode cc pc = .ok (.getfield i, 3)) (kk : sv_V G R own nm cc nL rt Post cells slots 197 (CF G S L) (pc + 3) ls (.int (S q 4) :: st)) : sv_V G R own nm cc nL rt Post cells slots 197 (CF G S L) pc ls (.ref (gB G + q) :: st) := sv_get (ci := 3) rfl uw_X3 4 (by decide) hl (shp_lt hq (by simp)) (CF_3 hq) rfl d kk
theorem sp_3_4 {q i : Nat} {v : Int32} (hq : shp q = (3, 0)) (hl : Cond.fieldLink own i "SideStep$Machine" "counter" "I" ∈ gw) (d : decode cc pc = .ok (.putfield i, 3)) (kk : sv_V G R own nm cc nL rt Post cells slots 197 (CF G (up2 S q 4 v) L) (pc + 3) ls st) : sv_V G R own nm cc nL rt Post cells slots 197 (CF G S L) pc ls (.int v :: .ref (gB G + q) :: st) := sv_put (ci := 3) rfl uw_X3 tyX3 tyX3_ok nmX3 4 (by decide) hl rfl rfl rfl (shp_lt hq (by simp)) (CF_3 hq) (by simp) d (sv_heap (CF_set (by rw [hq]; rfl)) kk)
theorem sg_3_5 {q i : Nat} (hq : shp q = (3, 0)) (hl : Cond.fieldLink own i "SideStep$Machine" "halted" "Z" ∈ gw) (d : decode cc pc = .ok (.getfield i, 3)) (kk : sv_V G R own nm cc nL rt Post cells slots 197 (CF G S L) (pc + 3) ls (.int (S q 5) :: st)) : sv_V G R own nm cc nL rt Post cells slots 197 (CF G S L) pc ls (.ref (gB G + q) :: st) := sv_get (ci := 3) rfl uw_X3 5 (by decide) hl (shp_lt hq (by simp)) (CF_3 hq) rfl d kk
theorem sp_3_5 {q i : Nat} {v : Int32} (hq : shp q = (3, 0)) (hl : Cond.fieldLink own i "SideStep$Machine" "halted" "Z" ∈ gw) (hn : v = 0 ∨ v = 1) (d : decode cc pc = .ok (.putfield i, 3)) (kk : sv_V G R own nm cc nL rt Post cells slots 197 (CF G (up2 S q 5 v) L) (pc + 3) ls st) : sv_V G R own nm cc nL rt Post cells slots 197 (CF G S L) pc ls (.int v :: .ref (gB G + q) :: st) := sv_put (ci := 3) rfl uw_X3 tyX3 tyX3_ok nmX3 5 (by decide) hl rfl (by rcases hn with rfl | rfl <;> rfl) (by rcases hn with rfl | rfl <;> rfl) (shp_lt hq (by simp)) (CF_3 hq) (by simp) d (sv_heap (CF_set (by rw [hq]; rfl)) kk)
theorem sg_3_6 {q i : Nat} (hq : shp q = (3, 0)) (hl : Cond.fieldLink own i "SideStep$Machine" "puts" "I" ∈ gw) (d : decode cc pc = .ok (.getfield i, 3)) (kk : sv_V G R own nm cc nL rt Post cells slots 197 (CF G S L) (pc + 3) ls (.int (S q 6) :: st)) : sv_V G R own nm cc nL rt Post cells slots 197 (CF G S L) pc ls (.ref (gB G + q) :: st) := sv_get (ci := 3) rfl uw_X3 6 (by decide) hl (shp_lt hq (by simp)) (CF_3 hq) rfl d kk
theorem sp_3_6 {q i : Nat} {v : Int32} (hq : shp q = (3, 0)) (hl : Cond.fieldLink own i "SideStep$Machine" "puts" "I" ∈ gw) (d : decode cc pc = .ok (.putfield i, 3)) (kk : sv_V G R own nm cc nL rt Post cells slots 197 (CF G (up2 S q 6 v) L) (pc + 3) ls st) : sv_V G R own nm cc nL rt Post cells slots 197 (CF G S L) pc ls (.int v :: .ref (gB G + q) :: st) := sv_put (ci := 3) rfl uw_X3 tyX3 tyX3_ok nmX3 6 (by decide) hl rfl rfl rfl (shp_lt hq (by simp)) (CF_3 hq) (by simp) d (sv_heap (CF_set (by rw [hq]; rfl)) kk)
theorem sg_3_7 {q i : Nat} (hq : shp q = (3, 0)) (hl : Cond.fieldLink own i "SideStep$Machine" "digest" "I" ∈ gw) (d : decode cc pc = .ok (.getfield i, 3)) (kk : sv_V G R own nm cc nL rt Post cells slots 197 (CF G S L) (pc + 3) ls (.int (S q 7) :: st)) : sv_V G R own nm cc nL rt Post cells slots 197 (CF G S L) pc ls (.ref (gB G + q) :: st) := sv_get (ci := 3) rfl uw_X3 7 (by decide) hl (shp_lt hq (by simp)) (CF_3 hq) rfl d kk
theorem sp_3_7 {q i : Nat} {v : Int32} (hq : shp q = (3, 0)) (hl : Cond.fieldLink own i "SideStep$Machine" "digest" "I" ∈ gw) (d : decode cc pc = .ok (.putfield i, 3)) (kk : sv_V G R own nm cc nL rt Post cells slots 197 (CF G (up2 S q 7 v) L) (pc + 3) ls st) : sv_V G R own nm cc nL rt Post cells slots 197 (CF G S L) pc ls (.int v :: .ref (gB G + q) :: st) := sv_put (ci := 3) rfl uw_X3 tyX3 tyX3_ok nmX3 7 (by decide) hl rfl rfl rfl (shp_lt hq (by simp)) (CF_3 hq) (by simp) d (sv_heap (CF_set (by rw [hq]; rfl)) kk)
theorem sg_4_0 {q i : Nat} (hq : shp q = (4, 0)) (hl : Cond.fieldLink own i "SideStep$Program" "kind" "[I" ∈ gw) (d : decode cc pc = .ok (.getfield i, 3)) (kk : sv_V G R own nm cc nL rt Post cells slots 197 (CF G S L) (pc + 3) ls (.ref (gB G + (q + 1)) :: st)) : sv_V G R own nm cc nL rt Post cells slots 197 (CF G S L) pc ls (.ref (gB G + q) :: st) := sv_get (ci := 4) rfl uw_X4 0 (by decide) hl (shp_lt hq (by simp)) (CF_4 hq) rfl d kk
theorem sg_4_1 {q i : Nat} (hq : shp q = (4, 0)) (hl : Cond.fieldLink own i "SideStep$Program" "first" "[I" ∈ gw) (d : decode cc pc = .ok (.getfield i, 3)) (kk : sv_V G R own nm cc nL rt Post cells slots 197 (CF G S L) (pc + 3) ls (.ref (gB G + (q + 2)) :: st)) : sv_V G R own nm cc nL rt Post cells slots 197 (CF G S L) pc ls (.ref (gB G + q) :: st) := sv_get (ci := 4) rfl uw_X4 1 (by decide) hl (shp_lt hq (by simp)) (CF_4 hq) rfl d kk
theorem sg_4_2 {q i : Nat} (hq : shp q = (4, 0)) (hl : Cond.fieldLink own i "SideStep$Program" "second" "[I" ∈ gw) (d : decode cc pc = .ok (.getfield i, 3)) (kk : sv_V G R own nm cc nL rt Post cells slots 197 (CF G S L) (pc + 3) ls (.ref (gB G + (q + 3)) :: st)) : sv_V G R own nm cc nL rt Post cells slots 197 (CF G S L) pc ls (.ref (gB G + q) :: st) := sv_get (ci := 4) rfl uw_X4 2 (by decide) hl (shp_lt hq (by simp)) (CF_4 hq) rfl d kk
theorem sg_4_3 {q i : Nat} (hq : shp q = (4, 0)) (hl : Cond.fieldLink own i "SideStep$Program" "model" "[I" ∈ gw) (d : decode cc pc = .ok (.getfield i, 3)) (kk : sv_V G R own nm cc nL rt Post cells slots 197 (CF G S L) (pc + 3) ls (.ref (gB G + (q + 4)) :: st)) : sv_V G R own nm cc nL rt Post cells slots 197 (CF G S L) pc ls (.ref (gB G + q) :: st) := sv_get (ci := 4) rfl uw_X4 3 (by decide) hl (shp_lt hq (by simp)) (CF_4 hq) rfl d kk
theorem sg_4_4 {q i : Nat} (hq : shp q = (4, 0)) (hl : Cond.fieldLink own i "SideStep$Program" "size" "I" ∈ gw) (d : decode cc pc = .ok (.getfield i, 3)) (kk : sv_V G R own nm cc nL rt Post cells slots 197 (CF G S L) (pc + 3) ls (.int (S q 4) :: st)) : sv_V G R own nm cc nL rt Post cells slots 197 (CF G S L) pc ls (.ref (gB G + q) :: st) := sv_get (ci := 4) rfl uw_X4 4 (by decide) hl (shp_lt hq (by simp)) (CF_4 hq) rfl d kk
theorem sp_4_4 {q i : Nat} {v : Int32} (hq : shp q = (4, 0)) (hl : Cond.fieldLink own i "SideStep$Program" "size" "I" ∈ gw) (d : decode cc pc = .ok (.putfield i, 3)) (kk : sv_V G R own nm cc nL rt Post cells slots 197 (CF G (up2 S q 4 v) L) (pc + 3) ls st) : sv_V G R own nm cc nL rt Post cells slots 197 (CF G S L) pc ls (.int v :: .ref (gB G + q) :: st) := sv_put (ci := 4) rfl uw_X4 tyX4 tyX4_ok nmX4 4 (by decide) hl rfl rfl rfl (shp_lt hq (by simp)) (CF_4 hq) (by simp) d (sv_heap (CF_set (by rw [hq]; rfl)) kk)
theorem sg_5_0 {q i : Nat} (hq : shp q = (5, 0)) (hl : Cond.fieldLink own i "SideStep$Sights" "number" "[I" ∈ gw) (d : decode cc pc = .ok (.getfield i, 3)) (kk : sv_V G R own nm cc nL rt Post cells slots 197 (CF G S L) (pc + 3) ls (.ref (gB G + (q + 1)) :: st)) : sv_V G R own nm cc nL rt Post cells slots 197 (CF G S L) pc ls (.ref (gB G + q) :: st) := sv_get (ci := 5) rfl uw_X5 0 (by decide) hl (shp_lt hq (by simp)) (CF_5 hq) rfl d kk
theorem sg_5_1 {q i : Nat} (hq : shp q = (5, 0)) (hl : Cond.fieldLink own i "SideStep$Sights" "was" "[Z" ∈ gw) (d : decode cc pc = .ok (.getfield i, 3)) (kk : sv_V G R own nm cc nL rt Post cells slots 197 (CF G S L) (pc + 3) ls (.ref (gB G + (q + 2)) :: st)) : sv_V G R own nm cc nL rt Post cells slots 197 (CF G S L) pc ls (.ref (gB G + q) :: st) := sv_get (ci := 5) rfl uw_X5 1 (by decide) hl (shp_lt hq (by simp)) (CF_5 hq) rfl d kk
theorem sg_5_2 {q i : Nat} (hq : shp q = (5, 0)) (hl : Cond.fieldLink own i "SideStep$Sights" "count" "I" ∈ gw) (d : decode cc pc = .ok (.getfield i, 3)) (kk : sv_V G R own nm cc nL rt Post cells slots 197 (CF G S L) (pc + 3) ls (.int (S q 2) :: st)) : sv_V G R own nm cc nL rt Post cells slots 197 (CF G S L) pc ls (.ref (gB G + q) :: st) := sv_get (ci := 5) rfl uw_X5 2 (by decide) hl (shp_lt hq (by simp)) (CF_5 hq) rfl d kk
theorem sp_5_2 {q i : Nat} {v : Int32} (hq : shp q = (5, 0)) (hl : Cond.fieldLink own i "SideStep$Sights" "count" "I" ∈ gw) (d : decode cc pc = .ok (.putfield i, 3)) (kk : sv_V G R own nm cc nL rt Post cells slots 197 (CF G (up2 S q 2 v) L) (pc + 3) ls st) : sv_V G R own nm cc nL rt Post cells slots 197 (CF G S L) pc ls (.int v :: .ref (gB G + q) :: st) := sv_put (ci := 5) rfl uw_X5 tyX5 tyX5_ok nmX5 2 (by decide) hl rfl rfl rfl (shp_lt hq (by simp)) (CF_5 hq) (by simp) d (sv_heap (CF_set (by rw [hq]; rfl)) kk)
theorem sg_6_0 {q i : Nat} (hq : shp q = (6, 0)) (hl : Cond.fieldLink own i "SideStep$State" "machine" "LSideStep$Machine;" ∈ gw) (d : decode cc pc = .ok (.getfield i, 3)) (kk : sv_V G R own nm cc nL rt Post cells slots 197 (CF G S L) (pc + 3) ls (.ref (gB G + (q + 1)) :: st)) : sv_V G R own nm cc nL rt Post cells slots 197 (CF G S L) pc ls (.ref (gB G + q) :: st) := sv_get (ci := 6) rfl uw_X6 0 (by decide) hl (shp_lt hq (by simp)) (CF_6 hq) rfl d kk
theorem sg_6_1 {q i : Nat} (hq : shp q = (6, 0)) (hl : Cond.fieldLink own i "SideStep$State" "breaks" "LSideStep$Breaks;" ∈ gw) (d : decode cc pc = .ok (.getfield i, 3)) (kk : sv_V G R own nm cc nL rt Post cells slots 197 (CF G S L) (pc + 3) ls (.ref (gB G + (q + 5)) :: st)) : sv_V G R own nm cc nL rt Post cells slots 197 (CF G S L) pc ls (.ref (gB G + q) :: st) := sv_get (ci := 6) rfl uw_X6 1 (by decide) hl (shp_lt hq (by simp)) (CF_6 hq) rfl d kk
theorem sg_6_2 {q i : Nat} (hq : shp q = (6, 0)) (hl : Cond.fieldLink own i "SideStep$State" "copies" "[I" ∈ gw) (d : decode cc pc = .ok (.getfield i, 3)) (kk : sv_V G R own nm cc nL rt Post cells slots 197 (CF G S L) (pc + 3) ls (.ref (gB G + (q + 7)) :: st)) : sv_V G R own nm cc nL rt Post cells slots 197 (CF G S L) pc ls (.ref (gB G + q) :: st) := sv_get (ci := 6) rfl uw_X6 2 (by decide) hl (shp_lt hq (by simp)) (CF_6 hq) rfl d kk
theorem sg_6_3 {q i : Nat} (hq : shp q = (6, 0)) (hl : Cond.fieldLink own i "SideStep$State" "copyCount" "I" ∈ gw) (d : decode cc pc = .ok (.getfield i, 3)) (kk : sv_V G R own nm cc nL rt Post cells slots 197 (CF G S L) (pc + 3) ls (.int (S q 3) :: st)) : sv_V G R own nm cc nL rt Post cells slots 197 (CF G S L) pc ls (.ref (gB G + q) :: st) := sv_get (ci := 6) rfl uw_X6 3 (by decide) hl (shp_lt hq (by simp)) (CF_6 hq) rfl d kk
theorem sp_6_3 {q i : Nat} {v : Int32} (hq : shp q = (6, 0)) (hl : Cond.fieldLink own i "SideStep$State" "copyCount" "I" ∈ gw) (d : decode cc pc = .ok (.putfield i, 3)) (kk : sv_V G R own nm cc nL rt Post cells slots 197 (CF G (up2 S q 3 v) L) (pc + 3) ls st) : sv_V G R own nm cc nL rt Post cells slots 197 (CF G S L) pc ls (.int v :: .ref (gB G + q) :: st) := sv_put (ci := 6) rfl uw_X6 tyX6 tyX6_ok nmX6 3 (by decide) hl rfl rfl rfl (shp_lt hq (by simp)) (CF_6 hq) (by simp) d (sv_heap (CF_set (by rw [hq]; rfl)) kk)
theorem sg_6_4 {q i : Nat} (hq : shp q = (6, 0)) (hl : Cond.fieldLink own i "SideStep$State" "watched" "I" ∈ gw) (d : decode cc pc = .ok (.getfield i, 3)) (kk : sv_V G R own nm cc nL rt Post cells slots 197 (CF G S L) (pc + 3) ls (.int (S q 4) :: st)) : sv_V G R own nm cc nL rt Post cells slots 197 (CF G S L) pc ls (.ref (gB G + q) :: st) := sv_get (ci := 6) rfl uw_X6 4 (by decide) hl (shp_lt hq (by simp)) (CF_6 hq) rfl d kk
theorem sp_6_4 {q i : Nat} {v : Int32} (hq : shp q = (6, 0)) (hl : Cond.fieldLink own i "SideStep$State" "watched" "I" ∈ gw) (d : decode cc pc = .ok (.putfield i, 3)) (kk : sv_V G R own nm cc nL rt Post cells slots 197 (CF G (up2 S q 4 v) L) (pc + 3) ls st) : sv_V G R own nm cc nL rt Post cells slots 197 (CF G S L) pc ls (.int v :: .ref (gB G + q) :: st) := sv_put (ci := 6) rfl uw_X6 tyX6 tyX6_ok nmX6 4 (by decide) hl rfl rfl rfl (shp_lt hq (by simp)) (CF_6 hq) (by simp) d (sv_heap (CF_set (by rw [hq]; rfl)) kk)
theorem sg_6_5 {q i : Nat} (hq : shp q = (6, 0)) (hl : Cond.fieldLink own i "SideStep$State" "cost" "I" ∈ gw) (d : decode cc pc = .ok (.getfield i, 3)) (kk : sv_V G R own nm cc nL rt Post cells slots 197 (CF G S L) (pc + 3) ls (.int (S q 5) :: st)) : sv_V G R own nm cc nL rt Post cells slots 197 (CF G S L) pc ls (.ref (gB G + q) :: st) := sv_get (ci := 6) rfl uw_X6 5 (by decide) hl (shp_lt hq (by simp)) (CF_6 hq) rfl d kk
theorem sp_6_5 {q i : Nat} {v : Int32} (hq : shp q = (6, 0)) (hl : Cond.fieldLink own i "SideStep$State" "cost" "I" ∈ gw) (d : decode cc pc = .ok (.putfield i, 3)) (kk : sv_V G R own nm cc nL rt Post cells slots 197 (CF G (up2 S q 5 v) L) (pc + 3) ls st) : sv_V G R own nm cc nL rt Post cells slots 197 (CF G S L) pc ls (.int v :: .ref (gB G + q) :: st) := sv_put (ci := 6) rfl uw_X6 tyX6 tyX6_ok nmX6 5 (by decide) hl rfl rfl rfl (shp_lt hq (by simp)) (CF_6 hq) (by simp) d (sv_heap (CF_set (by rw [hq]; rfl)) kk)
theorem sg_6_6 {q i : Nat} (hq : shp q = (6, 0)) (hl : Cond.fieldLink own i "SideStep$State" "clock" "I" ∈ gw) (d : decode cc pc = .ok (.getfield i, 3)) (kk : sv_V G R own nm cc nL rt Post cells slots 197 (CF G S L) (pc + 3) ls (.int (S q 6) :: st)) : sv_V G R own nm cc nL rt Post cells slots 197 (CF G S L) pc ls (.ref (gB G + q) :: st) := sv_get (ci := 6) rfl uw_X6 6 (by decide) hl (shp_lt hq (by simp)) (CF_6 hq) rfl d kk
theorem sp_6_6 {q i : Nat} {v : Int32} (hq : shp q = (6, 0)) (hl : Cond.fieldLink own i "SideStep$State" "clock" "I" ∈ gw) (d : decode cc pc = .ok (.putfield i, 3)) (kk : sv_V G R own nm cc nL rt Post cells slots 197 (CF G (up2 S q 6 v) L) (pc + 3) ls st) : sv_V G R own nm cc nL rt Post cells slots 197 (CF G S L) pc ls (.int v :: .ref (gB G + q) :: st) := sv_put (ci := 6) rfl uw_X6 tyX6 tyX6_ok nmX6 6 (by decide) hl rfl rfl rfl (shp_lt hq (by simp)) (CF_6 hq) (by simp) d (sv_heap (CF_set (by rw [hq]; rfl)) kk)
theorem sg_7_0 {q i : Nat} (hq : shp q = (7, 0)) (hl : Cond.fieldLink own i "SideStep$Stops" "machine" "LSideStep$Machine;" ∈ gw) (d : decode cc pc = .ok (.getfield i, 3)) (kk : sv_V G R own nm cc nL rt Post cells slots 197 (CF G S L) (pc + 3) ls (.ref (gB G + (q + 1)) :: st)) : sv_V G R own nm cc nL rt Post cells slots 197 (CF G S L) pc ls (.ref (gB G + q) :: st) := sv_get (ci := 7) rfl uw_X7 0 (by decide) hl (shp_lt hq (by simp)) (CF_7 hq) rfl d kk
theorem sg_7_1 {q i : Nat} (hq : shp q = (7, 0)) (hl : Cond.fieldLink own i "SideStep$Stops" "places" "[I" ∈ gw) (d : decode cc pc = .ok (.getfield i, 3)) (kk : sv_V G R own nm cc nL rt Post cells slots 197 (CF G S L) (pc + 3) ls (.ref (gB G + (q + 5)) :: st)) : sv_V G R own nm cc nL rt Post cells slots 197 (CF G S L) pc ls (.ref (gB G + q) :: st) := sv_get (ci := 7) rfl uw_X7 1 (by decide) hl (shp_lt hq (by simp)) (CF_7 hq) rfl d kk
theorem sg_7_2 {q i : Nat} (hq : shp q = (7, 0)) (hl : Cond.fieldLink own i "SideStep$Stops" "ignores" "[I" ∈ gw) (d : decode cc pc = .ok (.getfield i, 3)) (kk : sv_V G R own nm cc nL rt Post cells slots 197 (CF G S L) (pc + 3) ls (.ref (gB G + (q + 6)) :: st)) : sv_V G R own nm cc nL rt Post cells slots 197 (CF G S L) pc ls (.ref (gB G + q) :: st) := sv_get (ci := 7) rfl uw_X7 2 (by decide) hl (shp_lt hq (by simp)) (CF_7 hq) rfl d kk
theorem sg_7_3 {q i : Nat} (hq : shp q = (7, 0)) (hl : Cond.fieldLink own i "SideStep$Stops" "left" "[I" ∈ gw) (d : decode cc pc = .ok (.getfield i, 3)) (kk : sv_V G R own nm cc nL rt Post cells slots 197 (CF G S L) (pc + 3) ls (.ref (gB G + (q + 7)) :: st)) : sv_V G R own nm cc nL rt Post cells slots 197 (CF G S L) pc ls (.ref (gB G + q) :: st) := sv_get (ci := 7) rfl uw_X7 3 (by decide) hl (shp_lt hq (by simp)) (CF_7 hq) rfl d kk
theorem sg_7_4 {q i : Nat} (hq : shp q = (7, 0)) (hl : Cond.fieldLink own i "SideStep$Stops" "trail" "[I" ∈ gw) (d : decode cc pc = .ok (.getfield i, 3)) (kk : sv_V G R own nm cc nL rt Post cells slots 197 (CF G S L) (pc + 3) ls (.ref (gB G + (q + 8)) :: st)) : sv_V G R own nm cc nL rt Post cells slots 197 (CF G S L) pc ls (.ref (gB G + q) :: st) := sv_get (ci := 7) rfl uw_X7 4 (by decide) hl (shp_lt hq (by simp)) (CF_7 hq) rfl d kk
theorem sg_7_5 {q i : Nat} (hq : shp q = (7, 0)) (hl : Cond.fieldLink own i "SideStep$Stops" "values" "[I" ∈ gw) (d : decode cc pc = .ok (.getfield i, 3)) (kk : sv_V G R own nm cc nL rt Post cells slots 197 (CF G S L) (pc + 3) ls (.ref (gB G + (q + 9)) :: st)) : sv_V G R own nm cc nL rt Post cells slots 197 (CF G S L) pc ls (.ref (gB G + q) :: st) := sv_get (ci := 7) rfl uw_X7 5 (by decide) hl (shp_lt hq (by simp)) (CF_7 hq) rfl d kk
theorem sg_7_6 {q i : Nat} (hq : shp q = (7, 0)) (hl : Cond.fieldLink own i "SideStep$Stops" "length" "I" ∈ gw) (d : decode cc pc = .ok (.getfield i, 3)) (kk : sv_V G R own nm cc nL rt Post cells slots 197 (CF G S L) (pc + 3) ls (.int (S q 6) :: st)) : sv_V G R own nm cc nL rt Post cells slots 197 (CF G S L) pc ls (.ref (gB G + q) :: st) := sv_get (ci := 7) rfl uw_X7 6 (by decide) hl (shp_lt hq (by simp)) (CF_7 hq) rfl d kk
theorem sp_7_6 {q i : Nat} {v : Int32} (hq : shp q = (7, 0)) (hl : Cond.fieldLink own i "SideStep$Stops" "length" "I" ∈ gw) (d : decode cc pc = .ok (.putfield i, 3)) (kk : sv_V G R own nm cc nL rt Post cells slots 197 (CF G (up2 S q 6 v) L) (pc + 3) ls st) : sv_V G R own nm cc nL rt Post cells slots 197 (CF G S L) pc ls (.int v :: .ref (gB G + q) :: st) := sv_put (ci := 7) rfl uw_X7 tyX7 tyX7_ok nmX7 6 (by decide) hl rfl rfl rfl (shp_lt hq (by simp)) (CF_7 hq) (by simp) d (sv_heap (CF_set (by rw [hq]; rfl)) kk)
theorem sg_7_7 {q i : Nat} (hq : shp q = (7, 0)) (hl : Cond.fieldLink own i "SideStep$Stops" "count" "I" ∈ gw) (d : decode cc pc = .ok (.getfield i, 3)) (kk : sv_V G R own nm cc nL rt Post cells slots 197 (CF G S L) (pc + 3) ls (.int (S q 7) :: st)) : sv_V G R own nm cc nL rt Post cells slots 197 (CF G S L) pc ls (.ref (gB G + q) :: st) := sv_get (ci := 7) rfl uw_X7 7 (by decide) hl (shp_lt hq (by simp)) (CF_7 hq) rfl d kk
theorem sp_7_7 {q i : Nat} {v : Int32} (hq : shp q = (7, 0)) (hl : Cond.fieldLink own i "SideStep$Stops" "count" "I" ∈ gw) (d : decode cc pc = .ok (.putfield i, 3)) (kk : sv_V G R own nm cc nL rt Post cells slots 197 (CF G (up2 S q 7 v) L) (pc + 3) ls st) : sv_V G R own nm cc nL rt Post cells slots 197 (CF G S L) pc ls (.int v :: .ref (gB G + q) :: st) := sv_put (ci := 7) rfl uw_X7 tyX7 tyX7_ok nmX7 7 (by decide) hl rfl rfl rfl (shp_lt hq (by simp)) (CF_7 hq) (by simp) d (sv_heap (CF_set (by rw [hq]; rfl)) kk)
theorem sg_8_0 {q i : Nat} (hq : shp q = (8, 0)) (hl : Cond.fieldLink own i "SideStep$Text" "letters" "[I" ∈ gw) (d : decode cc pc = .ok (.getfield i, 3)) (kk : sv_V G R own nm cc nL rt Post cells slots 197 (CF G S L) (pc + 3) ls (.ref (gB G + (q + 1)) :: st)) : sv_V G R own nm cc nL rt Post cells slots 197 (CF G S L) pc ls (.ref (gB G + q) :: st) := sv_get (ci := 8) rfl uw_X8 0 (by decide) hl (shp_lt hq (by simp)) (CF_8 hq) rfl d kk
theorem sg_8_1 {q i : Nat} (hq : shp q = (8, 0)) (hl : Cond.fieldLink own i "SideStep$Text" "length" "I" ∈ gw) (d : decode cc pc = .ok (.getfield i, 3)) (kk : sv_V G R own nm cc nL rt Post cells slots 197 (CF G S L) (pc + 3) ls (.int (S q 1) :: st)) : sv_V G R own nm cc nL rt Post cells slots 197 (CF G S L) pc ls (.ref (gB G + q) :: st) := sv_get (ci := 8) rfl uw_X8 1 (by decide) hl (shp_lt hq (by simp)) (CF_8 hq) rfl d kk
theorem sp_8_1 {q i : Nat} {v : Int32} (hq : shp q = (8, 0)) (hl : Cond.fieldLink own i "SideStep$Text" "length" "I" ∈ gw) (d : decode cc pc = .ok (.putfield i, 3)) (kk : sv_V G R own nm cc nL rt Post cells slots 197 (CF G (up2 S q 1 v) L) (pc + 3) ls st) : sv_V G R own nm cc nL rt Post cells slots 197 (CF G S L) pc ls (.int v :: .ref (gB G + q) :: st) := sv_put (ci := 8) rfl uw_X8 tyX8 tyX8_ok nmX8 1 (by decide) hl rfl rfl rfl (shp_lt hq (by simp)) (CF_8 hq) (by simp) d (sv_heap (CF_set (by rw [hq]; rfl)) kk)
theorem sg_9_0 {q i : Nat} (hq : shp q = (9, 0)) (hl : Cond.fieldLink own i "SideStep" "text" "LSideStep$Text;" ∈ gw) (d : decode cc pc = .ok (.getfield i, 3)) (kk : sv_V G R own nm cc nL rt Post cells slots 197 (CF G S L) (pc + 3) ls (.ref (gB G + (q + 1)) :: st)) : sv_V G R own nm cc nL rt Post cells slots 197 (CF G S L) pc ls (.ref (gB G + q) :: st) := sv_get (ci := 9) rfl uw_X9 0 (by decide) hl (shp_lt hq (by simp)) (CF_9 hq) rfl d kk
theorem sg_9_1 {q i : Nat} (hq : shp q = (9, 0)) (hl : Cond.fieldLink own i "SideStep" "program" "LSideStep$Program;" ∈ gw) (d : decode cc pc = .ok (.getfield i, 3)) (kk : sv_V G R own nm cc nL rt Post cells slots 197 (CF G S L) (pc + 3) ls (.ref (gB G + (q + 3)) :: st)) : sv_V G R own nm cc nL rt Post cells slots 197 (CF G S L) pc ls (.ref (gB G + q) :: st) := sv_get (ci := 9) rfl uw_X9 1 (by decide) hl (shp_lt hq (by simp)) (CF_9 hq) rfl d kk
theorem sg_9_2 {q i : Nat} (hq : shp q = (9, 0)) (hl : Cond.fieldLink own i "SideStep" "draft" "LSideStep$Program;" ∈ gw) (d : decode cc pc = .ok (.getfield i, 3)) (kk : sv_V G R own nm cc nL rt Post cells slots 197 (CF G S L) (pc + 3) ls (.ref (gB G + (q + 8)) :: st)) : sv_V G R own nm cc nL rt Post cells slots 197 (CF G S L) pc ls (.ref (gB G + q) :: st) := sv_get (ci := 9) rfl uw_X9 2 (by decide) hl (shp_lt hq (by simp)) (CF_9 hq) rfl d kk
theorem sg_9_3 {q i : Nat} (hq : shp q = (9, 0)) (hl : Cond.fieldLink own i "SideStep" "now" "LSideStep$State;" ∈ gw) (d : decode cc pc = .ok (.getfield i, 3)) (kk : sv_V G R own nm cc nL rt Post cells slots 197 (CF G S L) (pc + 3) ls (.ref (gB G + (q + 13)) :: st)) : sv_V G R own nm cc nL rt Post cells slots 197 (CF G S L) pc ls (.ref (gB G + q) :: st) := sv_get (ci := 9) rfl uw_X9 3 (by decide) hl (shp_lt hq (by simp)) (CF_9 hq) rfl d kk
theorem sg_9_4 {q i : Nat} (hq : shp q = (9, 0)) (hl : Cond.fieldLink own i "SideStep" "trial" "LSideStep$State;" ∈ gw) (d : decode cc pc = .ok (.getfield i, 3)) (kk : sv_V G R own nm cc nL rt Post cells slots 197 (CF G S L) (pc + 3) ls (.ref (gB G + (q + 21)) :: st)) : sv_V G R own nm cc nL rt Post cells slots 197 (CF G S L) pc ls (.ref (gB G + q) :: st) := sv_get (ci := 9) rfl uw_X9 4 (by decide) hl (shp_lt hq (by simp)) (CF_9 hq) rfl d kk
theorem sg_9_5 {q i : Nat} (hq : shp q = (9, 0)) (hl : Cond.fieldLink own i "SideStep" "history" "LSideStep$History;" ∈ gw) (d : decode cc pc = .ok (.getfield i, 3)) (kk : sv_V G R own nm cc nL rt Post cells slots 197 (CF G S L) (pc + 3) ls (.ref (gB G + (q + 29)) :: st)) : sv_V G R own nm cc nL rt Post cells slots 197 (CF G S L) pc ls (.ref (gB G + q) :: st) := sv_get (ci := 9) rfl uw_X9 5 (by decide) hl (shp_lt hq (by simp)) (CF_9 hq) rfl d kk
theorem sg_9_6 {q i : Nat} (hq : shp q = (9, 0)) (hl : Cond.fieldLink own i "SideStep" "slots" "[LSideStep$State;" ∈ gw) (d : decode cc pc = .ok (.getfield i, 3)) (kk : sv_V G R own nm cc nL rt Post cells slots 197 (CF G S L) (pc + 3) ls (.ref (gB G + (q + 143)) :: st)) : sv_V G R own nm cc nL rt Post cells slots 197 (CF G S L) pc ls (.ref (gB G + q) :: st) := sv_get (ci := 9) rfl uw_X9 6 (by decide) hl (shp_lt hq (by simp)) (CF_9 hq) rfl d kk
theorem sg_9_7 {q i : Nat} (hq : shp q = (9, 0)) (hl : Cond.fieldLink own i "SideStep" "kept" "[Z" ∈ gw) (d : decode cc pc = .ok (.getfield i, 3)) (kk : sv_V G R own nm cc nL rt Post cells slots 197 (CF G S L) (pc + 3) ls (.ref (gB G + (q + 144)) :: st)) : sv_V G R own nm cc nL rt Post cells slots 197 (CF G S L) pc ls (.ref (gB G + q) :: st) := sv_get (ci := 9) rfl uw_X9 7 (by decide) hl (shp_lt hq (by simp)) (CF_9 hq) rfl d kk
theorem sg_9_8 {q i : Nat} (hq : shp q = (9, 0)) (hl : Cond.fieldLink own i "SideStep" "sights" "LSideStep$Sights;" ∈ gw) (d : decode cc pc = .ok (.getfield i, 3)) (kk : sv_V G R own nm cc nL rt Post cells slots 197 (CF G S L) (pc + 3) ls (.ref (gB G + (q + 145)) :: st)) : sv_V G R own nm cc nL rt Post cells slots 197 (CF G S L) pc ls (.ref (gB G + q) :: st) := sv_get (ci := 9) rfl uw_X9 8 (by decide) hl (shp_lt hq (by simp)) (CF_9 hq) rfl d kk
theorem sg_9_9 {q i : Nat} (hq : shp q = (9, 0)) (hl : Cond.fieldLink own i "SideStep" "run" "LSideStep$FreeRun;" ∈ gw) (d : decode cc pc = .ok (.getfield i, 3)) (kk : sv_V G R own nm cc nL rt Post cells slots 197 (CF G S L) (pc + 3) ls (.ref (gB G + (q + 148)) :: st)) : sv_V G R own nm cc nL rt Post cells slots 197 (CF G S L) pc ls (.ref (gB G + q) :: st) := sv_get (ci := 9) rfl uw_X9 9 (by decide) hl (shp_lt hq (by simp)) (CF_9 hq) rfl d kk
theorem sg_9_10 {q i : Nat} (hq : shp q = (9, 0)) (hl : Cond.fieldLink own i "SideStep" "stops" "LSideStep$Stops;" ∈ gw) (d : decode cc pc = .ok (.getfield i, 3)) (kk : sv_V G R own nm cc nL rt Post cells slots 197 (CF G S L) (pc + 3) ls (.ref (gB G + (q + 153)) :: st)) : sv_V G R own nm cc nL rt Post cells slots 197 (CF G S L) pc ls (.ref (gB G + q) :: st) := sv_get (ci := 9) rfl uw_X9 10 (by decide) hl (shp_lt hq (by simp)) (CF_9 hq) rfl d kk
theorem sg_9_11 {q i : Nat} (hq : shp q = (9, 0)) (hl : Cond.fieldLink own i "SideStep" "seed" "J" ∈ gw) (d : decode cc pc = .ok (.getfield i, 3)) (kk : sv_V G R own nm cc nL rt Post cells slots 197 (CF G S L) (pc + 3) ls (.long (L q) :: st)) : sv_V G R own nm cc nL rt Post cells slots 197 (CF G S L) pc ls (.ref (gB G + q) :: st) := sv_get (ci := 9) rfl uw_X9 11 (by decide) hl (shp_lt hq (by simp)) (CF_9 hq) rfl d kk
theorem sp_9_11 {q i : Nat} {v : Int64} (hq : shp q = (9, 0)) (hl : Cond.fieldLink own i "SideStep" "seed" "J" ∈ gw) (d : decode cc pc = .ok (.putfield i, 3)) (kk : sv_V G R own nm cc nL rt Post cells slots 197 (CF G S (va_up L q v)) (pc + 3) ls st) : sv_V G R own nm cc nL rt Post cells slots 197 (CF G S L) pc ls (.long v :: .ref (gB G + q) :: st) := sv_put (ci := 9) rfl uw_X9 tyX9 tyX9_ok nmX9 11 (by decide) hl rfl rfl rfl (shp_lt hq (by simp)) (CF_9 hq) (by simp) d (sv_heap (CF_setL (by rw [hq]; rfl)) kk)
theorem sg_10_0 {q i : Nat} (hq : shp q = (10, 0)) (hl : Cond.fieldLink own i "SideStepModel" "text" "[I" ∈ gw) (d : decode cc pc = .ok (.getfield i, 3)) (kk : sv_V G R own nm cc nL rt Post cells slots 197 (CF G S L) (pc + 3) ls (.ref (gB G + (q + 1)) :: st)) : sv_V G R own nm cc nL rt Post cells slots 197 (CF G S L) pc ls (.ref (gB G + q) :: st) := sv_get (ci := 10) rfl uw_X10 0 (by decide) hl (shp_lt hq (by simp)) (CF_10 hq) rfl d kk
theorem sg_10_1 {q i : Nat} (hq : shp q = (10, 0)) (hl : Cond.fieldLink own i "SideStepModel" "length" "I" ∈ gw) (d : decode cc pc = .ok (.getfield i, 3)) (kk : sv_V G R own nm cc nL rt Post cells slots 197 (CF G S L) (pc + 3) ls (.int (S q 1) :: st)) : sv_V G R own nm cc nL rt Post cells slots 197 (CF G S L) pc ls (.ref (gB G + q) :: st) := sv_get (ci := 10) rfl uw_X10 1 (by decide) hl (shp_lt hq (by simp)) (CF_10 hq) rfl d kk
theorem sp_10_1 {q i : Nat} {v : Int32} (hq : shp q = (10, 0)) (hl : Cond.fieldLink own i "SideStepModel" "length" "I" ∈ gw) (d : decode cc pc = .ok (.putfield i, 3)) (kk : sv_V G R own nm cc nL rt Post cells slots 197 (CF G (up2 S q 1 v) L) (pc + 3) ls st) : sv_V G R own nm cc nL rt Post cells slots 197 (CF G S L) pc ls (.int v :: .ref (gB G + q) :: st) := sv_put (ci := 10) rfl uw_X10 tyX10 tyX10_ok nmX10 1 (by decide) hl rfl rfl rfl (shp_lt hq (by simp)) (CF_10 hq) (by simp) d (sv_heap (CF_set (by rw [hq]; rfl)) kk)
theorem sg_10_2 {q i : Nat} (hq : shp q = (10, 0)) (hl : Cond.fieldLink own i "SideStepModel" "many" "I" ∈ gw) (d : decode cc pc = .ok (.getfield i, 3)) (kk : sv_V G R own nm cc nL rt Post cells slots 197 (CF G S L) (pc + 3) ls (.int (S q 2) :: st)) : sv_V G R own nm cc nL rt Post cells slots 197 (CF G S L) pc ls (.ref (gB G + q) :: st) := sv_get (ci := 10) rfl uw_X10 2 (by decide) hl (shp_lt hq (by simp)) (CF_10 hq) rfl d kk
theorem sp_10_2 {q i : Nat} {v : Int32} (hq : shp q = (10, 0)) (hl : Cond.fieldLink own i "SideStepModel" "many" "I" ∈ gw) (d : decode cc pc = .ok (.putfield i, 3)) (kk : sv_V G R own nm cc nL rt Post cells slots 197 (CF G (up2 S q 2 v) L) (pc + 3) ls st) : sv_V G R own nm cc nL rt Post cells slots 197 (CF G S L) pc ls (.int v :: .ref (gB G + q) :: st) := sv_put (ci := 10) rfl uw_X10 tyX10 tyX10_ok nmX10 2 (by decide) hl rfl rfl rfl (shp_lt hq (by simp)) (CF_10 hq) (by simp) d (sv_heap (CF_set (by rw [hq]; rfl)) kk)
theorem sg_10_3 {q i : Nat} (hq : shp q = (10, 0)) (hl : Cond.fieldLink own i "SideStepModel" "kind" "[I" ∈ gw) (d : decode cc pc = .ok (.getfield i, 3)) (kk : sv_V G R own nm cc nL rt Post cells slots 197 (CF G S L) (pc + 3) ls (.ref (gB G + (q + 2)) :: st)) : sv_V G R own nm cc nL rt Post cells slots 197 (CF G S L) pc ls (.ref (gB G + q) :: st) := sv_get (ci := 10) rfl uw_X10 3 (by decide) hl (shp_lt hq (by simp)) (CF_10 hq) rfl d kk
theorem sg_10_4 {q i : Nat} (hq : shp q = (10, 0)) (hl : Cond.fieldLink own i "SideStepModel" "one" "[I" ∈ gw) (d : decode cc pc = .ok (.getfield i, 3)) (kk : sv_V G R own nm cc nL rt Post cells slots 197 (CF G S L) (pc + 3) ls (.ref (gB G + (q + 3)) :: st)) : sv_V G R own nm cc nL rt Post cells slots 197 (CF G S L) pc ls (.ref (gB G + q) :: st) := sv_get (ci := 10) rfl uw_X10 4 (by decide) hl (shp_lt hq (by simp)) (CF_10 hq) rfl d kk
theorem sg_10_5 {q i : Nat} (hq : shp q = (10, 0)) (hl : Cond.fieldLink own i "SideStepModel" "two" "[I" ∈ gw) (d : decode cc pc = .ok (.getfield i, 3)) (kk : sv_V G R own nm cc nL rt Post cells slots 197 (CF G S L) (pc + 3) ls (.ref (gB G + (q + 4)) :: st)) : sv_V G R own nm cc nL rt Post cells slots 197 (CF G S L) pc ls (.ref (gB G + q) :: st) := sv_get (ci := 10) rfl uw_X10 5 (by decide) hl (shp_lt hq (by simp)) (CF_10 hq) rfl d kk
theorem sg_10_6 {q i : Nat} (hq : shp q = (10, 0)) (hl : Cond.fieldLink own i "SideStepModel" "now" "[I" ∈ gw) (d : decode cc pc = .ok (.getfield i, 3)) (kk : sv_V G R own nm cc nL rt Post cells slots 197 (CF G S L) (pc + 3) ls (.ref (gB G + (q + 5)) :: st)) : sv_V G R own nm cc nL rt Post cells slots 197 (CF G S L) pc ls (.ref (gB G + q) :: st) := sv_get (ci := 10) rfl uw_X10 6 (by decide) hl (shp_lt hq (by simp)) (CF_10 hq) rfl d kk
theorem sg_10_7 {q i : Nat} (hq : shp q = (10, 0)) (hl : Cond.fieldLink own i "SideStepModel" "trial" "[I" ∈ gw) (d : decode cc pc = .ok (.getfield i, 3)) (kk : sv_V G R own nm cc nL rt Post cells slots 197 (CF G S L) (pc + 3) ls (.ref (gB G + (q + 6)) :: st)) : sv_V G R own nm cc nL rt Post cells slots 197 (CF G S L) pc ls (.ref (gB G + q) :: st) := sv_get (ci := 10) rfl uw_X10 7 (by decide) hl (shp_lt hq (by simp)) (CF_10 hq) rfl d kk
theorem sg_10_8 {q i : Nat} (hq : shp q = (10, 0)) (hl : Cond.fieldLink own i "SideStepModel" "diary" "[I" ∈ gw) (d : decode cc pc = .ok (.getfield i, 3)) (kk : sv_V G R own nm cc nL rt Post cells slots 197 (CF G S L) (pc + 3) ls (.ref (gB G + (q + 7)) :: st)) : sv_V G R own nm cc nL rt Post cells slots 197 (CF G S L) pc ls (.ref (gB G + q) :: st) := sv_get (ci := 10) rfl uw_X10 8 (by decide) hl (shp_lt hq (by simp)) (CF_10 hq) rfl d kk
theorem sg_10_9 {q i : Nat} (hq : shp q = (10, 0)) (hl : Cond.fieldLink own i "SideStepModel" "acts" "I" ∈ gw) (d : decode cc pc = .ok (.getfield i, 3)) (kk : sv_V G R own nm cc nL rt Post cells slots 197 (CF G S L) (pc + 3) ls (.int (S q 9) :: st)) : sv_V G R own nm cc nL rt Post cells slots 197 (CF G S L) pc ls (.ref (gB G + q) :: st) := sv_get (ci := 10) rfl uw_X10 9 (by decide) hl (shp_lt hq (by simp)) (CF_10 hq) rfl d kk
theorem sp_10_9 {q i : Nat} {v : Int32} (hq : shp q = (10, 0)) (hl : Cond.fieldLink own i "SideStepModel" "acts" "I" ∈ gw) (d : decode cc pc = .ok (.putfield i, 3)) (kk : sv_V G R own nm cc nL rt Post cells slots 197 (CF G (up2 S q 9 v) L) (pc + 3) ls st) : sv_V G R own nm cc nL rt Post cells slots 197 (CF G S L) pc ls (.int v :: .ref (gB G + q) :: st) := sv_put (ci := 10) rfl uw_X10 tyX10 tyX10_ok nmX10 9 (by decide) hl rfl rfl rfl (shp_lt hq (by simp)) (CF_10 hq) (by simp) d (sv_heap (CF_set (by rw [hq]; rfl)) kk)
theorem sg_10_10 {q i : Nat} (hq : shp q = (10, 0)) (hl : Cond.fieldLink own i "SideStepModel" "next" "I" ∈ gw) (d : decode cc pc = .ok (.getfield i, 3)) (kk : sv_V G R own nm cc nL rt Post cells slots 197 (CF G S L) (pc + 3) ls (.int (S q 10) :: st)) : sv_V G R own nm cc nL rt Post cells slots 197 (CF G S L) pc ls (.ref (gB G + q) :: st) := sv_get (ci := 10) rfl uw_X10 10 (by decide) hl (shp_lt hq (by simp)) (CF_10 hq) rfl d kk
theorem sp_10_10 {q i : Nat} {v : Int32} (hq : shp q = (10, 0)) (hl : Cond.fieldLink own i "SideStepModel" "next" "I" ∈ gw) (d : decode cc pc = .ok (.putfield i, 3)) (kk : sv_V G R own nm cc nL rt Post cells slots 197 (CF G (up2 S q 10 v) L) (pc + 3) ls st) : sv_V G R own nm cc nL rt Post cells slots 197 (CF G S L) pc ls (.int v :: .ref (gB G + q) :: st) := sv_put (ci := 10) rfl uw_X10 tyX10 tyX10_ok nmX10 10 (by decide) hl rfl rfl rfl (shp_lt hq (by simp)) (CF_10 hq) (by simp) d (sv_heap (CF_set (by rw [hq]; rfl)) kk)
theorem sg_10_11 {q i : Nat} (hq : shp q = (10, 0)) (hl : Cond.fieldLink own i "SideStepModel" "kept" "[I" ∈ gw) (d : decode cc pc = .ok (.getfield i, 3)) (kk : sv_V G R own nm cc nL rt Post cells slots 197 (CF G S L) (pc + 3) ls (.ref (gB G + (q + 8)) :: st)) : sv_V G R own nm cc nL rt Post cells slots 197 (CF G S L) pc ls (.ref (gB G + q) :: st) := sv_get (ci := 10) rfl uw_X10 11 (by decide) hl (shp_lt hq (by simp)) (CF_10 hq) rfl d kk
theorem sg_10_12 {q i : Nat} (hq : shp q = (10, 0)) (hl : Cond.fieldLink own i "SideStepModel" "isKept" "[Z" ∈ gw) (d : decode cc pc = .ok (.getfield i, 3)) (kk : sv_V G R own nm cc nL rt Post cells slots 197 (CF G S L) (pc + 3) ls (.ref (gB G + (q + 9)) :: st)) : sv_V G R own nm cc nL rt Post cells slots 197 (CF G S L) pc ls (.ref (gB G + q) :: st) := sv_get (ci := 10) rfl uw_X10 12 (by decide) hl (shp_lt hq (by simp)) (CF_10 hq) rfl d kk
theorem sg_10_13 {q i : Nat} (hq : shp q = (10, 0)) (hl : Cond.fieldLink own i "SideStepModel" "seenMany" "[I" ∈ gw) (d : decode cc pc = .ok (.getfield i, 3)) (kk : sv_V G R own nm cc nL rt Post cells slots 197 (CF G S L) (pc + 3) ls (.ref (gB G + (q + 10)) :: st)) : sv_V G R own nm cc nL rt Post cells slots 197 (CF G S L) pc ls (.ref (gB G + q) :: st) := sv_get (ci := 10) rfl uw_X10 13 (by decide) hl (shp_lt hq (by simp)) (CF_10 hq) rfl d kk
theorem sg_10_14 {q i : Nat} (hq : shp q = (10, 0)) (hl : Cond.fieldLink own i "SideStepModel" "seenIs" "[I" ∈ gw) (d : decode cc pc = .ok (.getfield i, 3)) (kk : sv_V G R own nm cc nL rt Post cells slots 197 (CF G S L) (pc + 3) ls (.ref (gB G + (q + 11)) :: st)) : sv_V G R own nm cc nL rt Post cells slots 197 (CF G S L) pc ls (.ref (gB G + q) :: st) := sv_get (ci := 10) rfl uw_X10 14 (by decide) hl (shp_lt hq (by simp)) (CF_10 hq) rfl d kk
theorem sg_10_15 {q i : Nat} (hq : shp q = (10, 0)) (hl : Cond.fieldLink own i "SideStepModel" "seen" "I" ∈ gw) (d : decode cc pc = .ok (.getfield i, 3)) (kk : sv_V G R own nm cc nL rt Post cells slots 197 (CF G S L) (pc + 3) ls (.int (S q 15) :: st)) : sv_V G R own nm cc nL rt Post cells slots 197 (CF G S L) pc ls (.ref (gB G + q) :: st) := sv_get (ci := 10) rfl uw_X10 15 (by decide) hl (shp_lt hq (by simp)) (CF_10 hq) rfl d kk
theorem sp_10_15 {q i : Nat} {v : Int32} (hq : shp q = (10, 0)) (hl : Cond.fieldLink own i "SideStepModel" "seen" "I" ∈ gw) (d : decode cc pc = .ok (.putfield i, 3)) (kk : sv_V G R own nm cc nL rt Post cells slots 197 (CF G (up2 S q 15 v) L) (pc + 3) ls st) : sv_V G R own nm cc nL rt Post cells slots 197 (CF G S L) pc ls (.int v :: .ref (gB G + q) :: st) := sv_put (ci := 10) rfl uw_X10 tyX10 tyX10_ok nmX10 15 (by decide) hl rfl rfl rfl (shp_lt hq (by simp)) (CF_10 hq) (by simp) d (sv_heap (CF_set (by rw [hq]; rfl)) kk)
theorem sg_10_16 {q i : Nat} (hq : shp q = (10, 0)) (hl : Cond.fieldLink own i "SideStepModel" "seed" "J" ∈ gw) (d : decode cc pc = .ok (.getfield i, 3)) (kk : sv_V G R own nm cc nL rt Post cells slots 197 (CF G S L) (pc + 3) ls (.long (L q) :: st)) : sv_V G R own nm cc nL rt Post cells slots 197 (CF G S L) pc ls (.ref (gB G + q) :: st) := sv_get (ci := 10) rfl uw_X10 16 (by decide) hl (shp_lt hq (by simp)) (CF_10 hq) rfl d kk
theorem sp_10_16 {q i : Nat} {v : Int64} (hq : shp q = (10, 0)) (hl : Cond.fieldLink own i "SideStepModel" "seed" "J" ∈ gw) (d : decode cc pc = .ok (.putfield i, 3)) (kk : sv_V G R own nm cc nL rt Post cells slots 197 (CF G S (va_up L q v)) (pc + 3) ls st) : sv_V G R own nm cc nL rt Post cells slots 197 (CF G S L) pc ls (.long v :: .ref (gB G + q) :: st) := sv_put (ci := 10) rfl uw_X10 tyX10 tyX10_ok nmX10 16 (by decide) hl rfl rfl rfl (shp_lt hq (by simp)) (CF_10 hq) (by simp) d (sv_heap (CF_setL (by rw [hq]; rfl)) kk)
theorem sg_10_17 {q i : Nat} (hq : shp q = (10, 0)) (hl : Cond.fieldLink own i "SideStepModel" "idle" "I" ∈ gw) (d : decode cc pc = .ok (.getfield i, 3)) (kk : sv_V G R own nm cc nL rt Post cells slots 197 (CF G S L) (pc + 3) ls (.int (S q 17) :: st)) : sv_V G R own nm cc nL rt Post cells slots 197 (CF G S L) pc ls (.ref (gB G + q) :: st) := sv_get (ci := 10) rfl uw_X10 17 (by decide) hl (shp_lt hq (by simp)) (CF_10 hq) rfl d kk
theorem sp_10_17 {q i : Nat} {v : Int32} (hq : shp q = (10, 0)) (hl : Cond.fieldLink own i "SideStepModel" "idle" "I" ∈ gw) (d : decode cc pc = .ok (.putfield i, 3)) (kk : sv_V G R own nm cc nL rt Post cells slots 197 (CF G (up2 S q 17 v) L) (pc + 3) ls st) : sv_V G R own nm cc nL rt Post cells slots 197 (CF G S L) pc ls (.int v :: .ref (gB G + q) :: st) := sv_put (ci := 10) rfl uw_X10 tyX10 tyX10_ok nmX10 17 (by decide) hl rfl rfl rfl (shp_lt hq (by simp)) (CF_10 hq) (by simp) d (sv_heap (CF_set (by rw [hq]; rfl)) kk)
theorem sg_10_18 {q i : Nat} (hq : shp q = (10, 0)) (hl : Cond.fieldLink own i "SideStepModel" "steps" "I" ∈ gw) (d : decode cc pc = .ok (.getfield i, 3)) (kk : sv_V G R own nm cc nL rt Post cells slots 197 (CF G S L) (pc + 3) ls (.int (S q 18) :: st)) : sv_V G R own nm cc nL rt Post cells slots 197 (CF G S L) pc ls (.ref (gB G + q) :: st) := sv_get (ci := 10) rfl uw_X10 18 (by decide) hl (shp_lt hq (by simp)) (CF_10 hq) rfl d kk
theorem sp_10_18 {q i : Nat} {v : Int32} (hq : shp q = (10, 0)) (hl : Cond.fieldLink own i "SideStepModel" "steps" "I" ∈ gw) (d : decode cc pc = .ok (.putfield i, 3)) (kk : sv_V G R own nm cc nL rt Post cells slots 197 (CF G (up2 S q 18 v) L) (pc + 3) ls st) : sv_V G R own nm cc nL rt Post cells slots 197 (CF G S L) pc ls (.int v :: .ref (gB G + q) :: st) := sv_put (ci := 10) rfl uw_X10 tyX10 tyX10_ok nmX10 18 (by decide) hl rfl rfl rfl (shp_lt hq (by simp)) (CF_10 hq) (by simp) d (sv_heap (CF_set (by rw [hq]; rfl)) kk)
theorem sg_10_19 {q i : Nat} (hq : shp q = (10, 0)) (hl : Cond.fieldLink own i "SideStepModel" "cells" "[I" ∈ gw) (d : decode cc pc = .ok (.getfield i, 3)) (kk : sv_V G R own nm cc nL rt Post cells slots 197 (CF G S L) (pc + 3) ls (.ref (gB G + (q + 12)) :: st)) : sv_V G R own nm cc nL rt Post cells slots 197 (CF G S L) pc ls (.ref (gB G + q) :: st) := sv_get (ci := 10) rfl uw_X10 19 (by decide) hl (shp_lt hq (by simp)) (CF_10 hq) rfl d kk
theorem sg_10_20 {q i : Nat} (hq : shp q = (10, 0)) (hl : Cond.fieldLink own i "SideStepModel" "places" "[I" ∈ gw) (d : decode cc pc = .ok (.getfield i, 3)) (kk : sv_V G R own nm cc nL rt Post cells slots 197 (CF G S L) (pc + 3) ls (.ref (gB G + (q + 13)) :: st)) : sv_V G R own nm cc nL rt Post cells slots 197 (CF G S L) pc ls (.ref (gB G + q) :: st) := sv_get (ci := 10) rfl uw_X10 20 (by decide) hl (shp_lt hq (by simp)) (CF_10 hq) rfl d kk
theorem sg_10_21 {q i : Nat} (hq : shp q = (10, 0)) (hl : Cond.fieldLink own i "SideStepModel" "worth" "[I" ∈ gw) (d : decode cc pc = .ok (.getfield i, 3)) (kk : sv_V G R own nm cc nL rt Post cells slots 197 (CF G S L) (pc + 3) ls (.ref (gB G + (q + 14)) :: st)) : sv_V G R own nm cc nL rt Post cells slots 197 (CF G S L) pc ls (.ref (gB G + q) :: st) := sv_get (ci := 10) rfl uw_X10 21 (by decide) hl (shp_lt hq (by simp)) (CF_10 hq) rfl d kk
theorem sg_10_22 {q i : Nat} (hq : shp q = (10, 0)) (hl : Cond.fieldLink own i "SideStepModel" "part" "I" ∈ gw) (d : decode cc pc = .ok (.getfield i, 3)) (kk : sv_V G R own nm cc nL rt Post cells slots 197 (CF G S L) (pc + 3) ls (.int (S q 22) :: st)) : sv_V G R own nm cc nL rt Post cells slots 197 (CF G S L) pc ls (.ref (gB G + q) :: st) := sv_get (ci := 10) rfl uw_X10 22 (by decide) hl (shp_lt hq (by simp)) (CF_10 hq) rfl d kk
theorem sp_10_22 {q i : Nat} {v : Int32} (hq : shp q = (10, 0)) (hl : Cond.fieldLink own i "SideStepModel" "part" "I" ∈ gw) (d : decode cc pc = .ok (.putfield i, 3)) (kk : sv_V G R own nm cc nL rt Post cells slots 197 (CF G (up2 S q 22 v) L) (pc + 3) ls st) : sv_V G R own nm cc nL rt Post cells slots 197 (CF G S L) pc ls (.int v :: .ref (gB G + q) :: st) := sv_put (ci := 10) rfl uw_X10 tyX10 tyX10_ok nmX10 22 (by decide) hl rfl rfl rfl (shp_lt hq (by simp)) (CF_10 hq) (by simp) d (sv_heap (CF_set (by rw [hq]; rfl)) kk)
theorem sg_10_23 {q i : Nat} (hq : shp q = (10, 0)) (hl : Cond.fieldLink own i "SideStepModel" "readMany" "I" ∈ gw) (d : decode cc pc = .ok (.getfield i, 3)) (kk : sv_V G R own nm cc nL rt Post cells slots 197 (CF G S L) (pc + 3) ls (.int (S q 23) :: st)) : sv_V G R own nm cc nL rt Post cells slots 197 (CF G S L) pc ls (.ref (gB G + q) :: st) := sv_get (ci := 10) rfl uw_X10 23 (by decide) hl (shp_lt hq (by simp)) (CF_10 hq) rfl d kk
theorem sp_10_23 {q i : Nat} {v : Int32} (hq : shp q = (10, 0)) (hl : Cond.fieldLink own i "SideStepModel" "readMany" "I" ∈ gw) (d : decode cc pc = .ok (.putfield i, 3)) (kk : sv_V G R own nm cc nL rt Post cells slots 197 (CF G (up2 S q 23 v) L) (pc + 3) ls st) : sv_V G R own nm cc nL rt Post cells slots 197 (CF G S L) pc ls (.int v :: .ref (gB G + q) :: st) := sv_put (ci := 10) rfl uw_X10 tyX10 tyX10_ok nmX10 23 (by decide) hl rfl rfl rfl (shp_lt hq (by simp)) (CF_10 hq) (by simp) d (sv_heap (CF_set (by rw [hq]; rfl)) kk)
theorem sg_10_24 {q i : Nat} (hq : shp q = (10, 0)) (hl : Cond.fieldLink own i "SideStepModel" "readKind" "[I" ∈ gw) (d : decode cc pc = .ok (.getfield i, 3)) (kk : sv_V G R own nm cc nL rt Post cells slots 197 (CF G S L) (pc + 3) ls (.ref (gB G + (q + 15)) :: st)) : sv_V G R own nm cc nL rt Post cells slots 197 (CF G S L) pc ls (.ref (gB G + q) :: st) := sv_get (ci := 10) rfl uw_X10 24 (by decide) hl (shp_lt hq (by simp)) (CF_10 hq) rfl d kk
theorem sg_10_25 {q i : Nat} (hq : shp q = (10, 0)) (hl : Cond.fieldLink own i "SideStepModel" "readOne" "[I" ∈ gw) (d : decode cc pc = .ok (.getfield i, 3)) (kk : sv_V G R own nm cc nL rt Post cells slots 197 (CF G S L) (pc + 3) ls (.ref (gB G + (q + 16)) :: st)) : sv_V G R own nm cc nL rt Post cells slots 197 (CF G S L) pc ls (.ref (gB G + q) :: st) := sv_get (ci := 10) rfl uw_X10 25 (by decide) hl (shp_lt hq (by simp)) (CF_10 hq) rfl d kk
theorem sg_10_26 {q i : Nat} (hq : shp q = (10, 0)) (hl : Cond.fieldLink own i "SideStepModel" "readTwo" "[I" ∈ gw) (d : decode cc pc = .ok (.getfield i, 3)) (kk : sv_V G R own nm cc nL rt Post cells slots 197 (CF G S L) (pc + 3) ls (.ref (gB G + (q + 17)) :: st)) : sv_V G R own nm cc nL rt Post cells slots 197 (CF G S L) pc ls (.ref (gB G + q) :: st) := sv_get (ci := 10) rfl uw_X10 26 (by decide) hl (shp_lt hq (by simp)) (CF_10 hq) rfl d kk
theorem sg_10_27 {q i : Nat} (hq : shp q = (10, 0)) (hl : Cond.fieldLink own i "SideStepModel" "sign" "I" ∈ gw) (d : decode cc pc = .ok (.getfield i, 3)) (kk : sv_V G R own nm cc nL rt Post cells slots 197 (CF G S L) (pc + 3) ls (.int (S q 27) :: st)) : sv_V G R own nm cc nL rt Post cells slots 197 (CF G S L) pc ls (.ref (gB G + q) :: st) := sv_get (ci := 10) rfl uw_X10 27 (by decide) hl (shp_lt hq (by simp)) (CF_10 hq) rfl d kk
theorem sp_10_27 {q i : Nat} {v : Int32} (hq : shp q = (10, 0)) (hl : Cond.fieldLink own i "SideStepModel" "sign" "I" ∈ gw) (d : decode cc pc = .ok (.putfield i, 3)) (kk : sv_V G R own nm cc nL rt Post cells slots 197 (CF G (up2 S q 27 v) L) (pc + 3) ls st) : sv_V G R own nm cc nL rt Post cells slots 197 (CF G S L) pc ls (.int v :: .ref (gB G + q) :: st) := sv_put (ci := 10) rfl uw_X10 tyX10 tyX10_ok nmX10 27 (by decide) hl rfl rfl rfl (shp_lt hq (by simp)) (CF_10 hq) (by simp) d (sv_heap (CF_set (by rw [hq]; rfl)) kk)
theorem sa_ild {q len : Nat} {i : Int32} (hq : shp q = (11, len)) (hin : vp_in i len) (d : decode cc pc = .ok (.iaload, 1)) (kk : sv_V G R own nm cc nL rt Post cells slots 197 (CF G S L) (pc + 1) ls (.int (S q i.toNatClampNeg) :: st)) : sv_V G R own nm cc nL rt Post cells slots 197 (CF G S L) pc ls (.int i :: .ref (gB G + q) :: st) := sv_iald (shp_lt hq (by simp)) (CF_11 hq) hin d kk
theorem sa_zld {q len : Nat} {i : Int32} (hq : shp q = (12, len)) (hin : vp_in i len) (d : decode cc pc = .ok (.baload, 1)) (kk : sv_V G R own nm cc nL rt Post cells slots 197 (CF G S L) (pc + 1) ls (.int (S q i.toNatClampNeg) :: st)) : sv_V G R own nm cc nL rt Post cells slots 197 (CF G S L) pc ls (.int i :: .ref (gB G + q) :: st) := sv_zald (shp_lt hq (by simp)) (CF_12 hq) hin d kk
theorem sa_ist {q len : Nat} {i x : Int32} (hq : shp q = (11, len)) (hin : vp_in i len) (d : decode cc pc = .ok (.iastore, 1)) (kk : sv_V G R own nm cc nL rt Post cells slots 197 (CF G (up2 S q i.toNatClampNeg x) L) (pc + 1) ls st) : sv_V G R own nm cc nL rt Post cells slots 197 (CF G S L) pc ls (.int x :: .int i :: .ref (gB G + q) :: st) := sv_iast (shp_lt hq (by simp)) (CF_11 hq) hin d (sv_heap (CF_set (by rw [hq]; rfl)) kk)
theorem sa_zst {q len : Nat} {i x : Int32} (hq : shp q = (12, len)) (hin : vp_in i len) (d : decode cc pc = .ok (.bastore, 1)) (kk : sv_V G R own nm cc nL rt Post cells slots 197 (CF G (up2 S q i.toNatClampNeg (vp_nar .boolean x)) L) (pc + 1) ls st) : sv_V G R own nm cc nL rt Post cells slots 197 (CF G S L) pc ls (.int x :: .int i :: .ref (gB G + q) :: st) := sv_zast (shp_lt hq (by simp)) (CF_12 hq) hin d (sv_heap (CF_set (by rw [hq]; rfl)) kk)
theorem sa_ring {q len : Nat} {i : Int32} (hq : shp q = (13, len)) (hin : vp_in i len) (d : decode cc pc = .ok (.aaload, 1)) (kk : sv_V G R own nm cc nL rt Post cells slots 197 (CF G S L) (pc + 1) ls (.ref (gB G + (q + 1 + 8 * i.toNatClampNeg)) :: st)) : sv_V G R own nm cc nL rt Post cells slots 197 (CF G S L) pc ls (.int i :: .ref (gB G + q) :: st) := sv_aald (shp_lt hq (by simp)) (CF_13 hq) hin rfl d kk
theorem sa_slot {q len : Nat} {i : Int32} (hq : shp q = (14, len)) (hin : vp_in i len) (d : decode cc pc = .ok (.aaload, 1)) (kk : sv_V G R own nm cc nL rt Post cells slots 197 (CF G S L) (pc + 1) ls (.ref (gB G + (q + 20 + 8 * i.toNatClampNeg)) :: st)) : sv_V G R own nm cc nL rt Post cells slots 197 (CF G S L) pc ls (.int i :: .ref (gB G + q) :: st) := sv_aald (shp_lt hq (by simp)) (CF_14 hq) hin rfl d kk
theorem CF_row {q : Nat} {g : Nat → Int32} {e : va_E} (h : cellOf G q (shp q) g (L q) = e) : ∀ k, k < 197 → va_up (CF G S L) q e k = CF G (va_up S q g) L k := by
  intro k _
  by_cases hk : k = q
  · subst hk
    simp only [va_up, if_pos, CF]
    exact h.symm
  · simp only [va_up, if_neg hk, CF]
theorem sa_copy {q0 q1 l0 l1 i : Nat} {sp dp z : Int32} (w1 : Cond.methodLink own i arraycopyName ∈ gw) (hq0 : shp q0 = (11, l0)) (hq1 : shp q1 = (11, l1)) (h1 : ¬ sp < 0) (h2 : ¬ dp < 0) (h3 : ¬ z < 0) (h4 : sp.toNatClampNeg + z.toNatClampNeg ≤ l0) (h5 : dp.toNatClampNeg + z.toNatClampNeg ≤ l1) (hfr : 1 ≤ R.frames) (hlo : (st.map fun v => v.category).sum + 18 ≤ R.locals) (d : decode cc pc = .ok (.invokestatic i, 3))
    (kk : sv_V G R own nm cc nL rt Post cells slots 197 (CF G (va_up S q1 (va_cpy (S q0) (S q1) sp.toNatClampNeg dp.toNatClampNeg z.toNatClampNeg)) L) (pc + 3) ls st) : sv_V G R own nm cc nL rt Post cells slots 197 (CF G S L) pc ls (.int z :: .int dp :: .ref (gB G + q1) :: .int sp :: .ref (gB G + q0) :: st) :=
  sv_copy w1 nt_arraycopy st_arraycopy (show Cond.initialized "java/lang/System" ∈ gw from in_RJ10) (shp_lt hq0 (by simp)) (shp_lt hq1 (by simp)) (CF_11 hq0) (CF_11 hq1) h1 h2 h3 h4 h5 hfr hlo d (sv_heap (CF_row (by rw [hq1]; rfl)) kk)
theorem cVi0 {y : MethodName} {R2 : Room} {cc2 : ByteArray} {nL2 : Nat} {rt2 : Option FieldType} {q i ci N : Nat} {T : u_T} {fs : List Value} {v : Value} (hC : sE G y R2 cc2 nL2 rt2 [.ref (gB G + q)] S L (some v) S2 L2) (hz : R2.cells = 0 ∧ R2.slots = 0) (hw : ∀ w ∈ [Cond.methodLink own i y, .instanceMethod y, .selects y.cls y y, .initialized y.cls, .code y cc2 nL2 rt2], w ∈ gw) (hd : sv_nm y 0) (hR : R2.frames + 1 ≤ R.frames ∧ 8 + (nL2 + 11) + R2.locals ≤ R.locals) (hci : vwCl[ci]? = some (y.cls, T, N)) (hf : CF G S L q = .inr (ci, fs)) (hq : q < 197) (hcat : (st.map fun v => v.category).sum ≤ 8) (hcs : cells ≤ R.cells ∧ slots ≤ R.slots) (d : decode cc pc = .ok (.invokevirtual i, 3)) (kk : sv_V G R own nm cc nL rt Post cells slots 197 (CF G S2 L2) (pc + 3) ls (v :: st)) : sv_V G R own nm cc nL rt Post cells slots 197 (CF G S L) pc ls (.ref (gB G + q) :: st) := by
  refine sv_callV (As := []) hC hw hd hR hci hq hf rfl hcat d (by rw [hz.1, hz.2]; exact hcs) (fun r n' f' hp => ?_)
  obtain ⟨rfl, rfl, hf'⟩ := hp
  rw [hz.1, hz.2]
  exact sv_ceq hf' kk
theorem cSi0 {y : MethodName} {R2 : Room} {cc2 : ByteArray} {nL2 : Nat} {rt2 : Option FieldType} {i : Nat} {v : Value} (hC : sE G y R2 cc2 nL2 rt2 [] S L (some v) S2 L2) (hz : R2.cells = 0 ∧ R2.slots = 0) (hw : ∀ w ∈ [Cond.methodLink own i y, .static y, .initialized y.cls, .code y cc2 nL2 rt2], w ∈ gw) (hd : sv_nm y 0) (hR : R2.frames + 1 ≤ R.frames ∧ 8 + (nL2 + 11) + R2.locals ≤ R.locals) (hcat : (st.map fun v => v.category).sum ≤ 8) (hcs : cells ≤ R.cells ∧ slots ≤ R.slots) (d : decode cc pc = .ok (.invokestatic i, 3)) (kk : sv_V G R own nm cc nL rt Post cells slots 197 (CF G S2 L2) (pc + 3) ls (v :: st)) : sv_V G R own nm cc nL rt Post cells slots 197 (CF G S L) pc ls (st) := by
  refine sv_callS (As := []) hC hw hd hR rfl hcat d (by rw [hz.1, hz.2]; exact hcs) (fun r n' f' hp => ?_)
  obtain ⟨rfl, rfl, hf'⟩ := hp
  rw [hz.1, hz.2]
  exact sv_ceq hf' kk
theorem cNi0 {y : MethodName} {host : String} {R2 : Room} {cc2 : ByteArray} {nL2 : Nat} {rt2 : Option FieldType} {i : Nat} {v : Value} (hC : sE G y R2 cc2 nL2 rt2 [] S L (some v) S2 L2) (hz : R2.cells = 0 ∧ R2.slots = 0) (hn : Cond.methodLinkNest own i y host ∈ lw_tbl) (hw : ∀ w ∈ [Cond.static y, .initialized y.cls, .code y cc2 nL2 rt2], w ∈ gw) (hd : sv_nm y 0) (hR : R2.frames + 1 ≤ R.frames ∧ 8 + (nL2 + 11) + R2.locals ≤ R.locals) (hcat : (st.map fun v => v.category).sum ≤ 8) (hcs : cells ≤ R.cells ∧ slots ≤ R.slots) (d : decode cc pc = .ok (.invokestatic i, 3)) (kk : sv_V G R own nm cc nL rt Post cells slots 197 (CF G S2 L2) (pc + 3) ls (v :: st)) : sv_V G R own nm cc nL rt Post cells slots 197 (CF G S L) pc ls (st) := by
  refine sv_callSN (As := []) hC hn hw hd hR rfl hcat d (by rw [hz.1, hz.2]; exact hcs) (fun r n' f' hp => ?_)
  obtain ⟨rfl, rfl, hf'⟩ := hp
  rw [hz.1, hz.2]
  exact sv_ceq hf' kk
theorem cVv0 {y : MethodName} {R2 : Room} {cc2 : ByteArray} {nL2 : Nat} {rt2 : Option FieldType} {q i ci N : Nat} {T : u_T} {fs : List Value} (hC : sE G y R2 cc2 nL2 rt2 [.ref (gB G + q)] S L none S2 L2) (hz : R2.cells = 0 ∧ R2.slots = 0) (hw : ∀ w ∈ [Cond.methodLink own i y, .instanceMethod y, .selects y.cls y y, .initialized y.cls, .code y cc2 nL2 rt2], w ∈ gw) (hd : sv_nm y 0) (hR : R2.frames + 1 ≤ R.frames ∧ 8 + (nL2 + 11) + R2.locals ≤ R.locals) (hci : vwCl[ci]? = some (y.cls, T, N)) (hf : CF G S L q = .inr (ci, fs)) (hq : q < 197) (hcat : (st.map fun v => v.category).sum ≤ 8) (hcs : cells ≤ R.cells ∧ slots ≤ R.slots) (d : decode cc pc = .ok (.invokevirtual i, 3)) (kk : sv_V G R own nm cc nL rt Post cells slots 197 (CF G S2 L2) (pc + 3) ls (st)) : sv_V G R own nm cc nL rt Post cells slots 197 (CF G S L) pc ls (.ref (gB G + q) :: st) := by
  refine sv_callV (As := []) hC hw hd hR hci hq hf rfl hcat d (by rw [hz.1, hz.2]; exact hcs) (fun r n' f' hp => ?_)
  obtain ⟨rfl, rfl, hf'⟩ := hp
  rw [hz.1, hz.2]
  exact sv_ceq hf' kk
theorem cSv0 {y : MethodName} {R2 : Room} {cc2 : ByteArray} {nL2 : Nat} {rt2 : Option FieldType} {i : Nat} (hC : sE G y R2 cc2 nL2 rt2 [] S L none S2 L2) (hz : R2.cells = 0 ∧ R2.slots = 0) (hw : ∀ w ∈ [Cond.methodLink own i y, .static y, .initialized y.cls, .code y cc2 nL2 rt2], w ∈ gw) (hd : sv_nm y 0) (hR : R2.frames + 1 ≤ R.frames ∧ 8 + (nL2 + 11) + R2.locals ≤ R.locals) (hcat : (st.map fun v => v.category).sum ≤ 8) (hcs : cells ≤ R.cells ∧ slots ≤ R.slots) (d : decode cc pc = .ok (.invokestatic i, 3)) (kk : sv_V G R own nm cc nL rt Post cells slots 197 (CF G S2 L2) (pc + 3) ls (st)) : sv_V G R own nm cc nL rt Post cells slots 197 (CF G S L) pc ls (st) := by
  refine sv_callS (As := []) hC hw hd hR rfl hcat d (by rw [hz.1, hz.2]; exact hcs) (fun r n' f' hp => ?_)
  obtain ⟨rfl, rfl, hf'⟩ := hp
  rw [hz.1, hz.2]
  exact sv_ceq hf' kk
theorem cVi1 {y : MethodName} {R2 : Room} {cc2 : ByteArray} {nL2 : Nat} {rt2 : Option FieldType} {q i ci N : Nat} {T : u_T} {fs : List Value} {a1 : Value} {v : Value} (hC : sE G y R2 cc2 nL2 rt2 [.ref (gB G + q), a1] S L (some v) S2 L2) (hz : R2.cells = 0 ∧ R2.slots = 0) (hw : ∀ w ∈ [Cond.methodLink own i y, .instanceMethod y, .selects y.cls y y, .initialized y.cls, .code y cc2 nL2 rt2], w ∈ gw) (hd : sv_nm y 1) (hR : R2.frames + 1 ≤ R.frames ∧ 8 + (nL2 + 11) + R2.locals ≤ R.locals) (hci : vwCl[ci]? = some (y.cls, T, N)) (hf : CF G S L q = .inr (ci, fs)) (hq : q < 197) (hcat : (st.map fun v => v.category).sum ≤ 8) (hcs : cells ≤ R.cells ∧ slots ≤ R.slots) (d : decode cc pc = .ok (.invokevirtual i, 3)) (kk : sv_V G R own nm cc nL rt Post cells slots 197 (CF G S2 L2) (pc + 3) ls (v :: st)) : sv_V G R own nm cc nL rt Post cells slots 197 (CF G S L) pc ls (a1 :: .ref (gB G + q) :: st) := by
  refine sv_callV (As := [a1]) hC hw hd hR hci hq hf rfl hcat d (by rw [hz.1, hz.2]; exact hcs) (fun r n' f' hp => ?_)
  obtain ⟨rfl, rfl, hf'⟩ := hp
  rw [hz.1, hz.2]
  exact sv_ceq hf' kk
theorem cSi1 {y : MethodName} {R2 : Room} {cc2 : ByteArray} {nL2 : Nat} {rt2 : Option FieldType} {i : Nat} {a1 : Value} {v : Value} (hC : sE G y R2 cc2 nL2 rt2 [a1] S L (some v) S2 L2) (hz : R2.cells = 0 ∧ R2.slots = 0) (hw : ∀ w ∈ [Cond.methodLink own i y, .static y, .initialized y.cls, .code y cc2 nL2 rt2], w ∈ gw) (hd : sv_nm y 1) (hR : R2.frames + 1 ≤ R.frames ∧ 8 + (nL2 + 11) + R2.locals ≤ R.locals) (hcat : (st.map fun v => v.category).sum ≤ 8) (hcs : cells ≤ R.cells ∧ slots ≤ R.slots) (d : decode cc pc = .ok (.invokestatic i, 3)) (kk : sv_V G R own nm cc nL rt Post cells slots 197 (CF G S2 L2) (pc + 3) ls (v :: st)) : sv_V G R own nm cc nL rt Post cells slots 197 (CF G S L) pc ls (a1 :: st) := by
  refine sv_callS (As := [a1]) hC hw hd hR rfl hcat d (by rw [hz.1, hz.2]; exact hcs) (fun r n' f' hp => ?_)
  obtain ⟨rfl, rfl, hf'⟩ := hp
  rw [hz.1, hz.2]
  exact sv_ceq hf' kk
theorem cNi1 {y : MethodName} {host : String} {R2 : Room} {cc2 : ByteArray} {nL2 : Nat} {rt2 : Option FieldType} {i : Nat} {a1 : Value} {v : Value} (hC : sE G y R2 cc2 nL2 rt2 [a1] S L (some v) S2 L2) (hz : R2.cells = 0 ∧ R2.slots = 0) (hn : Cond.methodLinkNest own i y host ∈ lw_tbl) (hw : ∀ w ∈ [Cond.static y, .initialized y.cls, .code y cc2 nL2 rt2], w ∈ gw) (hd : sv_nm y 1) (hR : R2.frames + 1 ≤ R.frames ∧ 8 + (nL2 + 11) + R2.locals ≤ R.locals) (hcat : (st.map fun v => v.category).sum ≤ 8) (hcs : cells ≤ R.cells ∧ slots ≤ R.slots) (d : decode cc pc = .ok (.invokestatic i, 3)) (kk : sv_V G R own nm cc nL rt Post cells slots 197 (CF G S2 L2) (pc + 3) ls (v :: st)) : sv_V G R own nm cc nL rt Post cells slots 197 (CF G S L) pc ls (a1 :: st) := by
  refine sv_callSN (As := [a1]) hC hn hw hd hR rfl hcat d (by rw [hz.1, hz.2]; exact hcs) (fun r n' f' hp => ?_)
  obtain ⟨rfl, rfl, hf'⟩ := hp
  rw [hz.1, hz.2]
  exact sv_ceq hf' kk
theorem cVv1 {y : MethodName} {R2 : Room} {cc2 : ByteArray} {nL2 : Nat} {rt2 : Option FieldType} {q i ci N : Nat} {T : u_T} {fs : List Value} {a1 : Value} (hC : sE G y R2 cc2 nL2 rt2 [.ref (gB G + q), a1] S L none S2 L2) (hz : R2.cells = 0 ∧ R2.slots = 0) (hw : ∀ w ∈ [Cond.methodLink own i y, .instanceMethod y, .selects y.cls y y, .initialized y.cls, .code y cc2 nL2 rt2], w ∈ gw) (hd : sv_nm y 1) (hR : R2.frames + 1 ≤ R.frames ∧ 8 + (nL2 + 11) + R2.locals ≤ R.locals) (hci : vwCl[ci]? = some (y.cls, T, N)) (hf : CF G S L q = .inr (ci, fs)) (hq : q < 197) (hcat : (st.map fun v => v.category).sum ≤ 8) (hcs : cells ≤ R.cells ∧ slots ≤ R.slots) (d : decode cc pc = .ok (.invokevirtual i, 3)) (kk : sv_V G R own nm cc nL rt Post cells slots 197 (CF G S2 L2) (pc + 3) ls (st)) : sv_V G R own nm cc nL rt Post cells slots 197 (CF G S L) pc ls (a1 :: .ref (gB G + q) :: st) := by
  refine sv_callV (As := [a1]) hC hw hd hR hci hq hf rfl hcat d (by rw [hz.1, hz.2]; exact hcs) (fun r n' f' hp => ?_)
  obtain ⟨rfl, rfl, hf'⟩ := hp
  rw [hz.1, hz.2]
  exact sv_ceq hf' kk
theorem cSv1 {y : MethodName} {R2 : Room} {cc2 : ByteArray} {nL2 : Nat} {rt2 : Option FieldType} {i : Nat} {a1 : Value} (hC : sE G y R2 cc2 nL2 rt2 [a1] S L none S2 L2) (hz : R2.cells = 0 ∧ R2.slots = 0) (hw : ∀ w ∈ [Cond.methodLink own i y, .static y, .initialized y.cls, .code y cc2 nL2 rt2], w ∈ gw) (hd : sv_nm y 1) (hR : R2.frames + 1 ≤ R.frames ∧ 8 + (nL2 + 11) + R2.locals ≤ R.locals) (hcat : (st.map fun v => v.category).sum ≤ 8) (hcs : cells ≤ R.cells ∧ slots ≤ R.slots) (d : decode cc pc = .ok (.invokestatic i, 3)) (kk : sv_V G R own nm cc nL rt Post cells slots 197 (CF G S2 L2) (pc + 3) ls (st)) : sv_V G R own nm cc nL rt Post cells slots 197 (CF G S L) pc ls (a1 :: st) := by
  refine sv_callS (As := [a1]) hC hw hd hR rfl hcat d (by rw [hz.1, hz.2]; exact hcs) (fun r n' f' hp => ?_)
  obtain ⟨rfl, rfl, hf'⟩ := hp
  rw [hz.1, hz.2]
  exact sv_ceq hf' kk
theorem cVi2 {y : MethodName} {R2 : Room} {cc2 : ByteArray} {nL2 : Nat} {rt2 : Option FieldType} {q i ci N : Nat} {T : u_T} {fs : List Value} {a1 a2 : Value} {v : Value} (hC : sE G y R2 cc2 nL2 rt2 [.ref (gB G + q), a1, a2] S L (some v) S2 L2) (hz : R2.cells = 0 ∧ R2.slots = 0) (hw : ∀ w ∈ [Cond.methodLink own i y, .instanceMethod y, .selects y.cls y y, .initialized y.cls, .code y cc2 nL2 rt2], w ∈ gw) (hd : sv_nm y 2) (hR : R2.frames + 1 ≤ R.frames ∧ 8 + (nL2 + 11) + R2.locals ≤ R.locals) (hci : vwCl[ci]? = some (y.cls, T, N)) (hf : CF G S L q = .inr (ci, fs)) (hq : q < 197) (hcat : (st.map fun v => v.category).sum ≤ 8) (hcs : cells ≤ R.cells ∧ slots ≤ R.slots) (d : decode cc pc = .ok (.invokevirtual i, 3)) (kk : sv_V G R own nm cc nL rt Post cells slots 197 (CF G S2 L2) (pc + 3) ls (v :: st)) : sv_V G R own nm cc nL rt Post cells slots 197 (CF G S L) pc ls (a2 :: a1 :: .ref (gB G + q) :: st) := by
  refine sv_callV (As := [a1, a2]) hC hw hd hR hci hq hf rfl hcat d (by rw [hz.1, hz.2]; exact hcs) (fun r n' f' hp => ?_)
  obtain ⟨rfl, rfl, hf'⟩ := hp
  rw [hz.1, hz.2]
  exact sv_ceq hf' kk
theorem cSi2 {y : MethodName} {R2 : Room} {cc2 : ByteArray} {nL2 : Nat} {rt2 : Option FieldType} {i : Nat} {a1 a2 : Value} {v : Value} (hC : sE G y R2 cc2 nL2 rt2 [a1, a2] S L (some v) S2 L2) (hz : R2.cells = 0 ∧ R2.slots = 0) (hw : ∀ w ∈ [Cond.methodLink own i y, .static y, .initialized y.cls, .code y cc2 nL2 rt2], w ∈ gw) (hd : sv_nm y 2) (hR : R2.frames + 1 ≤ R.frames ∧ 8 + (nL2 + 11) + R2.locals ≤ R.locals) (hcat : (st.map fun v => v.category).sum ≤ 8) (hcs : cells ≤ R.cells ∧ slots ≤ R.slots) (d : decode cc pc = .ok (.invokestatic i, 3)) (kk : sv_V G R own nm cc nL rt Post cells slots 197 (CF G S2 L2) (pc + 3) ls (v :: st)) : sv_V G R own nm cc nL rt Post cells slots 197 (CF G S L) pc ls (a2 :: a1 :: st) := by
  refine sv_callS (As := [a1, a2]) hC hw hd hR rfl hcat d (by rw [hz.1, hz.2]; exact hcs) (fun r n' f' hp => ?_)
  obtain ⟨rfl, rfl, hf'⟩ := hp
  rw [hz.1, hz.2]
  exact sv_ceq hf' kk
theorem cNi2 {y : MethodName} {host : String} {R2 : Room} {cc2 : ByteArray} {nL2 : Nat} {rt2 : Option FieldType} {i : Nat} {a1 a2 : Value} {v : Value} (hC : sE G y R2 cc2 nL2 rt2 [a1, a2] S L (some v) S2 L2) (hz : R2.cells = 0 ∧ R2.slots = 0) (hn : Cond.methodLinkNest own i y host ∈ lw_tbl) (hw : ∀ w ∈ [Cond.static y, .initialized y.cls, .code y cc2 nL2 rt2], w ∈ gw) (hd : sv_nm y 2) (hR : R2.frames + 1 ≤ R.frames ∧ 8 + (nL2 + 11) + R2.locals ≤ R.locals) (hcat : (st.map fun v => v.category).sum ≤ 8) (hcs : cells ≤ R.cells ∧ slots ≤ R.slots) (d : decode cc pc = .ok (.invokestatic i, 3)) (kk : sv_V G R own nm cc nL rt Post cells slots 197 (CF G S2 L2) (pc + 3) ls (v :: st)) : sv_V G R own nm cc nL rt Post cells slots 197 (CF G S L) pc ls (a2 :: a1 :: st) := by
  refine sv_callSN (As := [a1, a2]) hC hn hw hd hR rfl hcat d (by rw [hz.1, hz.2]; exact hcs) (fun r n' f' hp => ?_)
  obtain ⟨rfl, rfl, hf'⟩ := hp
  rw [hz.1, hz.2]
  exact sv_ceq hf' kk
theorem cVv2 {y : MethodName} {R2 : Room} {cc2 : ByteArray} {nL2 : Nat} {rt2 : Option FieldType} {q i ci N : Nat} {T : u_T} {fs : List Value} {a1 a2 : Value} (hC : sE G y R2 cc2 nL2 rt2 [.ref (gB G + q), a1, a2] S L none S2 L2) (hz : R2.cells = 0 ∧ R2.slots = 0) (hw : ∀ w ∈ [Cond.methodLink own i y, .instanceMethod y, .selects y.cls y y, .initialized y.cls, .code y cc2 nL2 rt2], w ∈ gw) (hd : sv_nm y 2) (hR : R2.frames + 1 ≤ R.frames ∧ 8 + (nL2 + 11) + R2.locals ≤ R.locals) (hci : vwCl[ci]? = some (y.cls, T, N)) (hf : CF G S L q = .inr (ci, fs)) (hq : q < 197) (hcat : (st.map fun v => v.category).sum ≤ 8) (hcs : cells ≤ R.cells ∧ slots ≤ R.slots) (d : decode cc pc = .ok (.invokevirtual i, 3)) (kk : sv_V G R own nm cc nL rt Post cells slots 197 (CF G S2 L2) (pc + 3) ls (st)) : sv_V G R own nm cc nL rt Post cells slots 197 (CF G S L) pc ls (a2 :: a1 :: .ref (gB G + q) :: st) := by
  refine sv_callV (As := [a1, a2]) hC hw hd hR hci hq hf rfl hcat d (by rw [hz.1, hz.2]; exact hcs) (fun r n' f' hp => ?_)
  obtain ⟨rfl, rfl, hf'⟩ := hp
  rw [hz.1, hz.2]
  exact sv_ceq hf' kk
theorem cSv2 {y : MethodName} {R2 : Room} {cc2 : ByteArray} {nL2 : Nat} {rt2 : Option FieldType} {i : Nat} {a1 a2 : Value} (hC : sE G y R2 cc2 nL2 rt2 [a1, a2] S L none S2 L2) (hz : R2.cells = 0 ∧ R2.slots = 0) (hw : ∀ w ∈ [Cond.methodLink own i y, .static y, .initialized y.cls, .code y cc2 nL2 rt2], w ∈ gw) (hd : sv_nm y 2) (hR : R2.frames + 1 ≤ R.frames ∧ 8 + (nL2 + 11) + R2.locals ≤ R.locals) (hcat : (st.map fun v => v.category).sum ≤ 8) (hcs : cells ≤ R.cells ∧ slots ≤ R.slots) (d : decode cc pc = .ok (.invokestatic i, 3)) (kk : sv_V G R own nm cc nL rt Post cells slots 197 (CF G S2 L2) (pc + 3) ls (st)) : sv_V G R own nm cc nL rt Post cells slots 197 (CF G S L) pc ls (a2 :: a1 :: st) := by
  refine sv_callS (As := [a1, a2]) hC hw hd hR rfl hcat d (by rw [hz.1, hz.2]; exact hcs) (fun r n' f' hp => ?_)
  obtain ⟨rfl, rfl, hf'⟩ := hp
  rw [hz.1, hz.2]
  exact sv_ceq hf' kk
theorem cVi3 {y : MethodName} {R2 : Room} {cc2 : ByteArray} {nL2 : Nat} {rt2 : Option FieldType} {q i ci N : Nat} {T : u_T} {fs : List Value} {a1 a2 a3 : Value} {v : Value} (hC : sE G y R2 cc2 nL2 rt2 [.ref (gB G + q), a1, a2, a3] S L (some v) S2 L2) (hz : R2.cells = 0 ∧ R2.slots = 0) (hw : ∀ w ∈ [Cond.methodLink own i y, .instanceMethod y, .selects y.cls y y, .initialized y.cls, .code y cc2 nL2 rt2], w ∈ gw) (hd : sv_nm y 3) (hR : R2.frames + 1 ≤ R.frames ∧ 8 + (nL2 + 11) + R2.locals ≤ R.locals) (hci : vwCl[ci]? = some (y.cls, T, N)) (hf : CF G S L q = .inr (ci, fs)) (hq : q < 197) (hcat : (st.map fun v => v.category).sum ≤ 8) (hcs : cells ≤ R.cells ∧ slots ≤ R.slots) (d : decode cc pc = .ok (.invokevirtual i, 3)) (kk : sv_V G R own nm cc nL rt Post cells slots 197 (CF G S2 L2) (pc + 3) ls (v :: st)) : sv_V G R own nm cc nL rt Post cells slots 197 (CF G S L) pc ls (a3 :: a2 :: a1 :: .ref (gB G + q) :: st) := by
  refine sv_callV (As := [a1, a2, a3]) hC hw hd hR hci hq hf rfl hcat d (by rw [hz.1, hz.2]; exact hcs) (fun r n' f' hp => ?_)
  obtain ⟨rfl, rfl, hf'⟩ := hp
  rw [hz.1, hz.2]
  exact sv_ceq hf' kk
theorem cSi3 {y : MethodName} {R2 : Room} {cc2 : ByteArray} {nL2 : Nat} {rt2 : Option FieldType} {i : Nat} {a1 a2 a3 : Value} {v : Value} (hC : sE G y R2 cc2 nL2 rt2 [a1, a2, a3] S L (some v) S2 L2) (hz : R2.cells = 0 ∧ R2.slots = 0) (hw : ∀ w ∈ [Cond.methodLink own i y, .static y, .initialized y.cls, .code y cc2 nL2 rt2], w ∈ gw) (hd : sv_nm y 3) (hR : R2.frames + 1 ≤ R.frames ∧ 8 + (nL2 + 11) + R2.locals ≤ R.locals) (hcat : (st.map fun v => v.category).sum ≤ 8) (hcs : cells ≤ R.cells ∧ slots ≤ R.slots) (d : decode cc pc = .ok (.invokestatic i, 3)) (kk : sv_V G R own nm cc nL rt Post cells slots 197 (CF G S2 L2) (pc + 3) ls (v :: st)) : sv_V G R own nm cc nL rt Post cells slots 197 (CF G S L) pc ls (a3 :: a2 :: a1 :: st) := by
  refine sv_callS (As := [a1, a2, a3]) hC hw hd hR rfl hcat d (by rw [hz.1, hz.2]; exact hcs) (fun r n' f' hp => ?_)
  obtain ⟨rfl, rfl, hf'⟩ := hp
  rw [hz.1, hz.2]
  exact sv_ceq hf' kk
theorem cVv3 {y : MethodName} {R2 : Room} {cc2 : ByteArray} {nL2 : Nat} {rt2 : Option FieldType} {q i ci N : Nat} {T : u_T} {fs : List Value} {a1 a2 a3 : Value} (hC : sE G y R2 cc2 nL2 rt2 [.ref (gB G + q), a1, a2, a3] S L none S2 L2) (hz : R2.cells = 0 ∧ R2.slots = 0) (hw : ∀ w ∈ [Cond.methodLink own i y, .instanceMethod y, .selects y.cls y y, .initialized y.cls, .code y cc2 nL2 rt2], w ∈ gw) (hd : sv_nm y 3) (hR : R2.frames + 1 ≤ R.frames ∧ 8 + (nL2 + 11) + R2.locals ≤ R.locals) (hci : vwCl[ci]? = some (y.cls, T, N)) (hf : CF G S L q = .inr (ci, fs)) (hq : q < 197) (hcat : (st.map fun v => v.category).sum ≤ 8) (hcs : cells ≤ R.cells ∧ slots ≤ R.slots) (d : decode cc pc = .ok (.invokevirtual i, 3)) (kk : sv_V G R own nm cc nL rt Post cells slots 197 (CF G S2 L2) (pc + 3) ls (st)) : sv_V G R own nm cc nL rt Post cells slots 197 (CF G S L) pc ls (a3 :: a2 :: a1 :: .ref (gB G + q) :: st) := by
  refine sv_callV (As := [a1, a2, a3]) hC hw hd hR hci hq hf rfl hcat d (by rw [hz.1, hz.2]; exact hcs) (fun r n' f' hp => ?_)
  obtain ⟨rfl, rfl, hf'⟩ := hp
  rw [hz.1, hz.2]
  exact sv_ceq hf' kk
theorem cSv3 {y : MethodName} {R2 : Room} {cc2 : ByteArray} {nL2 : Nat} {rt2 : Option FieldType} {i : Nat} {a1 a2 a3 : Value} (hC : sE G y R2 cc2 nL2 rt2 [a1, a2, a3] S L none S2 L2) (hz : R2.cells = 0 ∧ R2.slots = 0) (hw : ∀ w ∈ [Cond.methodLink own i y, .static y, .initialized y.cls, .code y cc2 nL2 rt2], w ∈ gw) (hd : sv_nm y 3) (hR : R2.frames + 1 ≤ R.frames ∧ 8 + (nL2 + 11) + R2.locals ≤ R.locals) (hcat : (st.map fun v => v.category).sum ≤ 8) (hcs : cells ≤ R.cells ∧ slots ≤ R.slots) (d : decode cc pc = .ok (.invokestatic i, 3)) (kk : sv_V G R own nm cc nL rt Post cells slots 197 (CF G S2 L2) (pc + 3) ls (st)) : sv_V G R own nm cc nL rt Post cells slots 197 (CF G S L) pc ls (a3 :: a2 :: a1 :: st) := by
  refine sv_callS (As := [a1, a2, a3]) hC hw hd hR rfl hcat d (by rw [hz.1, hz.2]; exact hcs) (fun r n' f' hp => ?_)
  obtain ⟨rfl, rfl, hf'⟩ := hp
  rw [hz.1, hz.2]
  exact sv_ceq hf' kk
theorem cVi4 {y : MethodName} {R2 : Room} {cc2 : ByteArray} {nL2 : Nat} {rt2 : Option FieldType} {q i ci N : Nat} {T : u_T} {fs : List Value} {a1 a2 a3 a4 : Value} {v : Value} (hC : sE G y R2 cc2 nL2 rt2 [.ref (gB G + q), a1, a2, a3, a4] S L (some v) S2 L2) (hz : R2.cells = 0 ∧ R2.slots = 0) (hw : ∀ w ∈ [Cond.methodLink own i y, .instanceMethod y, .selects y.cls y y, .initialized y.cls, .code y cc2 nL2 rt2], w ∈ gw) (hd : sv_nm y 4) (hR : R2.frames + 1 ≤ R.frames ∧ 8 + (nL2 + 11) + R2.locals ≤ R.locals) (hci : vwCl[ci]? = some (y.cls, T, N)) (hf : CF G S L q = .inr (ci, fs)) (hq : q < 197) (hcat : (st.map fun v => v.category).sum ≤ 8) (hcs : cells ≤ R.cells ∧ slots ≤ R.slots) (d : decode cc pc = .ok (.invokevirtual i, 3)) (kk : sv_V G R own nm cc nL rt Post cells slots 197 (CF G S2 L2) (pc + 3) ls (v :: st)) : sv_V G R own nm cc nL rt Post cells slots 197 (CF G S L) pc ls (a4 :: a3 :: a2 :: a1 :: .ref (gB G + q) :: st) := by
  refine sv_callV (As := [a1, a2, a3, a4]) hC hw hd hR hci hq hf rfl hcat d (by rw [hz.1, hz.2]; exact hcs) (fun r n' f' hp => ?_)
  obtain ⟨rfl, rfl, hf'⟩ := hp
  rw [hz.1, hz.2]
  exact sv_ceq hf' kk
theorem cSi4 {y : MethodName} {R2 : Room} {cc2 : ByteArray} {nL2 : Nat} {rt2 : Option FieldType} {i : Nat} {a1 a2 a3 a4 : Value} {v : Value} (hC : sE G y R2 cc2 nL2 rt2 [a1, a2, a3, a4] S L (some v) S2 L2) (hz : R2.cells = 0 ∧ R2.slots = 0) (hw : ∀ w ∈ [Cond.methodLink own i y, .static y, .initialized y.cls, .code y cc2 nL2 rt2], w ∈ gw) (hd : sv_nm y 4) (hR : R2.frames + 1 ≤ R.frames ∧ 8 + (nL2 + 11) + R2.locals ≤ R.locals) (hcat : (st.map fun v => v.category).sum ≤ 8) (hcs : cells ≤ R.cells ∧ slots ≤ R.slots) (d : decode cc pc = .ok (.invokestatic i, 3)) (kk : sv_V G R own nm cc nL rt Post cells slots 197 (CF G S2 L2) (pc + 3) ls (v :: st)) : sv_V G R own nm cc nL rt Post cells slots 197 (CF G S L) pc ls (a4 :: a3 :: a2 :: a1 :: st) := by
  refine sv_callS (As := [a1, a2, a3, a4]) hC hw hd hR rfl hcat d (by rw [hz.1, hz.2]; exact hcs) (fun r n' f' hp => ?_)
  obtain ⟨rfl, rfl, hf'⟩ := hp
  rw [hz.1, hz.2]
  exact sv_ceq hf' kk
theorem cVv4 {y : MethodName} {R2 : Room} {cc2 : ByteArray} {nL2 : Nat} {rt2 : Option FieldType} {q i ci N : Nat} {T : u_T} {fs : List Value} {a1 a2 a3 a4 : Value} (hC : sE G y R2 cc2 nL2 rt2 [.ref (gB G + q), a1, a2, a3, a4] S L none S2 L2) (hz : R2.cells = 0 ∧ R2.slots = 0) (hw : ∀ w ∈ [Cond.methodLink own i y, .instanceMethod y, .selects y.cls y y, .initialized y.cls, .code y cc2 nL2 rt2], w ∈ gw) (hd : sv_nm y 4) (hR : R2.frames + 1 ≤ R.frames ∧ 8 + (nL2 + 11) + R2.locals ≤ R.locals) (hci : vwCl[ci]? = some (y.cls, T, N)) (hf : CF G S L q = .inr (ci, fs)) (hq : q < 197) (hcat : (st.map fun v => v.category).sum ≤ 8) (hcs : cells ≤ R.cells ∧ slots ≤ R.slots) (d : decode cc pc = .ok (.invokevirtual i, 3)) (kk : sv_V G R own nm cc nL rt Post cells slots 197 (CF G S2 L2) (pc + 3) ls (st)) : sv_V G R own nm cc nL rt Post cells slots 197 (CF G S L) pc ls (a4 :: a3 :: a2 :: a1 :: .ref (gB G + q) :: st) := by
  refine sv_callV (As := [a1, a2, a3, a4]) hC hw hd hR hci hq hf rfl hcat d (by rw [hz.1, hz.2]; exact hcs) (fun r n' f' hp => ?_)
  obtain ⟨rfl, rfl, hf'⟩ := hp
  rw [hz.1, hz.2]
  exact sv_ceq hf' kk
theorem cSv4 {y : MethodName} {R2 : Room} {cc2 : ByteArray} {nL2 : Nat} {rt2 : Option FieldType} {i : Nat} {a1 a2 a3 a4 : Value} (hC : sE G y R2 cc2 nL2 rt2 [a1, a2, a3, a4] S L none S2 L2) (hz : R2.cells = 0 ∧ R2.slots = 0) (hw : ∀ w ∈ [Cond.methodLink own i y, .static y, .initialized y.cls, .code y cc2 nL2 rt2], w ∈ gw) (hd : sv_nm y 4) (hR : R2.frames + 1 ≤ R.frames ∧ 8 + (nL2 + 11) + R2.locals ≤ R.locals) (hcat : (st.map fun v => v.category).sum ≤ 8) (hcs : cells ≤ R.cells ∧ slots ≤ R.slots) (d : decode cc pc = .ok (.invokestatic i, 3)) (kk : sv_V G R own nm cc nL rt Post cells slots 197 (CF G S2 L2) (pc + 3) ls (st)) : sv_V G R own nm cc nL rt Post cells slots 197 (CF G S L) pc ls (a4 :: a3 :: a2 :: a1 :: st) := by
  refine sv_callS (As := [a1, a2, a3, a4]) hC hw hd hR rfl hcat d (by rw [hz.1, hz.2]; exact hcs) (fun r n' f' hp => ?_)
  obtain ⟨rfl, rfl, hf'⟩ := hp
  rw [hz.1, hz.2]
  exact sv_ceq hf' kk
theorem cVi5 {y : MethodName} {R2 : Room} {cc2 : ByteArray} {nL2 : Nat} {rt2 : Option FieldType} {q i ci N : Nat} {T : u_T} {fs : List Value} {a1 a2 a3 a4 a5 : Value} {v : Value} (hC : sE G y R2 cc2 nL2 rt2 [.ref (gB G + q), a1, a2, a3, a4, a5] S L (some v) S2 L2) (hz : R2.cells = 0 ∧ R2.slots = 0) (hw : ∀ w ∈ [Cond.methodLink own i y, .instanceMethod y, .selects y.cls y y, .initialized y.cls, .code y cc2 nL2 rt2], w ∈ gw) (hd : sv_nm y 5) (hR : R2.frames + 1 ≤ R.frames ∧ 8 + (nL2 + 11) + R2.locals ≤ R.locals) (hci : vwCl[ci]? = some (y.cls, T, N)) (hf : CF G S L q = .inr (ci, fs)) (hq : q < 197) (hcat : (st.map fun v => v.category).sum ≤ 8) (hcs : cells ≤ R.cells ∧ slots ≤ R.slots) (d : decode cc pc = .ok (.invokevirtual i, 3)) (kk : sv_V G R own nm cc nL rt Post cells slots 197 (CF G S2 L2) (pc + 3) ls (v :: st)) : sv_V G R own nm cc nL rt Post cells slots 197 (CF G S L) pc ls (a5 :: a4 :: a3 :: a2 :: a1 :: .ref (gB G + q) :: st) := by
  refine sv_callV (As := [a1, a2, a3, a4, a5]) hC hw hd hR hci hq hf rfl hcat d (by rw [hz.1, hz.2]; exact hcs) (fun r n' f' hp => ?_)
  obtain ⟨rfl, rfl, hf'⟩ := hp
  rw [hz.1, hz.2]
  exact sv_ceq hf' kk
theorem cSi5 {y : MethodName} {R2 : Room} {cc2 : ByteArray} {nL2 : Nat} {rt2 : Option FieldType} {i : Nat} {a1 a2 a3 a4 a5 : Value} {v : Value} (hC : sE G y R2 cc2 nL2 rt2 [a1, a2, a3, a4, a5] S L (some v) S2 L2) (hz : R2.cells = 0 ∧ R2.slots = 0) (hw : ∀ w ∈ [Cond.methodLink own i y, .static y, .initialized y.cls, .code y cc2 nL2 rt2], w ∈ gw) (hd : sv_nm y 5) (hR : R2.frames + 1 ≤ R.frames ∧ 8 + (nL2 + 11) + R2.locals ≤ R.locals) (hcat : (st.map fun v => v.category).sum ≤ 8) (hcs : cells ≤ R.cells ∧ slots ≤ R.slots) (d : decode cc pc = .ok (.invokestatic i, 3)) (kk : sv_V G R own nm cc nL rt Post cells slots 197 (CF G S2 L2) (pc + 3) ls (v :: st)) : sv_V G R own nm cc nL rt Post cells slots 197 (CF G S L) pc ls (a5 :: a4 :: a3 :: a2 :: a1 :: st) := by
  refine sv_callS (As := [a1, a2, a3, a4, a5]) hC hw hd hR rfl hcat d (by rw [hz.1, hz.2]; exact hcs) (fun r n' f' hp => ?_)
  obtain ⟨rfl, rfl, hf'⟩ := hp
  rw [hz.1, hz.2]
  exact sv_ceq hf' kk
theorem cVv5 {y : MethodName} {R2 : Room} {cc2 : ByteArray} {nL2 : Nat} {rt2 : Option FieldType} {q i ci N : Nat} {T : u_T} {fs : List Value} {a1 a2 a3 a4 a5 : Value} (hC : sE G y R2 cc2 nL2 rt2 [.ref (gB G + q), a1, a2, a3, a4, a5] S L none S2 L2) (hz : R2.cells = 0 ∧ R2.slots = 0) (hw : ∀ w ∈ [Cond.methodLink own i y, .instanceMethod y, .selects y.cls y y, .initialized y.cls, .code y cc2 nL2 rt2], w ∈ gw) (hd : sv_nm y 5) (hR : R2.frames + 1 ≤ R.frames ∧ 8 + (nL2 + 11) + R2.locals ≤ R.locals) (hci : vwCl[ci]? = some (y.cls, T, N)) (hf : CF G S L q = .inr (ci, fs)) (hq : q < 197) (hcat : (st.map fun v => v.category).sum ≤ 8) (hcs : cells ≤ R.cells ∧ slots ≤ R.slots) (d : decode cc pc = .ok (.invokevirtual i, 3)) (kk : sv_V G R own nm cc nL rt Post cells slots 197 (CF G S2 L2) (pc + 3) ls (st)) : sv_V G R own nm cc nL rt Post cells slots 197 (CF G S L) pc ls (a5 :: a4 :: a3 :: a2 :: a1 :: .ref (gB G + q) :: st) := by
  refine sv_callV (As := [a1, a2, a3, a4, a5]) hC hw hd hR hci hq hf rfl hcat d (by rw [hz.1, hz.2]; exact hcs) (fun r n' f' hp => ?_)
  obtain ⟨rfl, rfl, hf'⟩ := hp
  rw [hz.1, hz.2]
  exact sv_ceq hf' kk
theorem cSv5 {y : MethodName} {R2 : Room} {cc2 : ByteArray} {nL2 : Nat} {rt2 : Option FieldType} {i : Nat} {a1 a2 a3 a4 a5 : Value} (hC : sE G y R2 cc2 nL2 rt2 [a1, a2, a3, a4, a5] S L none S2 L2) (hz : R2.cells = 0 ∧ R2.slots = 0) (hw : ∀ w ∈ [Cond.methodLink own i y, .static y, .initialized y.cls, .code y cc2 nL2 rt2], w ∈ gw) (hd : sv_nm y 5) (hR : R2.frames + 1 ≤ R.frames ∧ 8 + (nL2 + 11) + R2.locals ≤ R.locals) (hcat : (st.map fun v => v.category).sum ≤ 8) (hcs : cells ≤ R.cells ∧ slots ≤ R.slots) (d : decode cc pc = .ok (.invokestatic i, 3)) (kk : sv_V G R own nm cc nL rt Post cells slots 197 (CF G S2 L2) (pc + 3) ls (st)) : sv_V G R own nm cc nL rt Post cells slots 197 (CF G S L) pc ls (a5 :: a4 :: a3 :: a2 :: a1 :: st) := by
  refine sv_callS (As := [a1, a2, a3, a4, a5]) hC hw hd hR rfl hcat d (by rw [hz.1, hz.2]; exact hcs) (fun r n' f' hp => ?_)
  obtain ⟨rfl, rfl, hf'⟩ := hp
  rw [hz.1, hz.2]
  exact sv_ceq hf' kk
theorem cVi6 {y : MethodName} {R2 : Room} {cc2 : ByteArray} {nL2 : Nat} {rt2 : Option FieldType} {q i ci N : Nat} {T : u_T} {fs : List Value} {a1 a2 a3 a4 a5 a6 : Value} {v : Value} (hC : sE G y R2 cc2 nL2 rt2 [.ref (gB G + q), a1, a2, a3, a4, a5, a6] S L (some v) S2 L2) (hz : R2.cells = 0 ∧ R2.slots = 0) (hw : ∀ w ∈ [Cond.methodLink own i y, .instanceMethod y, .selects y.cls y y, .initialized y.cls, .code y cc2 nL2 rt2], w ∈ gw) (hd : sv_nm y 6) (hR : R2.frames + 1 ≤ R.frames ∧ 8 + (nL2 + 11) + R2.locals ≤ R.locals) (hci : vwCl[ci]? = some (y.cls, T, N)) (hf : CF G S L q = .inr (ci, fs)) (hq : q < 197) (hcat : (st.map fun v => v.category).sum ≤ 8) (hcs : cells ≤ R.cells ∧ slots ≤ R.slots) (d : decode cc pc = .ok (.invokevirtual i, 3)) (kk : sv_V G R own nm cc nL rt Post cells slots 197 (CF G S2 L2) (pc + 3) ls (v :: st)) : sv_V G R own nm cc nL rt Post cells slots 197 (CF G S L) pc ls (a6 :: a5 :: a4 :: a3 :: a2 :: a1 :: .ref (gB G + q) :: st) := by
  refine sv_callV (As := [a1, a2, a3, a4, a5, a6]) hC hw hd hR hci hq hf rfl hcat d (by rw [hz.1, hz.2]; exact hcs) (fun r n' f' hp => ?_)
  obtain ⟨rfl, rfl, hf'⟩ := hp
  rw [hz.1, hz.2]
  exact sv_ceq hf' kk
theorem cSi6 {y : MethodName} {R2 : Room} {cc2 : ByteArray} {nL2 : Nat} {rt2 : Option FieldType} {i : Nat} {a1 a2 a3 a4 a5 a6 : Value} {v : Value} (hC : sE G y R2 cc2 nL2 rt2 [a1, a2, a3, a4, a5, a6] S L (some v) S2 L2) (hz : R2.cells = 0 ∧ R2.slots = 0) (hw : ∀ w ∈ [Cond.methodLink own i y, .static y, .initialized y.cls, .code y cc2 nL2 rt2], w ∈ gw) (hd : sv_nm y 6) (hR : R2.frames + 1 ≤ R.frames ∧ 8 + (nL2 + 11) + R2.locals ≤ R.locals) (hcat : (st.map fun v => v.category).sum ≤ 8) (hcs : cells ≤ R.cells ∧ slots ≤ R.slots) (d : decode cc pc = .ok (.invokestatic i, 3)) (kk : sv_V G R own nm cc nL rt Post cells slots 197 (CF G S2 L2) (pc + 3) ls (v :: st)) : sv_V G R own nm cc nL rt Post cells slots 197 (CF G S L) pc ls (a6 :: a5 :: a4 :: a3 :: a2 :: a1 :: st) := by
  refine sv_callS (As := [a1, a2, a3, a4, a5, a6]) hC hw hd hR rfl hcat d (by rw [hz.1, hz.2]; exact hcs) (fun r n' f' hp => ?_)
  obtain ⟨rfl, rfl, hf'⟩ := hp
  rw [hz.1, hz.2]
  exact sv_ceq hf' kk
theorem cVv6 {y : MethodName} {R2 : Room} {cc2 : ByteArray} {nL2 : Nat} {rt2 : Option FieldType} {q i ci N : Nat} {T : u_T} {fs : List Value} {a1 a2 a3 a4 a5 a6 : Value} (hC : sE G y R2 cc2 nL2 rt2 [.ref (gB G + q), a1, a2, a3, a4, a5, a6] S L none S2 L2) (hz : R2.cells = 0 ∧ R2.slots = 0) (hw : ∀ w ∈ [Cond.methodLink own i y, .instanceMethod y, .selects y.cls y y, .initialized y.cls, .code y cc2 nL2 rt2], w ∈ gw) (hd : sv_nm y 6) (hR : R2.frames + 1 ≤ R.frames ∧ 8 + (nL2 + 11) + R2.locals ≤ R.locals) (hci : vwCl[ci]? = some (y.cls, T, N)) (hf : CF G S L q = .inr (ci, fs)) (hq : q < 197) (hcat : (st.map fun v => v.category).sum ≤ 8) (hcs : cells ≤ R.cells ∧ slots ≤ R.slots) (d : decode cc pc = .ok (.invokevirtual i, 3)) (kk : sv_V G R own nm cc nL rt Post cells slots 197 (CF G S2 L2) (pc + 3) ls (st)) : sv_V G R own nm cc nL rt Post cells slots 197 (CF G S L) pc ls (a6 :: a5 :: a4 :: a3 :: a2 :: a1 :: .ref (gB G + q) :: st) := by
  refine sv_callV (As := [a1, a2, a3, a4, a5, a6]) hC hw hd hR hci hq hf rfl hcat d (by rw [hz.1, hz.2]; exact hcs) (fun r n' f' hp => ?_)
  obtain ⟨rfl, rfl, hf'⟩ := hp
  rw [hz.1, hz.2]
  exact sv_ceq hf' kk
theorem cSv6 {y : MethodName} {R2 : Room} {cc2 : ByteArray} {nL2 : Nat} {rt2 : Option FieldType} {i : Nat} {a1 a2 a3 a4 a5 a6 : Value} (hC : sE G y R2 cc2 nL2 rt2 [a1, a2, a3, a4, a5, a6] S L none S2 L2) (hz : R2.cells = 0 ∧ R2.slots = 0) (hw : ∀ w ∈ [Cond.methodLink own i y, .static y, .initialized y.cls, .code y cc2 nL2 rt2], w ∈ gw) (hd : sv_nm y 6) (hR : R2.frames + 1 ≤ R.frames ∧ 8 + (nL2 + 11) + R2.locals ≤ R.locals) (hcat : (st.map fun v => v.category).sum ≤ 8) (hcs : cells ≤ R.cells ∧ slots ≤ R.slots) (d : decode cc pc = .ok (.invokestatic i, 3)) (kk : sv_V G R own nm cc nL rt Post cells slots 197 (CF G S2 L2) (pc + 3) ls (st)) : sv_V G R own nm cc nL rt Post cells slots 197 (CF G S L) pc ls (a6 :: a5 :: a4 :: a3 :: a2 :: a1 :: st) := by
  refine sv_callS (As := [a1, a2, a3, a4, a5, a6]) hC hw hd hR rfl hcat d (by rw [hz.1, hz.2]; exact hcs) (fun r n' f' hp => ?_)
  obtain ⟨rfl, rfl, hf'⟩ := hp
  rw [hz.1, hz.2]
  exact sv_ceq hf' kk
theorem cSi7 {y : MethodName} {R2 : Room} {cc2 : ByteArray} {nL2 : Nat} {rt2 : Option FieldType} {i : Nat} {a1 a2 a3 a4 a5 a6 a7 : Value} {v : Value} (hC : sE G y R2 cc2 nL2 rt2 [a1, a2, a3, a4, a5, a6, a7] S L (some v) S2 L2) (hz : R2.cells = 0 ∧ R2.slots = 0) (hw : ∀ w ∈ [Cond.methodLink own i y, .static y, .initialized y.cls, .code y cc2 nL2 rt2], w ∈ gw) (hd : sv_nm y 7) (hR : R2.frames + 1 ≤ R.frames ∧ 8 + (nL2 + 11) + R2.locals ≤ R.locals) (hcat : (st.map fun v => v.category).sum ≤ 8) (hcs : cells ≤ R.cells ∧ slots ≤ R.slots) (d : decode cc pc = .ok (.invokestatic i, 3)) (kk : sv_V G R own nm cc nL rt Post cells slots 197 (CF G S2 L2) (pc + 3) ls (v :: st)) : sv_V G R own nm cc nL rt Post cells slots 197 (CF G S L) pc ls (a7 :: a6 :: a5 :: a4 :: a3 :: a2 :: a1 :: st) := by
  refine sv_callS (As := [a1, a2, a3, a4, a5, a6, a7]) hC hw hd hR rfl hcat d (by rw [hz.1, hz.2]; exact hcs) (fun r n' f' hp => ?_)
  obtain ⟨rfl, rfl, hf'⟩ := hp
  rw [hz.1, hz.2]
  exact sv_ceq hf' kk
theorem cSv7 {y : MethodName} {R2 : Room} {cc2 : ByteArray} {nL2 : Nat} {rt2 : Option FieldType} {i : Nat} {a1 a2 a3 a4 a5 a6 a7 : Value} (hC : sE G y R2 cc2 nL2 rt2 [a1, a2, a3, a4, a5, a6, a7] S L none S2 L2) (hz : R2.cells = 0 ∧ R2.slots = 0) (hw : ∀ w ∈ [Cond.methodLink own i y, .static y, .initialized y.cls, .code y cc2 nL2 rt2], w ∈ gw) (hd : sv_nm y 7) (hR : R2.frames + 1 ≤ R.frames ∧ 8 + (nL2 + 11) + R2.locals ≤ R.locals) (hcat : (st.map fun v => v.category).sum ≤ 8) (hcs : cells ≤ R.cells ∧ slots ≤ R.slots) (d : decode cc pc = .ok (.invokestatic i, 3)) (kk : sv_V G R own nm cc nL rt Post cells slots 197 (CF G S2 L2) (pc + 3) ls (st)) : sv_V G R own nm cc nL rt Post cells slots 197 (CF G S L) pc ls (a7 :: a6 :: a5 :: a4 :: a3 :: a2 :: a1 :: st) := by
  refine sv_callS (As := [a1, a2, a3, a4, a5, a6, a7]) hC hw hd hR rfl hcat d (by rw [hz.1, hz.2]; exact hcs) (fun r n' f' hp => ?_)
  obtain ⟨rfl, rfl, hf'⟩ := hp
  rw [hz.1, hz.2]
  exact sv_ceq hf' kk
end SL
end
