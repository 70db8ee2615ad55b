section
-- ===== PART A: goes FIRST, ahead of the names: the tables' words, and 'selects' of the private methods out of them =====
/-- a private method of a class that the tables say can be made, by its rows of tables_1 -/
def lw_okq (q : MethodName × Nat) : Prop := (q.1.cls ≠ "java/lang/invoke/MethodHandle" ∧ q.1.cls ≠ "java/lang/invoke/VarHandle") ∧ Cond.instantiable q.1.cls q.2 ∈ tables_1 ∧ Cond.privateMethod q.1 ∈ tables_1 ∧ Cond.instanceMethod q.1 ∈ tables_1
theorem lw_p0 : lw_okq (⟨"PlugPins$History", "stateAt", "(I)LPlugPins$Backplane;"⟩, 3) := ⟨⟨by decide +kernel, by decide +kernel⟩, List.mem_of_getElem? (i := 163) (by decide +kernel), List.mem_of_getElem? (i := 236) (by decide +kernel), List.mem_of_getElem? (i := 237) (by decide +kernel)⟩
theorem lw_p1 : lw_okq (⟨"PlugPins$Backplane", "moveBoards", "()Z"⟩, 6) := ⟨⟨by decide +kernel, by decide +kernel⟩, List.mem_of_getElem? (i := 23) (by decide +kernel), List.mem_of_getElem? (i := 370) (by decide +kernel), List.mem_of_getElem? (i := 371) (by decide +kernel)⟩
theorem lw_p2 : lw_okq (⟨"PlugPins$Board", "leaveSlot", "()V"⟩, 10) := ⟨⟨by decide +kernel, by decide +kernel⟩, List.mem_of_getElem? (i := 39) (by decide +kernel), List.mem_of_getElem? (i := 388) (by decide +kernel), List.mem_of_getElem? (i := 389) (by decide +kernel)⟩
theorem lw_p3 : lw_okq (⟨"PlugPins$Backplane", "powerBoards", "()V"⟩, 6) := ⟨⟨by decide +kernel, by decide +kernel⟩, List.mem_of_getElem? (i := 23) (by decide +kernel), List.mem_of_getElem? (i := 392) (by decide +kernel), List.mem_of_getElem? (i := 393) (by decide +kernel)⟩
theorem lw_p4 : lw_okq (⟨"PlugPins$Backplane", "powerBoard", "(LPlugPins$Board;)V"⟩, 6) := ⟨⟨by decide +kernel, by decide +kernel⟩, List.mem_of_getElem? (i := 23) (by decide +kernel), List.mem_of_getElem? (i := 396) (by decide +kernel), List.mem_of_getElem? (i := 397) (by decide +kernel)⟩
theorem lw_p5 : lw_okq (⟨"PlugPins$Backplane", "greetBoards", "()V"⟩, 6) := ⟨⟨by decide +kernel, by decide +kernel⟩, List.mem_of_getElem? (i := 23) (by decide +kernel), List.mem_of_getElem? (i := 406) (by decide +kernel), List.mem_of_getElem? (i := 407) (by decide +kernel)⟩
theorem lw_p6 : lw_okq (⟨"PlugPins$Bus", "freeBus", "(I)V"⟩, 12) := ⟨⟨by decide +kernel, by decide +kernel⟩, List.mem_of_getElem? (i := 88) (by decide +kernel), List.mem_of_getElem? (i := 418) (by decide +kernel), List.mem_of_getElem? (i := 419) (by decide +kernel)⟩
theorem lw_p7 : lw_okq (⟨"PlugPins$Bus", "removeFromQueue", "(I)V"⟩, 12) := ⟨⟨by decide +kernel, by decide +kernel⟩, List.mem_of_getElem? (i := 88) (by decide +kernel), List.mem_of_getElem? (i := 453) (by decide +kernel), List.mem_of_getElem? (i := 454) (by decide +kernel)⟩
theorem lw_p8 : lw_okq (⟨"PlugPins", "hurtsByPlug", "(III)I"⟩, 6) := ⟨⟨by decide +kernel, by decide +kernel⟩, List.mem_of_getElem? (i := 15) (by decide +kernel), List.mem_of_getElem? (i := 538) (by decide +kernel), List.mem_of_getElem? (i := 539) (by decide +kernel)⟩
theorem lw_p9 : lw_okq (⟨"PlugPins$Pad", "signHere", "()I"⟩, 5) := ⟨⟨by decide +kernel, by decide +kernel⟩, List.mem_of_getElem? (i := 183) (by decide +kernel), List.mem_of_getElem? (i := 596) (by decide +kernel), List.mem_of_getElem? (i := 597) (by decide +kernel)⟩
theorem lw_p10 : lw_okq (⟨"PlugPins$Pad", "readSign", "(I)Z"⟩, 5) := ⟨⟨by decide +kernel, by decide +kernel⟩, List.mem_of_getElem? (i := 183) (by decide +kernel), List.mem_of_getElem? (i := 662) (by decide +kernel), List.mem_of_getElem? (i := 663) (by decide +kernel)⟩
theorem lw_p11 : lw_okq (⟨"PlugPins$Pad", "readDigit", "()I"⟩, 5) := ⟨⟨by decide +kernel, by decide +kernel⟩, List.mem_of_getElem? (i := 183) (by decide +kernel), List.mem_of_getElem? (i := 666) (by decide +kernel), List.mem_of_getElem? (i := 667) (by decide +kernel)⟩
theorem lw_p12 : lw_okq (⟨"PlugPins$Pad", "readNumber", "()I"⟩, 5) := ⟨⟨by decide +kernel, by decide +kernel⟩, List.mem_of_getElem? (i := 183) (by decide +kernel), List.mem_of_getElem? (i := 670) (by decide +kernel), List.mem_of_getElem? (i := 671) (by decide +kernel)⟩
theorem lw_p13 : lw_okq (⟨"PlugPins", "carryOutOrder", "()I"⟩, 6) := ⟨⟨by decide +kernel, by decide +kernel⟩, List.mem_of_getElem? (i := 15) (by decide +kernel), List.mem_of_getElem? (i := 685) (by decide +kernel), List.mem_of_getElem? (i := 686) (by decide +kernel)⟩
theorem lw_p14 : lw_okq (⟨"PlugPinsModel", "putAside", "()V"⟩, 14) := ⟨⟨by decide +kernel, by decide +kernel⟩, List.mem_of_getElem? (i := 706) (by decide +kernel), List.mem_of_getElem? (i := 759) (by decide +kernel), List.mem_of_getElem? (i := 760) (by decide +kernel)⟩
theorem lw_p15 : lw_okq (⟨"PlugPinsModel", "changed", "(I)I"⟩, 14) := ⟨⟨by decide +kernel, by decide +kernel⟩, List.mem_of_getElem? (i := 706) (by decide +kernel), List.mem_of_getElem? (i := 772) (by decide +kernel), List.mem_of_getElem? (i := 773) (by decide +kernel)⟩
def lw_privs_1 : List (MethodName × Nat) := [(⟨"PlugPins$History", "stateAt", "(I)LPlugPins$Backplane;"⟩, 3), (⟨"PlugPins$Backplane", "moveBoards", "()Z"⟩, 6), (⟨"PlugPins$Board", "leaveSlot", "()V"⟩, 10), (⟨"PlugPins$Backplane", "powerBoards", "()V"⟩, 6), (⟨"PlugPins$Backplane", "powerBoard", "(LPlugPins$Board;)V"⟩, 6), (⟨"PlugPins$Backplane", "greetBoards", "()V"⟩, 6), (⟨"PlugPins$Bus", "freeBus", "(I)V"⟩, 12), (⟨"PlugPins$Bus", "removeFromQueue", "(I)V"⟩, 12), (⟨"PlugPins", "hurtsByPlug", "(III)I"⟩, 6), (⟨"PlugPins$Pad", "signHere", "()I"⟩, 5), (⟨"PlugPins$Pad", "readSign", "(I)Z"⟩, 5), (⟨"PlugPins$Pad", "readDigit", "()I"⟩, 5), (⟨"PlugPins$Pad", "readNumber", "()I"⟩, 5), (⟨"PlugPins", "carryOutOrder", "()I"⟩, 6), (⟨"PlugPinsModel", "putAside", "()V"⟩, 14), (⟨"PlugPinsModel", "changed", "(I)I"⟩, 14)]
theorem lw_r1 : ∀ q ∈ lw_privs_1, lw_okq q := List.forall_mem_cons.mpr ⟨lw_p0, List.forall_mem_cons.mpr ⟨lw_p1, List.forall_mem_cons.mpr ⟨lw_p2, List.forall_mem_cons.mpr ⟨lw_p3, List.forall_mem_cons.mpr ⟨lw_p4, List.forall_mem_cons.mpr ⟨lw_p5, List.forall_mem_cons.mpr ⟨lw_p6, List.forall_mem_cons.mpr ⟨lw_p7, List.forall_mem_cons.mpr ⟨lw_p8, List.forall_mem_cons.mpr ⟨lw_p9, List.forall_mem_cons.mpr ⟨lw_p10, List.forall_mem_cons.mpr ⟨lw_p11, List.forall_mem_cons.mpr ⟨lw_p12, List.forall_mem_cons.mpr ⟨lw_p13, List.forall_mem_cons.mpr ⟨lw_p14, List.forall_mem_cons.mpr ⟨lw_p15, fun _ h => absurd h List.not_mem_nil⟩⟩⟩⟩⟩⟩⟩⟩⟩⟩⟩⟩⟩⟩⟩⟩
theorem lw_p16 : lw_okq (⟨"PlugPinsModel", "record", "()V"⟩, 14) := ⟨⟨by decide +kernel, by decide +kernel⟩, List.mem_of_getElem? (i := 706) (by decide +kernel), List.mem_of_getElem? (i := 776) (by decide +kernel), List.mem_of_getElem? (i := 777) (by decide +kernel)⟩
theorem lw_p17 : lw_okq (⟨"PlugPinsModel", "comes", "(II)I"⟩, 14) := ⟨⟨by decide +kernel, by decide +kernel⟩, List.mem_of_getElem? (i := 706) (by decide +kernel), List.mem_of_getElem? (i := 784) (by decide +kernel), List.mem_of_getElem? (i := 785) (by decide +kernel)⟩
theorem lw_p18 : lw_okq (⟨"PlugPinsModel", "plugs", "(III)I"⟩, 14) := ⟨⟨by decide +kernel, by decide +kernel⟩, List.mem_of_getElem? (i := 706) (by decide +kernel), List.mem_of_getElem? (i := 795) (by decide +kernel), List.mem_of_getElem? (i := 796) (by decide +kernel)⟩
theorem lw_p19 : lw_okq (⟨"PlugPinsModel", "isBoard", "(I)Z"⟩, 14) := ⟨⟨by decide +kernel, by decide +kernel⟩, List.mem_of_getElem? (i := 706) (by decide +kernel), List.mem_of_getElem? (i := 799) (by decide +kernel), List.mem_of_getElem? (i := 800) (by decide +kernel)⟩
theorem lw_p20 : lw_okq (⟨"PlugPinsModel", "boardIn", "(I)I"⟩, 14) := ⟨⟨by decide +kernel, by decide +kernel⟩, List.mem_of_getElem? (i := 706) (by decide +kernel), List.mem_of_getElem? (i := 806) (by decide +kernel), List.mem_of_getElem? (i := 807) (by decide +kernel)⟩
theorem lw_p21 : lw_okq (⟨"PlugPinsModel", "pulls", "(II)I"⟩, 14) := ⟨⟨by decide +kernel, by decide +kernel⟩, List.mem_of_getElem? (i := 706) (by decide +kernel), List.mem_of_getElem? (i := 814) (by decide +kernel), List.mem_of_getElem? (i := 815) (by decide +kernel)⟩
theorem lw_p22 : lw_okq (⟨"PlugPinsModel", "asks", "(I)I"⟩, 14) := ⟨⟨by decide +kernel, by decide +kernel⟩, List.mem_of_getElem? (i := 706) (by decide +kernel), List.mem_of_getElem? (i := 822) (by decide +kernel), List.mem_of_getElem? (i := 823) (by decide +kernel)⟩
theorem lw_p23 : lw_okq (⟨"PlugPinsModel", "going", "(I)I"⟩, 14) := ⟨⟨by decide +kernel, by decide +kernel⟩, List.mem_of_getElem? (i := 706) (by decide +kernel), List.mem_of_getElem? (i := 826) (by decide +kernel), List.mem_of_getElem? (i := 827) (by decide +kernel)⟩
theorem lw_p24 : lw_okq (⟨"PlugPinsModel", "isGoing", "(I)Z"⟩, 14) := ⟨⟨by decide +kernel, by decide +kernel⟩, List.mem_of_getElem? (i := 706) (by decide +kernel), List.mem_of_getElem? (i := 830) (by decide +kernel), List.mem_of_getElem? (i := 831) (by decide +kernel)⟩
theorem lw_p25 : lw_okq (⟨"PlugPinsModel", "stateOf", "(I)I"⟩, 14) := ⟨⟨by decide +kernel, by decide +kernel⟩, List.mem_of_getElem? (i := 706) (by decide +kernel), List.mem_of_getElem? (i := 834) (by decide +kernel), List.mem_of_getElem? (i := 835) (by decide +kernel)⟩
theorem lw_p26 : lw_okq (⟨"PlugPinsModel", "isOf", "(II)Z"⟩, 14) := ⟨⟨by decide +kernel, by decide +kernel⟩, List.mem_of_getElem? (i := 706) (by decide +kernel), List.mem_of_getElem? (i := 838) (by decide +kernel), List.mem_of_getElem? (i := 839) (by decide +kernel)⟩
theorem lw_p27 : lw_okq (⟨"PlugPinsModel", "fromOf", "(I)I"⟩, 14) := ⟨⟨by decide +kernel, by decide +kernel⟩, List.mem_of_getElem? (i := 706) (by decide +kernel), List.mem_of_getElem? (i := 842) (by decide +kernel), List.mem_of_getElem? (i := 843) (by decide +kernel)⟩
theorem lw_p28 : lw_okq (⟨"PlugPinsModel", "toOf", "(I)I"⟩, 14) := ⟨⟨by decide +kernel, by decide +kernel⟩, List.mem_of_getElem? (i := 706) (by decide +kernel), List.mem_of_getElem? (i := 846) (by decide +kernel), List.mem_of_getElem? (i := 847) (by decide +kernel)⟩
theorem lw_p29 : lw_okq (⟨"PlugPinsModel", "sends", "(II)I"⟩, 14) := ⟨⟨by decide +kernel, by decide +kernel⟩, List.mem_of_getElem? (i := 706) (by decide +kernel), List.mem_of_getElem? (i := 854) (by decide +kernel), List.mem_of_getElem? (i := 855) (by decide +kernel)⟩
theorem lw_p30 : lw_okq (⟨"PlugPinsModel", "hindrance", "(II)I"⟩, 14) := ⟨⟨by decide +kernel, by decide +kernel⟩, List.mem_of_getElem? (i := 706) (by decide +kernel), List.mem_of_getElem? (i := 858) (by decide +kernel), List.mem_of_getElem? (i := 859) (by decide +kernel)⟩
theorem lw_p31 : lw_okq (⟨"PlugPinsModel", "passes", "(I)I"⟩, 14) := ⟨⟨by decide +kernel, by decide +kernel⟩, List.mem_of_getElem? (i := 706) (by decide +kernel), List.mem_of_getElem? (i := 866) (by decide +kernel), List.mem_of_getElem? (i := 867) (by decide +kernel)⟩
def lw_privs_2 : List (MethodName × Nat) := [(⟨"PlugPinsModel", "record", "()V"⟩, 14), (⟨"PlugPinsModel", "comes", "(II)I"⟩, 14), (⟨"PlugPinsModel", "plugs", "(III)I"⟩, 14), (⟨"PlugPinsModel", "isBoard", "(I)Z"⟩, 14), (⟨"PlugPinsModel", "boardIn", "(I)I"⟩, 14), (⟨"PlugPinsModel", "pulls", "(II)I"⟩, 14), (⟨"PlugPinsModel", "asks", "(I)I"⟩, 14), (⟨"PlugPinsModel", "going", "(I)I"⟩, 14), (⟨"PlugPinsModel", "isGoing", "(I)Z"⟩, 14), (⟨"PlugPinsModel", "stateOf", "(I)I"⟩, 14), (⟨"PlugPinsModel", "isOf", "(II)Z"⟩, 14), (⟨"PlugPinsModel", "fromOf", "(I)I"⟩, 14), (⟨"PlugPinsModel", "toOf", "(I)I"⟩, 14), (⟨"PlugPinsModel", "sends", "(II)I"⟩, 14), (⟨"PlugPinsModel", "hindrance", "(II)I"⟩, 14), (⟨"PlugPinsModel", "passes", "(I)I"⟩, 14)]
theorem lw_r2 : ∀ q ∈ lw_privs_2, lw_okq q := List.forall_mem_cons.mpr ⟨lw_p16, List.forall_mem_cons.mpr ⟨lw_p17, List.forall_mem_cons.mpr ⟨lw_p18, List.forall_mem_cons.mpr ⟨lw_p19, List.forall_mem_cons.mpr ⟨lw_p20, List.forall_mem_cons.mpr ⟨lw_p21, List.forall_mem_cons.mpr ⟨lw_p22, List.forall_mem_cons.mpr ⟨lw_p23, List.forall_mem_cons.mpr ⟨lw_p24, List.forall_mem_cons.mpr ⟨lw_p25, List.forall_mem_cons.mpr ⟨lw_p26, List.forall_mem_cons.mpr ⟨lw_p27, List.forall_mem_cons.mpr ⟨lw_p28, List.forall_mem_cons.mpr ⟨lw_p29, List.forall_mem_cons.mpr ⟨lw_p30, List.forall_mem_cons.mpr ⟨lw_p31, fun _ h => absurd h List.not_mem_nil⟩⟩⟩⟩⟩⟩⟩⟩⟩⟩⟩⟩⟩⟩⟩⟩
theorem lw_p32 : lw_okq (⟨"PlugPinsModel", "tick", "()V"⟩, 14) := ⟨⟨by decide +kernel, by decide +kernel⟩, List.mem_of_getElem? (i := 706) (by decide +kernel), List.mem_of_getElem? (i := 870) (by decide +kernel), List.mem_of_getElem? (i := 871) (by decide +kernel)⟩
theorem lw_p33 : lw_okq (⟨"PlugPinsModel", "goes", "(I)Z"⟩, 14) := ⟨⟨by decide +kernel, by decide +kernel⟩, List.mem_of_getElem? (i := 706) (by decide +kernel), List.mem_of_getElem? (i := 874) (by decide +kernel), List.mem_of_getElem? (i := 875) (by decide +kernel)⟩
theorem lw_p34 : lw_okq (⟨"PlugPinsModel", "powers", "(I)V"⟩, 14) := ⟨⟨by decide +kernel, by decide +kernel⟩, List.mem_of_getElem? (i := 706) (by decide +kernel), List.mem_of_getElem? (i := 878) (by decide +kernel), List.mem_of_getElem? (i := 879) (by decide +kernel)⟩
theorem lw_p35 : lw_okq (⟨"PlugPinsModel", "draw", "()I"⟩, 14) := ⟨⟨by decide +kernel, by decide +kernel⟩, List.mem_of_getElem? (i := 706) (by decide +kernel), List.mem_of_getElem? (i := 882) (by decide +kernel), List.mem_of_getElem? (i := 883) (by decide +kernel)⟩
theorem lw_p36 : lw_okq (⟨"PlugPinsModel", "greets", "(I)V"⟩, 14) := ⟨⟨by decide +kernel, by decide +kernel⟩, List.mem_of_getElem? (i := 706) (by decide +kernel), List.mem_of_getElem? (i := 886) (by decide +kernel), List.mem_of_getElem? (i := 887) (by decide +kernel)⟩
theorem lw_p37 : lw_okq (⟨"PlugPinsModel", "forgets", "(I)V"⟩, 14) := ⟨⟨by decide +kernel, by decide +kernel⟩, List.mem_of_getElem? (i := 706) (by decide +kernel), List.mem_of_getElem? (i := 890) (by decide +kernel), List.mem_of_getElem? (i := 891) (by decide +kernel)⟩
theorem lw_p38 : lw_okq (⟨"PlugPinsModel", "isLost", "(I)V"⟩, 14) := ⟨⟨by decide +kernel, by decide +kernel⟩, List.mem_of_getElem? (i := 706) (by decide +kernel), List.mem_of_getElem? (i := 894) (by decide +kernel), List.mem_of_getElem? (i := 895) (by decide +kernel)⟩
theorem lw_p39 : lw_okq (⟨"PlugPinsModel", "becomes", "(II)V"⟩, 14) := ⟨⟨by decide +kernel, by decide +kernel⟩, List.mem_of_getElem? (i := 706) (by decide +kernel), List.mem_of_getElem? (i := 898) (by decide +kernel), List.mem_of_getElem? (i := 899) (by decide +kernel)⟩
theorem lw_p40 : lw_okq (⟨"PlugPinsModel", "serves", "(Z)V"⟩, 14) := ⟨⟨by decide +kernel, by decide +kernel⟩, List.mem_of_getElem? (i := 706) (by decide +kernel), List.mem_of_getElem? (i := 902) (by decide +kernel), List.mem_of_getElem? (i := 903) (by decide +kernel)⟩
theorem lw_p41 : lw_okq (⟨"PlugPinsModel", "isHeld", "()Z"⟩, 14) := ⟨⟨by decide +kernel, by decide +kernel⟩, List.mem_of_getElem? (i := 706) (by decide +kernel), List.mem_of_getElem? (i := 906) (by decide +kernel), List.mem_of_getElem? (i := 907) (by decide +kernel)⟩
theorem lw_p42 : lw_okq (⟨"PlugPinsModel", "getsOn", "()V"⟩, 14) := ⟨⟨by decide +kernel, by decide +kernel⟩, List.mem_of_getElem? (i := 706) (by decide +kernel), List.mem_of_getElem? (i := 910) (by decide +kernel), List.mem_of_getElem? (i := 911) (by decide +kernel)⟩
theorem lw_p43 : lw_okq (⟨"PlugPinsModel", "isReady", "(I)Z"⟩, 14) := ⟨⟨by decide +kernel, by decide +kernel⟩, List.mem_of_getElem? (i := 706) (by decide +kernel), List.mem_of_getElem? (i := 914) (by decide +kernel), List.mem_of_getElem? (i := 915) (by decide +kernel)⟩
theorem lw_p44 : lw_okq (⟨"PlugPinsModel", "boards", "(Z)I"⟩, 14) := ⟨⟨by decide +kernel, by decide +kernel⟩, List.mem_of_getElem? (i := 706) (by decide +kernel), List.mem_of_getElem? (i := 938) (by decide +kernel), List.mem_of_getElem? (i := 939) (by decide +kernel)⟩
theorem lw_p45 : lw_okq (⟨"PlugPinsModel", "tooSoon", "()I"⟩, 14) := ⟨⟨by decide +kernel, by decide +kernel⟩, List.mem_of_getElem? (i := 706) (by decide +kernel), List.mem_of_getElem? (i := 942) (by decide +kernel), List.mem_of_getElem? (i := 943) (by decide +kernel)⟩
theorem lw_p46 : lw_okq (⟨"PlugPinsModel", "putBack", "()V"⟩, 14) := ⟨⟨by decide +kernel, by decide +kernel⟩, List.mem_of_getElem? (i := 706) (by decide +kernel), List.mem_of_getElem? (i := 958) (by decide +kernel), List.mem_of_getElem? (i := 959) (by decide +kernel)⟩
theorem lw_p47 : lw_okq (⟨"PlugPinsModel", "hurtsBy", "(III)I"⟩, 14) := ⟨⟨by decide +kernel, by decide +kernel⟩, List.mem_of_getElem? (i := 706) (by decide +kernel), List.mem_of_getElem? (i := 966) (by decide +kernel), List.mem_of_getElem? (i := 967) (by decide +kernel)⟩
def lw_privs_3 : List (MethodName × Nat) := [(⟨"PlugPinsModel", "tick", "()V"⟩, 14), (⟨"PlugPinsModel", "goes", "(I)Z"⟩, 14), (⟨"PlugPinsModel", "powers", "(I)V"⟩, 14), (⟨"PlugPinsModel", "draw", "()I"⟩, 14), (⟨"PlugPinsModel", "greets", "(I)V"⟩, 14), (⟨"PlugPinsModel", "forgets", "(I)V"⟩, 14), (⟨"PlugPinsModel", "isLost", "(I)V"⟩, 14), (⟨"PlugPinsModel", "becomes", "(II)V"⟩, 14), (⟨"PlugPinsModel", "serves", "(Z)V"⟩, 14), (⟨"PlugPinsModel", "isHeld", "()Z"⟩, 14), (⟨"PlugPinsModel", "getsOn", "()V"⟩, 14), (⟨"PlugPinsModel", "isReady", "(I)Z"⟩, 14), (⟨"PlugPinsModel", "boards", "(Z)I"⟩, 14), (⟨"PlugPinsModel", "tooSoon", "()I"⟩, 14), (⟨"PlugPinsModel", "putBack", "()V"⟩, 14), (⟨"PlugPinsModel", "hurtsBy", "(III)I"⟩, 14)]
theorem lw_r3 : ∀ q ∈ lw_privs_3, lw_okq q := List.forall_mem_cons.mpr ⟨lw_p32, List.forall_mem_cons.mpr ⟨lw_p33, List.forall_mem_cons.mpr ⟨lw_p34, List.forall_mem_cons.mpr ⟨lw_p35, List.forall_mem_cons.mpr ⟨lw_p36, List.forall_mem_cons.mpr ⟨lw_p37, List.forall_mem_cons.mpr ⟨lw_p38, List.forall_mem_cons.mpr ⟨lw_p39, List.forall_mem_cons.mpr ⟨lw_p40, List.forall_mem_cons.mpr ⟨lw_p41, List.forall_mem_cons.mpr ⟨lw_p42, List.forall_mem_cons.mpr ⟨lw_p43, List.forall_mem_cons.mpr ⟨lw_p44, List.forall_mem_cons.mpr ⟨lw_p45, List.forall_mem_cons.mpr ⟨lw_p46, List.forall_mem_cons.mpr ⟨lw_p47, fun _ h => absurd h List.not_mem_nil⟩⟩⟩⟩⟩⟩⟩⟩⟩⟩⟩⟩⟩⟩⟩⟩
theorem lw_p48 : lw_okq (⟨"PlugPinsModel", "goesThrough", "(Z)I"⟩, 14) := ⟨⟨by decide +kernel, by decide +kernel⟩, List.mem_of_getElem? (i := 706) (by decide +kernel), List.mem_of_getElem? (i := 991) (by decide +kernel), List.mem_of_getElem? (i := 992) (by decide +kernel)⟩
theorem lw_p49 : lw_okq (⟨"PlugPinsModel", "readOrder", "()V"⟩, 14) := ⟨⟨by decide +kernel, by decide +kernel⟩, List.mem_of_getElem? (i := 706) (by decide +kernel), List.mem_of_getElem? (i := 995) (by decide +kernel), List.mem_of_getElem? (i := 996) (by decide +kernel)⟩
theorem lw_p50 : lw_okq (⟨"PlugPinsModel", "number", "()I"⟩, 14) := ⟨⟨by decide +kernel, by decide +kernel⟩, List.mem_of_getElem? (i := 706) (by decide +kernel), List.mem_of_getElem? (i := 999) (by decide +kernel), List.mem_of_getElem? (i := 1000) (by decide +kernel)⟩
theorem lw_p51 : lw_okq (⟨"PlugPinsModel", "takes", "(II)I"⟩, 14) := ⟨⟨by decide +kernel, by decide +kernel⟩, List.mem_of_getElem? (i := 706) (by decide +kernel), List.mem_of_getElem? (i := 1003) (by decide +kernel), List.mem_of_getElem? (i := 1004) (by decide +kernel)⟩
theorem lw_p52 : lw_okq (⟨"PlugPinsModel", "isNext", "(II)Z"⟩, 14) := ⟨⟨by decide +kernel, by decide +kernel⟩, List.mem_of_getElem? (i := 706) (by decide +kernel), List.mem_of_getElem? (i := 1007) (by decide +kernel), List.mem_of_getElem? (i := 1008) (by decide +kernel)⟩
theorem lw_p53 : lw_okq (⟨"PlugPinsModel", "does", "()I"⟩, 14) := ⟨⟨by decide +kernel, by decide +kernel⟩, List.mem_of_getElem? (i := 706) (by decide +kernel), List.mem_of_getElem? (i := 1014) (by decide +kernel), List.mem_of_getElem? (i := 1015) (by decide +kernel)⟩
def lw_privs_4 : List (MethodName × Nat) := [(⟨"PlugPinsModel", "goesThrough", "(Z)I"⟩, 14), (⟨"PlugPinsModel", "readOrder", "()V"⟩, 14), (⟨"PlugPinsModel", "number", "()I"⟩, 14), (⟨"PlugPinsModel", "takes", "(II)I"⟩, 14), (⟨"PlugPinsModel", "isNext", "(II)Z"⟩, 14), (⟨"PlugPinsModel", "does", "()I"⟩, 14)]
theorem lw_r4 : ∀ q ∈ lw_privs_4, lw_okq q := List.forall_mem_cons.mpr ⟨lw_p48, List.forall_mem_cons.mpr ⟨lw_p49, List.forall_mem_cons.mpr ⟨lw_p50, List.forall_mem_cons.mpr ⟨lw_p51, List.forall_mem_cons.mpr ⟨lw_p52, List.forall_mem_cons.mpr ⟨lw_p53, fun _ h => absurd h List.not_mem_nil⟩⟩⟩⟩⟩⟩
def lw_privs : List (MethodName × Nat) := lw_privs_1 ++ (lw_privs_2 ++ (lw_privs_3 ++ (lw_privs_4)))
def lw_tbl : List Cond := k2_sels lw_privs ++ tables_1
theorem lw_privs_ok : ∀ q ∈ lw_privs, lw_okq q := by
  show ∀ q ∈ lw_privs_1 ++ (lw_privs_2 ++ (lw_privs_3 ++ (lw_privs_4))), lw_okq q
  exact List.forall_mem_append.mpr ⟨lw_r1, List.forall_mem_append.mpr ⟨lw_r2, List.forall_mem_append.mpr ⟨lw_r3, lw_r4⟩⟩⟩
end
section
def RX0 : String := "PlugPins$Backplane"
def TX0 : u_T := fun k => match k with
  | 0 => ("PlugPins$Backplane", "settings", "[I", true)
  | 1 => ("PlugPins$Backplane", "boards", "[LPlugPins$Board;", true)
  | 2 => ("PlugPins$Backplane", "bus", "LPlugPins$Bus;", true)
  | 3 => ("PlugPins$Backplane", "boardCount", "I", false)
  | 4 => ("PlugPins$Backplane", "time", "I", false)
  | _ => ("PlugPins$Backplane", "plugs", "I", false)
def tyX0 : Nat → FieldType := fun k => match k with
  | 0 => .array .int
  | 1 => .array (.object "PlugPins$Board")
  | 2 => .object "PlugPins$Bus"
  | 3 => .int
  | 4 => .int
  | _ => .int
abbrev wsX00 : List Cond := u_ws RX0 TX0 6
theorem nmX0 : ∀ a, a < 6 → ∀ b, b < 6 → a ≠ b → (TX0 a).2.1 ≠ (TX0 b).2.1 := by decide +kernel
theorem tyX0_ok : ∀ k, k < 6 → parseFieldDescriptor (TX0 k).2.2.1 = some (tyX0 k) := by decide +kernel
abbrev cX0_init : ByteArray := prog_2_method_1_code
def yX0_init : MethodName := ⟨RX0, "<init>", "()V"⟩
abbrev cX0_copyFrom : ByteArray := prog_2_method_2_code
def yX0_copyFrom : MethodName := ⟨RX0, "copyFrom", "(LPlugPins$Backplane;)V"⟩
abbrev cX0_boardAt : ByteArray := prog_2_method_3_code
def yX0_boardAt : MethodName := ⟨RX0, "boardAt", "(I)LPlugPins$Board;"⟩
abbrev cX0_boardIn : ByteArray := prog_2_method_4_code
def yX0_boardIn : MethodName := ⟨RX0, "boardIn", "(I)I"⟩
abbrev cX0_boardSet : ByteArray := prog_2_method_5_code
def yX0_boardSet : MethodName := ⟨RX0, "boardSet", "()I"⟩
abbrev cX0_pluggedSet : ByteArray := prog_2_method_6_code
def yX0_pluggedSet : MethodName := ⟨RX0, "pluggedSet", "()I"⟩
abbrev cX0_knownSet : ByteArray := prog_2_method_7_code
def yX0_knownSet : MethodName := ⟨RX0, "knownSet", "()I"⟩
abbrev cX0_knownWithCode : ByteArray := prog_2_method_8_code
def yX0_knownWithCode : MethodName := ⟨RX0, "knownWithCode", "(I)I"⟩
abbrev cX0_drawn : ByteArray := prog_2_method_9_code
def yX0_drawn : MethodName := ⟨RX0, "drawn", "()I"⟩
abbrev cX0_pulledTooSoon : ByteArray := prog_2_method_10_code
def yX0_pulledTooSoon : MethodName := ⟨RX0, "pulledTooSoon", "()I"⟩
abbrev cX0_isHeld : ByteArray := prog_2_method_11_code
def yX0_isHeld : MethodName := ⟨RX0, "isHeld", "()Z"⟩
abbrev cX0_aboutBoard : ByteArray := prog_2_method_12_code
def yX0_aboutBoard : MethodName := ⟨RX0, "aboutBoard", "(II)I"⟩
abbrev cX0_changeSetting : ByteArray := prog_2_method_13_code
def yX0_changeSetting : MethodName := ⟨RX0, "changeSetting", "(II)I"⟩
abbrev cX0_addBoard : ByteArray := prog_2_method_14_code
def yX0_addBoard : MethodName := ⟨RX0, "addBoard", "(II)I"⟩
abbrev cX0_inwardError : ByteArray := prog_2_method_15_code
def yX0_inwardError : MethodName := ⟨RX0, "inwardError", "(III)I"⟩
abbrev cX0_moveInward : ByteArray := prog_2_method_16_code
def yX0_moveInward : MethodName := ⟨RX0, "moveInward", "(III)I"⟩
abbrev cX0_moveOutward : ByteArray := prog_2_method_17_code
def yX0_moveOutward : MethodName := ⟨RX0, "moveOutward", "(II)I"⟩
abbrev cX0_askToLeave : ByteArray := prog_2_method_18_code
def yX0_askToLeave : MethodName := ⟨RX0, "askToLeave", "(I)I"⟩
abbrev cX0_whyNot : ByteArray := prog_2_method_19_code
def yX0_whyNot : MethodName := ⟨RX0, "whyNot", "(II)I"⟩
abbrev cX0_sendWord : ByteArray := prog_2_method_20_code
def yX0_sendWord : MethodName := ⟨RX0, "sendWord", "(II)I"⟩
abbrev cX0_passTicks : ByteArray := prog_2_method_21_code
def yX0_passTicks : MethodName := ⟨RX0, "passTicks", "(I)I"⟩
abbrev cX0_ticksUntilKnown : ByteArray := prog_2_method_22_code
def yX0_ticksUntilKnown : MethodName := ⟨RX0, "ticksUntilKnown", "(I)I"⟩
abbrev cX0_ticksUntilQuiet : ByteArray := prog_2_method_23_code
def yX0_ticksUntilQuiet : MethodName := ⟨RX0, "ticksUntilQuiet", "()I"⟩
abbrev cX0_hurtsUntilStanding : ByteArray := prog_2_method_24_code
def yX0_hurtsUntilStanding : MethodName := ⟨RX0, "hurtsUntilStanding", "(I)I"⟩
abbrev cX0_tick : ByteArray := prog_2_method_25_code
def yX0_tick : MethodName := ⟨RX0, "tick", "()V"⟩
abbrev cX0_moveBoards : ByteArray := prog_2_method_26_code
def yX0_moveBoards : MethodName := ⟨RX0, "moveBoards", "()Z"⟩
abbrev cX0_powerBoards : ByteArray := prog_2_method_27_code
def yX0_powerBoards : MethodName := ⟨RX0, "powerBoards", "()V"⟩
abbrev cX0_powerBoard : ByteArray := prog_2_method_28_code
def yX0_powerBoard : MethodName := ⟨RX0, "powerBoard", "(LPlugPins$Board;)V"⟩
abbrev cX0_greetBoards : ByteArray := prog_2_method_29_code
def yX0_greetBoards : MethodName := ⟨RX0, "greetBoards", "()V"⟩
def RX1 : String := "PlugPins$Board"
def TX1 : u_T := fun k => match k with
  | 0 => ("PlugPins$Board", "code", "I", false)
  | 1 => ("PlugPins$Board", "current", "I", false)
  | 2 => ("PlugPins$Board", "slot", "I", false)
  | 3 => ("PlugPins$Board", "depth", "I", false)
  | 4 => ("PlugPins$Board", "speed", "I", false)
  | 5 => ("PlugPins$Board", "power", "I", false)
  | 6 => ("PlugPins$Board", "isKnown", "Z", false)
  | 7 => ("PlugPins$Board", "hasAsked", "Z", false)
  | 8 => ("PlugPins$Board", "greeted", "I", false)
  | _ => ("PlugPins$Board", "pulledTooSoon", "I", false)
def tyX1 : Nat → FieldType := fun k => match k with
  | 0 => .int
  | 1 => .int
  | 2 => .int
  | 3 => .int
  | 4 => .int
  | 5 => .int
  | 6 => .boolean
  | 7 => .boolean
  | 8 => .int
  | _ => .int
abbrev wsX10 : List Cond := u_ws RX1 TX1 10
theorem nmX1 : ∀ a, a < 10 → ∀ b, b < 10 → a ≠ b → (TX1 a).2.1 ≠ (TX1 b).2.1 := by decide +kernel
theorem tyX1_ok : ∀ k, k < 10 → parseFieldDescriptor (TX1 k).2.2.1 = some (tyX1 k) := by decide +kernel
abbrev cX1_init : ByteArray := prog_3_method_1_code
def yX1_init : MethodName := ⟨RX1, "<init>", "()V"⟩
abbrev cX1_begin : ByteArray := prog_3_method_2_code
def yX1_begin : MethodName := ⟨RX1, "begin", "(II)V"⟩
abbrev cX1_copyFrom : ByteArray := prog_3_method_3_code
def yX1_copyFrom : MethodName := ⟨RX1, "copyFrom", "(LPlugPins$Board;)V"⟩
abbrev cX1_touches : ByteArray := prog_3_method_4_code
def yX1_touches : MethodName := ⟨RX1, "touches", "(I)Z"⟩
abbrev cX1_holdsBus : ByteArray := prog_3_method_5_code
def yX1_holdsBus : MethodName := ⟨RX1, "holdsBus", "()Z"⟩
abbrev cX1_move : ByteArray := prog_3_method_6_code
def yX1_move : MethodName := ⟨RX1, "move", "()Z"⟩
abbrev cX1_leaveSlot : ByteArray := prog_3_method_7_code
def yX1_leaveSlot : MethodName := ⟨RX1, "leaveSlot", "()V"⟩
abbrev cX1_greetForTick : ByteArray := prog_3_method_8_code
def yX1_greetForTick : MethodName := ⟨RX1, "greetForTick", "(I)V"⟩
abbrev cX1_becomeUnknown : ByteArray := prog_3_method_9_code
def yX1_becomeUnknown : MethodName := ⟨RX1, "becomeUnknown", "()V"⟩
def RX2 : String := "PlugPins$Bus"
def TX2 : u_T := fun k => match k with
  | 0 => ("PlugPins$Bus", "senders", "[I", true)
  | 1 => ("PlugPins$Bus", "receivers", "[I", true)
  | 2 => ("PlugPins$Bus", "conditions", "[I", true)
  | 3 => ("PlugPins$Bus", "hurts", "[I", true)
  | 4 => ("PlugPins$Bus", "sent", "I", false)
  | 5 => ("PlugPins$Bus", "queue", "[I", true)
  | 6 => ("PlugPins$Bus", "queued", "I", false)
  | 7 => ("PlugPins$Bus", "onBus", "I", false)
  | 8 => ("PlugPins$Bus", "ticksLeft", "I", false)
  | 9 => ("PlugPins$Bus", "delivered", "I", false)
  | 10 => ("PlugPins$Bus", "lost", "I", false)
  | _ => ("PlugPins$Bus", "hurtSoFar", "I", false)
def tyX2 : Nat → FieldType := fun k => match k with
  | 0 => .array .int
  | 1 => .array .int
  | 2 => .array .int
  | 3 => .array .int
  | 4 => .int
  | 5 => .array .int
  | 6 => .int
  | 7 => .int
  | 8 => .int
  | 9 => .int
  | 10 => .int
  | _ => .int
abbrev wsX20 : List Cond := u_ws RX2 TX2 12
theorem nmX2 : ∀ a, a < 12 → ∀ b, b < 12 → a ≠ b → (TX2 a).2.1 ≠ (TX2 b).2.1 := by decide +kernel
theorem tyX2_ok : ∀ k, k < 12 → parseFieldDescriptor (TX2 k).2.2.1 = some (tyX2 k) := by decide +kernel
abbrev cX2_init : ByteArray := prog_4_method_1_code
def yX2_init : MethodName := ⟨RX2, "<init>", "()V"⟩
abbrev cX2_copyFrom : ByteArray := prog_4_method_2_code
def yX2_copyFrom : MethodName := ⟨RX2, "copyFrom", "(LPlugPins$Bus;)V"⟩
abbrev cX2_isWord : ByteArray := prog_4_method_3_code
def yX2_isWord : MethodName := ⟨RX2, "isWord", "(I)Z"⟩
abbrev cX2_isBetween : ByteArray := prog_4_method_4_code
def yX2_isBetween : MethodName := ⟨RX2, "isBetween", "(II)Z"⟩
abbrev cX2_wordAtRank : ByteArray := prog_4_method_5_code
def yX2_wordAtRank : MethodName := ⟨RX2, "wordAtRank", "(I)I"⟩
abbrev cX2_openWords : ByteArray := prog_4_method_6_code
def yX2_openWords : MethodName := ⟨RX2, "openWords", "()I"⟩
abbrev cX2_openWordsOf : ByteArray := prog_4_method_7_code
def yX2_openWordsOf : MethodName := ⟨RX2, "openWordsOf", "(I)I"⟩
abbrev cX2_deliveredFrom : ByteArray := prog_4_method_8_code
def yX2_deliveredFrom : MethodName := ⟨RX2, "deliveredFrom", "(I)I"⟩
abbrev cX2_aboutWord : ByteArray := prog_4_method_9_code
def yX2_aboutWord : MethodName := ⟨RX2, "aboutWord", "(II)I"⟩
abbrev cX2_queueWord : ByteArray := prog_4_method_10_code
def yX2_queueWord : MethodName := ⟨RX2, "queueWord", "(II)I"⟩
abbrev cX2_loseWordsOf : ByteArray := prog_4_method_11_code
def yX2_loseWordsOf : MethodName := ⟨RX2, "loseWordsOf", "(I)V"⟩
abbrev cX2_hurtWordOnBus : ByteArray := prog_4_method_12_code
def yX2_hurtWordOnBus : MethodName := ⟨RX2, "hurtWordOnBus", "(I)V"⟩
abbrev cX2_carryWordOnBus : ByteArray := prog_4_method_13_code
def yX2_carryWordOnBus : MethodName := ⟨RX2, "carryWordOnBus", "()V"⟩
abbrev cX2_freeBus : ByteArray := prog_4_method_14_code
def yX2_freeBus : MethodName := ⟨RX2, "freeBus", "(I)V"⟩
abbrev cX2_takeNextWord : ByteArray := prog_4_method_15_code
def yX2_takeNextWord : MethodName := ⟨RX2, "takeNextWord", "(II)V"⟩
abbrev cX2_isInSet : ByteArray := prog_4_method_16_code
def yX2_isInSet : MethodName := ⟨RX2, "isInSet", "(II)Z"⟩
abbrev cX2_removeFromQueue : ByteArray := prog_4_method_17_code
def yX2_removeFromQueue : MethodName := ⟨RX2, "removeFromQueue", "(I)V"⟩
def RX3 : String := "PlugPins$History"
def TX3 : u_T := fun k => match k with
  | 0 => ("PlugPins$History", "states", "[LPlugPins$Backplane;", true)
  | 1 => ("PlugPins$History", "oldest", "I", false)
  | _ => ("PlugPins$History", "size", "I", false)
def tyX3 : Nat → FieldType := fun k => match k with
  | 0 => .array (.object "PlugPins$Backplane")
  | 1 => .int
  | _ => .int
abbrev wsX30 : List Cond := u_ws RX3 TX3 3
theorem nmX3 : ∀ a, a < 3 → ∀ b, b < 3 → a ≠ b → (TX3 a).2.1 ≠ (TX3 b).2.1 := by decide +kernel
theorem tyX3_ok : ∀ k, k < 3 → parseFieldDescriptor (TX3 k).2.2.1 = some (tyX3 k) := by decide +kernel
abbrev cX3_init : ByteArray := prog_5_method_1_code
def yX3_init : MethodName := ⟨RX3, "<init>", "()V"⟩
abbrev cX3_stateAt : ByteArray := prog_5_method_2_code
def yX3_stateAt : MethodName := ⟨RX3, "stateAt", "(I)LPlugPins$Backplane;"⟩
abbrev cX3_prepare : ByteArray := prog_5_method_3_code
def yX3_prepare : MethodName := ⟨RX3, "prepare", "(LPlugPins$Backplane;)V"⟩
abbrev cX3_settle : ByteArray := prog_5_method_4_code
def yX3_settle : MethodName := ⟨RX3, "settle", "(I)I"⟩
abbrev cX3_takeBack : ByteArray := prog_5_method_5_code
def yX3_takeBack : MethodName := ⟨RX3, "takeBack", "(LPlugPins$Backplane;)I"⟩
def RX4 : String := "PlugPins$Pad"
def TX4 : u_T := fun k => match k with
  | 0 => ("PlugPins$Pad", "signs", "[I", true)
  | 1 => ("PlugPins$Pad", "length", "I", false)
  | 2 => ("PlugPins$Pad", "place", "I", false)
  | 3 => ("PlugPins$Pad", "kind", "I", false)
  | _ => ("PlugPins$Pad", "values", "[I", true)
def tyX4 : Nat → FieldType := fun k => match k with
  | 0 => .array .int
  | 1 => .int
  | 2 => .int
  | 3 => .int
  | _ => .array .int
abbrev wsX40 : List Cond := u_ws RX4 TX4 5
theorem nmX4 : ∀ a, a < 5 → ∀ b, b < 5 → a ≠ b → (TX4 a).2.1 ≠ (TX4 b).2.1 := by decide +kernel
theorem tyX4_ok : ∀ k, k < 5 → parseFieldDescriptor (TX4 k).2.2.1 = some (tyX4 k) := by decide +kernel
abbrev cX4_init : ByteArray := prog_6_method_1_code
def yX4_init : MethodName := ⟨RX4, "<init>", "()V"⟩
abbrev cX4_append : ByteArray := prog_6_method_2_code
def yX4_append : MethodName := ⟨RX4, "append", "(J)I"⟩
abbrev cX4_charactersIn : ByteArray := prog_6_method_3_code
def yX4_charactersIn : MethodName := ⟨RX4, "charactersIn", "(J)I"⟩
abbrev cX4_clear : ByteArray := prog_6_method_4_code
def yX4_clear : MethodName := ⟨RX4, "clear", "()I"⟩
abbrev cX4_faultPlace : ByteArray := prog_6_method_5_code
def yX4_faultPlace : MethodName := ⟨RX4, "faultPlace", "()I"⟩
abbrev cX4_startReading : ByteArray := prog_6_method_6_code
def yX4_startReading : MethodName := ⟨RX4, "startReading", "()V"⟩
abbrev cX4_readSeparator : ByteArray := prog_6_method_7_code
def yX4_readSeparator : MethodName := ⟨RX4, "readSeparator", "()Z"⟩
abbrev cX4_readOrder : ByteArray := prog_6_method_8_code
def yX4_readOrder : MethodName := ⟨RX4, "readOrder", "()Z"⟩
abbrev cX4_formOf : ByteArray := prog_6_method_9_code
def yX4_formOf : MethodName := ⟨RX4, "formOf", "(I)Ljava/lang/String;"⟩
abbrev cX4_signHere : ByteArray := prog_6_method_10_code
def yX4_signHere : MethodName := ⟨RX4, "signHere", "()I"⟩
abbrev cX4_readSign : ByteArray := prog_6_method_11_code
def yX4_readSign : MethodName := ⟨RX4, "readSign", "(I)Z"⟩
abbrev cX4_readDigit : ByteArray := prog_6_method_12_code
def yX4_readDigit : MethodName := ⟨RX4, "readDigit", "()I"⟩
abbrev cX4_readNumber : ByteArray := prog_6_method_13_code
def yX4_readNumber : MethodName := ⟨RX4, "readNumber", "()I"⟩
def RX5 : String := "PlugPins"
def TX5 : u_T := fun k => match k with
  | 0 => ("PlugPins", "backplane", "LPlugPins$Backplane;", true)
  | 1 => ("PlugPins", "trial", "LPlugPins$Backplane;", true)
  | 2 => ("PlugPins", "history", "LPlugPins$History;", true)
  | 3 => ("PlugPins", "pad", "LPlugPins$Pad;", true)
  | 4 => ("PlugPins", "saved", "[LPlugPins$Backplane;", true)
  | _ => ("PlugPins", "isSaved", "[Z", true)
def tyX5 : Nat → FieldType := fun k => match k with
  | 0 => .object "PlugPins$Backplane"
  | 1 => .object "PlugPins$Backplane"
  | 2 => .object "PlugPins$History"
  | 3 => .object "PlugPins$Pad"
  | 4 => .array (.object "PlugPins$Backplane")
  | _ => .array .boolean
abbrev wsX50 : List Cond := u_ws RX5 TX5 6
theorem nmX5 : ∀ a, a < 6 → ∀ b, b < 6 → a ≠ b → (TX5 a).2.1 ≠ (TX5 b).2.1 := by decide +kernel
theorem tyX5_ok : ∀ k, k < 6 → parseFieldDescriptor (TX5 k).2.2.1 = some (tyX5 k) := by decide +kernel
abbrev cX5_init : ByteArray := prog_1_method_1_code
def yX5_init : MethodName := ⟨RX5, "<init>", "()V"⟩
abbrev cX5_set : ByteArray := prog_1_method_2_code
def yX5_set : MethodName := ⟨RX5, "set", "(II)I"⟩
abbrev cX5_board : ByteArray := prog_1_method_3_code
def yX5_board : MethodName := ⟨RX5, "board", "(II)I"⟩
abbrev cX5_plug : ByteArray := prog_1_method_4_code
def yX5_plug : MethodName := ⟨RX5, "plug", "(III)I"⟩
abbrev cX5_pull : ByteArray := prog_1_method_5_code
def yX5_pull : MethodName := ⟨RX5, "pull", "(II)I"⟩
abbrev cX5_ask : ByteArray := prog_1_method_6_code
def yX5_ask : MethodName := ⟨RX5, "ask", "(I)I"⟩
abbrev cX5_send : ByteArray := prog_1_method_7_code
def yX5_send : MethodName := ⟨RX5, "send", "(II)I"⟩
abbrev cX5_pass : ByteArray := prog_1_method_8_code
def yX5_pass : MethodName := ⟨RX5, "pass", "(I)I"⟩
abbrev cX5_of : ByteArray := prog_1_method_9_code
def yX5_of : MethodName := ⟨RX5, "of", "(II)I"⟩
abbrev cX5_slot : ByteArray := prog_1_method_10_code
def yX5_slot : MethodName := ⟨RX5, "slot", "(I)I"⟩
abbrev cX5_word : ByteArray := prog_1_method_11_code
def yX5_word : MethodName := ⟨RX5, "word", "(II)I"⟩
abbrev cX5_waiting : ByteArray := prog_1_method_12_code
def yX5_waiting : MethodName := ⟨RX5, "waiting", "(I)I"⟩
abbrev cX5_count : ByteArray := prog_1_method_13_code
def yX5_count : MethodName := ⟨RX5, "count", "(I)I"⟩
abbrev cX5_known : ByteArray := prog_1_method_14_code
def yX5_known : MethodName := ⟨RX5, "known", "(I)I"⟩
abbrev cX5_why : ByteArray := prog_1_method_15_code
def yX5_why : MethodName := ⟨RX5, "why", "(II)I"⟩
abbrev cX5_knownIn : ByteArray := prog_1_method_16_code
def yX5_knownIn : MethodName := ⟨RX5, "knownIn", "(I)I"⟩
abbrev cX5_wouldHurt : ByteArray := prog_1_method_17_code
def yX5_wouldHurt : MethodName := ⟨RX5, "wouldHurt", "(III)I"⟩
abbrev cX5_safeSpeed : ByteArray := prog_1_method_18_code
def yX5_safeSpeed : MethodName := ⟨RX5, "safeSpeed", "(II)I"⟩
abbrev cX5_quietIn : ByteArray := prog_1_method_19_code
def yX5_quietIn : MethodName := ⟨RX5, "quietIn", "()I"⟩
abbrev cX5_put : ByteArray := prog_1_method_20_code
def yX5_put : MethodName := ⟨RX5, "put", "(J)I"⟩
abbrev cX5_wipe : ByteArray := prog_1_method_21_code
def yX5_wipe : MethodName := ⟨RX5, "wipe", "()I"⟩
abbrev cX5_fault : ByteArray := prog_1_method_22_code
def yX5_fault : MethodName := ⟨RX5, "fault", "()I"⟩
abbrev cX5_carryOut : ByteArray := prog_1_method_23_code
def yX5_carryOut : MethodName := ⟨RX5, "carryOut", "()I"⟩
abbrev cX5_undo : ByteArray := prog_1_method_24_code
def yX5_undo : MethodName := ⟨RX5, "undo", "()I"⟩
abbrev cX5_save : ByteArray := prog_1_method_25_code
def yX5_save : MethodName := ⟨RX5, "save", "(I)I"⟩
abbrev cX5_restore : ByteArray := prog_1_method_26_code
def yX5_restore : MethodName := ⟨RX5, "restore", "(I)I"⟩
abbrev cX5_isIn : ByteArray := prog_1_method_27_code
def yX5_isIn : MethodName := ⟨RX5, "isIn", "(III)Z"⟩
abbrev cX5_isSlot : ByteArray := prog_1_method_28_code
def yX5_isSlot : MethodName := ⟨RX5, "isSlot", "(I)Z"⟩
abbrev cX5_hurtsByPlug : ByteArray := prog_1_method_29_code
def yX5_hurtsByPlug : MethodName := ⟨RX5, "hurtsByPlug", "(III)I"⟩
abbrev cX5_carryOutOrder : ByteArray := prog_1_method_30_code
def yX5_carryOutOrder : MethodName := ⟨RX5, "carryOutOrder", "()I"⟩
def RX6 : String := "PlugPinsModel"
def TX6 : u_T := fun k => match k with
  | 0 => ("PlugPinsModel", "s", "[I", true)
  | 1 => ("PlugPinsModel", "aside", "[I", true)
  | 2 => ("PlugPinsModel", "history", "[I", true)
  | 3 => ("PlugPinsModel", "known", "I", false)
  | 4 => ("PlugPinsModel", "slots", "[I", true)
  | 5 => ("PlugPinsModel", "kept", "I", false)
  | 6 => ("PlugPinsModel", "pad", "[I", true)
  | 7 => ("PlugPinsModel", "length", "I", false)
  | 8 => ("PlugPinsModel", "spot", "I", false)
  | 9 => ("PlugPinsModel", "isFaulty", "Z", false)
  | 10 => ("PlugPinsModel", "letter", "I", false)
  | 11 => ("PlugPinsModel", "first", "I", false)
  | 12 => ("PlugPinsModel", "second", "I", false)
  | _ => ("PlugPinsModel", "third", "I", false)
def tyX6 : Nat → FieldType := fun k => match k with
  | 0 => .array .int
  | 1 => .array .int
  | 2 => .array .int
  | 3 => .int
  | 4 => .array .int
  | 5 => .int
  | 6 => .array .int
  | 7 => .int
  | 8 => .int
  | 9 => .boolean
  | 10 => .int
  | 11 => .int
  | 12 => .int
  | _ => .int
abbrev wsX60 : List Cond := u_ws RX6 TX6 14
theorem nmX6 : ∀ a, a < 14 → ∀ b, b < 14 → a ≠ b → (TX6 a).2.1 ≠ (TX6 b).2.1 := by decide +kernel
theorem tyX6_ok : ∀ k, k < 14 → parseFieldDescriptor (TX6 k).2.2.1 = some (tyX6 k) := by decide +kernel
abbrev cX6_init : ByteArray := prog_8_method_1_code
def yX6_init : MethodName := ⟨RX6, "<init>", "()V"⟩
abbrev cX6_in : ByteArray := prog_8_method_2_code
def yX6_in : MethodName := ⟨RX6, "in", "(III)Z"⟩
abbrev cX6_isBoard : ByteArray := prog_8_method_3_code
def yX6_isBoard : MethodName := ⟨RX6, "isBoard", "(I)Z"⟩
abbrev cX6_isSlot : ByteArray := prog_8_method_4_code
def yX6_isSlot : MethodName := ⟨RX6, "isSlot", "(I)Z"⟩
abbrev cX6_ofBoard : ByteArray := prog_8_method_5_code
def yX6_ofBoard : MethodName := ⟨RX6, "ofBoard", "(II)I"⟩
abbrev cX6_fromOf : ByteArray := prog_8_method_6_code
def yX6_fromOf : MethodName := ⟨RX6, "fromOf", "(I)I"⟩
abbrev cX6_toOf : ByteArray := prog_8_method_7_code
def yX6_toOf : MethodName := ⟨RX6, "toOf", "(I)I"⟩
abbrev cX6_stateOf : ByteArray := prog_8_method_8_code
def yX6_stateOf : MethodName := ⟨RX6, "stateOf", "(I)I"⟩
abbrev cX6_becomes : ByteArray := prog_8_method_9_code
def yX6_becomes : MethodName := ⟨RX6, "becomes", "(II)V"⟩
abbrev cX6_isOf : ByteArray := prog_8_method_10_code
def yX6_isOf : MethodName := ⟨RX6, "isOf", "(II)Z"⟩
abbrev cX6_isGoing : ByteArray := prog_8_method_11_code
def yX6_isGoing : MethodName := ⟨RX6, "isGoing", "(I)Z"⟩
abbrev cX6_isLost : ByteArray := prog_8_method_12_code
def yX6_isLost : MethodName := ⟨RX6, "isLost", "(I)V"⟩
abbrev cX6_going : ByteArray := prog_8_method_13_code
def yX6_going : MethodName := ⟨RX6, "going", "(I)I"⟩
abbrev cX6_putAside : ByteArray := prog_8_method_14_code
def yX6_putAside : MethodName := ⟨RX6, "putAside", "()V"⟩
abbrev cX6_putBack : ByteArray := prog_8_method_15_code
def yX6_putBack : MethodName := ⟨RX6, "putBack", "()V"⟩
abbrev cX6_record : ByteArray := prog_8_method_16_code
def yX6_record : MethodName := ⟨RX6, "record", "()V"⟩
abbrev cX6_changed : ByteArray := prog_8_method_17_code
def yX6_changed : MethodName := ⟨RX6, "changed", "(I)I"⟩
abbrev cX6_boardIn : ByteArray := prog_8_method_18_code
def yX6_boardIn : MethodName := ⟨RX6, "boardIn", "(I)I"⟩
abbrev cX6_goes : ByteArray := prog_8_method_19_code
def yX6_goes : MethodName := ⟨RX6, "goes", "(I)Z"⟩
abbrev cX6_draw : ByteArray := prog_8_method_20_code
def yX6_draw : MethodName := ⟨RX6, "draw", "()I"⟩
abbrev cX6_powers : ByteArray := prog_8_method_21_code
def yX6_powers : MethodName := ⟨RX6, "powers", "(I)V"⟩
abbrev cX6_forgets : ByteArray := prog_8_method_22_code
def yX6_forgets : MethodName := ⟨RX6, "forgets", "(I)V"⟩
abbrev cX6_greets : ByteArray := prog_8_method_23_code
def yX6_greets : MethodName := ⟨RX6, "greets", "(I)V"⟩
abbrev cX6_serves : ByteArray := prog_8_method_24_code
def yX6_serves : MethodName := ⟨RX6, "serves", "(Z)V"⟩
abbrev cX6_isHeld : ByteArray := prog_8_method_25_code
def yX6_isHeld : MethodName := ⟨RX6, "isHeld", "()Z"⟩
abbrev cX6_isReady : ByteArray := prog_8_method_26_code
def yX6_isReady : MethodName := ⟨RX6, "isReady", "(I)Z"⟩
abbrev cX6_getsOn : ByteArray := prog_8_method_27_code
def yX6_getsOn : MethodName := ⟨RX6, "getsOn", "()V"⟩
abbrev cX6_tick : ByteArray := prog_8_method_28_code
def yX6_tick : MethodName := ⟨RX6, "tick", "()V"⟩
abbrev cX6_passes : ByteArray := prog_8_method_29_code
def yX6_passes : MethodName := ⟨RX6, "passes", "(I)I"⟩
abbrev cX6_least : ByteArray := prog_8_method_30_code
def yX6_least : MethodName := ⟨RX6, "least", "(I)I"⟩
abbrev cX6_most : ByteArray := prog_8_method_31_code
def yX6_most : MethodName := ⟨RX6, "most", "(I)I"⟩
abbrev cX6_set : ByteArray := prog_8_method_32_code
def yX6_set : MethodName := ⟨RX6, "set", "(II)I"⟩
abbrev cX6_comes : ByteArray := prog_8_method_33_code
def yX6_comes : MethodName := ⟨RX6, "comes", "(II)I"⟩
abbrev cX6_board : ByteArray := prog_8_method_34_code
def yX6_board : MethodName := ⟨RX6, "board", "(II)I"⟩
abbrev cX6_plugs : ByteArray := prog_8_method_35_code
def yX6_plugs : MethodName := ⟨RX6, "plugs", "(III)I"⟩
abbrev cX6_plug : ByteArray := prog_8_method_36_code
def yX6_plug : MethodName := ⟨RX6, "plug", "(III)I"⟩
abbrev cX6_pulls : ByteArray := prog_8_method_37_code
def yX6_pulls : MethodName := ⟨RX6, "pulls", "(II)I"⟩
abbrev cX6_pull : ByteArray := prog_8_method_38_code
def yX6_pull : MethodName := ⟨RX6, "pull", "(II)I"⟩
abbrev cX6_asks : ByteArray := prog_8_method_39_code
def yX6_asks : MethodName := ⟨RX6, "asks", "(I)I"⟩
abbrev cX6_ask : ByteArray := prog_8_method_40_code
def yX6_ask : MethodName := ⟨RX6, "ask", "(I)I"⟩
abbrev cX6_hindrance : ByteArray := prog_8_method_41_code
def yX6_hindrance : MethodName := ⟨RX6, "hindrance", "(II)I"⟩
abbrev cX6_sends : ByteArray := prog_8_method_42_code
def yX6_sends : MethodName := ⟨RX6, "sends", "(II)I"⟩
abbrev cX6_send : ByteArray := prog_8_method_43_code
def yX6_send : MethodName := ⟨RX6, "send", "(II)I"⟩
abbrev cX6_pass : ByteArray := prog_8_method_44_code
def yX6_pass : MethodName := ⟨RX6, "pass", "(I)I"⟩
abbrev cX6_of : ByteArray := prog_8_method_45_code
def yX6_of : MethodName := ⟨RX6, "of", "(II)I"⟩
abbrev cX6_slot : ByteArray := prog_8_method_46_code
def yX6_slot : MethodName := ⟨RX6, "slot", "(I)I"⟩
abbrev cX6_word : ByteArray := prog_8_method_47_code
def yX6_word : MethodName := ⟨RX6, "word", "(II)I"⟩
abbrev cX6_waiting : ByteArray := prog_8_method_48_code
def yX6_waiting : MethodName := ⟨RX6, "waiting", "(I)I"⟩
abbrev cX6_boards : ByteArray := prog_8_method_49_code
def yX6_boards : MethodName := ⟨RX6, "boards", "(Z)I"⟩
abbrev cX6_tooSoon : ByteArray := prog_8_method_50_code
def yX6_tooSoon : MethodName := ⟨RX6, "tooSoon", "()I"⟩
abbrev cX6_count : ByteArray := prog_8_method_51_code
def yX6_count : MethodName := ⟨RX6, "count", "(I)I"⟩
abbrev cX6_known : ByteArray := prog_8_method_52_code
def yX6_known : MethodName := ⟨RX6, "known", "(I)I"⟩
abbrev cX6_why : ByteArray := prog_8_method_53_code
def yX6_why : MethodName := ⟨RX6, "why", "(II)I"⟩
abbrev cX6_knownIn : ByteArray := prog_8_method_54_code
def yX6_knownIn : MethodName := ⟨RX6, "knownIn", "(I)I"⟩
abbrev cX6_hurtsBy : ByteArray := prog_8_method_55_code
def yX6_hurtsBy : MethodName := ⟨RX6, "hurtsBy", "(III)I"⟩
abbrev cX6_wouldHurt : ByteArray := prog_8_method_56_code
def yX6_wouldHurt : MethodName := ⟨RX6, "wouldHurt", "(III)I"⟩
abbrev cX6_safeSpeed : ByteArray := prog_8_method_57_code
def yX6_safeSpeed : MethodName := ⟨RX6, "safeSpeed", "(II)I"⟩
abbrev cX6_quietIn : ByteArray := prog_8_method_58_code
def yX6_quietIn : MethodName := ⟨RX6, "quietIn", "()I"⟩
abbrev cX6_put : ByteArray := prog_8_method_59_code
def yX6_put : MethodName := ⟨RX6, "put", "(J)I"⟩
abbrev cX6_wipe : ByteArray := prog_8_method_60_code
def yX6_wipe : MethodName := ⟨RX6, "wipe", "()I"⟩
abbrev cX6_isNext : ByteArray := prog_8_method_61_code
def yX6_isNext : MethodName := ⟨RX6, "isNext", "(II)Z"⟩
abbrev cX6_takes : ByteArray := prog_8_method_62_code
def yX6_takes : MethodName := ⟨RX6, "takes", "(II)I"⟩
abbrev cX6_number : ByteArray := prog_8_method_63_code
def yX6_number : MethodName := ⟨RX6, "number", "()I"⟩
abbrev cX6_between : ByteArray := prog_8_method_64_code
def yX6_between : MethodName := ⟨RX6, "between", "(I)I"⟩
abbrev cX6_readOrder : ByteArray := prog_8_method_65_code
def yX6_readOrder : MethodName := ⟨RX6, "readOrder", "()V"⟩
abbrev cX6_does : ByteArray := prog_8_method_66_code
def yX6_does : MethodName := ⟨RX6, "does", "()I"⟩
abbrev cX6_goesThrough : ByteArray := prog_8_method_67_code
def yX6_goesThrough : MethodName := ⟨RX6, "goesThrough", "(Z)I"⟩
abbrev cX6_fault : ByteArray := prog_8_method_68_code
def yX6_fault : MethodName := ⟨RX6, "fault", "()I"⟩
abbrev cX6_carryOut : ByteArray := prog_8_method_69_code
def yX6_carryOut : MethodName := ⟨RX6, "carryOut", "()I"⟩
abbrev cX6_undo : ByteArray := prog_8_method_70_code
def yX6_undo : MethodName := ⟨RX6, "undo", "()I"⟩
abbrev cX6_save : ByteArray := prog_8_method_71_code
def yX6_save : MethodName := ⟨RX6, "save", "(I)I"⟩
abbrev cX6_restore : ByteArray := prog_8_method_72_code
def yX6_restore : MethodName := ⟨RX6, "restore", "(I)I"⟩
def RJx8e188 : String := "java/lang/Cloneable"
def TJx8e188 : u_T := fun k => match k with
  | _ => ("", "", "", false)
def tyJx8e188 : Nat → FieldType := fun k => match k with
  | _ => .int
abbrev wsJx8e1880 : List Cond := u_ws RJx8e188 TJx8e188 0
theorem nmJx8e188 : ∀ a, a < 0 → ∀ b, b < 0 → a ≠ b → (TJx8e188 a).2.1 ≠ (TJx8e188 b).2.1 := by decide +kernel
theorem tyJx8e188_ok : ∀ k, k < 0 → parseFieldDescriptor (TJx8e188 k).2.2.1 = some (tyJx8e188 k) := by decide +kernel
def RJ9 : String := "java/lang/Math"
def TJ9 : u_T := fun k => match k with
  | _ => ("", "", "", false)
def tyJ9 : Nat → FieldType := fun k => match k with
  | _ => .int
abbrev wsJ90 : List Cond := u_ws RJ9 TJ9 0
theorem nmJ9 : ∀ a, a < 0 → ∀ b, b < 0 → a ≠ b → (TJ9 a).2.1 ≠ (TJ9 b).2.1 := by decide +kernel
theorem tyJ9_ok : ∀ k, k < 0 → parseFieldDescriptor (TJ9 k).2.2.1 = some (tyJ9 k) := by decide +kernel
abbrev cJ9_floorMod_7cf53 : ByteArray := prog_10_method_50_code
def yJ9_floorMod_7cf53 : MethodName := ⟨RJ9, "floorMod", "(II)I"⟩
abbrev cJ9_max_7cf53 : ByteArray := prog_10_method_65_code
def yJ9_max_7cf53 : MethodName := ⟨RJ9, "max", "(II)I"⟩
abbrev cJ9_min_7cf53 : ByteArray := prog_10_method_69_code
def yJ9_min_7cf53 : MethodName := ⟨RJ9, "min", "(II)I"⟩
def RJ0 : String := "java/lang/String"
def TJ0 : u_T := fun k => match k with
  | _ => ("", "", "", false)
def tyJ0 : Nat → FieldType := fun k => match k with
  | _ => .int
abbrev wsJ00 : List Cond := u_ws RJ0 TJ0 0
theorem nmJ0 : ∀ a, a < 0 → ∀ b, b < 0 → a ≠ b → (TJ0 a).2.1 ≠ (TJ0 b).2.1 := by decide +kernel
theorem tyJ0_ok : ∀ k, k < 0 → parseFieldDescriptor (TJ0 k).2.2.1 = some (tyJ0 k) := by decide +kernel
abbrev cJ0_length_8abf5 : ByteArray := prog_11_method_54_code
def yJ0_length_8abf5 : MethodName := ⟨RJ0, "length", "()I"⟩
abbrev cJ0_isEmpty_aae02 : ByteArray := prog_11_method_55_code
def yJ0_isEmpty_aae02 : MethodName := ⟨RJ0, "isEmpty", "()Z"⟩
abbrev cJ0_charAt_5068e : ByteArray := prog_11_method_56_code
def yJ0_charAt_5068e : MethodName := ⟨RJ0, "charAt", "(I)C"⟩
abbrev cJ0_coder_7d493 : ByteArray := prog_11_method_152_code
def yJ0_coder_7d493 : MethodName := ⟨RJ0, "coder", "()B"⟩
abbrev cJ0_isLatin1_aae02 : ByteArray := prog_11_method_154_code
def yJ0_isLatin1_aae02 : MethodName := ⟨RJ0, "isLatin1", "()Z"⟩
abbrev cJ0_checkIndex_df160 : ByteArray := prog_11_method_155_code
def yJ0_checkIndex_df160 : MethodName := ⟨RJ0, "checkIndex", "(II)V"⟩
def RJ1 : String := "java/lang/StringLatin1"
def TJ1 : u_T := fun k => match k with
  | _ => ("", "", "", false)
def tyJ1 : Nat → FieldType := fun k => match k with
  | _ => .int
abbrev wsJ10 : List Cond := u_ws RJ1 TJ1 0
theorem nmJ1 : ∀ a, a < 0 → ∀ b, b < 0 → a ≠ b → (TJ1 a).2.1 ≠ (TJ1 b).2.1 := by decide +kernel
theorem tyJ1_ok : ∀ k, k < 0 → parseFieldDescriptor (TJ1 k).2.2.1 = some (tyJ1 k) := by decide +kernel
abbrev cJ1_charAt_3b067 : ByteArray := prog_12_method_2_code
def yJ1_charAt_3b067 : MethodName := ⟨RJ1, "charAt", "([BI)C"⟩
def RJ2 : String := "java/lang/StringUTF16"
def TJ2 : u_T := fun k => match k with
  | _ => ("", "", "", false)
def tyJ2 : Nat → FieldType := fun k => match k with
  | _ => .int
abbrev wsJ20 : List Cond := u_ws RJ2 TJ2 0
theorem nmJ2 : ∀ a, a < 0 → ∀ b, b < 0 → a ≠ b → (TJ2 a).2.1 ≠ (TJ2 b).2.1 := by decide +kernel
theorem tyJ2_ok : ∀ k, k < 0 → parseFieldDescriptor (TJ2 k).2.2.1 = some (tyJ2 k) := by decide +kernel
abbrev cJ2_getChar_3b067 : ByteArray := prog_13_method_5_code
def yJ2_getChar_3b067 : MethodName := ⟨RJ2, "getChar", "([BI)C"⟩
abbrev cJ2_length_9d52b : ByteArray := prog_13_method_6_code
def yJ2_length_9d52b : MethodName := ⟨RJ2, "length", "([B)I"⟩
abbrev cJ2_charAt_3b067 : ByteArray := prog_13_method_83_code
def yJ2_charAt_3b067 : MethodName := ⟨RJ2, "charAt", "([BI)C"⟩
abbrev cJ2_checkIndex_2214a : ByteArray := prog_13_method_91_code
def yJ2_checkIndex_2214a : MethodName := ⟨RJ2, "checkIndex", "(I[B)V"⟩
def RJ10 : String := "java/lang/System"
def TJ10 : u_T := fun k => match k with
  | _ => ("", "", "", false)
def tyJ10 : Nat → FieldType := fun k => match k with
  | _ => .int
abbrev wsJ100 : List Cond := u_ws RJ10 TJ10 0
theorem nmJ10 : ∀ a, a < 0 → ∀ b, b < 0 → a ≠ b → (TJ10 a).2.1 ≠ (TJ10 b).2.1 := by decide +kernel
theorem tyJ10_ok : ∀ k, k < 0 → parseFieldDescriptor (TJ10 k).2.2.1 = some (tyJ10 k) := by decide +kernel
def RJ3 : String := "jdk/internal/util/Preconditions"
def TJ3 : u_T := fun k => match k with
  | _ => ("", "", "", false)
def tyJ3 : Nat → FieldType := fun k => match k with
  | _ => .int
abbrev wsJ30 : List Cond := u_ws RJ3 TJ3 0
theorem nmJ3 : ∀ a, a < 0 → ∀ b, b < 0 → a ≠ b → (TJ3 a).2.1 ≠ (TJ3 b).2.1 := by decide +kernel
theorem tyJ3_ok : ∀ k, k < 0 → parseFieldDescriptor (TJ3 k).2.2.1 = some (tyJ3 k) := by decide +kernel
abbrev cJ3_checkIndex_8e157 : ByteArray := prog_15_method_11_code
def yJ3_checkIndex_8e157 : MethodName := ⟨RJ3, "checkIndex", "(IILjava/util/function/BiFunction;)I"⟩
def RL : String := "PlugPinsLaw"
abbrev cL_law : ByteArray := code
def yL_law : MethodName := ⟨RL, "law", "([I)Z"⟩
abbrev vwCl : List vw_C := [(RX0, TX0, 6), (RX1, TX1, 10), (RX2, TX2, 12), (RX3, TX3, 3), (RX4, TX4, 5), (RX5, TX5, 6), (RX6, TX6, 14)]
end
section
theorem dX0_init_0 : decode cX0_init 0 = .ok (.aload_n 0, 1) := by decide +kernel
theorem dX0_init_1 : decode cX0_init 1 = .ok (.invokespecial 3, 3) := by decide +kernel
theorem dX0_init_4 : decode cX0_init 4 = .ok (.aload_n 0, 1) := by decide +kernel
theorem dX0_init_5 : decode cX0_init 5 = .ok (.getstatic 9, 3) := by decide +kernel
theorem dX0_init_8 : decode cX0_init 8 = .ok (.invokevirtual 13, 3) := by decide +kernel
theorem dX0_init_11 : decode cX0_init 11 = .ok (.checkcast 14, 3) := by decide +kernel
theorem dX0_init_14 : decode cX0_init 14 = .ok (.putfield 18, 3) := by decide +kernel
theorem dX0_init_17 : decode cX0_init 17 = .ok (.aload_n 0, 1) := by decide +kernel
theorem dX0_init_18 : decode cX0_init 18 = .ok (.bipush 8, 2) := by decide +kernel
theorem dX0_init_20 : decode cX0_init 20 = .ok (.anewarray 23, 3) := by decide +kernel
theorem dX0_init_23 : decode cX0_init 23 = .ok (.putfield 25, 3) := by decide +kernel
theorem dX0_init_26 : decode cX0_init 26 = .ok (.iconst 0, 1) := by decide +kernel
theorem dX0_init_27 : decode cX0_init 27 = .ok (.istore_n 1, 1) := by decide +kernel
theorem dX0_init_28 : decode cX0_init 28 = .ok (.iload_n 1, 1) := by decide +kernel
theorem dX0_init_29 : decode cX0_init 29 = .ok (.bipush 8, 2) := by decide +kernel
theorem dX0_init_31 : decode cX0_init 31 = .ok (.if_icmp .ge 22, 3) := by decide +kernel
theorem dX0_init_34 : decode cX0_init 34 = .ok (.aload_n 0, 1) := by decide +kernel
theorem dX0_init_35 : decode cX0_init 35 = .ok (.getfield 25, 3) := by decide +kernel
theorem dX0_init_38 : decode cX0_init 38 = .ok (.iload_n 1, 1) := by decide +kernel
theorem dX0_init_39 : decode cX0_init 39 = .ok (.new 23, 3) := by decide +kernel
theorem dX0_init_42 : decode cX0_init 42 = .ok (.dup, 1) := by decide +kernel
theorem dX0_init_43 : decode cX0_init 43 = .ok (.invokespecial 29, 3) := by decide +kernel
theorem dX0_init_46 : decode cX0_init 46 = .ok (.aastore, 1) := by decide +kernel
theorem dX0_init_47 : decode cX0_init 47 = .ok (.iinc 1 1, 3) := by decide +kernel
theorem dX0_init_50 : decode cX0_init 50 = .ok (.goto (-22), 3) := by decide +kernel
theorem dX0_init_53 : decode cX0_init 53 = .ok (.aload_n 0, 1) := by decide +kernel
theorem dX0_init_54 : decode cX0_init 54 = .ok (.new 30, 3) := by decide +kernel
theorem dX0_init_57 : decode cX0_init 57 = .ok (.dup, 1) := by decide +kernel
theorem dX0_init_58 : decode cX0_init 58 = .ok (.invokespecial 32, 3) := by decide +kernel
theorem dX0_init_61 : decode cX0_init 61 = .ok (.putfield 33, 3) := by decide +kernel
theorem dX0_init_64 : decode cX0_init 64 = .ok (.return_, 1) := by decide +kernel
theorem dX0_copyFrom_0 : decode cX0_copyFrom 0 = .ok (.aload_n 1, 1) := by decide +kernel
theorem dX0_copyFrom_1 : decode cX0_copyFrom 1 = .ok (.getfield 18, 3) := by decide +kernel
theorem dX0_copyFrom_4 : decode cX0_copyFrom 4 = .ok (.iconst 0, 1) := by decide +kernel
theorem dX0_copyFrom_5 : decode cX0_copyFrom 5 = .ok (.aload_n 0, 1) := by decide +kernel
theorem dX0_copyFrom_6 : decode cX0_copyFrom 6 = .ok (.getfield 18, 3) := by decide +kernel
theorem dX0_copyFrom_9 : decode cX0_copyFrom 9 = .ok (.iconst 0, 1) := by decide +kernel
theorem dX0_copyFrom_10 : decode cX0_copyFrom 10 = .ok (.iconst 5, 1) := by decide +kernel
theorem dX0_copyFrom_11 : decode cX0_copyFrom 11 = .ok (.invokestatic 37, 3) := by decide +kernel
theorem dX0_copyFrom_14 : decode cX0_copyFrom 14 = .ok (.aload_n 0, 1) := by decide +kernel
theorem dX0_copyFrom_15 : decode cX0_copyFrom 15 = .ok (.aload_n 1, 1) := by decide +kernel
theorem dX0_copyFrom_16 : decode cX0_copyFrom 16 = .ok (.getfield 43, 3) := by decide +kernel
theorem dX0_copyFrom_19 : decode cX0_copyFrom 19 = .ok (.putfield 43, 3) := by decide +kernel
theorem dX0_copyFrom_22 : decode cX0_copyFrom 22 = .ok (.iconst 0, 1) := by decide +kernel
theorem dX0_copyFrom_23 : decode cX0_copyFrom 23 = .ok (.istore_n 2, 1) := by decide +kernel
theorem dX0_copyFrom_24 : decode cX0_copyFrom 24 = .ok (.iload_n 2, 1) := by decide +kernel
theorem dX0_copyFrom_25 : decode cX0_copyFrom 25 = .ok (.aload_n 0, 1) := by decide +kernel
theorem dX0_copyFrom_26 : decode cX0_copyFrom 26 = .ok (.getfield 43, 3) := by decide +kernel
theorem dX0_copyFrom_29 : decode cX0_copyFrom 29 = .ok (.if_icmp .ge 24, 3) := by decide +kernel
theorem dX0_copyFrom_32 : decode cX0_copyFrom 32 = .ok (.aload_n 0, 1) := by decide +kernel
theorem dX0_copyFrom_33 : decode cX0_copyFrom 33 = .ok (.getfield 25, 3) := by decide +kernel
theorem dX0_copyFrom_36 : decode cX0_copyFrom 36 = .ok (.iload_n 2, 1) := by decide +kernel
theorem dX0_copyFrom_37 : decode cX0_copyFrom 37 = .ok (.aaload, 1) := by decide +kernel
theorem dX0_copyFrom_38 : decode cX0_copyFrom 38 = .ok (.aload_n 1, 1) := by decide +kernel
theorem dX0_copyFrom_39 : decode cX0_copyFrom 39 = .ok (.getfield 25, 3) := by decide +kernel
theorem dX0_copyFrom_42 : decode cX0_copyFrom 42 = .ok (.iload_n 2, 1) := by decide +kernel
theorem dX0_copyFrom_43 : decode cX0_copyFrom 43 = .ok (.aaload, 1) := by decide +kernel
theorem dX0_copyFrom_44 : decode cX0_copyFrom 44 = .ok (.invokevirtual 47, 3) := by decide +kernel
theorem dX0_copyFrom_47 : decode cX0_copyFrom 47 = .ok (.iinc 2 1, 3) := by decide +kernel
theorem dX0_copyFrom_50 : decode cX0_copyFrom 50 = .ok (.goto (-26), 3) := by decide +kernel
theorem dX0_copyFrom_53 : decode cX0_copyFrom 53 = .ok (.aload_n 0, 1) := by decide +kernel
theorem dX0_copyFrom_54 : decode cX0_copyFrom 54 = .ok (.getfield 33, 3) := by decide +kernel
theorem dX0_copyFrom_57 : decode cX0_copyFrom 57 = .ok (.aload_n 1, 1) := by decide +kernel
theorem dX0_copyFrom_58 : decode cX0_copyFrom 58 = .ok (.getfield 33, 3) := by decide +kernel
theorem dX0_copyFrom_61 : decode cX0_copyFrom 61 = .ok (.invokevirtual 51, 3) := by decide +kernel
theorem dX0_copyFrom_64 : decode cX0_copyFrom 64 = .ok (.aload_n 0, 1) := by decide +kernel
theorem dX0_copyFrom_65 : decode cX0_copyFrom 65 = .ok (.aload_n 1, 1) := by decide +kernel
theorem dX0_copyFrom_66 : decode cX0_copyFrom 66 = .ok (.getfield 54, 3) := by decide +kernel
theorem dX0_copyFrom_69 : decode cX0_copyFrom 69 = .ok (.putfield 54, 3) := by decide +kernel
theorem dX0_copyFrom_72 : decode cX0_copyFrom 72 = .ok (.aload_n 0, 1) := by decide +kernel
theorem dX0_copyFrom_73 : decode cX0_copyFrom 73 = .ok (.aload_n 1, 1) := by decide +kernel
theorem dX0_copyFrom_74 : decode cX0_copyFrom 74 = .ok (.getfield 57, 3) := by decide +kernel
theorem dX0_copyFrom_77 : decode cX0_copyFrom 77 = .ok (.putfield 57, 3) := by decide +kernel
theorem dX0_copyFrom_80 : decode cX0_copyFrom 80 = .ok (.return_, 1) := by decide +kernel
theorem dX0_boardAt_0 : decode cX0_boardAt 0 = .ok (.iload_n 1, 1) := by decide +kernel
theorem dX0_boardAt_1 : decode cX0_boardAt 1 = .ok (.ifCond .lt 20, 3) := by decide +kernel
theorem dX0_boardAt_4 : decode cX0_boardAt 4 = .ok (.iload_n 1, 1) := by decide +kernel
theorem dX0_boardAt_5 : decode cX0_boardAt 5 = .ok (.aload_n 0, 1) := by decide +kernel
theorem dX0_boardAt_6 : decode cX0_boardAt 6 = .ok (.getfield 43, 3) := by decide +kernel
theorem dX0_boardAt_9 : decode cX0_boardAt 9 = .ok (.if_icmp .ge 12, 3) := by decide +kernel
theorem dX0_boardAt_12 : decode cX0_boardAt 12 = .ok (.aload_n 0, 1) := by decide +kernel
theorem dX0_boardAt_13 : decode cX0_boardAt 13 = .ok (.getfield 25, 3) := by decide +kernel
theorem dX0_boardAt_16 : decode cX0_boardAt 16 = .ok (.iload_n 1, 1) := by decide +kernel
theorem dX0_boardAt_17 : decode cX0_boardAt 17 = .ok (.aaload, 1) := by decide +kernel
theorem dX0_boardAt_18 : decode cX0_boardAt 18 = .ok (.goto 4, 3) := by decide +kernel
theorem dX0_boardAt_21 : decode cX0_boardAt 21 = .ok (.aconst_null, 1) := by decide +kernel
theorem dX0_boardAt_22 : decode cX0_boardAt 22 = .ok (.areturn, 1) := by decide +kernel
theorem dX0_boardIn_0 : decode cX0_boardIn 0 = .ok (.iconst 0, 1) := by decide +kernel
theorem dX0_boardIn_1 : decode cX0_boardIn 1 = .ok (.istore_n 2, 1) := by decide +kernel
theorem dX0_boardIn_2 : decode cX0_boardIn 2 = .ok (.iload_n 2, 1) := by decide +kernel
theorem dX0_boardIn_3 : decode cX0_boardIn 3 = .ok (.aload_n 0, 1) := by decide +kernel
theorem dX0_boardIn_4 : decode cX0_boardIn 4 = .ok (.getfield 43, 3) := by decide +kernel
theorem dX0_boardIn_7 : decode cX0_boardIn 7 = .ok (.if_icmp .ge 24, 3) := by decide +kernel
theorem dX0_boardIn_10 : decode cX0_boardIn 10 = .ok (.aload_n 0, 1) := by decide +kernel
theorem dX0_boardIn_11 : decode cX0_boardIn 11 = .ok (.getfield 25, 3) := by decide +kernel
theorem dX0_boardIn_14 : decode cX0_boardIn 14 = .ok (.iload_n 2, 1) := by decide +kernel
theorem dX0_boardIn_15 : decode cX0_boardIn 15 = .ok (.aaload, 1) := by decide +kernel
theorem dX0_boardIn_16 : decode cX0_boardIn 16 = .ok (.getfield 60, 3) := by decide +kernel
theorem dX0_boardIn_19 : decode cX0_boardIn 19 = .ok (.iload_n 1, 1) := by decide +kernel
theorem dX0_boardIn_20 : decode cX0_boardIn 20 = .ok (.if_icmp .ne 5, 3) := by decide +kernel
theorem dX0_boardIn_23 : decode cX0_boardIn 23 = .ok (.iload_n 2, 1) := by decide +kernel
theorem dX0_boardIn_24 : decode cX0_boardIn 24 = .ok (.ireturn, 1) := by decide +kernel
theorem dX0_boardIn_25 : decode cX0_boardIn 25 = .ok (.iinc 2 1, 3) := by decide +kernel
theorem dX0_boardIn_28 : decode cX0_boardIn 28 = .ok (.goto (-26), 3) := by decide +kernel
theorem dX0_boardIn_31 : decode cX0_boardIn 31 = .ok (.bipush (-6), 2) := by decide +kernel
theorem dX0_boardIn_33 : decode cX0_boardIn 33 = .ok (.ireturn, 1) := by decide +kernel
theorem dX0_boardSet_0 : decode cX0_boardSet 0 = .ok (.iconst 1, 1) := by decide +kernel
theorem dX0_boardSet_1 : decode cX0_boardSet 1 = .ok (.aload_n 0, 1) := by decide +kernel
theorem dX0_boardSet_2 : decode cX0_boardSet 2 = .ok (.getfield 43, 3) := by decide +kernel
theorem dX0_boardSet_5 : decode cX0_boardSet 5 = .ok (.ishl, 1) := by decide +kernel
theorem dX0_boardSet_6 : decode cX0_boardSet 6 = .ok (.iconst 1, 1) := by decide +kernel
theorem dX0_boardSet_7 : decode cX0_boardSet 7 = .ok (.isub, 1) := by decide +kernel
theorem dX0_boardSet_8 : decode cX0_boardSet 8 = .ok (.ireturn, 1) := by decide +kernel
theorem dX0_pluggedSet_0 : decode cX0_pluggedSet 0 = .ok (.iconst 0, 1) := by decide +kernel
theorem dX0_pluggedSet_1 : decode cX0_pluggedSet 1 = .ok (.istore_n 1, 1) := by decide +kernel
theorem dX0_pluggedSet_2 : decode cX0_pluggedSet 2 = .ok (.iconst 0, 1) := by decide +kernel
theorem dX0_pluggedSet_3 : decode cX0_pluggedSet 3 = .ok (.istore_n 2, 1) := by decide +kernel
theorem dX0_pluggedSet_4 : decode cX0_pluggedSet 4 = .ok (.iload_n 2, 1) := by decide +kernel
theorem dX0_pluggedSet_5 : decode cX0_pluggedSet 5 = .ok (.aload_n 0, 1) := by decide +kernel
theorem dX0_pluggedSet_6 : decode cX0_pluggedSet 6 = .ok (.getfield 43, 3) := by decide +kernel
theorem dX0_pluggedSet_9 : decode cX0_pluggedSet 9 = .ok (.if_icmp .ge 29, 3) := by decide +kernel
theorem dX0_pluggedSet_12 : decode cX0_pluggedSet 12 = .ok (.aload_n 0, 1) := by decide +kernel
theorem dX0_pluggedSet_13 : decode cX0_pluggedSet 13 = .ok (.getfield 25, 3) := by decide +kernel
theorem dX0_pluggedSet_16 : decode cX0_pluggedSet 16 = .ok (.iload_n 2, 1) := by decide +kernel
theorem dX0_pluggedSet_17 : decode cX0_pluggedSet 17 = .ok (.aaload, 1) := by decide +kernel
theorem dX0_pluggedSet_18 : decode cX0_pluggedSet 18 = .ok (.getfield 60, 3) := by decide +kernel
theorem dX0_pluggedSet_21 : decode cX0_pluggedSet 21 = .ok (.bipush (-6), 2) := by decide +kernel
theorem dX0_pluggedSet_23 : decode cX0_pluggedSet 23 = .ok (.if_icmp .eq 9, 3) := by decide +kernel
theorem dX0_pluggedSet_26 : decode cX0_pluggedSet 26 = .ok (.iload_n 1, 1) := by decide +kernel
theorem dX0_pluggedSet_27 : decode cX0_pluggedSet 27 = .ok (.iconst 1, 1) := by decide +kernel
theorem dX0_pluggedSet_28 : decode cX0_pluggedSet 28 = .ok (.iload_n 2, 1) := by decide +kernel
theorem dX0_pluggedSet_29 : decode cX0_pluggedSet 29 = .ok (.ishl, 1) := by decide +kernel
theorem dX0_pluggedSet_30 : decode cX0_pluggedSet 30 = .ok (.ior, 1) := by decide +kernel
theorem dX0_pluggedSet_31 : decode cX0_pluggedSet 31 = .ok (.istore_n 1, 1) := by decide +kernel
theorem dX0_pluggedSet_32 : decode cX0_pluggedSet 32 = .ok (.iinc 2 1, 3) := by decide +kernel
theorem dX0_pluggedSet_35 : decode cX0_pluggedSet 35 = .ok (.goto (-31), 3) := by decide +kernel
theorem dX0_pluggedSet_38 : decode cX0_pluggedSet 38 = .ok (.iload_n 1, 1) := by decide +kernel
theorem dX0_pluggedSet_39 : decode cX0_pluggedSet 39 = .ok (.ireturn, 1) := by decide +kernel
theorem dX0_knownSet_0 : decode cX0_knownSet 0 = .ok (.iconst 0, 1) := by decide +kernel
theorem dX0_knownSet_1 : decode cX0_knownSet 1 = .ok (.istore_n 1, 1) := by decide +kernel
theorem dX0_knownSet_2 : decode cX0_knownSet 2 = .ok (.iconst 0, 1) := by decide +kernel
theorem dX0_knownSet_3 : decode cX0_knownSet 3 = .ok (.istore_n 2, 1) := by decide +kernel
theorem dX0_knownSet_4 : decode cX0_knownSet 4 = .ok (.iload_n 2, 1) := by decide +kernel
theorem dX0_knownSet_5 : decode cX0_knownSet 5 = .ok (.aload_n 0, 1) := by decide +kernel
theorem dX0_knownSet_6 : decode cX0_knownSet 6 = .ok (.getfield 43, 3) := by decide +kernel
theorem dX0_knownSet_9 : decode cX0_knownSet 9 = .ok (.if_icmp .ge 27, 3) := by decide +kernel
theorem dX0_knownSet_12 : decode cX0_knownSet 12 = .ok (.aload_n 0, 1) := by decide +kernel
theorem dX0_knownSet_13 : decode cX0_knownSet 13 = .ok (.getfield 25, 3) := by decide +kernel
theorem dX0_knownSet_16 : decode cX0_knownSet 16 = .ok (.iload_n 2, 1) := by decide +kernel
theorem dX0_knownSet_17 : decode cX0_knownSet 17 = .ok (.aaload, 1) := by decide +kernel
theorem dX0_knownSet_18 : decode cX0_knownSet 18 = .ok (.getfield 63, 3) := by decide +kernel
theorem dX0_knownSet_21 : decode cX0_knownSet 21 = .ok (.ifCond .eq 9, 3) := by decide +kernel
theorem dX0_knownSet_24 : decode cX0_knownSet 24 = .ok (.iload_n 1, 1) := by decide +kernel
theorem dX0_knownSet_25 : decode cX0_knownSet 25 = .ok (.iconst 1, 1) := by decide +kernel
theorem dX0_knownSet_26 : decode cX0_knownSet 26 = .ok (.iload_n 2, 1) := by decide +kernel
theorem dX0_knownSet_27 : decode cX0_knownSet 27 = .ok (.ishl, 1) := by decide +kernel
theorem dX0_knownSet_28 : decode cX0_knownSet 28 = .ok (.ior, 1) := by decide +kernel
theorem dX0_knownSet_29 : decode cX0_knownSet 29 = .ok (.istore_n 1, 1) := by decide +kernel
theorem dX0_knownSet_30 : decode cX0_knownSet 30 = .ok (.iinc 2 1, 3) := by decide +kernel
theorem dX0_knownSet_33 : decode cX0_knownSet 33 = .ok (.goto (-29), 3) := by decide +kernel
theorem dX0_knownSet_36 : decode cX0_knownSet 36 = .ok (.iload_n 1, 1) := by decide +kernel
theorem dX0_knownSet_37 : decode cX0_knownSet 37 = .ok (.ireturn, 1) := by decide +kernel
theorem dX0_knownWithCode_0 : decode cX0_knownWithCode 0 = .ok (.iconst 0, 1) := by decide +kernel
theorem dX0_knownWithCode_1 : decode cX0_knownWithCode 1 = .ok (.istore_n 2, 1) := by decide +kernel
theorem dX0_knownWithCode_2 : decode cX0_knownWithCode 2 = .ok (.iload_n 2, 1) := by decide +kernel
theorem dX0_knownWithCode_3 : decode cX0_knownWithCode 3 = .ok (.aload_n 0, 1) := by decide +kernel
theorem dX0_knownWithCode_4 : decode cX0_knownWithCode 4 = .ok (.getfield 43, 3) := by decide +kernel
theorem dX0_knownWithCode_7 : decode cX0_knownWithCode 7 = .ok (.if_icmp .ge 36, 3) := by decide +kernel
theorem dX0_knownWithCode_10 : decode cX0_knownWithCode 10 = .ok (.aload_n 0, 1) := by decide +kernel
theorem dX0_knownWithCode_11 : decode cX0_knownWithCode 11 = .ok (.getfield 25, 3) := by decide +kernel
theorem dX0_knownWithCode_14 : decode cX0_knownWithCode 14 = .ok (.iload_n 2, 1) := by decide +kernel
theorem dX0_knownWithCode_15 : decode cX0_knownWithCode 15 = .ok (.aaload, 1) := by decide +kernel
theorem dX0_knownWithCode_16 : decode cX0_knownWithCode 16 = .ok (.getfield 63, 3) := by decide +kernel
theorem dX0_knownWithCode_19 : decode cX0_knownWithCode 19 = .ok (.ifCond .eq 18, 3) := by decide +kernel
theorem dX0_knownWithCode_22 : decode cX0_knownWithCode 22 = .ok (.aload_n 0, 1) := by decide +kernel
theorem dX0_knownWithCode_23 : decode cX0_knownWithCode 23 = .ok (.getfield 25, 3) := by decide +kernel
theorem dX0_knownWithCode_26 : decode cX0_knownWithCode 26 = .ok (.iload_n 2, 1) := by decide +kernel
theorem dX0_knownWithCode_27 : decode cX0_knownWithCode 27 = .ok (.aaload, 1) := by decide +kernel
theorem dX0_knownWithCode_28 : decode cX0_knownWithCode 28 = .ok (.getfield 67, 3) := by decide +kernel
theorem dX0_knownWithCode_31 : decode cX0_knownWithCode 31 = .ok (.iload_n 1, 1) := by decide +kernel
theorem dX0_knownWithCode_32 : decode cX0_knownWithCode 32 = .ok (.if_icmp .ne 5, 3) := by decide +kernel
theorem dX0_knownWithCode_35 : decode cX0_knownWithCode 35 = .ok (.iload_n 2, 1) := by decide +kernel
theorem dX0_knownWithCode_36 : decode cX0_knownWithCode 36 = .ok (.ireturn, 1) := by decide +kernel
theorem dX0_knownWithCode_37 : decode cX0_knownWithCode 37 = .ok (.iinc 2 1, 3) := by decide +kernel
theorem dX0_knownWithCode_40 : decode cX0_knownWithCode 40 = .ok (.goto (-38), 3) := by decide +kernel
theorem dX0_knownWithCode_43 : decode cX0_knownWithCode 43 = .ok (.bipush (-6), 2) := by decide +kernel
theorem dX0_knownWithCode_45 : decode cX0_knownWithCode 45 = .ok (.ireturn, 1) := by decide +kernel
theorem dX0_drawn_0 : decode cX0_drawn 0 = .ok (.iconst 0, 1) := by decide +kernel
theorem dX0_drawn_1 : decode cX0_drawn 1 = .ok (.istore_n 1, 1) := by decide +kernel
theorem dX0_drawn_2 : decode cX0_drawn 2 = .ok (.iconst 0, 1) := by decide +kernel
theorem dX0_drawn_3 : decode cX0_drawn 3 = .ok (.istore_n 2, 1) := by decide +kernel
theorem dX0_drawn_4 : decode cX0_drawn 4 = .ok (.iload_n 2, 1) := by decide +kernel
theorem dX0_drawn_5 : decode cX0_drawn 5 = .ok (.aload_n 0, 1) := by decide +kernel
theorem dX0_drawn_6 : decode cX0_drawn 6 = .ok (.getfield 43, 3) := by decide +kernel
theorem dX0_drawn_9 : decode cX0_drawn 9 = .ok (.if_icmp .ge 34, 3) := by decide +kernel
theorem dX0_drawn_12 : decode cX0_drawn 12 = .ok (.iload_n 1, 1) := by decide +kernel
theorem dX0_drawn_13 : decode cX0_drawn 13 = .ok (.aload_n 0, 1) := by decide +kernel
theorem dX0_drawn_14 : decode cX0_drawn 14 = .ok (.getfield 25, 3) := by decide +kernel
theorem dX0_drawn_17 : decode cX0_drawn 17 = .ok (.iload_n 2, 1) := by decide +kernel
theorem dX0_drawn_18 : decode cX0_drawn 18 = .ok (.aaload, 1) := by decide +kernel
theorem dX0_drawn_19 : decode cX0_drawn 19 = .ok (.getfield 70, 3) := by decide +kernel
theorem dX0_drawn_22 : decode cX0_drawn 22 = .ok (.aload_n 0, 1) := by decide +kernel
theorem dX0_drawn_23 : decode cX0_drawn 23 = .ok (.getfield 25, 3) := by decide +kernel
theorem dX0_drawn_26 : decode cX0_drawn 26 = .ok (.iload_n 2, 1) := by decide +kernel
theorem dX0_drawn_27 : decode cX0_drawn 27 = .ok (.aaload, 1) := by decide +kernel
theorem dX0_drawn_28 : decode cX0_drawn 28 = .ok (.getfield 73, 3) := by decide +kernel
theorem dX0_drawn_31 : decode cX0_drawn 31 = .ok (.imul, 1) := by decide +kernel
theorem dX0_drawn_32 : decode cX0_drawn 32 = .ok (.bipush 100, 2) := by decide +kernel
theorem dX0_drawn_34 : decode cX0_drawn 34 = .ok (.idiv, 1) := by decide +kernel
theorem dX0_drawn_35 : decode cX0_drawn 35 = .ok (.iadd, 1) := by decide +kernel
theorem dX0_drawn_36 : decode cX0_drawn 36 = .ok (.istore_n 1, 1) := by decide +kernel
theorem dX0_drawn_37 : decode cX0_drawn 37 = .ok (.iinc 2 1, 3) := by decide +kernel
theorem dX0_drawn_40 : decode cX0_drawn 40 = .ok (.goto (-36), 3) := by decide +kernel
theorem dX0_drawn_43 : decode cX0_drawn 43 = .ok (.iload_n 1, 1) := by decide +kernel
theorem dX0_drawn_44 : decode cX0_drawn 44 = .ok (.ireturn, 1) := by decide +kernel
theorem dX0_pulledTooSoon_0 : decode cX0_pulledTooSoon 0 = .ok (.iconst 0, 1) := by decide +kernel
theorem dX0_pulledTooSoon_1 : decode cX0_pulledTooSoon 1 = .ok (.istore_n 1, 1) := by decide +kernel
theorem dX0_pulledTooSoon_2 : decode cX0_pulledTooSoon 2 = .ok (.iconst 0, 1) := by decide +kernel
theorem dX0_pulledTooSoon_3 : decode cX0_pulledTooSoon 3 = .ok (.istore_n 2, 1) := by decide +kernel
theorem dX0_pulledTooSoon_4 : decode cX0_pulledTooSoon 4 = .ok (.iload_n 2, 1) := by decide +kernel
theorem dX0_pulledTooSoon_5 : decode cX0_pulledTooSoon 5 = .ok (.aload_n 0, 1) := by decide +kernel
theorem dX0_pulledTooSoon_6 : decode cX0_pulledTooSoon 6 = .ok (.getfield 43, 3) := by decide +kernel
theorem dX0_pulledTooSoon_9 : decode cX0_pulledTooSoon 9 = .ok (.if_icmp .ge 21, 3) := by decide +kernel
theorem dX0_pulledTooSoon_12 : decode cX0_pulledTooSoon 12 = .ok (.iload_n 1, 1) := by decide +kernel
theorem dX0_pulledTooSoon_13 : decode cX0_pulledTooSoon 13 = .ok (.aload_n 0, 1) := by decide +kernel
theorem dX0_pulledTooSoon_14 : decode cX0_pulledTooSoon 14 = .ok (.getfield 25, 3) := by decide +kernel
theorem dX0_pulledTooSoon_17 : decode cX0_pulledTooSoon 17 = .ok (.iload_n 2, 1) := by decide +kernel
theorem dX0_pulledTooSoon_18 : decode cX0_pulledTooSoon 18 = .ok (.aaload, 1) := by decide +kernel
theorem dX0_pulledTooSoon_19 : decode cX0_pulledTooSoon 19 = .ok (.getfield 76, 3) := by decide +kernel
theorem dX0_pulledTooSoon_22 : decode cX0_pulledTooSoon 22 = .ok (.iadd, 1) := by decide +kernel
theorem dX0_pulledTooSoon_23 : decode cX0_pulledTooSoon 23 = .ok (.istore_n 1, 1) := by decide +kernel
theorem dX0_pulledTooSoon_24 : decode cX0_pulledTooSoon 24 = .ok (.iinc 2 1, 3) := by decide +kernel
theorem dX0_pulledTooSoon_27 : decode cX0_pulledTooSoon 27 = .ok (.goto (-23), 3) := by decide +kernel
theorem dX0_pulledTooSoon_30 : decode cX0_pulledTooSoon 30 = .ok (.iload_n 1, 1) := by decide +kernel
theorem dX0_pulledTooSoon_31 : decode cX0_pulledTooSoon 31 = .ok (.ireturn, 1) := by decide +kernel
theorem dX0_isHeld_0 : decode cX0_isHeld 0 = .ok (.aload_n 0, 1) := by decide +kernel
theorem dX0_isHeld_1 : decode cX0_isHeld 1 = .ok (.getfield 18, 3) := by decide +kernel
theorem dX0_isHeld_4 : decode cX0_isHeld 4 = .ok (.iconst 0, 1) := by decide +kernel
theorem dX0_isHeld_5 : decode cX0_isHeld 5 = .ok (.iaload, 1) := by decide +kernel
theorem dX0_isHeld_6 : decode cX0_isHeld 6 = .ok (.ifCond .ne 5, 3) := by decide +kernel
theorem dX0_isHeld_9 : decode cX0_isHeld 9 = .ok (.iconst 0, 1) := by decide +kernel
theorem dX0_isHeld_10 : decode cX0_isHeld 10 = .ok (.ireturn, 1) := by decide +kernel
theorem dX0_isHeld_11 : decode cX0_isHeld 11 = .ok (.iconst 0, 1) := by decide +kernel
theorem dX0_isHeld_12 : decode cX0_isHeld 12 = .ok (.istore_n 1, 1) := by decide +kernel
theorem dX0_isHeld_13 : decode cX0_isHeld 13 = .ok (.iload_n 1, 1) := by decide +kernel
theorem dX0_isHeld_14 : decode cX0_isHeld 14 = .ok (.aload_n 0, 1) := by decide +kernel
theorem dX0_isHeld_15 : decode cX0_isHeld 15 = .ok (.getfield 43, 3) := by decide +kernel
theorem dX0_isHeld_18 : decode cX0_isHeld 18 = .ok (.if_icmp .ge 23, 3) := by decide +kernel
theorem dX0_isHeld_21 : decode cX0_isHeld 21 = .ok (.aload_n 0, 1) := by decide +kernel
theorem dX0_isHeld_22 : decode cX0_isHeld 22 = .ok (.getfield 25, 3) := by decide +kernel
theorem dX0_isHeld_25 : decode cX0_isHeld 25 = .ok (.iload_n 1, 1) := by decide +kernel
theorem dX0_isHeld_26 : decode cX0_isHeld 26 = .ok (.aaload, 1) := by decide +kernel
theorem dX0_isHeld_27 : decode cX0_isHeld 27 = .ok (.invokevirtual 79, 3) := by decide +kernel
theorem dX0_isHeld_30 : decode cX0_isHeld 30 = .ok (.ifCond .eq 5, 3) := by decide +kernel
theorem dX0_isHeld_33 : decode cX0_isHeld 33 = .ok (.iconst 1, 1) := by decide +kernel
theorem dX0_isHeld_34 : decode cX0_isHeld 34 = .ok (.ireturn, 1) := by decide +kernel
theorem dX0_isHeld_35 : decode cX0_isHeld 35 = .ok (.iinc 1 1, 3) := by decide +kernel
theorem dX0_isHeld_38 : decode cX0_isHeld 38 = .ok (.goto (-25), 3) := by decide +kernel
theorem dX0_isHeld_41 : decode cX0_isHeld 41 = .ok (.iconst 0, 1) := by decide +kernel
theorem dX0_isHeld_42 : decode cX0_isHeld 42 = .ok (.ireturn, 1) := by decide +kernel
theorem dX0_aboutBoard_0 : decode cX0_aboutBoard 0 = .ok (.aload_n 0, 1) := by decide +kernel
theorem dX0_aboutBoard_1 : decode cX0_aboutBoard 1 = .ok (.iload_n 1, 1) := by decide +kernel
theorem dX0_aboutBoard_2 : decode cX0_aboutBoard 2 = .ok (.invokevirtual 83, 3) := by decide +kernel
theorem dX0_aboutBoard_5 : decode cX0_aboutBoard 5 = .ok (.astore_n 3, 1) := by decide +kernel
theorem dX0_aboutBoard_6 : decode cX0_aboutBoard 6 = .ok (.aload_n 3, 1) := by decide +kernel
theorem dX0_aboutBoard_7 : decode cX0_aboutBoard 7 = .ok (.ifnonnull 5, 3) := by decide +kernel
theorem dX0_aboutBoard_10 : decode cX0_aboutBoard 10 = .ok (.iconst (-1), 1) := by decide +kernel
theorem dX0_aboutBoard_11 : decode cX0_aboutBoard 11 = .ok (.ireturn, 1) := by decide +kernel
theorem dX0_aboutBoard_12 : decode cX0_aboutBoard 12 = .ok (.iload_n 2, 1) := by decide +kernel
theorem dX0_aboutBoard_13 : decode cX0_aboutBoard 13 = .ok (.tableswitch 137 0 10 #[59, 64, 69, 74, 79, 87, 92, 105, 118, 123, 132], 59) := by decide +kernel
theorem dX0_aboutBoard_72 : decode cX0_aboutBoard 72 = .ok (.aload_n 3, 1) := by decide +kernel
theorem dX0_aboutBoard_73 : decode cX0_aboutBoard 73 = .ok (.getfield 67, 3) := by decide +kernel
theorem dX0_aboutBoard_76 : decode cX0_aboutBoard 76 = .ok (.ireturn, 1) := by decide +kernel
theorem dX0_aboutBoard_77 : decode cX0_aboutBoard 77 = .ok (.aload_n 3, 1) := by decide +kernel
theorem dX0_aboutBoard_78 : decode cX0_aboutBoard 78 = .ok (.getfield 70, 3) := by decide +kernel
theorem dX0_aboutBoard_81 : decode cX0_aboutBoard 81 = .ok (.ireturn, 1) := by decide +kernel
theorem dX0_aboutBoard_82 : decode cX0_aboutBoard 82 = .ok (.aload_n 3, 1) := by decide +kernel
theorem dX0_aboutBoard_83 : decode cX0_aboutBoard 83 = .ok (.getfield 60, 3) := by decide +kernel
theorem dX0_aboutBoard_86 : decode cX0_aboutBoard 86 = .ok (.ireturn, 1) := by decide +kernel
theorem dX0_aboutBoard_87 : decode cX0_aboutBoard 87 = .ok (.aload_n 3, 1) := by decide +kernel
theorem dX0_aboutBoard_88 : decode cX0_aboutBoard 88 = .ok (.getfield 87, 3) := by decide +kernel
theorem dX0_aboutBoard_91 : decode cX0_aboutBoard 91 = .ok (.ireturn, 1) := by decide +kernel
theorem dX0_aboutBoard_92 : decode cX0_aboutBoard 92 = .ok (.aload_n 3, 1) := by decide +kernel
theorem dX0_aboutBoard_93 : decode cX0_aboutBoard 93 = .ok (.getfield 90, 3) := by decide +kernel
theorem dX0_aboutBoard_96 : decode cX0_aboutBoard 96 = .ok (.bipush 100, 2) := by decide +kernel
theorem dX0_aboutBoard_98 : decode cX0_aboutBoard 98 = .ok (.iadd, 1) := by decide +kernel
theorem dX0_aboutBoard_99 : decode cX0_aboutBoard 99 = .ok (.ireturn, 1) := by decide +kernel
theorem dX0_aboutBoard_100 : decode cX0_aboutBoard 100 = .ok (.aload_n 3, 1) := by decide +kernel
theorem dX0_aboutBoard_101 : decode cX0_aboutBoard 101 = .ok (.getfield 73, 3) := by decide +kernel
theorem dX0_aboutBoard_104 : decode cX0_aboutBoard 104 = .ok (.ireturn, 1) := by decide +kernel
theorem dX0_aboutBoard_105 : decode cX0_aboutBoard 105 = .ok (.aload_n 3, 1) := by decide +kernel
theorem dX0_aboutBoard_106 : decode cX0_aboutBoard 106 = .ok (.getfield 63, 3) := by decide +kernel
theorem dX0_aboutBoard_109 : decode cX0_aboutBoard 109 = .ok (.ifCond .eq 7, 3) := by decide +kernel
theorem dX0_aboutBoard_112 : decode cX0_aboutBoard 112 = .ok (.iconst 1, 1) := by decide +kernel
theorem dX0_aboutBoard_113 : decode cX0_aboutBoard 113 = .ok (.goto 4, 3) := by decide +kernel
theorem dX0_aboutBoard_116 : decode cX0_aboutBoard 116 = .ok (.iconst 0, 1) := by decide +kernel
theorem dX0_aboutBoard_117 : decode cX0_aboutBoard 117 = .ok (.ireturn, 1) := by decide +kernel
theorem dX0_aboutBoard_118 : decode cX0_aboutBoard 118 = .ok (.aload_n 3, 1) := by decide +kernel
theorem dX0_aboutBoard_119 : decode cX0_aboutBoard 119 = .ok (.getfield 93, 3) := by decide +kernel
theorem dX0_aboutBoard_122 : decode cX0_aboutBoard 122 = .ok (.ifCond .eq 7, 3) := by decide +kernel
theorem dX0_aboutBoard_125 : decode cX0_aboutBoard 125 = .ok (.iconst 1, 1) := by decide +kernel
theorem dX0_aboutBoard_126 : decode cX0_aboutBoard 126 = .ok (.goto 4, 3) := by decide +kernel
theorem dX0_aboutBoard_129 : decode cX0_aboutBoard 129 = .ok (.iconst 0, 1) := by decide +kernel
theorem dX0_aboutBoard_130 : decode cX0_aboutBoard 130 = .ok (.ireturn, 1) := by decide +kernel
theorem dX0_aboutBoard_131 : decode cX0_aboutBoard 131 = .ok (.aload_n 3, 1) := by decide +kernel
theorem dX0_aboutBoard_132 : decode cX0_aboutBoard 132 = .ok (.getfield 96, 3) := by decide +kernel
theorem dX0_aboutBoard_135 : decode cX0_aboutBoard 135 = .ok (.ireturn, 1) := by decide +kernel
theorem dX0_aboutBoard_136 : decode cX0_aboutBoard 136 = .ok (.aload_n 0, 1) := by decide +kernel
theorem dX0_aboutBoard_137 : decode cX0_aboutBoard 137 = .ok (.getfield 33, 3) := by decide +kernel
theorem dX0_aboutBoard_140 : decode cX0_aboutBoard 140 = .ok (.iload_n 1, 1) := by decide +kernel
theorem dX0_aboutBoard_141 : decode cX0_aboutBoard 141 = .ok (.invokevirtual 99, 3) := by decide +kernel
theorem dX0_aboutBoard_144 : decode cX0_aboutBoard 144 = .ok (.ireturn, 1) := by decide +kernel
theorem dX0_aboutBoard_145 : decode cX0_aboutBoard 145 = .ok (.aload_n 3, 1) := by decide +kernel
theorem dX0_aboutBoard_146 : decode cX0_aboutBoard 146 = .ok (.getfield 76, 3) := by decide +kernel
theorem dX0_aboutBoard_149 : decode cX0_aboutBoard 149 = .ok (.ireturn, 1) := by decide +kernel
theorem dX0_aboutBoard_150 : decode cX0_aboutBoard 150 = .ok (.bipush (-2), 2) := by decide +kernel
theorem dX0_aboutBoard_152 : decode cX0_aboutBoard 152 = .ok (.ireturn, 1) := by decide +kernel
theorem dX0_changeSetting_0 : decode cX0_changeSetting 0 = .ok (.iload_n 1, 1) := by decide +kernel
theorem dX0_changeSetting_1 : decode cX0_changeSetting 1 = .ok (.iconst 0, 1) := by decide +kernel
theorem dX0_changeSetting_2 : decode cX0_changeSetting 2 = .ok (.iconst 4, 1) := by decide +kernel
theorem dX0_changeSetting_3 : decode cX0_changeSetting 3 = .ok (.invokestatic 103, 3) := by decide +kernel
theorem dX0_changeSetting_6 : decode cX0_changeSetting 6 = .ok (.ifCond .ne 6, 3) := by decide +kernel
theorem dX0_changeSetting_9 : decode cX0_changeSetting 9 = .ok (.bipush (-2), 2) := by decide +kernel
theorem dX0_changeSetting_11 : decode cX0_changeSetting 11 = .ok (.ireturn, 1) := by decide +kernel
theorem dX0_changeSetting_12 : decode cX0_changeSetting 12 = .ok (.iload_n 2, 1) := by decide +kernel
theorem dX0_changeSetting_13 : decode cX0_changeSetting 13 = .ok (.getstatic 107, 3) := by decide +kernel
theorem dX0_changeSetting_16 : decode cX0_changeSetting 16 = .ok (.iload_n 1, 1) := by decide +kernel
theorem dX0_changeSetting_17 : decode cX0_changeSetting 17 = .ok (.iaload, 1) := by decide +kernel
theorem dX0_changeSetting_18 : decode cX0_changeSetting 18 = .ok (.getstatic 110, 3) := by decide +kernel
theorem dX0_changeSetting_21 : decode cX0_changeSetting 21 = .ok (.iload_n 1, 1) := by decide +kernel
theorem dX0_changeSetting_22 : decode cX0_changeSetting 22 = .ok (.iaload, 1) := by decide +kernel
theorem dX0_changeSetting_23 : decode cX0_changeSetting 23 = .ok (.invokestatic 103, 3) := by decide +kernel
theorem dX0_changeSetting_26 : decode cX0_changeSetting 26 = .ok (.ifCond .ne 6, 3) := by decide +kernel
theorem dX0_changeSetting_29 : decode cX0_changeSetting 29 = .ok (.bipush (-2), 2) := by decide +kernel
theorem dX0_changeSetting_31 : decode cX0_changeSetting 31 = .ok (.ireturn, 1) := by decide +kernel
theorem dX0_changeSetting_32 : decode cX0_changeSetting 32 = .ok (.aload_n 0, 1) := by decide +kernel
theorem dX0_changeSetting_33 : decode cX0_changeSetting 33 = .ok (.getfield 18, 3) := by decide +kernel
theorem dX0_changeSetting_36 : decode cX0_changeSetting 36 = .ok (.iload_n 1, 1) := by decide +kernel
theorem dX0_changeSetting_37 : decode cX0_changeSetting 37 = .ok (.iaload, 1) := by decide +kernel
theorem dX0_changeSetting_38 : decode cX0_changeSetting 38 = .ok (.istore_n 3, 1) := by decide +kernel
theorem dX0_changeSetting_39 : decode cX0_changeSetting 39 = .ok (.aload_n 0, 1) := by decide +kernel
theorem dX0_changeSetting_40 : decode cX0_changeSetting 40 = .ok (.getfield 18, 3) := by decide +kernel
theorem dX0_changeSetting_43 : decode cX0_changeSetting 43 = .ok (.iload_n 1, 1) := by decide +kernel
theorem dX0_changeSetting_44 : decode cX0_changeSetting 44 = .ok (.iload_n 2, 1) := by decide +kernel
theorem dX0_changeSetting_45 : decode cX0_changeSetting 45 = .ok (.iastore, 1) := by decide +kernel
theorem dX0_changeSetting_46 : decode cX0_changeSetting 46 = .ok (.iload_n 3, 1) := by decide +kernel
theorem dX0_changeSetting_47 : decode cX0_changeSetting 47 = .ok (.ireturn, 1) := by decide +kernel
theorem dX0_addBoard_0 : decode cX0_addBoard 0 = .ok (.iload_n 1, 1) := by decide +kernel
theorem dX0_addBoard_1 : decode cX0_addBoard 1 = .ok (.iconst 0, 1) := by decide +kernel
theorem dX0_addBoard_2 : decode cX0_addBoard 2 = .ok (.bipush 99, 2) := by decide +kernel
theorem dX0_addBoard_4 : decode cX0_addBoard 4 = .ok (.invokestatic 103, 3) := by decide +kernel
theorem dX0_addBoard_7 : decode cX0_addBoard 7 = .ok (.ifCond .eq 13, 3) := by decide +kernel
theorem dX0_addBoard_10 : decode cX0_addBoard 10 = .ok (.iload_n 2, 1) := by decide +kernel
theorem dX0_addBoard_11 : decode cX0_addBoard 11 = .ok (.iconst 1, 1) := by decide +kernel
theorem dX0_addBoard_12 : decode cX0_addBoard 12 = .ok (.bipush 60, 2) := by decide +kernel
theorem dX0_addBoard_14 : decode cX0_addBoard 14 = .ok (.invokestatic 103, 3) := by decide +kernel
theorem dX0_addBoard_17 : decode cX0_addBoard 17 = .ok (.ifCond .ne 6, 3) := by decide +kernel
theorem dX0_addBoard_20 : decode cX0_addBoard 20 = .ok (.bipush (-2), 2) := by decide +kernel
theorem dX0_addBoard_22 : decode cX0_addBoard 22 = .ok (.ireturn, 1) := by decide +kernel
theorem dX0_addBoard_23 : decode cX0_addBoard 23 = .ok (.aload_n 0, 1) := by decide +kernel
theorem dX0_addBoard_24 : decode cX0_addBoard 24 = .ok (.getfield 43, 3) := by decide +kernel
theorem dX0_addBoard_27 : decode cX0_addBoard 27 = .ok (.bipush 8, 2) := by decide +kernel
theorem dX0_addBoard_29 : decode cX0_addBoard 29 = .ok (.if_icmp .lt 6, 3) := by decide +kernel
theorem dX0_addBoard_32 : decode cX0_addBoard 32 = .ok (.bipush (-4), 2) := by decide +kernel
theorem dX0_addBoard_34 : decode cX0_addBoard 34 = .ok (.ireturn, 1) := by decide +kernel
theorem dX0_addBoard_35 : decode cX0_addBoard 35 = .ok (.aload_n 0, 1) := by decide +kernel
theorem dX0_addBoard_36 : decode cX0_addBoard 36 = .ok (.getfield 43, 3) := by decide +kernel
theorem dX0_addBoard_39 : decode cX0_addBoard 39 = .ok (.istore_n 3, 1) := by decide +kernel
theorem dX0_addBoard_40 : decode cX0_addBoard 40 = .ok (.aload_n 0, 1) := by decide +kernel
theorem dX0_addBoard_41 : decode cX0_addBoard 41 = .ok (.getfield 25, 3) := by decide +kernel
theorem dX0_addBoard_44 : decode cX0_addBoard 44 = .ok (.iload_n 3, 1) := by decide +kernel
theorem dX0_addBoard_45 : decode cX0_addBoard 45 = .ok (.aaload, 1) := by decide +kernel
theorem dX0_addBoard_46 : decode cX0_addBoard 46 = .ok (.iload_n 1, 1) := by decide +kernel
theorem dX0_addBoard_47 : decode cX0_addBoard 47 = .ok (.iload_n 2, 1) := by decide +kernel
theorem dX0_addBoard_48 : decode cX0_addBoard 48 = .ok (.invokevirtual 113, 3) := by decide +kernel
theorem dX0_addBoard_51 : decode cX0_addBoard 51 = .ok (.aload_n 0, 1) := by decide +kernel
theorem dX0_addBoard_52 : decode cX0_addBoard 52 = .ok (.dup, 1) := by decide +kernel
theorem dX0_addBoard_53 : decode cX0_addBoard 53 = .ok (.getfield 43, 3) := by decide +kernel
theorem dX0_addBoard_56 : decode cX0_addBoard 56 = .ok (.iconst 1, 1) := by decide +kernel
theorem dX0_addBoard_57 : decode cX0_addBoard 57 = .ok (.iadd, 1) := by decide +kernel
theorem dX0_addBoard_58 : decode cX0_addBoard 58 = .ok (.putfield 43, 3) := by decide +kernel
theorem dX0_addBoard_61 : decode cX0_addBoard 61 = .ok (.iload_n 3, 1) := by decide +kernel
theorem dX0_addBoard_62 : decode cX0_addBoard 62 = .ok (.ireturn, 1) := by decide +kernel
theorem dX0_inwardError_0 : decode cX0_inwardError 0 = .ok (.aload_n 0, 1) := by decide +kernel
theorem dX0_inwardError_1 : decode cX0_inwardError 1 = .ok (.iload_n 1, 1) := by decide +kernel
theorem dX0_inwardError_2 : decode cX0_inwardError 2 = .ok (.invokevirtual 83, 3) := by decide +kernel
theorem dX0_inwardError_5 : decode cX0_inwardError 5 = .ok (.astore 4, 2) := by decide +kernel
theorem dX0_inwardError_7 : decode cX0_inwardError 7 = .ok (.aload 4, 2) := by decide +kernel
theorem dX0_inwardError_9 : decode cX0_inwardError 9 = .ok (.ifnull 10, 3) := by decide +kernel
theorem dX0_inwardError_12 : decode cX0_inwardError 12 = .ok (.iload_n 2, 1) := by decide +kernel
theorem dX0_inwardError_13 : decode cX0_inwardError 13 = .ok (.invokestatic 117, 3) := by decide +kernel
theorem dX0_inwardError_16 : decode cX0_inwardError 16 = .ok (.ifCond .ne 5, 3) := by decide +kernel
theorem dX0_inwardError_19 : decode cX0_inwardError 19 = .ok (.iconst (-1), 1) := by decide +kernel
theorem dX0_inwardError_20 : decode cX0_inwardError 20 = .ok (.ireturn, 1) := by decide +kernel
theorem dX0_inwardError_21 : decode cX0_inwardError 21 = .ok (.iload_n 3, 1) := by decide +kernel
theorem dX0_inwardError_22 : decode cX0_inwardError 22 = .ok (.iconst 1, 1) := by decide +kernel
theorem dX0_inwardError_23 : decode cX0_inwardError 23 = .ok (.bipush 24, 2) := by decide +kernel
theorem dX0_inwardError_25 : decode cX0_inwardError 25 = .ok (.invokestatic 103, 3) := by decide +kernel
theorem dX0_inwardError_28 : decode cX0_inwardError 28 = .ok (.ifCond .ne 6, 3) := by decide +kernel
theorem dX0_inwardError_31 : decode cX0_inwardError 31 = .ok (.bipush (-2), 2) := by decide +kernel
theorem dX0_inwardError_33 : decode cX0_inwardError 33 = .ok (.ireturn, 1) := by decide +kernel
theorem dX0_inwardError_34 : decode cX0_inwardError 34 = .ok (.aload 4, 2) := by decide +kernel
theorem dX0_inwardError_36 : decode cX0_inwardError 36 = .ok (.getfield 60, 3) := by decide +kernel
theorem dX0_inwardError_39 : decode cX0_inwardError 39 = .ok (.bipush (-6), 2) := by decide +kernel
theorem dX0_inwardError_41 : decode cX0_inwardError 41 = .ok (.if_icmp .eq 16, 3) := by decide +kernel
theorem dX0_inwardError_44 : decode cX0_inwardError 44 = .ok (.aload 4, 2) := by decide +kernel
theorem dX0_inwardError_46 : decode cX0_inwardError 46 = .ok (.getfield 60, 3) := by decide +kernel
theorem dX0_inwardError_49 : decode cX0_inwardError 49 = .ok (.iload_n 2, 1) := by decide +kernel
theorem dX0_inwardError_50 : decode cX0_inwardError 50 = .ok (.if_icmp .eq 7, 3) := by decide +kernel
theorem dX0_inwardError_53 : decode cX0_inwardError 53 = .ok (.iconst 1, 1) := by decide +kernel
theorem dX0_inwardError_54 : decode cX0_inwardError 54 = .ok (.goto 4, 3) := by decide +kernel
theorem dX0_inwardError_57 : decode cX0_inwardError 57 = .ok (.iconst 0, 1) := by decide +kernel
theorem dX0_inwardError_58 : decode cX0_inwardError 58 = .ok (.istore 5, 2) := by decide +kernel
theorem dX0_inwardError_60 : decode cX0_inwardError 60 = .ok (.aload_n 0, 1) := by decide +kernel
theorem dX0_inwardError_61 : decode cX0_inwardError 61 = .ok (.iload_n 2, 1) := by decide +kernel
theorem dX0_inwardError_62 : decode cX0_inwardError 62 = .ok (.invokevirtual 121, 3) := by decide +kernel
theorem dX0_inwardError_65 : decode cX0_inwardError 65 = .ok (.istore 6, 2) := by decide +kernel
theorem dX0_inwardError_67 : decode cX0_inwardError 67 = .ok (.iload 6, 2) := by decide +kernel
theorem dX0_inwardError_69 : decode cX0_inwardError 69 = .ok (.bipush (-6), 2) := by decide +kernel
theorem dX0_inwardError_71 : decode cX0_inwardError 71 = .ok (.if_icmp .eq 13, 3) := by decide +kernel
theorem dX0_inwardError_74 : decode cX0_inwardError 74 = .ok (.iload 6, 2) := by decide +kernel
theorem dX0_inwardError_76 : decode cX0_inwardError 76 = .ok (.iload_n 1, 1) := by decide +kernel
theorem dX0_inwardError_77 : decode cX0_inwardError 77 = .ok (.if_icmp .eq 7, 3) := by decide +kernel
theorem dX0_inwardError_80 : decode cX0_inwardError 80 = .ok (.iconst 1, 1) := by decide +kernel
theorem dX0_inwardError_81 : decode cX0_inwardError 81 = .ok (.goto 4, 3) := by decide +kernel
theorem dX0_inwardError_84 : decode cX0_inwardError 84 = .ok (.iconst 0, 1) := by decide +kernel
theorem dX0_inwardError_85 : decode cX0_inwardError 85 = .ok (.istore 7, 2) := by decide +kernel
theorem dX0_inwardError_87 : decode cX0_inwardError 87 = .ok (.iload 5, 2) := by decide +kernel
theorem dX0_inwardError_89 : decode cX0_inwardError 89 = .ok (.ifCond .ne 18, 3) := by decide +kernel
theorem dX0_inwardError_92 : decode cX0_inwardError 92 = .ok (.iload 7, 2) := by decide +kernel
theorem dX0_inwardError_94 : decode cX0_inwardError 94 = .ok (.ifCond .ne 13, 3) := by decide +kernel
theorem dX0_inwardError_97 : decode cX0_inwardError 97 = .ok (.aload 4, 2) := by decide +kernel
theorem dX0_inwardError_99 : decode cX0_inwardError 99 = .ok (.getfield 87, 3) := by decide +kernel
theorem dX0_inwardError_102 : decode cX0_inwardError 102 = .ok (.bipush 24, 2) := by decide +kernel
theorem dX0_inwardError_104 : decode cX0_inwardError 104 = .ok (.if_icmp .ne 6, 3) := by decide +kernel
theorem dX0_inwardError_107 : decode cX0_inwardError 107 = .ok (.bipush (-5), 2) := by decide +kernel
theorem dX0_inwardError_109 : decode cX0_inwardError 109 = .ok (.ireturn, 1) := by decide +kernel
theorem dX0_inwardError_110 : decode cX0_inwardError 110 = .ok (.iconst 0, 1) := by decide +kernel
theorem dX0_inwardError_111 : decode cX0_inwardError 111 = .ok (.ireturn, 1) := by decide +kernel
theorem dX0_moveInward_0 : decode cX0_moveInward 0 = .ok (.aload_n 0, 1) := by decide +kernel
theorem dX0_moveInward_1 : decode cX0_moveInward 1 = .ok (.iload_n 1, 1) := by decide +kernel
theorem dX0_moveInward_2 : decode cX0_moveInward 2 = .ok (.iload_n 2, 1) := by decide +kernel
theorem dX0_moveInward_3 : decode cX0_moveInward 3 = .ok (.iload_n 3, 1) := by decide +kernel
theorem dX0_moveInward_4 : decode cX0_moveInward 4 = .ok (.invokevirtual 124, 3) := by decide +kernel
theorem dX0_moveInward_7 : decode cX0_moveInward 7 = .ok (.istore 4, 2) := by decide +kernel
theorem dX0_moveInward_9 : decode cX0_moveInward 9 = .ok (.aload_n 0, 1) := by decide +kernel
theorem dX0_moveInward_10 : decode cX0_moveInward 10 = .ok (.iload_n 1, 1) := by decide +kernel
theorem dX0_moveInward_11 : decode cX0_moveInward 11 = .ok (.invokevirtual 83, 3) := by decide +kernel
theorem dX0_moveInward_14 : decode cX0_moveInward 14 = .ok (.astore 5, 2) := by decide +kernel
theorem dX0_moveInward_16 : decode cX0_moveInward 16 = .ok (.iload 4, 2) := by decide +kernel
theorem dX0_moveInward_18 : decode cX0_moveInward 18 = .ok (.ifCond .lt 8, 3) := by decide +kernel
theorem dX0_moveInward_21 : decode cX0_moveInward 21 = .ok (.aload 5, 2) := by decide +kernel
theorem dX0_moveInward_23 : decode cX0_moveInward 23 = .ok (.ifnonnull 6, 3) := by decide +kernel
theorem dX0_moveInward_26 : decode cX0_moveInward 26 = .ok (.iload 4, 2) := by decide +kernel
theorem dX0_moveInward_28 : decode cX0_moveInward 28 = .ok (.ireturn, 1) := by decide +kernel
theorem dX0_moveInward_29 : decode cX0_moveInward 29 = .ok (.aload 5, 2) := by decide +kernel
theorem dX0_moveInward_31 : decode cX0_moveInward 31 = .ok (.iload_n 2, 1) := by decide +kernel
theorem dX0_moveInward_32 : decode cX0_moveInward 32 = .ok (.putfield 60, 3) := by decide +kernel
theorem dX0_moveInward_35 : decode cX0_moveInward 35 = .ok (.aload 5, 2) := by decide +kernel
theorem dX0_moveInward_37 : decode cX0_moveInward 37 = .ok (.iload_n 3, 1) := by decide +kernel
theorem dX0_moveInward_38 : decode cX0_moveInward 38 = .ok (.putfield 90, 3) := by decide +kernel
theorem dX0_moveInward_41 : decode cX0_moveInward 41 = .ok (.aload 5, 2) := by decide +kernel
theorem dX0_moveInward_43 : decode cX0_moveInward 43 = .ok (.iconst 0, 1) := by decide +kernel
theorem dX0_moveInward_44 : decode cX0_moveInward 44 = .ok (.putfield 93, 3) := by decide +kernel
theorem dX0_moveInward_47 : decode cX0_moveInward 47 = .ok (.aload 5, 2) := by decide +kernel
theorem dX0_moveInward_49 : decode cX0_moveInward 49 = .ok (.getfield 87, 3) := by decide +kernel
theorem dX0_moveInward_52 : decode cX0_moveInward 52 = .ok (.ireturn, 1) := by decide +kernel
theorem dX0_moveOutward_0 : decode cX0_moveOutward 0 = .ok (.aload_n 0, 1) := by decide +kernel
theorem dX0_moveOutward_1 : decode cX0_moveOutward 1 = .ok (.iload_n 1, 1) := by decide +kernel
theorem dX0_moveOutward_2 : decode cX0_moveOutward 2 = .ok (.invokevirtual 83, 3) := by decide +kernel
theorem dX0_moveOutward_5 : decode cX0_moveOutward 5 = .ok (.astore_n 3, 1) := by decide +kernel
theorem dX0_moveOutward_6 : decode cX0_moveOutward 6 = .ok (.aload_n 3, 1) := by decide +kernel
theorem dX0_moveOutward_7 : decode cX0_moveOutward 7 = .ok (.ifnonnull 5, 3) := by decide +kernel
theorem dX0_moveOutward_10 : decode cX0_moveOutward 10 = .ok (.iconst (-1), 1) := by decide +kernel
theorem dX0_moveOutward_11 : decode cX0_moveOutward 11 = .ok (.ireturn, 1) := by decide +kernel
theorem dX0_moveOutward_12 : decode cX0_moveOutward 12 = .ok (.iload_n 2, 1) := by decide +kernel
theorem dX0_moveOutward_13 : decode cX0_moveOutward 13 = .ok (.iconst 1, 1) := by decide +kernel
theorem dX0_moveOutward_14 : decode cX0_moveOutward 14 = .ok (.bipush 24, 2) := by decide +kernel
theorem dX0_moveOutward_16 : decode cX0_moveOutward 16 = .ok (.invokestatic 103, 3) := by decide +kernel
theorem dX0_moveOutward_19 : decode cX0_moveOutward 19 = .ok (.ifCond .ne 6, 3) := by decide +kernel
theorem dX0_moveOutward_22 : decode cX0_moveOutward 22 = .ok (.bipush (-2), 2) := by decide +kernel
theorem dX0_moveOutward_24 : decode cX0_moveOutward 24 = .ok (.ireturn, 1) := by decide +kernel
theorem dX0_moveOutward_25 : decode cX0_moveOutward 25 = .ok (.aload_n 3, 1) := by decide +kernel
theorem dX0_moveOutward_26 : decode cX0_moveOutward 26 = .ok (.getfield 60, 3) := by decide +kernel
theorem dX0_moveOutward_29 : decode cX0_moveOutward 29 = .ok (.bipush (-6), 2) := by decide +kernel
theorem dX0_moveOutward_31 : decode cX0_moveOutward 31 = .ok (.if_icmp .ne 6, 3) := by decide +kernel
theorem dX0_moveOutward_34 : decode cX0_moveOutward 34 = .ok (.bipush (-5), 2) := by decide +kernel
theorem dX0_moveOutward_36 : decode cX0_moveOutward 36 = .ok (.ireturn, 1) := by decide +kernel
theorem dX0_moveOutward_37 : decode cX0_moveOutward 37 = .ok (.aload_n 3, 1) := by decide +kernel
theorem dX0_moveOutward_38 : decode cX0_moveOutward 38 = .ok (.iload_n 2, 1) := by decide +kernel
theorem dX0_moveOutward_39 : decode cX0_moveOutward 39 = .ok (.ineg, 1) := by decide +kernel
theorem dX0_moveOutward_40 : decode cX0_moveOutward 40 = .ok (.putfield 90, 3) := by decide +kernel
theorem dX0_moveOutward_43 : decode cX0_moveOutward 43 = .ok (.aload_n 3, 1) := by decide +kernel
theorem dX0_moveOutward_44 : decode cX0_moveOutward 44 = .ok (.getfield 87, 3) := by decide +kernel
theorem dX0_moveOutward_47 : decode cX0_moveOutward 47 = .ok (.ireturn, 1) := by decide +kernel
theorem dX0_askToLeave_0 : decode cX0_askToLeave 0 = .ok (.aload_n 0, 1) := by decide +kernel
theorem dX0_askToLeave_1 : decode cX0_askToLeave 1 = .ok (.iload_n 1, 1) := by decide +kernel
theorem dX0_askToLeave_2 : decode cX0_askToLeave 2 = .ok (.invokevirtual 83, 3) := by decide +kernel
theorem dX0_askToLeave_5 : decode cX0_askToLeave 5 = .ok (.astore_n 2, 1) := by decide +kernel
theorem dX0_askToLeave_6 : decode cX0_askToLeave 6 = .ok (.aload_n 2, 1) := by decide +kernel
theorem dX0_askToLeave_7 : decode cX0_askToLeave 7 = .ok (.ifnonnull 5, 3) := by decide +kernel
theorem dX0_askToLeave_10 : decode cX0_askToLeave 10 = .ok (.iconst (-1), 1) := by decide +kernel
theorem dX0_askToLeave_11 : decode cX0_askToLeave 11 = .ok (.ireturn, 1) := by decide +kernel
theorem dX0_askToLeave_12 : decode cX0_askToLeave 12 = .ok (.aload_n 2, 1) := by decide +kernel
theorem dX0_askToLeave_13 : decode cX0_askToLeave 13 = .ok (.getfield 63, 3) := by decide +kernel
theorem dX0_askToLeave_16 : decode cX0_askToLeave 16 = .ok (.ifCond .eq 10, 3) := by decide +kernel
theorem dX0_askToLeave_19 : decode cX0_askToLeave 19 = .ok (.aload_n 2, 1) := by decide +kernel
theorem dX0_askToLeave_20 : decode cX0_askToLeave 20 = .ok (.getfield 93, 3) := by decide +kernel
theorem dX0_askToLeave_23 : decode cX0_askToLeave 23 = .ok (.ifCond .eq 6, 3) := by decide +kernel
theorem dX0_askToLeave_26 : decode cX0_askToLeave 26 = .ok (.bipush (-5), 2) := by decide +kernel
theorem dX0_askToLeave_28 : decode cX0_askToLeave 28 = .ok (.ireturn, 1) := by decide +kernel
theorem dX0_askToLeave_29 : decode cX0_askToLeave 29 = .ok (.aload_n 2, 1) := by decide +kernel
theorem dX0_askToLeave_30 : decode cX0_askToLeave 30 = .ok (.iconst 1, 1) := by decide +kernel
theorem dX0_askToLeave_31 : decode cX0_askToLeave 31 = .ok (.putfield 93, 3) := by decide +kernel
theorem dX0_askToLeave_34 : decode cX0_askToLeave 34 = .ok (.aload_n 0, 1) := by decide +kernel
theorem dX0_askToLeave_35 : decode cX0_askToLeave 35 = .ok (.getfield 33, 3) := by decide +kernel
theorem dX0_askToLeave_38 : decode cX0_askToLeave 38 = .ok (.iload_n 1, 1) := by decide +kernel
theorem dX0_askToLeave_39 : decode cX0_askToLeave 39 = .ok (.invokevirtual 128, 3) := by decide +kernel
theorem dX0_askToLeave_42 : decode cX0_askToLeave 42 = .ok (.ireturn, 1) := by decide +kernel
theorem dX0_whyNot_0 : decode cX0_whyNot 0 = .ok (.aload_n 0, 1) := by decide +kernel
theorem dX0_whyNot_1 : decode cX0_whyNot 1 = .ok (.iload_n 1, 1) := by decide +kernel
theorem dX0_whyNot_2 : decode cX0_whyNot 2 = .ok (.invokevirtual 83, 3) := by decide +kernel
theorem dX0_whyNot_5 : decode cX0_whyNot 5 = .ok (.astore_n 3, 1) := by decide +kernel
theorem dX0_whyNot_6 : decode cX0_whyNot 6 = .ok (.aload_n 0, 1) := by decide +kernel
theorem dX0_whyNot_7 : decode cX0_whyNot 7 = .ok (.iload_n 2, 1) := by decide +kernel
theorem dX0_whyNot_8 : decode cX0_whyNot 8 = .ok (.invokevirtual 83, 3) := by decide +kernel
theorem dX0_whyNot_11 : decode cX0_whyNot 11 = .ok (.astore 4, 2) := by decide +kernel
theorem dX0_whyNot_13 : decode cX0_whyNot 13 = .ok (.aload_n 3, 1) := by decide +kernel
theorem dX0_whyNot_14 : decode cX0_whyNot 14 = .ok (.ifnull 8, 3) := by decide +kernel
theorem dX0_whyNot_17 : decode cX0_whyNot 17 = .ok (.aload 4, 2) := by decide +kernel
theorem dX0_whyNot_19 : decode cX0_whyNot 19 = .ok (.ifnonnull 5, 3) := by decide +kernel
theorem dX0_whyNot_22 : decode cX0_whyNot 22 = .ok (.iconst (-1), 1) := by decide +kernel
theorem dX0_whyNot_23 : decode cX0_whyNot 23 = .ok (.ireturn, 1) := by decide +kernel
theorem dX0_whyNot_24 : decode cX0_whyNot 24 = .ok (.iload_n 1, 1) := by decide +kernel
theorem dX0_whyNot_25 : decode cX0_whyNot 25 = .ok (.iload_n 2, 1) := by decide +kernel
theorem dX0_whyNot_26 : decode cX0_whyNot 26 = .ok (.if_icmp .ne 6, 3) := by decide +kernel
theorem dX0_whyNot_29 : decode cX0_whyNot 29 = .ok (.bipush (-2), 2) := by decide +kernel
theorem dX0_whyNot_31 : decode cX0_whyNot 31 = .ok (.ireturn, 1) := by decide +kernel
theorem dX0_whyNot_32 : decode cX0_whyNot 32 = .ok (.aload_n 3, 1) := by decide +kernel
theorem dX0_whyNot_33 : decode cX0_whyNot 33 = .ok (.getfield 63, 3) := by decide +kernel
theorem dX0_whyNot_36 : decode cX0_whyNot 36 = .ok (.ifCond .ne 5, 3) := by decide +kernel
theorem dX0_whyNot_39 : decode cX0_whyNot 39 = .ok (.iconst 1, 1) := by decide +kernel
theorem dX0_whyNot_40 : decode cX0_whyNot 40 = .ok (.ireturn, 1) := by decide +kernel
theorem dX0_whyNot_41 : decode cX0_whyNot 41 = .ok (.aload 4, 2) := by decide +kernel
theorem dX0_whyNot_43 : decode cX0_whyNot 43 = .ok (.getfield 63, 3) := by decide +kernel
theorem dX0_whyNot_46 : decode cX0_whyNot 46 = .ok (.ifCond .ne 5, 3) := by decide +kernel
theorem dX0_whyNot_49 : decode cX0_whyNot 49 = .ok (.iconst 2, 1) := by decide +kernel
theorem dX0_whyNot_50 : decode cX0_whyNot 50 = .ok (.ireturn, 1) := by decide +kernel
theorem dX0_whyNot_51 : decode cX0_whyNot 51 = .ok (.aload_n 3, 1) := by decide +kernel
theorem dX0_whyNot_52 : decode cX0_whyNot 52 = .ok (.getfield 93, 3) := by decide +kernel
theorem dX0_whyNot_55 : decode cX0_whyNot 55 = .ok (.ifCond .ne 11, 3) := by decide +kernel
theorem dX0_whyNot_58 : decode cX0_whyNot 58 = .ok (.aload 4, 2) := by decide +kernel
theorem dX0_whyNot_60 : decode cX0_whyNot 60 = .ok (.getfield 93, 3) := by decide +kernel
theorem dX0_whyNot_63 : decode cX0_whyNot 63 = .ok (.ifCond .eq 7, 3) := by decide +kernel
theorem dX0_whyNot_66 : decode cX0_whyNot 66 = .ok (.iconst 3, 1) := by decide +kernel
theorem dX0_whyNot_67 : decode cX0_whyNot 67 = .ok (.goto 4, 3) := by decide +kernel
theorem dX0_whyNot_70 : decode cX0_whyNot 70 = .ok (.iconst 0, 1) := by decide +kernel
theorem dX0_whyNot_71 : decode cX0_whyNot 71 = .ok (.ireturn, 1) := by decide +kernel
theorem dX0_sendWord_0 : decode cX0_sendWord 0 = .ok (.aload_n 0, 1) := by decide +kernel
theorem dX0_sendWord_1 : decode cX0_sendWord 1 = .ok (.iload_n 1, 1) := by decide +kernel
theorem dX0_sendWord_2 : decode cX0_sendWord 2 = .ok (.iload_n 2, 1) := by decide +kernel
theorem dX0_sendWord_3 : decode cX0_sendWord 3 = .ok (.invokevirtual 131, 3) := by decide +kernel
theorem dX0_sendWord_6 : decode cX0_sendWord 6 = .ok (.istore_n 3, 1) := by decide +kernel
theorem dX0_sendWord_7 : decode cX0_sendWord 7 = .ok (.iload_n 3, 1) := by decide +kernel
theorem dX0_sendWord_8 : decode cX0_sendWord 8 = .ok (.ifCond .ge 5, 3) := by decide +kernel
theorem dX0_sendWord_11 : decode cX0_sendWord 11 = .ok (.iload_n 3, 1) := by decide +kernel
theorem dX0_sendWord_12 : decode cX0_sendWord 12 = .ok (.ireturn, 1) := by decide +kernel
theorem dX0_sendWord_13 : decode cX0_sendWord 13 = .ok (.iload_n 3, 1) := by decide +kernel
theorem dX0_sendWord_14 : decode cX0_sendWord 14 = .ok (.ifCond .le 8, 3) := by decide +kernel
theorem dX0_sendWord_17 : decode cX0_sendWord 17 = .ok (.bipush (-5), 2) := by decide +kernel
theorem dX0_sendWord_19 : decode cX0_sendWord 19 = .ok (.goto 12, 3) := by decide +kernel
theorem dX0_sendWord_22 : decode cX0_sendWord 22 = .ok (.aload_n 0, 1) := by decide +kernel
theorem dX0_sendWord_23 : decode cX0_sendWord 23 = .ok (.getfield 33, 3) := by decide +kernel
theorem dX0_sendWord_26 : decode cX0_sendWord 26 = .ok (.iload_n 1, 1) := by decide +kernel
theorem dX0_sendWord_27 : decode cX0_sendWord 27 = .ok (.iload_n 2, 1) := by decide +kernel
theorem dX0_sendWord_28 : decode cX0_sendWord 28 = .ok (.invokevirtual 135, 3) := by decide +kernel
theorem dX0_sendWord_31 : decode cX0_sendWord 31 = .ok (.ireturn, 1) := by decide +kernel
theorem dX0_passTicks_0 : decode cX0_passTicks 0 = .ok (.iload_n 1, 1) := by decide +kernel
theorem dX0_passTicks_1 : decode cX0_passTicks 1 = .ok (.iconst 1, 1) := by decide +kernel
theorem dX0_passTicks_2 : decode cX0_passTicks 2 = .ok (.bipush 99, 2) := by decide +kernel
theorem dX0_passTicks_4 : decode cX0_passTicks 4 = .ok (.invokestatic 103, 3) := by decide +kernel
theorem dX0_passTicks_7 : decode cX0_passTicks 7 = .ok (.ifCond .ne 6, 3) := by decide +kernel
theorem dX0_passTicks_10 : decode cX0_passTicks 10 = .ok (.bipush (-2), 2) := by decide +kernel
theorem dX0_passTicks_12 : decode cX0_passTicks 12 = .ok (.ireturn, 1) := by decide +kernel
theorem dX0_passTicks_13 : decode cX0_passTicks 13 = .ok (.aload_n 0, 1) := by decide +kernel
theorem dX0_passTicks_14 : decode cX0_passTicks 14 = .ok (.getfield 54, 3) := by decide +kernel
theorem dX0_passTicks_17 : decode cX0_passTicks 17 = .ok (.iload_n 1, 1) := by decide +kernel
theorem dX0_passTicks_18 : decode cX0_passTicks 18 = .ok (.iadd, 1) := by decide +kernel
theorem dX0_passTicks_19 : decode cX0_passTicks 19 = .ok (.sipush 9999, 3) := by decide +kernel
theorem dX0_passTicks_22 : decode cX0_passTicks 22 = .ok (.if_icmp .le 6, 3) := by decide +kernel
theorem dX0_passTicks_25 : decode cX0_passTicks 25 = .ok (.bipush (-5), 2) := by decide +kernel
theorem dX0_passTicks_27 : decode cX0_passTicks 27 = .ok (.ireturn, 1) := by decide +kernel
theorem dX0_passTicks_28 : decode cX0_passTicks 28 = .ok (.aload_n 0, 1) := by decide +kernel
theorem dX0_passTicks_29 : decode cX0_passTicks 29 = .ok (.getfield 33, 3) := by decide +kernel
theorem dX0_passTicks_32 : decode cX0_passTicks 32 = .ok (.getfield 138, 3) := by decide +kernel
theorem dX0_passTicks_35 : decode cX0_passTicks 35 = .ok (.istore_n 2, 1) := by decide +kernel
theorem dX0_passTicks_36 : decode cX0_passTicks 36 = .ok (.iconst 0, 1) := by decide +kernel
theorem dX0_passTicks_37 : decode cX0_passTicks 37 = .ok (.istore_n 3, 1) := by decide +kernel
theorem dX0_passTicks_38 : decode cX0_passTicks 38 = .ok (.iload_n 3, 1) := by decide +kernel
theorem dX0_passTicks_39 : decode cX0_passTicks 39 = .ok (.iload_n 1, 1) := by decide +kernel
theorem dX0_passTicks_40 : decode cX0_passTicks 40 = .ok (.if_icmp .ge 13, 3) := by decide +kernel
theorem dX0_passTicks_43 : decode cX0_passTicks 43 = .ok (.aload_n 0, 1) := by decide +kernel
theorem dX0_passTicks_44 : decode cX0_passTicks 44 = .ok (.invokevirtual 141, 3) := by decide +kernel
theorem dX0_passTicks_47 : decode cX0_passTicks 47 = .ok (.iinc 3 1, 3) := by decide +kernel
theorem dX0_passTicks_50 : decode cX0_passTicks 50 = .ok (.goto (-12), 3) := by decide +kernel
theorem dX0_passTicks_53 : decode cX0_passTicks 53 = .ok (.aload_n 0, 1) := by decide +kernel
theorem dX0_passTicks_54 : decode cX0_passTicks 54 = .ok (.getfield 33, 3) := by decide +kernel
theorem dX0_passTicks_57 : decode cX0_passTicks 57 = .ok (.getfield 138, 3) := by decide +kernel
theorem dX0_passTicks_60 : decode cX0_passTicks 60 = .ok (.iload_n 2, 1) := by decide +kernel
theorem dX0_passTicks_61 : decode cX0_passTicks 61 = .ok (.isub, 1) := by decide +kernel
theorem dX0_passTicks_62 : decode cX0_passTicks 62 = .ok (.ireturn, 1) := by decide +kernel
theorem dX0_ticksUntilKnown_0 : decode cX0_ticksUntilKnown 0 = .ok (.aload_n 0, 1) := by decide +kernel
theorem dX0_ticksUntilKnown_1 : decode cX0_ticksUntilKnown 1 = .ok (.iload_n 1, 1) := by decide +kernel
theorem dX0_ticksUntilKnown_2 : decode cX0_ticksUntilKnown 2 = .ok (.invokevirtual 83, 3) := by decide +kernel
theorem dX0_ticksUntilKnown_5 : decode cX0_ticksUntilKnown 5 = .ok (.astore_n 2, 1) := by decide +kernel
theorem dX0_ticksUntilKnown_6 : decode cX0_ticksUntilKnown 6 = .ok (.aload_n 2, 1) := by decide +kernel
theorem dX0_ticksUntilKnown_7 : decode cX0_ticksUntilKnown 7 = .ok (.ifnonnull 5, 3) := by decide +kernel
theorem dX0_ticksUntilKnown_10 : decode cX0_ticksUntilKnown 10 = .ok (.iconst (-1), 1) := by decide +kernel
theorem dX0_ticksUntilKnown_11 : decode cX0_ticksUntilKnown 11 = .ok (.ireturn, 1) := by decide +kernel
theorem dX0_ticksUntilKnown_12 : decode cX0_ticksUntilKnown 12 = .ok (.iconst 0, 1) := by decide +kernel
theorem dX0_ticksUntilKnown_13 : decode cX0_ticksUntilKnown 13 = .ok (.istore_n 3, 1) := by decide +kernel
theorem dX0_ticksUntilKnown_14 : decode cX0_ticksUntilKnown 14 = .ok (.iload_n 3, 1) := by decide +kernel
theorem dX0_ticksUntilKnown_15 : decode cX0_ticksUntilKnown 15 = .ok (.sipush 200, 3) := by decide +kernel
theorem dX0_ticksUntilKnown_18 : decode cX0_ticksUntilKnown 18 = .ok (.if_icmp .gt 22, 3) := by decide +kernel
theorem dX0_ticksUntilKnown_21 : decode cX0_ticksUntilKnown 21 = .ok (.aload_n 2, 1) := by decide +kernel
theorem dX0_ticksUntilKnown_22 : decode cX0_ticksUntilKnown 22 = .ok (.getfield 63, 3) := by decide +kernel
theorem dX0_ticksUntilKnown_25 : decode cX0_ticksUntilKnown 25 = .ok (.ifCond .eq 5, 3) := by decide +kernel
theorem dX0_ticksUntilKnown_28 : decode cX0_ticksUntilKnown 28 = .ok (.iload_n 3, 1) := by decide +kernel
theorem dX0_ticksUntilKnown_29 : decode cX0_ticksUntilKnown 29 = .ok (.ireturn, 1) := by decide +kernel
theorem dX0_ticksUntilKnown_30 : decode cX0_ticksUntilKnown 30 = .ok (.aload_n 0, 1) := by decide +kernel
theorem dX0_ticksUntilKnown_31 : decode cX0_ticksUntilKnown 31 = .ok (.invokevirtual 141, 3) := by decide +kernel
theorem dX0_ticksUntilKnown_34 : decode cX0_ticksUntilKnown 34 = .ok (.iinc 3 1, 3) := by decide +kernel
theorem dX0_ticksUntilKnown_37 : decode cX0_ticksUntilKnown 37 = .ok (.goto (-23), 3) := by decide +kernel
theorem dX0_ticksUntilKnown_40 : decode cX0_ticksUntilKnown 40 = .ok (.bipush (-6), 2) := by decide +kernel
theorem dX0_ticksUntilKnown_42 : decode cX0_ticksUntilKnown 42 = .ok (.ireturn, 1) := by decide +kernel
theorem dX0_ticksUntilQuiet_0 : decode cX0_ticksUntilQuiet 0 = .ok (.iconst 0, 1) := by decide +kernel
theorem dX0_ticksUntilQuiet_1 : decode cX0_ticksUntilQuiet 1 = .ok (.istore_n 1, 1) := by decide +kernel
theorem dX0_ticksUntilQuiet_2 : decode cX0_ticksUntilQuiet 2 = .ok (.iload_n 1, 1) := by decide +kernel
theorem dX0_ticksUntilQuiet_3 : decode cX0_ticksUntilQuiet 3 = .ok (.sipush 200, 3) := by decide +kernel
theorem dX0_ticksUntilQuiet_6 : decode cX0_ticksUntilQuiet 6 = .ok (.if_icmp .gt 25, 3) := by decide +kernel
theorem dX0_ticksUntilQuiet_9 : decode cX0_ticksUntilQuiet 9 = .ok (.aload_n 0, 1) := by decide +kernel
theorem dX0_ticksUntilQuiet_10 : decode cX0_ticksUntilQuiet 10 = .ok (.getfield 33, 3) := by decide +kernel
theorem dX0_ticksUntilQuiet_13 : decode cX0_ticksUntilQuiet 13 = .ok (.invokevirtual 144, 3) := by decide +kernel
theorem dX0_ticksUntilQuiet_16 : decode cX0_ticksUntilQuiet 16 = .ok (.ifCond .ne 5, 3) := by decide +kernel
theorem dX0_ticksUntilQuiet_19 : decode cX0_ticksUntilQuiet 19 = .ok (.iload_n 1, 1) := by decide +kernel
theorem dX0_ticksUntilQuiet_20 : decode cX0_ticksUntilQuiet 20 = .ok (.ireturn, 1) := by decide +kernel
theorem dX0_ticksUntilQuiet_21 : decode cX0_ticksUntilQuiet 21 = .ok (.aload_n 0, 1) := by decide +kernel
theorem dX0_ticksUntilQuiet_22 : decode cX0_ticksUntilQuiet 22 = .ok (.invokevirtual 141, 3) := by decide +kernel
theorem dX0_ticksUntilQuiet_25 : decode cX0_ticksUntilQuiet 25 = .ok (.iinc 1 1, 3) := by decide +kernel
theorem dX0_ticksUntilQuiet_28 : decode cX0_ticksUntilQuiet 28 = .ok (.goto (-26), 3) := by decide +kernel
theorem dX0_ticksUntilQuiet_31 : decode cX0_ticksUntilQuiet 31 = .ok (.bipush (-6), 2) := by decide +kernel
theorem dX0_ticksUntilQuiet_33 : decode cX0_ticksUntilQuiet 33 = .ok (.ireturn, 1) := by decide +kernel
theorem dX0_hurtsUntilStanding_0 : decode cX0_hurtsUntilStanding 0 = .ok (.aload_n 0, 1) := by decide +kernel
theorem dX0_hurtsUntilStanding_1 : decode cX0_hurtsUntilStanding 1 = .ok (.iload_n 1, 1) := by decide +kernel
theorem dX0_hurtsUntilStanding_2 : decode cX0_hurtsUntilStanding 2 = .ok (.invokevirtual 83, 3) := by decide +kernel
theorem dX0_hurtsUntilStanding_5 : decode cX0_hurtsUntilStanding 5 = .ok (.astore_n 2, 1) := by decide +kernel
theorem dX0_hurtsUntilStanding_6 : decode cX0_hurtsUntilStanding 6 = .ok (.aload_n 2, 1) := by decide +kernel
theorem dX0_hurtsUntilStanding_7 : decode cX0_hurtsUntilStanding 7 = .ok (.ifnonnull 5, 3) := by decide +kernel
theorem dX0_hurtsUntilStanding_10 : decode cX0_hurtsUntilStanding 10 = .ok (.iconst (-1), 1) := by decide +kernel
theorem dX0_hurtsUntilStanding_11 : decode cX0_hurtsUntilStanding 11 = .ok (.ireturn, 1) := by decide +kernel
theorem dX0_hurtsUntilStanding_12 : decode cX0_hurtsUntilStanding 12 = .ok (.aload_n 0, 1) := by decide +kernel
theorem dX0_hurtsUntilStanding_13 : decode cX0_hurtsUntilStanding 13 = .ok (.getfield 33, 3) := by decide +kernel
theorem dX0_hurtsUntilStanding_16 : decode cX0_hurtsUntilStanding 16 = .ok (.getfield 148, 3) := by decide +kernel
theorem dX0_hurtsUntilStanding_19 : decode cX0_hurtsUntilStanding 19 = .ok (.istore_n 3, 1) := by decide +kernel
theorem dX0_hurtsUntilStanding_20 : decode cX0_hurtsUntilStanding 20 = .ok (.iconst 0, 1) := by decide +kernel
theorem dX0_hurtsUntilStanding_21 : decode cX0_hurtsUntilStanding 21 = .ok (.istore 4, 2) := by decide +kernel
theorem dX0_hurtsUntilStanding_23 : decode cX0_hurtsUntilStanding 23 = .ok (.iload 4, 2) := by decide +kernel
theorem dX0_hurtsUntilStanding_25 : decode cX0_hurtsUntilStanding 25 = .ok (.bipush 24, 2) := by decide +kernel
theorem dX0_hurtsUntilStanding_27 : decode cX0_hurtsUntilStanding 27 = .ok (.if_icmp .ge 20, 3) := by decide +kernel
theorem dX0_hurtsUntilStanding_30 : decode cX0_hurtsUntilStanding 30 = .ok (.aload_n 2, 1) := by decide +kernel
theorem dX0_hurtsUntilStanding_31 : decode cX0_hurtsUntilStanding 31 = .ok (.getfield 90, 3) := by decide +kernel
theorem dX0_hurtsUntilStanding_34 : decode cX0_hurtsUntilStanding 34 = .ok (.ifCond .eq 13, 3) := by decide +kernel
theorem dX0_hurtsUntilStanding_37 : decode cX0_hurtsUntilStanding 37 = .ok (.aload_n 0, 1) := by decide +kernel
theorem dX0_hurtsUntilStanding_38 : decode cX0_hurtsUntilStanding 38 = .ok (.invokevirtual 141, 3) := by decide +kernel
theorem dX0_hurtsUntilStanding_41 : decode cX0_hurtsUntilStanding 41 = .ok (.iinc 4 1, 3) := by decide +kernel
theorem dX0_hurtsUntilStanding_44 : decode cX0_hurtsUntilStanding 44 = .ok (.goto (-21), 3) := by decide +kernel
theorem dX0_hurtsUntilStanding_47 : decode cX0_hurtsUntilStanding 47 = .ok (.aload_n 0, 1) := by decide +kernel
theorem dX0_hurtsUntilStanding_48 : decode cX0_hurtsUntilStanding 48 = .ok (.getfield 33, 3) := by decide +kernel
theorem dX0_hurtsUntilStanding_51 : decode cX0_hurtsUntilStanding 51 = .ok (.getfield 148, 3) := by decide +kernel
theorem dX0_hurtsUntilStanding_54 : decode cX0_hurtsUntilStanding 54 = .ok (.iload_n 3, 1) := by decide +kernel
theorem dX0_hurtsUntilStanding_55 : decode cX0_hurtsUntilStanding 55 = .ok (.isub, 1) := by decide +kernel
theorem dX0_hurtsUntilStanding_56 : decode cX0_hurtsUntilStanding 56 = .ok (.ireturn, 1) := by decide +kernel
theorem dX0_tick_0 : decode cX0_tick 0 = .ok (.aload_n 0, 1) := by decide +kernel
theorem dX0_tick_1 : decode cX0_tick 1 = .ok (.invokevirtual 151, 3) := by decide +kernel
theorem dX0_tick_4 : decode cX0_tick 4 = .ok (.istore_n 1, 1) := by decide +kernel
theorem dX0_tick_5 : decode cX0_tick 5 = .ok (.aload_n 0, 1) := by decide +kernel
theorem dX0_tick_6 : decode cX0_tick 6 = .ok (.invokevirtual 154, 3) := by decide +kernel
theorem dX0_tick_9 : decode cX0_tick 9 = .ok (.aload_n 0, 1) := by decide +kernel
theorem dX0_tick_10 : decode cX0_tick 10 = .ok (.invokevirtual 157, 3) := by decide +kernel
theorem dX0_tick_13 : decode cX0_tick 13 = .ok (.iload_n 1, 1) := by decide +kernel
theorem dX0_tick_14 : decode cX0_tick 14 = .ok (.ifCond .eq 29, 3) := by decide +kernel
theorem dX0_tick_17 : decode cX0_tick 17 = .ok (.aload_n 0, 1) := by decide +kernel
theorem dX0_tick_18 : decode cX0_tick 18 = .ok (.dup, 1) := by decide +kernel
theorem dX0_tick_19 : decode cX0_tick 19 = .ok (.getfield 57, 3) := by decide +kernel
theorem dX0_tick_22 : decode cX0_tick 22 = .ok (.iconst 1, 1) := by decide +kernel
theorem dX0_tick_23 : decode cX0_tick 23 = .ok (.iadd, 1) := by decide +kernel
theorem dX0_tick_24 : decode cX0_tick 24 = .ok (.putfield 57, 3) := by decide +kernel
theorem dX0_tick_27 : decode cX0_tick 27 = .ok (.aload_n 0, 1) := by decide +kernel
theorem dX0_tick_28 : decode cX0_tick 28 = .ok (.getfield 33, 3) := by decide +kernel
theorem dX0_tick_31 : decode cX0_tick 31 = .ok (.aload_n 0, 1) := by decide +kernel
theorem dX0_tick_32 : decode cX0_tick 32 = .ok (.getfield 18, 3) := by decide +kernel
theorem dX0_tick_35 : decode cX0_tick 35 = .ok (.iconst 2, 1) := by decide +kernel
theorem dX0_tick_36 : decode cX0_tick 36 = .ok (.iaload, 1) := by decide +kernel
theorem dX0_tick_37 : decode cX0_tick 37 = .ok (.invokevirtual 160, 3) := by decide +kernel
theorem dX0_tick_40 : decode cX0_tick 40 = .ok (.goto 10, 3) := by decide +kernel
theorem dX0_tick_43 : decode cX0_tick 43 = .ok (.aload_n 0, 1) := by decide +kernel
theorem dX0_tick_44 : decode cX0_tick 44 = .ok (.getfield 33, 3) := by decide +kernel
theorem dX0_tick_47 : decode cX0_tick 47 = .ok (.invokevirtual 164, 3) := by decide +kernel
theorem dX0_tick_50 : decode cX0_tick 50 = .ok (.aload_n 0, 1) := by decide +kernel
theorem dX0_tick_51 : decode cX0_tick 51 = .ok (.getfield 33, 3) := by decide +kernel
theorem dX0_tick_54 : decode cX0_tick 54 = .ok (.getfield 167, 3) := by decide +kernel
theorem dX0_tick_57 : decode cX0_tick 57 = .ok (.bipush (-6), 2) := by decide +kernel
theorem dX0_tick_59 : decode cX0_tick 59 = .ok (.if_icmp .ne 27, 3) := by decide +kernel
theorem dX0_tick_62 : decode cX0_tick 62 = .ok (.aload_n 0, 1) := by decide +kernel
theorem dX0_tick_63 : decode cX0_tick 63 = .ok (.invokevirtual 170, 3) := by decide +kernel
theorem dX0_tick_66 : decode cX0_tick 66 = .ok (.ifCond .ne 20, 3) := by decide +kernel
theorem dX0_tick_69 : decode cX0_tick 69 = .ok (.aload_n 0, 1) := by decide +kernel
theorem dX0_tick_70 : decode cX0_tick 70 = .ok (.getfield 33, 3) := by decide +kernel
theorem dX0_tick_73 : decode cX0_tick 73 = .ok (.aload_n 0, 1) := by decide +kernel
theorem dX0_tick_74 : decode cX0_tick 74 = .ok (.invokevirtual 173, 3) := by decide +kernel
theorem dX0_tick_77 : decode cX0_tick 77 = .ok (.aload_n 0, 1) := by decide +kernel
theorem dX0_tick_78 : decode cX0_tick 78 = .ok (.getfield 18, 3) := by decide +kernel
theorem dX0_tick_81 : decode cX0_tick 81 = .ok (.iconst 2, 1) := by decide +kernel
theorem dX0_tick_82 : decode cX0_tick 82 = .ok (.iaload, 1) := by decide +kernel
theorem dX0_tick_83 : decode cX0_tick 83 = .ok (.invokevirtual 176, 3) := by decide +kernel
theorem dX0_tick_86 : decode cX0_tick 86 = .ok (.aload_n 0, 1) := by decide +kernel
theorem dX0_tick_87 : decode cX0_tick 87 = .ok (.dup, 1) := by decide +kernel
theorem dX0_tick_88 : decode cX0_tick 88 = .ok (.getfield 54, 3) := by decide +kernel
theorem dX0_tick_91 : decode cX0_tick 91 = .ok (.iconst 1, 1) := by decide +kernel
theorem dX0_tick_92 : decode cX0_tick 92 = .ok (.iadd, 1) := by decide +kernel
theorem dX0_tick_93 : decode cX0_tick 93 = .ok (.putfield 54, 3) := by decide +kernel
theorem dX0_tick_96 : decode cX0_tick 96 = .ok (.return_, 1) := by decide +kernel
theorem dX0_moveBoards_0 : decode cX0_moveBoards 0 = .ok (.iconst 0, 1) := by decide +kernel
theorem dX0_moveBoards_1 : decode cX0_moveBoards 1 = .ok (.istore_n 1, 1) := by decide +kernel
theorem dX0_moveBoards_2 : decode cX0_moveBoards 2 = .ok (.iconst 0, 1) := by decide +kernel
theorem dX0_moveBoards_3 : decode cX0_moveBoards 3 = .ok (.istore_n 2, 1) := by decide +kernel
theorem dX0_moveBoards_4 : decode cX0_moveBoards 4 = .ok (.iload_n 2, 1) := by decide +kernel
theorem dX0_moveBoards_5 : decode cX0_moveBoards 5 = .ok (.iconst 5, 1) := by decide +kernel
theorem dX0_moveBoards_6 : decode cX0_moveBoards 6 = .ok (.if_icmp .ge 32, 3) := by decide +kernel
theorem dX0_moveBoards_9 : decode cX0_moveBoards 9 = .ok (.aload_n 0, 1) := by decide +kernel
theorem dX0_moveBoards_10 : decode cX0_moveBoards 10 = .ok (.aload_n 0, 1) := by decide +kernel
theorem dX0_moveBoards_11 : decode cX0_moveBoards 11 = .ok (.iload_n 2, 1) := by decide +kernel
theorem dX0_moveBoards_12 : decode cX0_moveBoards 12 = .ok (.invokevirtual 121, 3) := by decide +kernel
theorem dX0_moveBoards_15 : decode cX0_moveBoards 15 = .ok (.invokevirtual 83, 3) := by decide +kernel
theorem dX0_moveBoards_18 : decode cX0_moveBoards 18 = .ok (.astore_n 3, 1) := by decide +kernel
theorem dX0_moveBoards_19 : decode cX0_moveBoards 19 = .ok (.aload_n 3, 1) := by decide +kernel
theorem dX0_moveBoards_20 : decode cX0_moveBoards 20 = .ok (.ifnull 12, 3) := by decide +kernel
theorem dX0_moveBoards_23 : decode cX0_moveBoards 23 = .ok (.aload_n 3, 1) := by decide +kernel
theorem dX0_moveBoards_24 : decode cX0_moveBoards 24 = .ok (.invokevirtual 179, 3) := by decide +kernel
theorem dX0_moveBoards_27 : decode cX0_moveBoards 27 = .ok (.ifCond .eq 5, 3) := by decide +kernel
theorem dX0_moveBoards_30 : decode cX0_moveBoards 30 = .ok (.iconst 1, 1) := by decide +kernel
theorem dX0_moveBoards_31 : decode cX0_moveBoards 31 = .ok (.istore_n 1, 1) := by decide +kernel
theorem dX0_moveBoards_32 : decode cX0_moveBoards 32 = .ok (.iinc 2 1, 3) := by decide +kernel
theorem dX0_moveBoards_35 : decode cX0_moveBoards 35 = .ok (.goto (-31), 3) := by decide +kernel
theorem dX0_moveBoards_38 : decode cX0_moveBoards 38 = .ok (.iload_n 1, 1) := by decide +kernel
theorem dX0_moveBoards_39 : decode cX0_moveBoards 39 = .ok (.ireturn, 1) := by decide +kernel
theorem dX0_powerBoards_0 : decode cX0_powerBoards 0 = .ok (.iconst 0, 1) := by decide +kernel
theorem dX0_powerBoards_1 : decode cX0_powerBoards 1 = .ok (.istore_n 1, 1) := by decide +kernel
theorem dX0_powerBoards_2 : decode cX0_powerBoards 2 = .ok (.iload_n 1, 1) := by decide +kernel
theorem dX0_powerBoards_3 : decode cX0_powerBoards 3 = .ok (.iconst 5, 1) := by decide +kernel
theorem dX0_powerBoards_4 : decode cX0_powerBoards 4 = .ok (.if_icmp .ge 28, 3) := by decide +kernel
theorem dX0_powerBoards_7 : decode cX0_powerBoards 7 = .ok (.aload_n 0, 1) := by decide +kernel
theorem dX0_powerBoards_8 : decode cX0_powerBoards 8 = .ok (.aload_n 0, 1) := by decide +kernel
theorem dX0_powerBoards_9 : decode cX0_powerBoards 9 = .ok (.iload_n 1, 1) := by decide +kernel
theorem dX0_powerBoards_10 : decode cX0_powerBoards 10 = .ok (.invokevirtual 121, 3) := by decide +kernel
theorem dX0_powerBoards_13 : decode cX0_powerBoards 13 = .ok (.invokevirtual 83, 3) := by decide +kernel
theorem dX0_powerBoards_16 : decode cX0_powerBoards 16 = .ok (.astore_n 2, 1) := by decide +kernel
theorem dX0_powerBoards_17 : decode cX0_powerBoards 17 = .ok (.aload_n 2, 1) := by decide +kernel
theorem dX0_powerBoards_18 : decode cX0_powerBoards 18 = .ok (.ifnull 8, 3) := by decide +kernel
theorem dX0_powerBoards_21 : decode cX0_powerBoards 21 = .ok (.aload_n 0, 1) := by decide +kernel
theorem dX0_powerBoards_22 : decode cX0_powerBoards 22 = .ok (.aload_n 2, 1) := by decide +kernel
theorem dX0_powerBoards_23 : decode cX0_powerBoards 23 = .ok (.invokevirtual 182, 3) := by decide +kernel
theorem dX0_powerBoards_26 : decode cX0_powerBoards 26 = .ok (.iinc 1 1, 3) := by decide +kernel
theorem dX0_powerBoards_29 : decode cX0_powerBoards 29 = .ok (.goto (-27), 3) := by decide +kernel
theorem dX0_powerBoards_32 : decode cX0_powerBoards 32 = .ok (.return_, 1) := by decide +kernel
theorem dX0_powerBoard_0 : decode cX0_powerBoard 0 = .ok (.aload_n 1, 1) := by decide +kernel
theorem dX0_powerBoard_1 : decode cX0_powerBoard 1 = .ok (.bipush 8, 2) := by decide +kernel
theorem dX0_powerBoard_3 : decode cX0_powerBoard 3 = .ok (.invokevirtual 185, 3) := by decide +kernel
theorem dX0_powerBoard_6 : decode cX0_powerBoard 6 = .ok (.ifCond .ne 9, 3) := by decide +kernel
theorem dX0_powerBoard_9 : decode cX0_powerBoard 9 = .ok (.aload_n 1, 1) := by decide +kernel
theorem dX0_powerBoard_10 : decode cX0_powerBoard 10 = .ok (.iconst 0, 1) := by decide +kernel
theorem dX0_powerBoard_11 : decode cX0_powerBoard 11 = .ok (.putfield 73, 3) := by decide +kernel
theorem dX0_powerBoard_14 : decode cX0_powerBoard 14 = .ok (.return_, 1) := by decide +kernel
theorem dX0_powerBoard_15 : decode cX0_powerBoard 15 = .ok (.aload_n 1, 1) := by decide +kernel
theorem dX0_powerBoard_16 : decode cX0_powerBoard 16 = .ok (.getfield 73, 3) := by decide +kernel
theorem dX0_powerBoard_19 : decode cX0_powerBoard 19 = .ok (.istore_n 2, 1) := by decide +kernel
theorem dX0_powerBoard_20 : decode cX0_powerBoard 20 = .ok (.aload_n 1, 1) := by decide +kernel
theorem dX0_powerBoard_21 : decode cX0_powerBoard 21 = .ok (.bipush 100, 2) := by decide +kernel
theorem dX0_powerBoard_23 : decode cX0_powerBoard 23 = .ok (.iload_n 2, 1) := by decide +kernel
theorem dX0_powerBoard_24 : decode cX0_powerBoard 24 = .ok (.aload_n 0, 1) := by decide +kernel
theorem dX0_powerBoard_25 : decode cX0_powerBoard 25 = .ok (.getfield 18, 3) := by decide +kernel
theorem dX0_powerBoard_28 : decode cX0_powerBoard 28 = .ok (.iconst 1, 1) := by decide +kernel
theorem dX0_powerBoard_29 : decode cX0_powerBoard 29 = .ok (.iaload, 1) := by decide +kernel
theorem dX0_powerBoard_30 : decode cX0_powerBoard 30 = .ok (.iadd, 1) := by decide +kernel
theorem dX0_powerBoard_31 : decode cX0_powerBoard 31 = .ok (.invokestatic 188, 3) := by decide +kernel
theorem dX0_powerBoard_34 : decode cX0_powerBoard 34 = .ok (.putfield 73, 3) := by decide +kernel
theorem dX0_powerBoard_37 : decode cX0_powerBoard 37 = .ok (.aload_n 1, 1) := by decide +kernel
theorem dX0_powerBoard_38 : decode cX0_powerBoard 38 = .ok (.getfield 73, 3) := by decide +kernel
theorem dX0_powerBoard_41 : decode cX0_powerBoard 41 = .ok (.iload_n 2, 1) := by decide +kernel
theorem dX0_powerBoard_42 : decode cX0_powerBoard 42 = .ok (.if_icmp .le 21, 3) := by decide +kernel
theorem dX0_powerBoard_45 : decode cX0_powerBoard 45 = .ok (.aload_n 0, 1) := by decide +kernel
theorem dX0_powerBoard_46 : decode cX0_powerBoard 46 = .ok (.invokevirtual 193, 3) := by decide +kernel
theorem dX0_powerBoard_49 : decode cX0_powerBoard 49 = .ok (.aload_n 0, 1) := by decide +kernel
theorem dX0_powerBoard_50 : decode cX0_powerBoard 50 = .ok (.getfield 18, 3) := by decide +kernel
theorem dX0_powerBoard_53 : decode cX0_powerBoard 53 = .ok (.iconst 4, 1) := by decide +kernel
theorem dX0_powerBoard_54 : decode cX0_powerBoard 54 = .ok (.iaload, 1) := by decide +kernel
theorem dX0_powerBoard_55 : decode cX0_powerBoard 55 = .ok (.if_icmp .le 8, 3) := by decide +kernel
theorem dX0_powerBoard_58 : decode cX0_powerBoard 58 = .ok (.aload_n 1, 1) := by decide +kernel
theorem dX0_powerBoard_59 : decode cX0_powerBoard 59 = .ok (.iload_n 2, 1) := by decide +kernel
theorem dX0_powerBoard_60 : decode cX0_powerBoard 60 = .ok (.putfield 73, 3) := by decide +kernel
theorem dX0_powerBoard_63 : decode cX0_powerBoard 63 = .ok (.return_, 1) := by decide +kernel
theorem dX0_greetBoards_0 : decode cX0_greetBoards 0 = .ok (.iconst 0, 1) := by decide +kernel
theorem dX0_greetBoards_1 : decode cX0_greetBoards 1 = .ok (.istore_n 1, 1) := by decide +kernel
theorem dX0_greetBoards_2 : decode cX0_greetBoards 2 = .ok (.iload_n 1, 1) := by decide +kernel
theorem dX0_greetBoards_3 : decode cX0_greetBoards 3 = .ok (.aload_n 0, 1) := by decide +kernel
theorem dX0_greetBoards_4 : decode cX0_greetBoards 4 = .ok (.getfield 43, 3) := by decide +kernel
theorem dX0_greetBoards_7 : decode cX0_greetBoards 7 = .ok (.if_icmp .ge 70, 3) := by decide +kernel
theorem dX0_greetBoards_10 : decode cX0_greetBoards 10 = .ok (.aload_n 0, 1) := by decide +kernel
theorem dX0_greetBoards_11 : decode cX0_greetBoards 11 = .ok (.getfield 25, 3) := by decide +kernel
theorem dX0_greetBoards_14 : decode cX0_greetBoards 14 = .ok (.iload_n 1, 1) := by decide +kernel
theorem dX0_greetBoards_15 : decode cX0_greetBoards 15 = .ok (.aaload, 1) := by decide +kernel
theorem dX0_greetBoards_16 : decode cX0_greetBoards 16 = .ok (.bipush 20, 2) := by decide +kernel
theorem dX0_greetBoards_18 : decode cX0_greetBoards 18 = .ok (.invokevirtual 185, 3) := by decide +kernel
theorem dX0_greetBoards_21 : decode cX0_greetBoards 21 = .ok (.ifCond .eq 21, 3) := by decide +kernel
theorem dX0_greetBoards_24 : decode cX0_greetBoards 24 = .ok (.aload_n 0, 1) := by decide +kernel
theorem dX0_greetBoards_25 : decode cX0_greetBoards 25 = .ok (.getfield 25, 3) := by decide +kernel
theorem dX0_greetBoards_28 : decode cX0_greetBoards 28 = .ok (.iload_n 1, 1) := by decide +kernel
theorem dX0_greetBoards_29 : decode cX0_greetBoards 29 = .ok (.aaload, 1) := by decide +kernel
theorem dX0_greetBoards_30 : decode cX0_greetBoards 30 = .ok (.aload_n 0, 1) := by decide +kernel
theorem dX0_greetBoards_31 : decode cX0_greetBoards 31 = .ok (.getfield 18, 3) := by decide +kernel
theorem dX0_greetBoards_34 : decode cX0_greetBoards 34 = .ok (.iconst 3, 1) := by decide +kernel
theorem dX0_greetBoards_35 : decode cX0_greetBoards 35 = .ok (.iaload, 1) := by decide +kernel
theorem dX0_greetBoards_36 : decode cX0_greetBoards 36 = .ok (.invokevirtual 196, 3) := by decide +kernel
theorem dX0_greetBoards_39 : decode cX0_greetBoards 39 = .ok (.goto 32, 3) := by decide +kernel
theorem dX0_greetBoards_42 : decode cX0_greetBoards 42 = .ok (.aload_n 0, 1) := by decide +kernel
theorem dX0_greetBoards_43 : decode cX0_greetBoards 43 = .ok (.getfield 25, 3) := by decide +kernel
theorem dX0_greetBoards_46 : decode cX0_greetBoards 46 = .ok (.iload_n 1, 1) := by decide +kernel
theorem dX0_greetBoards_47 : decode cX0_greetBoards 47 = .ok (.aaload, 1) := by decide +kernel
theorem dX0_greetBoards_48 : decode cX0_greetBoards 48 = .ok (.getfield 63, 3) := by decide +kernel
theorem dX0_greetBoards_51 : decode cX0_greetBoards 51 = .ok (.ifCond .eq 11, 3) := by decide +kernel
theorem dX0_greetBoards_54 : decode cX0_greetBoards 54 = .ok (.aload_n 0, 1) := by decide +kernel
theorem dX0_greetBoards_55 : decode cX0_greetBoards 55 = .ok (.getfield 33, 3) := by decide +kernel
theorem dX0_greetBoards_58 : decode cX0_greetBoards 58 = .ok (.iload_n 1, 1) := by decide +kernel
theorem dX0_greetBoards_59 : decode cX0_greetBoards 59 = .ok (.invokevirtual 199, 3) := by decide +kernel
theorem dX0_greetBoards_62 : decode cX0_greetBoards 62 = .ok (.aload_n 0, 1) := by decide +kernel
theorem dX0_greetBoards_63 : decode cX0_greetBoards 63 = .ok (.getfield 25, 3) := by decide +kernel
theorem dX0_greetBoards_66 : decode cX0_greetBoards 66 = .ok (.iload_n 1, 1) := by decide +kernel
theorem dX0_greetBoards_67 : decode cX0_greetBoards 67 = .ok (.aaload, 1) := by decide +kernel
theorem dX0_greetBoards_68 : decode cX0_greetBoards 68 = .ok (.invokevirtual 202, 3) := by decide +kernel
theorem dX0_greetBoards_71 : decode cX0_greetBoards 71 = .ok (.iinc 1 1, 3) := by decide +kernel
theorem dX0_greetBoards_74 : decode cX0_greetBoards 74 = .ok (.goto (-72), 3) := by decide +kernel
theorem dX0_greetBoards_77 : decode cX0_greetBoards 77 = .ok (.return_, 1) := by decide +kernel
theorem dX1_init_0 : decode cX1_init 0 = .ok (.aload_n 0, 1) := by decide +kernel
theorem dX1_init_1 : decode cX1_init 1 = .ok (.invokespecial 3, 3) := by decide +kernel
theorem dX1_init_4 : decode cX1_init 4 = .ok (.return_, 1) := by decide +kernel
theorem dX1_begin_0 : decode cX1_begin 0 = .ok (.aload_n 0, 1) := by decide +kernel
theorem dX1_begin_1 : decode cX1_begin 1 = .ok (.iload_n 1, 1) := by decide +kernel
theorem dX1_begin_2 : decode cX1_begin 2 = .ok (.putfield 9, 3) := by decide +kernel
theorem dX1_begin_5 : decode cX1_begin 5 = .ok (.aload_n 0, 1) := by decide +kernel
theorem dX1_begin_6 : decode cX1_begin 6 = .ok (.iload_n 2, 1) := by decide +kernel
theorem dX1_begin_7 : decode cX1_begin 7 = .ok (.putfield 15, 3) := by decide +kernel
theorem dX1_begin_10 : decode cX1_begin 10 = .ok (.aload_n 0, 1) := by decide +kernel
theorem dX1_begin_11 : decode cX1_begin 11 = .ok (.bipush (-6), 2) := by decide +kernel
theorem dX1_begin_13 : decode cX1_begin 13 = .ok (.putfield 18, 3) := by decide +kernel
theorem dX1_begin_16 : decode cX1_begin 16 = .ok (.aload_n 0, 1) := by decide +kernel
theorem dX1_begin_17 : decode cX1_begin 17 = .ok (.iconst 0, 1) := by decide +kernel
theorem dX1_begin_18 : decode cX1_begin 18 = .ok (.putfield 21, 3) := by decide +kernel
theorem dX1_begin_21 : decode cX1_begin 21 = .ok (.aload_n 0, 1) := by decide +kernel
theorem dX1_begin_22 : decode cX1_begin 22 = .ok (.iconst 0, 1) := by decide +kernel
theorem dX1_begin_23 : decode cX1_begin 23 = .ok (.putfield 24, 3) := by decide +kernel
theorem dX1_begin_26 : decode cX1_begin 26 = .ok (.aload_n 0, 1) := by decide +kernel
theorem dX1_begin_27 : decode cX1_begin 27 = .ok (.iconst 0, 1) := by decide +kernel
theorem dX1_begin_28 : decode cX1_begin 28 = .ok (.putfield 27, 3) := by decide +kernel
theorem dX1_begin_31 : decode cX1_begin 31 = .ok (.aload_n 0, 1) := by decide +kernel
theorem dX1_begin_32 : decode cX1_begin 32 = .ok (.iconst 0, 1) := by decide +kernel
theorem dX1_begin_33 : decode cX1_begin 33 = .ok (.putfield 30, 3) := by decide +kernel
theorem dX1_begin_36 : decode cX1_begin 36 = .ok (.aload_n 0, 1) := by decide +kernel
theorem dX1_begin_37 : decode cX1_begin 37 = .ok (.iconst 0, 1) := by decide +kernel
theorem dX1_begin_38 : decode cX1_begin 38 = .ok (.putfield 34, 3) := by decide +kernel
theorem dX1_begin_41 : decode cX1_begin 41 = .ok (.aload_n 0, 1) := by decide +kernel
theorem dX1_begin_42 : decode cX1_begin 42 = .ok (.iconst 0, 1) := by decide +kernel
theorem dX1_begin_43 : decode cX1_begin 43 = .ok (.putfield 37, 3) := by decide +kernel
theorem dX1_begin_46 : decode cX1_begin 46 = .ok (.aload_n 0, 1) := by decide +kernel
theorem dX1_begin_47 : decode cX1_begin 47 = .ok (.iconst 0, 1) := by decide +kernel
theorem dX1_begin_48 : decode cX1_begin 48 = .ok (.putfield 40, 3) := by decide +kernel
theorem dX1_begin_51 : decode cX1_begin 51 = .ok (.return_, 1) := by decide +kernel
theorem dX1_copyFrom_0 : decode cX1_copyFrom 0 = .ok (.aload_n 0, 1) := by decide +kernel
theorem dX1_copyFrom_1 : decode cX1_copyFrom 1 = .ok (.aload_n 1, 1) := by decide +kernel
theorem dX1_copyFrom_2 : decode cX1_copyFrom 2 = .ok (.getfield 9, 3) := by decide +kernel
theorem dX1_copyFrom_5 : decode cX1_copyFrom 5 = .ok (.putfield 9, 3) := by decide +kernel
theorem dX1_copyFrom_8 : decode cX1_copyFrom 8 = .ok (.aload_n 0, 1) := by decide +kernel
theorem dX1_copyFrom_9 : decode cX1_copyFrom 9 = .ok (.aload_n 1, 1) := by decide +kernel
theorem dX1_copyFrom_10 : decode cX1_copyFrom 10 = .ok (.getfield 15, 3) := by decide +kernel
theorem dX1_copyFrom_13 : decode cX1_copyFrom 13 = .ok (.putfield 15, 3) := by decide +kernel
theorem dX1_copyFrom_16 : decode cX1_copyFrom 16 = .ok (.aload_n 0, 1) := by decide +kernel
theorem dX1_copyFrom_17 : decode cX1_copyFrom 17 = .ok (.aload_n 1, 1) := by decide +kernel
theorem dX1_copyFrom_18 : decode cX1_copyFrom 18 = .ok (.getfield 18, 3) := by decide +kernel
theorem dX1_copyFrom_21 : decode cX1_copyFrom 21 = .ok (.putfield 18, 3) := by decide +kernel
theorem dX1_copyFrom_24 : decode cX1_copyFrom 24 = .ok (.aload_n 0, 1) := by decide +kernel
theorem dX1_copyFrom_25 : decode cX1_copyFrom 25 = .ok (.aload_n 1, 1) := by decide +kernel
theorem dX1_copyFrom_26 : decode cX1_copyFrom 26 = .ok (.getfield 21, 3) := by decide +kernel
theorem dX1_copyFrom_29 : decode cX1_copyFrom 29 = .ok (.putfield 21, 3) := by decide +kernel
theorem dX1_copyFrom_32 : decode cX1_copyFrom 32 = .ok (.aload_n 0, 1) := by decide +kernel
theorem dX1_copyFrom_33 : decode cX1_copyFrom 33 = .ok (.aload_n 1, 1) := by decide +kernel
theorem dX1_copyFrom_34 : decode cX1_copyFrom 34 = .ok (.getfield 24, 3) := by decide +kernel
theorem dX1_copyFrom_37 : decode cX1_copyFrom 37 = .ok (.putfield 24, 3) := by decide +kernel
theorem dX1_copyFrom_40 : decode cX1_copyFrom 40 = .ok (.aload_n 0, 1) := by decide +kernel
theorem dX1_copyFrom_41 : decode cX1_copyFrom 41 = .ok (.aload_n 1, 1) := by decide +kernel
theorem dX1_copyFrom_42 : decode cX1_copyFrom 42 = .ok (.getfield 27, 3) := by decide +kernel
theorem dX1_copyFrom_45 : decode cX1_copyFrom 45 = .ok (.putfield 27, 3) := by decide +kernel
theorem dX1_copyFrom_48 : decode cX1_copyFrom 48 = .ok (.aload_n 0, 1) := by decide +kernel
theorem dX1_copyFrom_49 : decode cX1_copyFrom 49 = .ok (.aload_n 1, 1) := by decide +kernel
theorem dX1_copyFrom_50 : decode cX1_copyFrom 50 = .ok (.getfield 30, 3) := by decide +kernel
theorem dX1_copyFrom_53 : decode cX1_copyFrom 53 = .ok (.putfield 30, 3) := by decide +kernel
theorem dX1_copyFrom_56 : decode cX1_copyFrom 56 = .ok (.aload_n 0, 1) := by decide +kernel
theorem dX1_copyFrom_57 : decode cX1_copyFrom 57 = .ok (.aload_n 1, 1) := by decide +kernel
theorem dX1_copyFrom_58 : decode cX1_copyFrom 58 = .ok (.getfield 34, 3) := by decide +kernel
theorem dX1_copyFrom_61 : decode cX1_copyFrom 61 = .ok (.putfield 34, 3) := by decide +kernel
theorem dX1_copyFrom_64 : decode cX1_copyFrom 64 = .ok (.aload_n 0, 1) := by decide +kernel
theorem dX1_copyFrom_65 : decode cX1_copyFrom 65 = .ok (.aload_n 1, 1) := by decide +kernel
theorem dX1_copyFrom_66 : decode cX1_copyFrom 66 = .ok (.getfield 37, 3) := by decide +kernel
theorem dX1_copyFrom_69 : decode cX1_copyFrom 69 = .ok (.putfield 37, 3) := by decide +kernel
theorem dX1_copyFrom_72 : decode cX1_copyFrom 72 = .ok (.aload_n 0, 1) := by decide +kernel
theorem dX1_copyFrom_73 : decode cX1_copyFrom 73 = .ok (.aload_n 1, 1) := by decide +kernel
theorem dX1_copyFrom_74 : decode cX1_copyFrom 74 = .ok (.getfield 40, 3) := by decide +kernel
theorem dX1_copyFrom_77 : decode cX1_copyFrom 77 = .ok (.putfield 40, 3) := by decide +kernel
theorem dX1_copyFrom_80 : decode cX1_copyFrom 80 = .ok (.return_, 1) := by decide +kernel
theorem dX1_touches_0 : decode cX1_touches 0 = .ok (.aload_n 0, 1) := by decide +kernel
theorem dX1_touches_1 : decode cX1_touches 1 = .ok (.getfield 21, 3) := by decide +kernel
theorem dX1_touches_4 : decode cX1_touches 4 = .ok (.iload_n 1, 1) := by decide +kernel
theorem dX1_touches_5 : decode cX1_touches 5 = .ok (.if_icmp .lt 7, 3) := by decide +kernel
theorem dX1_touches_8 : decode cX1_touches 8 = .ok (.iconst 1, 1) := by decide +kernel
theorem dX1_touches_9 : decode cX1_touches 9 = .ok (.goto 4, 3) := by decide +kernel
theorem dX1_touches_12 : decode cX1_touches 12 = .ok (.iconst 0, 1) := by decide +kernel
theorem dX1_touches_13 : decode cX1_touches 13 = .ok (.ireturn, 1) := by decide +kernel
theorem dX1_holdsBus_0 : decode cX1_holdsBus 0 = .ok (.aload_n 0, 1) := by decide +kernel
theorem dX1_holdsBus_1 : decode cX1_holdsBus 1 = .ok (.getfield 24, 3) := by decide +kernel
theorem dX1_holdsBus_4 : decode cX1_holdsBus 4 = .ok (.ifCond .le 27, 3) := by decide +kernel
theorem dX1_holdsBus_7 : decode cX1_holdsBus 7 = .ok (.aload_n 0, 1) := by decide +kernel
theorem dX1_holdsBus_8 : decode cX1_holdsBus 8 = .ok (.bipush 8, 2) := by decide +kernel
theorem dX1_holdsBus_10 : decode cX1_holdsBus 10 = .ok (.invokevirtual 43, 3) := by decide +kernel
theorem dX1_holdsBus_13 : decode cX1_holdsBus 13 = .ok (.ifCond .eq 16, 3) := by decide +kernel
theorem dX1_holdsBus_16 : decode cX1_holdsBus 16 = .ok (.aload_n 0, 1) := by decide +kernel
theorem dX1_holdsBus_17 : decode cX1_holdsBus 17 = .ok (.bipush 14, 2) := by decide +kernel
theorem dX1_holdsBus_19 : decode cX1_holdsBus 19 = .ok (.invokevirtual 43, 3) := by decide +kernel
theorem dX1_holdsBus_22 : decode cX1_holdsBus 22 = .ok (.ifCond .ne 7, 3) := by decide +kernel
theorem dX1_holdsBus_25 : decode cX1_holdsBus 25 = .ok (.iconst 1, 1) := by decide +kernel
theorem dX1_holdsBus_26 : decode cX1_holdsBus 26 = .ok (.goto 4, 3) := by decide +kernel
theorem dX1_holdsBus_29 : decode cX1_holdsBus 29 = .ok (.iconst 0, 1) := by decide +kernel
theorem dX1_holdsBus_30 : decode cX1_holdsBus 30 = .ok (.ireturn, 1) := by decide +kernel
theorem dX1_holdsBus_31 : decode cX1_holdsBus 31 = .ok (.aload_n 0, 1) := by decide +kernel
theorem dX1_holdsBus_32 : decode cX1_holdsBus 32 = .ok (.getfield 24, 3) := by decide +kernel
theorem dX1_holdsBus_35 : decode cX1_holdsBus 35 = .ok (.ifCond .ge 16, 3) := by decide +kernel
theorem dX1_holdsBus_38 : decode cX1_holdsBus 38 = .ok (.aload_n 0, 1) := by decide +kernel
theorem dX1_holdsBus_39 : decode cX1_holdsBus 39 = .ok (.bipush 14, 2) := by decide +kernel
theorem dX1_holdsBus_41 : decode cX1_holdsBus 41 = .ok (.invokevirtual 43, 3) := by decide +kernel
theorem dX1_holdsBus_44 : decode cX1_holdsBus 44 = .ok (.ifCond .eq 7, 3) := by decide +kernel
theorem dX1_holdsBus_47 : decode cX1_holdsBus 47 = .ok (.iconst 1, 1) := by decide +kernel
theorem dX1_holdsBus_48 : decode cX1_holdsBus 48 = .ok (.goto 4, 3) := by decide +kernel
theorem dX1_holdsBus_51 : decode cX1_holdsBus 51 = .ok (.iconst 0, 1) := by decide +kernel
theorem dX1_holdsBus_52 : decode cX1_holdsBus 52 = .ok (.ireturn, 1) := by decide +kernel
theorem dX1_move_0 : decode cX1_move 0 = .ok (.aload_n 0, 1) := by decide +kernel
theorem dX1_move_1 : decode cX1_move 1 = .ok (.bipush 14, 2) := by decide +kernel
theorem dX1_move_3 : decode cX1_move 3 = .ok (.invokevirtual 43, 3) := by decide +kernel
theorem dX1_move_6 : decode cX1_move 6 = .ok (.istore_n 1, 1) := by decide +kernel
theorem dX1_move_7 : decode cX1_move 7 = .ok (.aload_n 0, 1) := by decide +kernel
theorem dX1_move_8 : decode cX1_move 8 = .ok (.iconst 0, 1) := by decide +kernel
theorem dX1_move_9 : decode cX1_move 9 = .ok (.bipush 24, 2) := by decide +kernel
theorem dX1_move_11 : decode cX1_move 11 = .ok (.aload_n 0, 1) := by decide +kernel
theorem dX1_move_12 : decode cX1_move 12 = .ok (.getfield 21, 3) := by decide +kernel
theorem dX1_move_15 : decode cX1_move 15 = .ok (.aload_n 0, 1) := by decide +kernel
theorem dX1_move_16 : decode cX1_move 16 = .ok (.getfield 24, 3) := by decide +kernel
theorem dX1_move_19 : decode cX1_move 19 = .ok (.iadd, 1) := by decide +kernel
theorem dX1_move_20 : decode cX1_move 20 = .ok (.invokestatic 47, 3) := by decide +kernel
theorem dX1_move_23 : decode cX1_move 23 = .ok (.invokestatic 53, 3) := by decide +kernel
theorem dX1_move_26 : decode cX1_move 26 = .ok (.putfield 21, 3) := by decide +kernel
theorem dX1_move_29 : decode cX1_move 29 = .ok (.aload_n 0, 1) := by decide +kernel
theorem dX1_move_30 : decode cX1_move 30 = .ok (.getfield 24, 3) := by decide +kernel
theorem dX1_move_33 : decode cX1_move 33 = .ok (.ifCond .le 17, 3) := by decide +kernel
theorem dX1_move_36 : decode cX1_move 36 = .ok (.aload_n 0, 1) := by decide +kernel
theorem dX1_move_37 : decode cX1_move 37 = .ok (.getfield 21, 3) := by decide +kernel
theorem dX1_move_40 : decode cX1_move 40 = .ok (.bipush 24, 2) := by decide +kernel
theorem dX1_move_42 : decode cX1_move 42 = .ok (.if_icmp .ne 8, 3) := by decide +kernel
theorem dX1_move_45 : decode cX1_move 45 = .ok (.aload_n 0, 1) := by decide +kernel
theorem dX1_move_46 : decode cX1_move 46 = .ok (.iconst 0, 1) := by decide +kernel
theorem dX1_move_47 : decode cX1_move 47 = .ok (.putfield 24, 3) := by decide +kernel
theorem dX1_move_50 : decode cX1_move 50 = .ok (.aload_n 0, 1) := by decide +kernel
theorem dX1_move_51 : decode cX1_move 51 = .ok (.getfield 24, 3) := by decide +kernel
theorem dX1_move_54 : decode cX1_move 54 = .ok (.ifCond .ge 14, 3) := by decide +kernel
theorem dX1_move_57 : decode cX1_move 57 = .ok (.aload_n 0, 1) := by decide +kernel
theorem dX1_move_58 : decode cX1_move 58 = .ok (.getfield 21, 3) := by decide +kernel
theorem dX1_move_61 : decode cX1_move 61 = .ok (.ifCond .ne 7, 3) := by decide +kernel
theorem dX1_move_64 : decode cX1_move 64 = .ok (.aload_n 0, 1) := by decide +kernel
theorem dX1_move_65 : decode cX1_move 65 = .ok (.invokevirtual 56, 3) := by decide +kernel
theorem dX1_move_68 : decode cX1_move 68 = .ok (.aload_n 0, 1) := by decide +kernel
theorem dX1_move_69 : decode cX1_move 69 = .ok (.bipush 14, 2) := by decide +kernel
theorem dX1_move_71 : decode cX1_move 71 = .ok (.invokevirtual 43, 3) := by decide +kernel
theorem dX1_move_74 : decode cX1_move 74 = .ok (.iload_n 1, 1) := by decide +kernel
theorem dX1_move_75 : decode cX1_move 75 = .ok (.if_icmp .eq 7, 3) := by decide +kernel
theorem dX1_move_78 : decode cX1_move 78 = .ok (.iconst 1, 1) := by decide +kernel
theorem dX1_move_79 : decode cX1_move 79 = .ok (.goto 4, 3) := by decide +kernel
theorem dX1_move_82 : decode cX1_move 82 = .ok (.iconst 0, 1) := by decide +kernel
theorem dX1_move_83 : decode cX1_move 83 = .ok (.ireturn, 1) := by decide +kernel
theorem dX1_leaveSlot_0 : decode cX1_leaveSlot 0 = .ok (.aload_n 0, 1) := by decide +kernel
theorem dX1_leaveSlot_1 : decode cX1_leaveSlot 1 = .ok (.bipush (-6), 2) := by decide +kernel
theorem dX1_leaveSlot_3 : decode cX1_leaveSlot 3 = .ok (.putfield 18, 3) := by decide +kernel
theorem dX1_leaveSlot_6 : decode cX1_leaveSlot 6 = .ok (.aload_n 0, 1) := by decide +kernel
theorem dX1_leaveSlot_7 : decode cX1_leaveSlot 7 = .ok (.iconst 0, 1) := by decide +kernel
theorem dX1_leaveSlot_8 : decode cX1_leaveSlot 8 = .ok (.putfield 24, 3) := by decide +kernel
theorem dX1_leaveSlot_11 : decode cX1_leaveSlot 11 = .ok (.aload_n 0, 1) := by decide +kernel
theorem dX1_leaveSlot_12 : decode cX1_leaveSlot 12 = .ok (.iconst 0, 1) := by decide +kernel
theorem dX1_leaveSlot_13 : decode cX1_leaveSlot 13 = .ok (.putfield 27, 3) := by decide +kernel
theorem dX1_leaveSlot_16 : decode cX1_leaveSlot 16 = .ok (.return_, 1) := by decide +kernel
theorem dX1_greetForTick_0 : decode cX1_greetForTick 0 = .ok (.aload_n 0, 1) := by decide +kernel
theorem dX1_greetForTick_1 : decode cX1_greetForTick 1 = .ok (.getfield 30, 3) := by decide +kernel
theorem dX1_greetForTick_4 : decode cX1_greetForTick 4 = .ok (.ifCond .ne 12, 3) := by decide +kernel
theorem dX1_greetForTick_7 : decode cX1_greetForTick 7 = .ok (.aload_n 0, 1) := by decide +kernel
theorem dX1_greetForTick_8 : decode cX1_greetForTick 8 = .ok (.getfield 27, 3) := by decide +kernel
theorem dX1_greetForTick_11 : decode cX1_greetForTick 11 = .ok (.bipush 100, 2) := by decide +kernel
theorem dX1_greetForTick_13 : decode cX1_greetForTick 13 = .ok (.if_icmp .ge 4, 3) := by decide +kernel
theorem dX1_greetForTick_16 : decode cX1_greetForTick 16 = .ok (.return_, 1) := by decide +kernel
theorem dX1_greetForTick_17 : decode cX1_greetForTick 17 = .ok (.aload_n 0, 1) := by decide +kernel
theorem dX1_greetForTick_18 : decode cX1_greetForTick 18 = .ok (.dup, 1) := by decide +kernel
theorem dX1_greetForTick_19 : decode cX1_greetForTick 19 = .ok (.getfield 37, 3) := by decide +kernel
theorem dX1_greetForTick_22 : decode cX1_greetForTick 22 = .ok (.iconst 1, 1) := by decide +kernel
theorem dX1_greetForTick_23 : decode cX1_greetForTick 23 = .ok (.iadd, 1) := by decide +kernel
theorem dX1_greetForTick_24 : decode cX1_greetForTick 24 = .ok (.putfield 37, 3) := by decide +kernel
theorem dX1_greetForTick_27 : decode cX1_greetForTick 27 = .ok (.aload_n 0, 1) := by decide +kernel
theorem dX1_greetForTick_28 : decode cX1_greetForTick 28 = .ok (.getfield 37, 3) := by decide +kernel
theorem dX1_greetForTick_31 : decode cX1_greetForTick 31 = .ok (.iload_n 1, 1) := by decide +kernel
theorem dX1_greetForTick_32 : decode cX1_greetForTick 32 = .ok (.if_icmp .lt 13, 3) := by decide +kernel
theorem dX1_greetForTick_35 : decode cX1_greetForTick 35 = .ok (.aload_n 0, 1) := by decide +kernel
theorem dX1_greetForTick_36 : decode cX1_greetForTick 36 = .ok (.iconst 1, 1) := by decide +kernel
theorem dX1_greetForTick_37 : decode cX1_greetForTick 37 = .ok (.putfield 30, 3) := by decide +kernel
theorem dX1_greetForTick_40 : decode cX1_greetForTick 40 = .ok (.aload_n 0, 1) := by decide +kernel
theorem dX1_greetForTick_41 : decode cX1_greetForTick 41 = .ok (.iconst 0, 1) := by decide +kernel
theorem dX1_greetForTick_42 : decode cX1_greetForTick 42 = .ok (.putfield 37, 3) := by decide +kernel
theorem dX1_greetForTick_45 : decode cX1_greetForTick 45 = .ok (.return_, 1) := by decide +kernel
theorem dX1_becomeUnknown_0 : decode cX1_becomeUnknown 0 = .ok (.aload_n 0, 1) := by decide +kernel
theorem dX1_becomeUnknown_1 : decode cX1_becomeUnknown 1 = .ok (.getfield 30, 3) := by decide +kernel
theorem dX1_becomeUnknown_4 : decode cX1_becomeUnknown 4 = .ok (.ifCond .eq 20, 3) := by decide +kernel
theorem dX1_becomeUnknown_7 : decode cX1_becomeUnknown 7 = .ok (.aload_n 0, 1) := by decide +kernel
theorem dX1_becomeUnknown_8 : decode cX1_becomeUnknown 8 = .ok (.getfield 34, 3) := by decide +kernel
theorem dX1_becomeUnknown_11 : decode cX1_becomeUnknown 11 = .ok (.ifCond .ne 13, 3) := by decide +kernel
theorem dX1_becomeUnknown_14 : decode cX1_becomeUnknown 14 = .ok (.aload_n 0, 1) := by decide +kernel
theorem dX1_becomeUnknown_15 : decode cX1_becomeUnknown 15 = .ok (.dup, 1) := by decide +kernel
theorem dX1_becomeUnknown_16 : decode cX1_becomeUnknown 16 = .ok (.getfield 40, 3) := by decide +kernel
theorem dX1_becomeUnknown_19 : decode cX1_becomeUnknown 19 = .ok (.iconst 1, 1) := by decide +kernel
theorem dX1_becomeUnknown_20 : decode cX1_becomeUnknown 20 = .ok (.iadd, 1) := by decide +kernel
theorem dX1_becomeUnknown_21 : decode cX1_becomeUnknown 21 = .ok (.putfield 40, 3) := by decide +kernel
theorem dX1_becomeUnknown_24 : decode cX1_becomeUnknown 24 = .ok (.aload_n 0, 1) := by decide +kernel
theorem dX1_becomeUnknown_25 : decode cX1_becomeUnknown 25 = .ok (.iconst 0, 1) := by decide +kernel
theorem dX1_becomeUnknown_26 : decode cX1_becomeUnknown 26 = .ok (.putfield 30, 3) := by decide +kernel
theorem dX1_becomeUnknown_29 : decode cX1_becomeUnknown 29 = .ok (.aload_n 0, 1) := by decide +kernel
theorem dX1_becomeUnknown_30 : decode cX1_becomeUnknown 30 = .ok (.iconst 0, 1) := by decide +kernel
theorem dX1_becomeUnknown_31 : decode cX1_becomeUnknown 31 = .ok (.putfield 34, 3) := by decide +kernel
theorem dX1_becomeUnknown_34 : decode cX1_becomeUnknown 34 = .ok (.aload_n 0, 1) := by decide +kernel
theorem dX1_becomeUnknown_35 : decode cX1_becomeUnknown 35 = .ok (.iconst 0, 1) := by decide +kernel
theorem dX1_becomeUnknown_36 : decode cX1_becomeUnknown 36 = .ok (.putfield 37, 3) := by decide +kernel
theorem dX1_becomeUnknown_39 : decode cX1_becomeUnknown 39 = .ok (.return_, 1) := by decide +kernel
theorem dX2_init_0 : decode cX2_init 0 = .ok (.aload_n 0, 1) := by decide +kernel
theorem dX2_init_1 : decode cX2_init 1 = .ok (.invokespecial 3, 3) := by decide +kernel
theorem dX2_init_4 : decode cX2_init 4 = .ok (.aload_n 0, 1) := by decide +kernel
theorem dX2_init_5 : decode cX2_init 5 = .ok (.sipush 200, 3) := by decide +kernel
theorem dX2_init_8 : decode cX2_init 8 = .ok (.newarray .int, 2) := by decide +kernel
theorem dX2_init_10 : decode cX2_init 10 = .ok (.putfield 9, 3) := by decide +kernel
theorem dX2_init_13 : decode cX2_init 13 = .ok (.aload_n 0, 1) := by decide +kernel
theorem dX2_init_14 : decode cX2_init 14 = .ok (.sipush 200, 3) := by decide +kernel
theorem dX2_init_17 : decode cX2_init 17 = .ok (.newarray .int, 2) := by decide +kernel
theorem dX2_init_19 : decode cX2_init 19 = .ok (.putfield 15, 3) := by decide +kernel
theorem dX2_init_22 : decode cX2_init 22 = .ok (.aload_n 0, 1) := by decide +kernel
theorem dX2_init_23 : decode cX2_init 23 = .ok (.sipush 200, 3) := by decide +kernel
theorem dX2_init_26 : decode cX2_init 26 = .ok (.newarray .int, 2) := by decide +kernel
theorem dX2_init_28 : decode cX2_init 28 = .ok (.putfield 18, 3) := by decide +kernel
theorem dX2_init_31 : decode cX2_init 31 = .ok (.aload_n 0, 1) := by decide +kernel
theorem dX2_init_32 : decode cX2_init 32 = .ok (.sipush 200, 3) := by decide +kernel
theorem dX2_init_35 : decode cX2_init 35 = .ok (.newarray .int, 2) := by decide +kernel
theorem dX2_init_37 : decode cX2_init 37 = .ok (.putfield 21, 3) := by decide +kernel
theorem dX2_init_40 : decode cX2_init 40 = .ok (.aload_n 0, 1) := by decide +kernel
theorem dX2_init_41 : decode cX2_init 41 = .ok (.bipush 10, 2) := by decide +kernel
theorem dX2_init_43 : decode cX2_init 43 = .ok (.newarray .int, 2) := by decide +kernel
theorem dX2_init_45 : decode cX2_init 45 = .ok (.putfield 24, 3) := by decide +kernel
theorem dX2_init_48 : decode cX2_init 48 = .ok (.aload_n 0, 1) := by decide +kernel
theorem dX2_init_49 : decode cX2_init 49 = .ok (.bipush (-6), 2) := by decide +kernel
theorem dX2_init_51 : decode cX2_init 51 = .ok (.putfield 27, 3) := by decide +kernel
theorem dX2_init_54 : decode cX2_init 54 = .ok (.return_, 1) := by decide +kernel
theorem dX2_copyFrom_0 : decode cX2_copyFrom 0 = .ok (.aload_n 0, 1) := by decide +kernel
theorem dX2_copyFrom_1 : decode cX2_copyFrom 1 = .ok (.aload_n 1, 1) := by decide +kernel
theorem dX2_copyFrom_2 : decode cX2_copyFrom 2 = .ok (.getfield 31, 3) := by decide +kernel
theorem dX2_copyFrom_5 : decode cX2_copyFrom 5 = .ok (.putfield 31, 3) := by decide +kernel
theorem dX2_copyFrom_8 : decode cX2_copyFrom 8 = .ok (.aload_n 1, 1) := by decide +kernel
theorem dX2_copyFrom_9 : decode cX2_copyFrom 9 = .ok (.getfield 9, 3) := by decide +kernel
theorem dX2_copyFrom_12 : decode cX2_copyFrom 12 = .ok (.iconst 0, 1) := by decide +kernel
theorem dX2_copyFrom_13 : decode cX2_copyFrom 13 = .ok (.aload_n 0, 1) := by decide +kernel
theorem dX2_copyFrom_14 : decode cX2_copyFrom 14 = .ok (.getfield 9, 3) := by decide +kernel
theorem dX2_copyFrom_17 : decode cX2_copyFrom 17 = .ok (.iconst 0, 1) := by decide +kernel
theorem dX2_copyFrom_18 : decode cX2_copyFrom 18 = .ok (.aload_n 0, 1) := by decide +kernel
theorem dX2_copyFrom_19 : decode cX2_copyFrom 19 = .ok (.getfield 31, 3) := by decide +kernel
theorem dX2_copyFrom_22 : decode cX2_copyFrom 22 = .ok (.invokestatic 34, 3) := by decide +kernel
theorem dX2_copyFrom_25 : decode cX2_copyFrom 25 = .ok (.aload_n 1, 1) := by decide +kernel
theorem dX2_copyFrom_26 : decode cX2_copyFrom 26 = .ok (.getfield 15, 3) := by decide +kernel
theorem dX2_copyFrom_29 : decode cX2_copyFrom 29 = .ok (.iconst 0, 1) := by decide +kernel
theorem dX2_copyFrom_30 : decode cX2_copyFrom 30 = .ok (.aload_n 0, 1) := by decide +kernel
theorem dX2_copyFrom_31 : decode cX2_copyFrom 31 = .ok (.getfield 15, 3) := by decide +kernel
theorem dX2_copyFrom_34 : decode cX2_copyFrom 34 = .ok (.iconst 0, 1) := by decide +kernel
theorem dX2_copyFrom_35 : decode cX2_copyFrom 35 = .ok (.aload_n 0, 1) := by decide +kernel
theorem dX2_copyFrom_36 : decode cX2_copyFrom 36 = .ok (.getfield 31, 3) := by decide +kernel
theorem dX2_copyFrom_39 : decode cX2_copyFrom 39 = .ok (.invokestatic 34, 3) := by decide +kernel
theorem dX2_copyFrom_42 : decode cX2_copyFrom 42 = .ok (.aload_n 1, 1) := by decide +kernel
theorem dX2_copyFrom_43 : decode cX2_copyFrom 43 = .ok (.getfield 18, 3) := by decide +kernel
theorem dX2_copyFrom_46 : decode cX2_copyFrom 46 = .ok (.iconst 0, 1) := by decide +kernel
theorem dX2_copyFrom_47 : decode cX2_copyFrom 47 = .ok (.aload_n 0, 1) := by decide +kernel
theorem dX2_copyFrom_48 : decode cX2_copyFrom 48 = .ok (.getfield 18, 3) := by decide +kernel
theorem dX2_copyFrom_51 : decode cX2_copyFrom 51 = .ok (.iconst 0, 1) := by decide +kernel
theorem dX2_copyFrom_52 : decode cX2_copyFrom 52 = .ok (.aload_n 0, 1) := by decide +kernel
theorem dX2_copyFrom_53 : decode cX2_copyFrom 53 = .ok (.getfield 31, 3) := by decide +kernel
theorem dX2_copyFrom_56 : decode cX2_copyFrom 56 = .ok (.invokestatic 34, 3) := by decide +kernel
theorem dX2_copyFrom_59 : decode cX2_copyFrom 59 = .ok (.aload_n 1, 1) := by decide +kernel
theorem dX2_copyFrom_60 : decode cX2_copyFrom 60 = .ok (.getfield 21, 3) := by decide +kernel
theorem dX2_copyFrom_63 : decode cX2_copyFrom 63 = .ok (.iconst 0, 1) := by decide +kernel
theorem dX2_copyFrom_64 : decode cX2_copyFrom 64 = .ok (.aload_n 0, 1) := by decide +kernel
theorem dX2_copyFrom_65 : decode cX2_copyFrom 65 = .ok (.getfield 21, 3) := by decide +kernel
theorem dX2_copyFrom_68 : decode cX2_copyFrom 68 = .ok (.iconst 0, 1) := by decide +kernel
theorem dX2_copyFrom_69 : decode cX2_copyFrom 69 = .ok (.aload_n 0, 1) := by decide +kernel
theorem dX2_copyFrom_70 : decode cX2_copyFrom 70 = .ok (.getfield 31, 3) := by decide +kernel
theorem dX2_copyFrom_73 : decode cX2_copyFrom 73 = .ok (.invokestatic 34, 3) := by decide +kernel
theorem dX2_copyFrom_76 : decode cX2_copyFrom 76 = .ok (.aload_n 0, 1) := by decide +kernel
theorem dX2_copyFrom_77 : decode cX2_copyFrom 77 = .ok (.aload_n 1, 1) := by decide +kernel
theorem dX2_copyFrom_78 : decode cX2_copyFrom 78 = .ok (.getfield 40, 3) := by decide +kernel
theorem dX2_copyFrom_81 : decode cX2_copyFrom 81 = .ok (.putfield 40, 3) := by decide +kernel
theorem dX2_copyFrom_84 : decode cX2_copyFrom 84 = .ok (.aload_n 1, 1) := by decide +kernel
theorem dX2_copyFrom_85 : decode cX2_copyFrom 85 = .ok (.getfield 24, 3) := by decide +kernel
theorem dX2_copyFrom_88 : decode cX2_copyFrom 88 = .ok (.iconst 0, 1) := by decide +kernel
theorem dX2_copyFrom_89 : decode cX2_copyFrom 89 = .ok (.aload_n 0, 1) := by decide +kernel
theorem dX2_copyFrom_90 : decode cX2_copyFrom 90 = .ok (.getfield 24, 3) := by decide +kernel
theorem dX2_copyFrom_93 : decode cX2_copyFrom 93 = .ok (.iconst 0, 1) := by decide +kernel
theorem dX2_copyFrom_94 : decode cX2_copyFrom 94 = .ok (.aload_n 0, 1) := by decide +kernel
theorem dX2_copyFrom_95 : decode cX2_copyFrom 95 = .ok (.getfield 40, 3) := by decide +kernel
theorem dX2_copyFrom_98 : decode cX2_copyFrom 98 = .ok (.invokestatic 34, 3) := by decide +kernel
theorem dX2_copyFrom_101 : decode cX2_copyFrom 101 = .ok (.aload_n 0, 1) := by decide +kernel
theorem dX2_copyFrom_102 : decode cX2_copyFrom 102 = .ok (.aload_n 1, 1) := by decide +kernel
theorem dX2_copyFrom_103 : decode cX2_copyFrom 103 = .ok (.getfield 27, 3) := by decide +kernel
theorem dX2_copyFrom_106 : decode cX2_copyFrom 106 = .ok (.putfield 27, 3) := by decide +kernel
theorem dX2_copyFrom_109 : decode cX2_copyFrom 109 = .ok (.aload_n 0, 1) := by decide +kernel
theorem dX2_copyFrom_110 : decode cX2_copyFrom 110 = .ok (.aload_n 1, 1) := by decide +kernel
theorem dX2_copyFrom_111 : decode cX2_copyFrom 111 = .ok (.getfield 43, 3) := by decide +kernel
theorem dX2_copyFrom_114 : decode cX2_copyFrom 114 = .ok (.putfield 43, 3) := by decide +kernel
theorem dX2_copyFrom_117 : decode cX2_copyFrom 117 = .ok (.aload_n 0, 1) := by decide +kernel
theorem dX2_copyFrom_118 : decode cX2_copyFrom 118 = .ok (.aload_n 1, 1) := by decide +kernel
theorem dX2_copyFrom_119 : decode cX2_copyFrom 119 = .ok (.getfield 46, 3) := by decide +kernel
theorem dX2_copyFrom_122 : decode cX2_copyFrom 122 = .ok (.putfield 46, 3) := by decide +kernel
theorem dX2_copyFrom_125 : decode cX2_copyFrom 125 = .ok (.aload_n 0, 1) := by decide +kernel
theorem dX2_copyFrom_126 : decode cX2_copyFrom 126 = .ok (.aload_n 1, 1) := by decide +kernel
theorem dX2_copyFrom_127 : decode cX2_copyFrom 127 = .ok (.getfield 49, 3) := by decide +kernel
theorem dX2_copyFrom_130 : decode cX2_copyFrom 130 = .ok (.putfield 49, 3) := by decide +kernel
theorem dX2_copyFrom_133 : decode cX2_copyFrom 133 = .ok (.aload_n 0, 1) := by decide +kernel
theorem dX2_copyFrom_134 : decode cX2_copyFrom 134 = .ok (.aload_n 1, 1) := by decide +kernel
theorem dX2_copyFrom_135 : decode cX2_copyFrom 135 = .ok (.getfield 52, 3) := by decide +kernel
theorem dX2_copyFrom_138 : decode cX2_copyFrom 138 = .ok (.putfield 52, 3) := by decide +kernel
theorem dX2_copyFrom_141 : decode cX2_copyFrom 141 = .ok (.return_, 1) := by decide +kernel
theorem dX2_isWord_0 : decode cX2_isWord 0 = .ok (.iload_n 1, 1) := by decide +kernel
theorem dX2_isWord_1 : decode cX2_isWord 1 = .ok (.ifCond .lt 15, 3) := by decide +kernel
theorem dX2_isWord_4 : decode cX2_isWord 4 = .ok (.iload_n 1, 1) := by decide +kernel
theorem dX2_isWord_5 : decode cX2_isWord 5 = .ok (.aload_n 0, 1) := by decide +kernel
theorem dX2_isWord_6 : decode cX2_isWord 6 = .ok (.getfield 31, 3) := by decide +kernel
theorem dX2_isWord_9 : decode cX2_isWord 9 = .ok (.if_icmp .ge 7, 3) := by decide +kernel
theorem dX2_isWord_12 : decode cX2_isWord 12 = .ok (.iconst 1, 1) := by decide +kernel
theorem dX2_isWord_13 : decode cX2_isWord 13 = .ok (.goto 4, 3) := by decide +kernel
theorem dX2_isWord_16 : decode cX2_isWord 16 = .ok (.iconst 0, 1) := by decide +kernel
theorem dX2_isWord_17 : decode cX2_isWord 17 = .ok (.ireturn, 1) := by decide +kernel
theorem dX2_isBetween_0 : decode cX2_isBetween 0 = .ok (.iload_n 1, 1) := by decide +kernel
theorem dX2_isBetween_1 : decode cX2_isBetween 1 = .ok (.ifCond .lt 35, 3) := by decide +kernel
theorem dX2_isBetween_4 : decode cX2_isBetween 4 = .ok (.iload_n 1, 1) := by decide +kernel
theorem dX2_isBetween_5 : decode cX2_isBetween 5 = .ok (.aload_n 0, 1) := by decide +kernel
theorem dX2_isBetween_6 : decode cX2_isBetween 6 = .ok (.getfield 31, 3) := by decide +kernel
theorem dX2_isBetween_9 : decode cX2_isBetween 9 = .ok (.if_icmp .ge 27, 3) := by decide +kernel
theorem dX2_isBetween_12 : decode cX2_isBetween 12 = .ok (.aload_n 0, 1) := by decide +kernel
theorem dX2_isBetween_13 : decode cX2_isBetween 13 = .ok (.getfield 9, 3) := by decide +kernel
theorem dX2_isBetween_16 : decode cX2_isBetween 16 = .ok (.iload_n 1, 1) := by decide +kernel
theorem dX2_isBetween_17 : decode cX2_isBetween 17 = .ok (.iaload, 1) := by decide +kernel
theorem dX2_isBetween_18 : decode cX2_isBetween 18 = .ok (.iload_n 2, 1) := by decide +kernel
theorem dX2_isBetween_19 : decode cX2_isBetween 19 = .ok (.if_icmp .eq 13, 3) := by decide +kernel
theorem dX2_isBetween_22 : decode cX2_isBetween 22 = .ok (.aload_n 0, 1) := by decide +kernel
theorem dX2_isBetween_23 : decode cX2_isBetween 23 = .ok (.getfield 15, 3) := by decide +kernel
theorem dX2_isBetween_26 : decode cX2_isBetween 26 = .ok (.iload_n 1, 1) := by decide +kernel
theorem dX2_isBetween_27 : decode cX2_isBetween 27 = .ok (.iaload, 1) := by decide +kernel
theorem dX2_isBetween_28 : decode cX2_isBetween 28 = .ok (.iload_n 2, 1) := by decide +kernel
theorem dX2_isBetween_29 : decode cX2_isBetween 29 = .ok (.if_icmp .ne 7, 3) := by decide +kernel
theorem dX2_isBetween_32 : decode cX2_isBetween 32 = .ok (.iconst 1, 1) := by decide +kernel
theorem dX2_isBetween_33 : decode cX2_isBetween 33 = .ok (.goto 4, 3) := by decide +kernel
theorem dX2_isBetween_36 : decode cX2_isBetween 36 = .ok (.iconst 0, 1) := by decide +kernel
theorem dX2_isBetween_37 : decode cX2_isBetween 37 = .ok (.ireturn, 1) := by decide +kernel
theorem dX2_wordAtRank_0 : decode cX2_wordAtRank 0 = .ok (.iload_n 1, 1) := by decide +kernel
theorem dX2_wordAtRank_1 : decode cX2_wordAtRank 1 = .ok (.ifCond .lt 20, 3) := by decide +kernel
theorem dX2_wordAtRank_4 : decode cX2_wordAtRank 4 = .ok (.iload_n 1, 1) := by decide +kernel
theorem dX2_wordAtRank_5 : decode cX2_wordAtRank 5 = .ok (.aload_n 0, 1) := by decide +kernel
theorem dX2_wordAtRank_6 : decode cX2_wordAtRank 6 = .ok (.getfield 40, 3) := by decide +kernel
theorem dX2_wordAtRank_9 : decode cX2_wordAtRank 9 = .ok (.if_icmp .ge 12, 3) := by decide +kernel
theorem dX2_wordAtRank_12 : decode cX2_wordAtRank 12 = .ok (.aload_n 0, 1) := by decide +kernel
theorem dX2_wordAtRank_13 : decode cX2_wordAtRank 13 = .ok (.getfield 24, 3) := by decide +kernel
theorem dX2_wordAtRank_16 : decode cX2_wordAtRank 16 = .ok (.iload_n 1, 1) := by decide +kernel
theorem dX2_wordAtRank_17 : decode cX2_wordAtRank 17 = .ok (.iaload, 1) := by decide +kernel
theorem dX2_wordAtRank_18 : decode cX2_wordAtRank 18 = .ok (.goto 5, 3) := by decide +kernel
theorem dX2_wordAtRank_21 : decode cX2_wordAtRank 21 = .ok (.bipush (-6), 2) := by decide +kernel
theorem dX2_wordAtRank_23 : decode cX2_wordAtRank 23 = .ok (.ireturn, 1) := by decide +kernel
theorem dX2_openWords_0 : decode cX2_openWords 0 = .ok (.aload_n 0, 1) := by decide +kernel
theorem dX2_openWords_1 : decode cX2_openWords 1 = .ok (.aload_n 0, 1) := by decide +kernel
theorem dX2_openWords_2 : decode cX2_openWords 2 = .ok (.getfield 27, 3) := by decide +kernel
theorem dX2_openWords_5 : decode cX2_openWords 5 = .ok (.invokevirtual 55, 3) := by decide +kernel
theorem dX2_openWords_8 : decode cX2_openWords 8 = .ok (.ifCond .eq 12, 3) := by decide +kernel
theorem dX2_openWords_11 : decode cX2_openWords 11 = .ok (.aload_n 0, 1) := by decide +kernel
theorem dX2_openWords_12 : decode cX2_openWords 12 = .ok (.getfield 40, 3) := by decide +kernel
theorem dX2_openWords_15 : decode cX2_openWords 15 = .ok (.iconst 1, 1) := by decide +kernel
theorem dX2_openWords_16 : decode cX2_openWords 16 = .ok (.iadd, 1) := by decide +kernel
theorem dX2_openWords_17 : decode cX2_openWords 17 = .ok (.goto 7, 3) := by decide +kernel
theorem dX2_openWords_20 : decode cX2_openWords 20 = .ok (.aload_n 0, 1) := by decide +kernel
theorem dX2_openWords_21 : decode cX2_openWords 21 = .ok (.getfield 40, 3) := by decide +kernel
theorem dX2_openWords_24 : decode cX2_openWords 24 = .ok (.ireturn, 1) := by decide +kernel
theorem dX2_openWordsOf_0 : decode cX2_openWordsOf 0 = .ok (.aload_n 0, 1) := by decide +kernel
theorem dX2_openWordsOf_1 : decode cX2_openWordsOf 1 = .ok (.aload_n 0, 1) := by decide +kernel
theorem dX2_openWordsOf_2 : decode cX2_openWordsOf 2 = .ok (.getfield 27, 3) := by decide +kernel
theorem dX2_openWordsOf_5 : decode cX2_openWordsOf 5 = .ok (.iload_n 1, 1) := by decide +kernel
theorem dX2_openWordsOf_6 : decode cX2_openWordsOf 6 = .ok (.invokevirtual 59, 3) := by decide +kernel
theorem dX2_openWordsOf_9 : decode cX2_openWordsOf 9 = .ok (.ifCond .eq 7, 3) := by decide +kernel
theorem dX2_openWordsOf_12 : decode cX2_openWordsOf 12 = .ok (.iconst 1, 1) := by decide +kernel
theorem dX2_openWordsOf_13 : decode cX2_openWordsOf 13 = .ok (.goto 4, 3) := by decide +kernel
theorem dX2_openWordsOf_16 : decode cX2_openWordsOf 16 = .ok (.iconst 0, 1) := by decide +kernel
theorem dX2_openWordsOf_17 : decode cX2_openWordsOf 17 = .ok (.istore_n 2, 1) := by decide +kernel
theorem dX2_openWordsOf_18 : decode cX2_openWordsOf 18 = .ok (.iconst 0, 1) := by decide +kernel
theorem dX2_openWordsOf_19 : decode cX2_openWordsOf 19 = .ok (.istore_n 3, 1) := by decide +kernel
theorem dX2_openWordsOf_20 : decode cX2_openWordsOf 20 = .ok (.iload_n 3, 1) := by decide +kernel
theorem dX2_openWordsOf_21 : decode cX2_openWordsOf 21 = .ok (.aload_n 0, 1) := by decide +kernel
theorem dX2_openWordsOf_22 : decode cX2_openWordsOf 22 = .ok (.getfield 40, 3) := by decide +kernel
theorem dX2_openWordsOf_25 : decode cX2_openWordsOf 25 = .ok (.if_icmp .ge 26, 3) := by decide +kernel
theorem dX2_openWordsOf_28 : decode cX2_openWordsOf 28 = .ok (.aload_n 0, 1) := by decide +kernel
theorem dX2_openWordsOf_29 : decode cX2_openWordsOf 29 = .ok (.aload_n 0, 1) := by decide +kernel
theorem dX2_openWordsOf_30 : decode cX2_openWordsOf 30 = .ok (.getfield 24, 3) := by decide +kernel
theorem dX2_openWordsOf_33 : decode cX2_openWordsOf 33 = .ok (.iload_n 3, 1) := by decide +kernel
theorem dX2_openWordsOf_34 : decode cX2_openWordsOf 34 = .ok (.iaload, 1) := by decide +kernel
theorem dX2_openWordsOf_35 : decode cX2_openWordsOf 35 = .ok (.iload_n 1, 1) := by decide +kernel
theorem dX2_openWordsOf_36 : decode cX2_openWordsOf 36 = .ok (.invokevirtual 59, 3) := by decide +kernel
theorem dX2_openWordsOf_39 : decode cX2_openWordsOf 39 = .ok (.ifCond .eq 6, 3) := by decide +kernel
theorem dX2_openWordsOf_42 : decode cX2_openWordsOf 42 = .ok (.iinc 2 1, 3) := by decide +kernel
theorem dX2_openWordsOf_45 : decode cX2_openWordsOf 45 = .ok (.iinc 3 1, 3) := by decide +kernel
theorem dX2_openWordsOf_48 : decode cX2_openWordsOf 48 = .ok (.goto (-28), 3) := by decide +kernel
theorem dX2_openWordsOf_51 : decode cX2_openWordsOf 51 = .ok (.iload_n 2, 1) := by decide +kernel
theorem dX2_openWordsOf_52 : decode cX2_openWordsOf 52 = .ok (.ireturn, 1) := by decide +kernel
theorem dX2_deliveredFrom_0 : decode cX2_deliveredFrom 0 = .ok (.iconst 0, 1) := by decide +kernel
theorem dX2_deliveredFrom_1 : decode cX2_deliveredFrom 1 = .ok (.istore_n 2, 1) := by decide +kernel
theorem dX2_deliveredFrom_2 : decode cX2_deliveredFrom 2 = .ok (.iconst 0, 1) := by decide +kernel
theorem dX2_deliveredFrom_3 : decode cX2_deliveredFrom 3 = .ok (.istore_n 3, 1) := by decide +kernel
theorem dX2_deliveredFrom_4 : decode cX2_deliveredFrom 4 = .ok (.iload_n 3, 1) := by decide +kernel
theorem dX2_deliveredFrom_5 : decode cX2_deliveredFrom 5 = .ok (.aload_n 0, 1) := by decide +kernel
theorem dX2_deliveredFrom_6 : decode cX2_deliveredFrom 6 = .ok (.getfield 31, 3) := by decide +kernel
theorem dX2_deliveredFrom_9 : decode cX2_deliveredFrom 9 = .ok (.if_icmp .ge 32, 3) := by decide +kernel
theorem dX2_deliveredFrom_12 : decode cX2_deliveredFrom 12 = .ok (.aload_n 0, 1) := by decide +kernel
theorem dX2_deliveredFrom_13 : decode cX2_deliveredFrom 13 = .ok (.getfield 9, 3) := by decide +kernel
theorem dX2_deliveredFrom_16 : decode cX2_deliveredFrom 16 = .ok (.iload_n 3, 1) := by decide +kernel
theorem dX2_deliveredFrom_17 : decode cX2_deliveredFrom 17 = .ok (.iaload, 1) := by decide +kernel
theorem dX2_deliveredFrom_18 : decode cX2_deliveredFrom 18 = .ok (.iload_n 1, 1) := by decide +kernel
theorem dX2_deliveredFrom_19 : decode cX2_deliveredFrom 19 = .ok (.if_icmp .ne 16, 3) := by decide +kernel
theorem dX2_deliveredFrom_22 : decode cX2_deliveredFrom 22 = .ok (.aload_n 0, 1) := by decide +kernel
theorem dX2_deliveredFrom_23 : decode cX2_deliveredFrom 23 = .ok (.getfield 18, 3) := by decide +kernel
theorem dX2_deliveredFrom_26 : decode cX2_deliveredFrom 26 = .ok (.iload_n 3, 1) := by decide +kernel
theorem dX2_deliveredFrom_27 : decode cX2_deliveredFrom 27 = .ok (.iaload, 1) := by decide +kernel
theorem dX2_deliveredFrom_28 : decode cX2_deliveredFrom 28 = .ok (.iconst 2, 1) := by decide +kernel
theorem dX2_deliveredFrom_29 : decode cX2_deliveredFrom 29 = .ok (.if_icmp .ne 6, 3) := by decide +kernel
theorem dX2_deliveredFrom_32 : decode cX2_deliveredFrom 32 = .ok (.iinc 2 1, 3) := by decide +kernel
theorem dX2_deliveredFrom_35 : decode cX2_deliveredFrom 35 = .ok (.iinc 3 1, 3) := by decide +kernel
theorem dX2_deliveredFrom_38 : decode cX2_deliveredFrom 38 = .ok (.goto (-34), 3) := by decide +kernel
theorem dX2_deliveredFrom_41 : decode cX2_deliveredFrom 41 = .ok (.iload_n 2, 1) := by decide +kernel
theorem dX2_deliveredFrom_42 : decode cX2_deliveredFrom 42 = .ok (.ireturn, 1) := by decide +kernel
theorem dX2_aboutWord_0 : decode cX2_aboutWord 0 = .ok (.aload_n 0, 1) := by decide +kernel
theorem dX2_aboutWord_1 : decode cX2_aboutWord 1 = .ok (.iload_n 1, 1) := by decide +kernel
theorem dX2_aboutWord_2 : decode cX2_aboutWord 2 = .ok (.invokevirtual 55, 3) := by decide +kernel
theorem dX2_aboutWord_5 : decode cX2_aboutWord 5 = .ok (.ifCond .ne 5, 3) := by decide +kernel
theorem dX2_aboutWord_8 : decode cX2_aboutWord 8 = .ok (.iconst (-1), 1) := by decide +kernel
theorem dX2_aboutWord_9 : decode cX2_aboutWord 9 = .ok (.ireturn, 1) := by decide +kernel
theorem dX2_aboutWord_10 : decode cX2_aboutWord 10 = .ok (.iload_n 2, 1) := by decide +kernel
theorem dX2_aboutWord_11 : decode cX2_aboutWord 11 = .ok (.tableswitch 78 0 4 #[33, 40, 47, 54, 61], 33) := by decide +kernel
theorem dX2_aboutWord_44 : decode cX2_aboutWord 44 = .ok (.aload_n 0, 1) := by decide +kernel
theorem dX2_aboutWord_45 : decode cX2_aboutWord 45 = .ok (.getfield 9, 3) := by decide +kernel
theorem dX2_aboutWord_48 : decode cX2_aboutWord 48 = .ok (.iload_n 1, 1) := by decide +kernel
theorem dX2_aboutWord_49 : decode cX2_aboutWord 49 = .ok (.iaload, 1) := by decide +kernel
theorem dX2_aboutWord_50 : decode cX2_aboutWord 50 = .ok (.ireturn, 1) := by decide +kernel
theorem dX2_aboutWord_51 : decode cX2_aboutWord 51 = .ok (.aload_n 0, 1) := by decide +kernel
theorem dX2_aboutWord_52 : decode cX2_aboutWord 52 = .ok (.getfield 15, 3) := by decide +kernel
theorem dX2_aboutWord_55 : decode cX2_aboutWord 55 = .ok (.iload_n 1, 1) := by decide +kernel
theorem dX2_aboutWord_56 : decode cX2_aboutWord 56 = .ok (.iaload, 1) := by decide +kernel
theorem dX2_aboutWord_57 : decode cX2_aboutWord 57 = .ok (.ireturn, 1) := by decide +kernel
theorem dX2_aboutWord_58 : decode cX2_aboutWord 58 = .ok (.aload_n 0, 1) := by decide +kernel
theorem dX2_aboutWord_59 : decode cX2_aboutWord 59 = .ok (.getfield 18, 3) := by decide +kernel
theorem dX2_aboutWord_62 : decode cX2_aboutWord 62 = .ok (.iload_n 1, 1) := by decide +kernel
theorem dX2_aboutWord_63 : decode cX2_aboutWord 63 = .ok (.iaload, 1) := by decide +kernel
theorem dX2_aboutWord_64 : decode cX2_aboutWord 64 = .ok (.ireturn, 1) := by decide +kernel
theorem dX2_aboutWord_65 : decode cX2_aboutWord 65 = .ok (.aload_n 0, 1) := by decide +kernel
theorem dX2_aboutWord_66 : decode cX2_aboutWord 66 = .ok (.getfield 21, 3) := by decide +kernel
theorem dX2_aboutWord_69 : decode cX2_aboutWord 69 = .ok (.iload_n 1, 1) := by decide +kernel
theorem dX2_aboutWord_70 : decode cX2_aboutWord 70 = .ok (.iaload, 1) := by decide +kernel
theorem dX2_aboutWord_71 : decode cX2_aboutWord 71 = .ok (.ireturn, 1) := by decide +kernel
theorem dX2_aboutWord_72 : decode cX2_aboutWord 72 = .ok (.iload_n 1, 1) := by decide +kernel
theorem dX2_aboutWord_73 : decode cX2_aboutWord 73 = .ok (.aload_n 0, 1) := by decide +kernel
theorem dX2_aboutWord_74 : decode cX2_aboutWord 74 = .ok (.getfield 27, 3) := by decide +kernel
theorem dX2_aboutWord_77 : decode cX2_aboutWord 77 = .ok (.if_icmp .ne 10, 3) := by decide +kernel
theorem dX2_aboutWord_80 : decode cX2_aboutWord 80 = .ok (.aload_n 0, 1) := by decide +kernel
theorem dX2_aboutWord_81 : decode cX2_aboutWord 81 = .ok (.getfield 43, 3) := by decide +kernel
theorem dX2_aboutWord_84 : decode cX2_aboutWord 84 = .ok (.goto 4, 3) := by decide +kernel
theorem dX2_aboutWord_87 : decode cX2_aboutWord 87 = .ok (.iconst 0, 1) := by decide +kernel
theorem dX2_aboutWord_88 : decode cX2_aboutWord 88 = .ok (.ireturn, 1) := by decide +kernel
theorem dX2_aboutWord_89 : decode cX2_aboutWord 89 = .ok (.bipush (-2), 2) := by decide +kernel
theorem dX2_aboutWord_91 : decode cX2_aboutWord 91 = .ok (.ireturn, 1) := by decide +kernel
theorem dX2_queueWord_0 : decode cX2_queueWord 0 = .ok (.aload_n 0, 1) := by decide +kernel
theorem dX2_queueWord_1 : decode cX2_queueWord 1 = .ok (.invokevirtual 63, 3) := by decide +kernel
theorem dX2_queueWord_4 : decode cX2_queueWord 4 = .ok (.bipush 10, 2) := by decide +kernel
theorem dX2_queueWord_6 : decode cX2_queueWord 6 = .ok (.if_icmp .ge 13, 3) := by decide +kernel
theorem dX2_queueWord_9 : decode cX2_queueWord 9 = .ok (.aload_n 0, 1) := by decide +kernel
theorem dX2_queueWord_10 : decode cX2_queueWord 10 = .ok (.getfield 31, 3) := by decide +kernel
theorem dX2_queueWord_13 : decode cX2_queueWord 13 = .ok (.sipush 200, 3) := by decide +kernel
theorem dX2_queueWord_16 : decode cX2_queueWord 16 = .ok (.if_icmp .lt 6, 3) := by decide +kernel
theorem dX2_queueWord_19 : decode cX2_queueWord 19 = .ok (.bipush (-4), 2) := by decide +kernel
theorem dX2_queueWord_21 : decode cX2_queueWord 21 = .ok (.ireturn, 1) := by decide +kernel
theorem dX2_queueWord_22 : decode cX2_queueWord 22 = .ok (.aload_n 0, 1) := by decide +kernel
theorem dX2_queueWord_23 : decode cX2_queueWord 23 = .ok (.getfield 31, 3) := by decide +kernel
theorem dX2_queueWord_26 : decode cX2_queueWord 26 = .ok (.istore_n 3, 1) := by decide +kernel
theorem dX2_queueWord_27 : decode cX2_queueWord 27 = .ok (.aload_n 0, 1) := by decide +kernel
theorem dX2_queueWord_28 : decode cX2_queueWord 28 = .ok (.getfield 9, 3) := by decide +kernel
theorem dX2_queueWord_31 : decode cX2_queueWord 31 = .ok (.iload_n 3, 1) := by decide +kernel
theorem dX2_queueWord_32 : decode cX2_queueWord 32 = .ok (.iload_n 1, 1) := by decide +kernel
theorem dX2_queueWord_33 : decode cX2_queueWord 33 = .ok (.iastore, 1) := by decide +kernel
theorem dX2_queueWord_34 : decode cX2_queueWord 34 = .ok (.aload_n 0, 1) := by decide +kernel
theorem dX2_queueWord_35 : decode cX2_queueWord 35 = .ok (.getfield 15, 3) := by decide +kernel
theorem dX2_queueWord_38 : decode cX2_queueWord 38 = .ok (.iload_n 3, 1) := by decide +kernel
theorem dX2_queueWord_39 : decode cX2_queueWord 39 = .ok (.iload_n 2, 1) := by decide +kernel
theorem dX2_queueWord_40 : decode cX2_queueWord 40 = .ok (.iastore, 1) := by decide +kernel
theorem dX2_queueWord_41 : decode cX2_queueWord 41 = .ok (.aload_n 0, 1) := by decide +kernel
theorem dX2_queueWord_42 : decode cX2_queueWord 42 = .ok (.getfield 18, 3) := by decide +kernel
theorem dX2_queueWord_45 : decode cX2_queueWord 45 = .ok (.iload_n 3, 1) := by decide +kernel
theorem dX2_queueWord_46 : decode cX2_queueWord 46 = .ok (.iconst 0, 1) := by decide +kernel
theorem dX2_queueWord_47 : decode cX2_queueWord 47 = .ok (.iastore, 1) := by decide +kernel
theorem dX2_queueWord_48 : decode cX2_queueWord 48 = .ok (.aload_n 0, 1) := by decide +kernel
theorem dX2_queueWord_49 : decode cX2_queueWord 49 = .ok (.getfield 21, 3) := by decide +kernel
theorem dX2_queueWord_52 : decode cX2_queueWord 52 = .ok (.iload_n 3, 1) := by decide +kernel
theorem dX2_queueWord_53 : decode cX2_queueWord 53 = .ok (.iconst 0, 1) := by decide +kernel
theorem dX2_queueWord_54 : decode cX2_queueWord 54 = .ok (.iastore, 1) := by decide +kernel
theorem dX2_queueWord_55 : decode cX2_queueWord 55 = .ok (.aload_n 0, 1) := by decide +kernel
theorem dX2_queueWord_56 : decode cX2_queueWord 56 = .ok (.getfield 24, 3) := by decide +kernel
theorem dX2_queueWord_59 : decode cX2_queueWord 59 = .ok (.aload_n 0, 1) := by decide +kernel
theorem dX2_queueWord_60 : decode cX2_queueWord 60 = .ok (.getfield 40, 3) := by decide +kernel
theorem dX2_queueWord_63 : decode cX2_queueWord 63 = .ok (.iload_n 3, 1) := by decide +kernel
theorem dX2_queueWord_64 : decode cX2_queueWord 64 = .ok (.iastore, 1) := by decide +kernel
theorem dX2_queueWord_65 : decode cX2_queueWord 65 = .ok (.aload_n 0, 1) := by decide +kernel
theorem dX2_queueWord_66 : decode cX2_queueWord 66 = .ok (.dup, 1) := by decide +kernel
theorem dX2_queueWord_67 : decode cX2_queueWord 67 = .ok (.getfield 40, 3) := by decide +kernel
theorem dX2_queueWord_70 : decode cX2_queueWord 70 = .ok (.iconst 1, 1) := by decide +kernel
theorem dX2_queueWord_71 : decode cX2_queueWord 71 = .ok (.iadd, 1) := by decide +kernel
theorem dX2_queueWord_72 : decode cX2_queueWord 72 = .ok (.putfield 40, 3) := by decide +kernel
theorem dX2_queueWord_75 : decode cX2_queueWord 75 = .ok (.aload_n 0, 1) := by decide +kernel
theorem dX2_queueWord_76 : decode cX2_queueWord 76 = .ok (.dup, 1) := by decide +kernel
theorem dX2_queueWord_77 : decode cX2_queueWord 77 = .ok (.getfield 31, 3) := by decide +kernel
theorem dX2_queueWord_80 : decode cX2_queueWord 80 = .ok (.iconst 1, 1) := by decide +kernel
theorem dX2_queueWord_81 : decode cX2_queueWord 81 = .ok (.iadd, 1) := by decide +kernel
theorem dX2_queueWord_82 : decode cX2_queueWord 82 = .ok (.putfield 31, 3) := by decide +kernel
theorem dX2_queueWord_85 : decode cX2_queueWord 85 = .ok (.iload_n 3, 1) := by decide +kernel
theorem dX2_queueWord_86 : decode cX2_queueWord 86 = .ok (.ireturn, 1) := by decide +kernel
theorem dX2_loseWordsOf_0 : decode cX2_loseWordsOf 0 = .ok (.iconst 0, 1) := by decide +kernel
theorem dX2_loseWordsOf_1 : decode cX2_loseWordsOf 1 = .ok (.istore_n 2, 1) := by decide +kernel
theorem dX2_loseWordsOf_2 : decode cX2_loseWordsOf 2 = .ok (.iconst 0, 1) := by decide +kernel
theorem dX2_loseWordsOf_3 : decode cX2_loseWordsOf 3 = .ok (.istore_n 3, 1) := by decide +kernel
theorem dX2_loseWordsOf_4 : decode cX2_loseWordsOf 4 = .ok (.iload_n 3, 1) := by decide +kernel
theorem dX2_loseWordsOf_5 : decode cX2_loseWordsOf 5 = .ok (.aload_n 0, 1) := by decide +kernel
theorem dX2_loseWordsOf_6 : decode cX2_loseWordsOf 6 = .ok (.getfield 40, 3) := by decide +kernel
theorem dX2_loseWordsOf_9 : decode cX2_loseWordsOf 9 = .ok (.if_icmp .ge 59, 3) := by decide +kernel
theorem dX2_loseWordsOf_12 : decode cX2_loseWordsOf 12 = .ok (.aload_n 0, 1) := by decide +kernel
theorem dX2_loseWordsOf_13 : decode cX2_loseWordsOf 13 = .ok (.getfield 24, 3) := by decide +kernel
theorem dX2_loseWordsOf_16 : decode cX2_loseWordsOf 16 = .ok (.iload_n 3, 1) := by decide +kernel
theorem dX2_loseWordsOf_17 : decode cX2_loseWordsOf 17 = .ok (.iaload, 1) := by decide +kernel
theorem dX2_loseWordsOf_18 : decode cX2_loseWordsOf 18 = .ok (.istore 4, 2) := by decide +kernel
theorem dX2_loseWordsOf_20 : decode cX2_loseWordsOf 20 = .ok (.aload_n 0, 1) := by decide +kernel
theorem dX2_loseWordsOf_21 : decode cX2_loseWordsOf 21 = .ok (.iload 4, 2) := by decide +kernel
theorem dX2_loseWordsOf_23 : decode cX2_loseWordsOf 23 = .ok (.iload_n 1, 1) := by decide +kernel
theorem dX2_loseWordsOf_24 : decode cX2_loseWordsOf 24 = .ok (.invokevirtual 59, 3) := by decide +kernel
theorem dX2_loseWordsOf_27 : decode cX2_loseWordsOf 27 = .ok (.ifCond .eq 24, 3) := by decide +kernel
theorem dX2_loseWordsOf_30 : decode cX2_loseWordsOf 30 = .ok (.aload_n 0, 1) := by decide +kernel
theorem dX2_loseWordsOf_31 : decode cX2_loseWordsOf 31 = .ok (.getfield 18, 3) := by decide +kernel
theorem dX2_loseWordsOf_34 : decode cX2_loseWordsOf 34 = .ok (.iload 4, 2) := by decide +kernel
theorem dX2_loseWordsOf_36 : decode cX2_loseWordsOf 36 = .ok (.iconst 3, 1) := by decide +kernel
theorem dX2_loseWordsOf_37 : decode cX2_loseWordsOf 37 = .ok (.iastore, 1) := by decide +kernel
theorem dX2_loseWordsOf_38 : decode cX2_loseWordsOf 38 = .ok (.aload_n 0, 1) := by decide +kernel
theorem dX2_loseWordsOf_39 : decode cX2_loseWordsOf 39 = .ok (.dup, 1) := by decide +kernel
theorem dX2_loseWordsOf_40 : decode cX2_loseWordsOf 40 = .ok (.getfield 49, 3) := by decide +kernel
theorem dX2_loseWordsOf_43 : decode cX2_loseWordsOf 43 = .ok (.iconst 1, 1) := by decide +kernel
theorem dX2_loseWordsOf_44 : decode cX2_loseWordsOf 44 = .ok (.iadd, 1) := by decide +kernel
theorem dX2_loseWordsOf_45 : decode cX2_loseWordsOf 45 = .ok (.putfield 49, 3) := by decide +kernel
theorem dX2_loseWordsOf_48 : decode cX2_loseWordsOf 48 = .ok (.goto 14, 3) := by decide +kernel
theorem dX2_loseWordsOf_51 : decode cX2_loseWordsOf 51 = .ok (.aload_n 0, 1) := by decide +kernel
theorem dX2_loseWordsOf_52 : decode cX2_loseWordsOf 52 = .ok (.getfield 24, 3) := by decide +kernel
theorem dX2_loseWordsOf_55 : decode cX2_loseWordsOf 55 = .ok (.iload_n 2, 1) := by decide +kernel
theorem dX2_loseWordsOf_56 : decode cX2_loseWordsOf 56 = .ok (.iload 4, 2) := by decide +kernel
theorem dX2_loseWordsOf_58 : decode cX2_loseWordsOf 58 = .ok (.iastore, 1) := by decide +kernel
theorem dX2_loseWordsOf_59 : decode cX2_loseWordsOf 59 = .ok (.iinc 2 1, 3) := by decide +kernel
theorem dX2_loseWordsOf_62 : decode cX2_loseWordsOf 62 = .ok (.iinc 3 1, 3) := by decide +kernel
theorem dX2_loseWordsOf_65 : decode cX2_loseWordsOf 65 = .ok (.goto (-61), 3) := by decide +kernel
theorem dX2_loseWordsOf_68 : decode cX2_loseWordsOf 68 = .ok (.aload_n 0, 1) := by decide +kernel
theorem dX2_loseWordsOf_69 : decode cX2_loseWordsOf 69 = .ok (.iload_n 2, 1) := by decide +kernel
theorem dX2_loseWordsOf_70 : decode cX2_loseWordsOf 70 = .ok (.putfield 40, 3) := by decide +kernel
theorem dX2_loseWordsOf_73 : decode cX2_loseWordsOf 73 = .ok (.aload_n 0, 1) := by decide +kernel
theorem dX2_loseWordsOf_74 : decode cX2_loseWordsOf 74 = .ok (.aload_n 0, 1) := by decide +kernel
theorem dX2_loseWordsOf_75 : decode cX2_loseWordsOf 75 = .ok (.getfield 27, 3) := by decide +kernel
theorem dX2_loseWordsOf_78 : decode cX2_loseWordsOf 78 = .ok (.iload_n 1, 1) := by decide +kernel
theorem dX2_loseWordsOf_79 : decode cX2_loseWordsOf 79 = .ok (.invokevirtual 59, 3) := by decide +kernel
theorem dX2_loseWordsOf_82 : decode cX2_loseWordsOf 82 = .ok (.ifCond .eq 18, 3) := by decide +kernel
theorem dX2_loseWordsOf_85 : decode cX2_loseWordsOf 85 = .ok (.aload_n 0, 1) := by decide +kernel
theorem dX2_loseWordsOf_86 : decode cX2_loseWordsOf 86 = .ok (.dup, 1) := by decide +kernel
theorem dX2_loseWordsOf_87 : decode cX2_loseWordsOf 87 = .ok (.getfield 49, 3) := by decide +kernel
theorem dX2_loseWordsOf_90 : decode cX2_loseWordsOf 90 = .ok (.iconst 1, 1) := by decide +kernel
theorem dX2_loseWordsOf_91 : decode cX2_loseWordsOf 91 = .ok (.iadd, 1) := by decide +kernel
theorem dX2_loseWordsOf_92 : decode cX2_loseWordsOf 92 = .ok (.putfield 49, 3) := by decide +kernel
theorem dX2_loseWordsOf_95 : decode cX2_loseWordsOf 95 = .ok (.aload_n 0, 1) := by decide +kernel
theorem dX2_loseWordsOf_96 : decode cX2_loseWordsOf 96 = .ok (.iconst 3, 1) := by decide +kernel
theorem dX2_loseWordsOf_97 : decode cX2_loseWordsOf 97 = .ok (.invokevirtual 67, 3) := by decide +kernel
theorem dX2_loseWordsOf_100 : decode cX2_loseWordsOf 100 = .ok (.return_, 1) := by decide +kernel
theorem dX2_hurtWordOnBus_0 : decode cX2_hurtWordOnBus 0 = .ok (.aload_n 0, 1) := by decide +kernel
theorem dX2_hurtWordOnBus_1 : decode cX2_hurtWordOnBus 1 = .ok (.aload_n 0, 1) := by decide +kernel
theorem dX2_hurtWordOnBus_2 : decode cX2_hurtWordOnBus 2 = .ok (.getfield 27, 3) := by decide +kernel
theorem dX2_hurtWordOnBus_5 : decode cX2_hurtWordOnBus 5 = .ok (.invokevirtual 55, 3) := by decide +kernel
theorem dX2_hurtWordOnBus_8 : decode cX2_hurtWordOnBus 8 = .ok (.ifCond .ne 4, 3) := by decide +kernel
theorem dX2_hurtWordOnBus_11 : decode cX2_hurtWordOnBus 11 = .ok (.return_, 1) := by decide +kernel
theorem dX2_hurtWordOnBus_12 : decode cX2_hurtWordOnBus 12 = .ok (.aload_n 0, 1) := by decide +kernel
theorem dX2_hurtWordOnBus_13 : decode cX2_hurtWordOnBus 13 = .ok (.getfield 21, 3) := by decide +kernel
theorem dX2_hurtWordOnBus_16 : decode cX2_hurtWordOnBus 16 = .ok (.aload_n 0, 1) := by decide +kernel
theorem dX2_hurtWordOnBus_17 : decode cX2_hurtWordOnBus 17 = .ok (.getfield 27, 3) := by decide +kernel
theorem dX2_hurtWordOnBus_20 : decode cX2_hurtWordOnBus 20 = .ok (.dup2, 1) := by decide +kernel
theorem dX2_hurtWordOnBus_21 : decode cX2_hurtWordOnBus 21 = .ok (.iaload, 1) := by decide +kernel
theorem dX2_hurtWordOnBus_22 : decode cX2_hurtWordOnBus 22 = .ok (.iconst 1, 1) := by decide +kernel
theorem dX2_hurtWordOnBus_23 : decode cX2_hurtWordOnBus 23 = .ok (.iadd, 1) := by decide +kernel
theorem dX2_hurtWordOnBus_24 : decode cX2_hurtWordOnBus 24 = .ok (.iastore, 1) := by decide +kernel
theorem dX2_hurtWordOnBus_25 : decode cX2_hurtWordOnBus 25 = .ok (.aload_n 0, 1) := by decide +kernel
theorem dX2_hurtWordOnBus_26 : decode cX2_hurtWordOnBus 26 = .ok (.dup, 1) := by decide +kernel
theorem dX2_hurtWordOnBus_27 : decode cX2_hurtWordOnBus 27 = .ok (.getfield 52, 3) := by decide +kernel
theorem dX2_hurtWordOnBus_30 : decode cX2_hurtWordOnBus 30 = .ok (.iconst 1, 1) := by decide +kernel
theorem dX2_hurtWordOnBus_31 : decode cX2_hurtWordOnBus 31 = .ok (.iadd, 1) := by decide +kernel
theorem dX2_hurtWordOnBus_32 : decode cX2_hurtWordOnBus 32 = .ok (.putfield 52, 3) := by decide +kernel
theorem dX2_hurtWordOnBus_35 : decode cX2_hurtWordOnBus 35 = .ok (.aload_n 0, 1) := by decide +kernel
theorem dX2_hurtWordOnBus_36 : decode cX2_hurtWordOnBus 36 = .ok (.getfield 21, 3) := by decide +kernel
theorem dX2_hurtWordOnBus_39 : decode cX2_hurtWordOnBus 39 = .ok (.aload_n 0, 1) := by decide +kernel
theorem dX2_hurtWordOnBus_40 : decode cX2_hurtWordOnBus 40 = .ok (.getfield 27, 3) := by decide +kernel
theorem dX2_hurtWordOnBus_43 : decode cX2_hurtWordOnBus 43 = .ok (.iaload, 1) := by decide +kernel
theorem dX2_hurtWordOnBus_44 : decode cX2_hurtWordOnBus 44 = .ok (.iconst 3, 1) := by decide +kernel
theorem dX2_hurtWordOnBus_45 : decode cX2_hurtWordOnBus 45 = .ok (.if_icmp .lt 21, 3) := by decide +kernel
theorem dX2_hurtWordOnBus_48 : decode cX2_hurtWordOnBus 48 = .ok (.aload_n 0, 1) := by decide +kernel
theorem dX2_hurtWordOnBus_49 : decode cX2_hurtWordOnBus 49 = .ok (.dup, 1) := by decide +kernel
theorem dX2_hurtWordOnBus_50 : decode cX2_hurtWordOnBus 50 = .ok (.getfield 49, 3) := by decide +kernel
theorem dX2_hurtWordOnBus_53 : decode cX2_hurtWordOnBus 53 = .ok (.iconst 1, 1) := by decide +kernel
theorem dX2_hurtWordOnBus_54 : decode cX2_hurtWordOnBus 54 = .ok (.iadd, 1) := by decide +kernel
theorem dX2_hurtWordOnBus_55 : decode cX2_hurtWordOnBus 55 = .ok (.putfield 49, 3) := by decide +kernel
theorem dX2_hurtWordOnBus_58 : decode cX2_hurtWordOnBus 58 = .ok (.aload_n 0, 1) := by decide +kernel
theorem dX2_hurtWordOnBus_59 : decode cX2_hurtWordOnBus 59 = .ok (.iconst 3, 1) := by decide +kernel
theorem dX2_hurtWordOnBus_60 : decode cX2_hurtWordOnBus 60 = .ok (.invokevirtual 67, 3) := by decide +kernel
theorem dX2_hurtWordOnBus_63 : decode cX2_hurtWordOnBus 63 = .ok (.goto 8, 3) := by decide +kernel
theorem dX2_hurtWordOnBus_66 : decode cX2_hurtWordOnBus 66 = .ok (.aload_n 0, 1) := by decide +kernel
theorem dX2_hurtWordOnBus_67 : decode cX2_hurtWordOnBus 67 = .ok (.iload_n 1, 1) := by decide +kernel
theorem dX2_hurtWordOnBus_68 : decode cX2_hurtWordOnBus 68 = .ok (.putfield 43, 3) := by decide +kernel
theorem dX2_hurtWordOnBus_71 : decode cX2_hurtWordOnBus 71 = .ok (.return_, 1) := by decide +kernel
theorem dX2_carryWordOnBus_0 : decode cX2_carryWordOnBus 0 = .ok (.aload_n 0, 1) := by decide +kernel
theorem dX2_carryWordOnBus_1 : decode cX2_carryWordOnBus 1 = .ok (.aload_n 0, 1) := by decide +kernel
theorem dX2_carryWordOnBus_2 : decode cX2_carryWordOnBus 2 = .ok (.getfield 27, 3) := by decide +kernel
theorem dX2_carryWordOnBus_5 : decode cX2_carryWordOnBus 5 = .ok (.invokevirtual 55, 3) := by decide +kernel
theorem dX2_carryWordOnBus_8 : decode cX2_carryWordOnBus 8 = .ok (.ifCond .ne 4, 3) := by decide +kernel
theorem dX2_carryWordOnBus_11 : decode cX2_carryWordOnBus 11 = .ok (.return_, 1) := by decide +kernel
theorem dX2_carryWordOnBus_12 : decode cX2_carryWordOnBus 12 = .ok (.aload_n 0, 1) := by decide +kernel
theorem dX2_carryWordOnBus_13 : decode cX2_carryWordOnBus 13 = .ok (.dup, 1) := by decide +kernel
theorem dX2_carryWordOnBus_14 : decode cX2_carryWordOnBus 14 = .ok (.getfield 43, 3) := by decide +kernel
theorem dX2_carryWordOnBus_17 : decode cX2_carryWordOnBus 17 = .ok (.iconst 1, 1) := by decide +kernel
theorem dX2_carryWordOnBus_18 : decode cX2_carryWordOnBus 18 = .ok (.isub, 1) := by decide +kernel
theorem dX2_carryWordOnBus_19 : decode cX2_carryWordOnBus 19 = .ok (.putfield 43, 3) := by decide +kernel
theorem dX2_carryWordOnBus_22 : decode cX2_carryWordOnBus 22 = .ok (.aload_n 0, 1) := by decide +kernel
theorem dX2_carryWordOnBus_23 : decode cX2_carryWordOnBus 23 = .ok (.getfield 43, 3) := by decide +kernel
theorem dX2_carryWordOnBus_26 : decode cX2_carryWordOnBus 26 = .ok (.ifCond .gt 18, 3) := by decide +kernel
theorem dX2_carryWordOnBus_29 : decode cX2_carryWordOnBus 29 = .ok (.aload_n 0, 1) := by decide +kernel
theorem dX2_carryWordOnBus_30 : decode cX2_carryWordOnBus 30 = .ok (.dup, 1) := by decide +kernel
theorem dX2_carryWordOnBus_31 : decode cX2_carryWordOnBus 31 = .ok (.getfield 46, 3) := by decide +kernel
theorem dX2_carryWordOnBus_34 : decode cX2_carryWordOnBus 34 = .ok (.iconst 1, 1) := by decide +kernel
theorem dX2_carryWordOnBus_35 : decode cX2_carryWordOnBus 35 = .ok (.iadd, 1) := by decide +kernel
theorem dX2_carryWordOnBus_36 : decode cX2_carryWordOnBus 36 = .ok (.putfield 46, 3) := by decide +kernel
theorem dX2_carryWordOnBus_39 : decode cX2_carryWordOnBus 39 = .ok (.aload_n 0, 1) := by decide +kernel
theorem dX2_carryWordOnBus_40 : decode cX2_carryWordOnBus 40 = .ok (.iconst 2, 1) := by decide +kernel
theorem dX2_carryWordOnBus_41 : decode cX2_carryWordOnBus 41 = .ok (.invokevirtual 67, 3) := by decide +kernel
theorem dX2_carryWordOnBus_44 : decode cX2_carryWordOnBus 44 = .ok (.return_, 1) := by decide +kernel
theorem dX2_freeBus_0 : decode cX2_freeBus 0 = .ok (.aload_n 0, 1) := by decide +kernel
theorem dX2_freeBus_1 : decode cX2_freeBus 1 = .ok (.getfield 27, 3) := by decide +kernel
theorem dX2_freeBus_4 : decode cX2_freeBus 4 = .ok (.ifCond .lt 24, 3) := by decide +kernel
theorem dX2_freeBus_7 : decode cX2_freeBus 7 = .ok (.aload_n 0, 1) := by decide +kernel
theorem dX2_freeBus_8 : decode cX2_freeBus 8 = .ok (.getfield 27, 3) := by decide +kernel
theorem dX2_freeBus_11 : decode cX2_freeBus 11 = .ok (.aload_n 0, 1) := by decide +kernel
theorem dX2_freeBus_12 : decode cX2_freeBus 12 = .ok (.getfield 31, 3) := by decide +kernel
theorem dX2_freeBus_15 : decode cX2_freeBus 15 = .ok (.if_icmp .ge 13, 3) := by decide +kernel
theorem dX2_freeBus_18 : decode cX2_freeBus 18 = .ok (.aload_n 0, 1) := by decide +kernel
theorem dX2_freeBus_19 : decode cX2_freeBus 19 = .ok (.getfield 18, 3) := by decide +kernel
theorem dX2_freeBus_22 : decode cX2_freeBus 22 = .ok (.aload_n 0, 1) := by decide +kernel
theorem dX2_freeBus_23 : decode cX2_freeBus 23 = .ok (.getfield 27, 3) := by decide +kernel
theorem dX2_freeBus_26 : decode cX2_freeBus 26 = .ok (.iload_n 1, 1) := by decide +kernel
theorem dX2_freeBus_27 : decode cX2_freeBus 27 = .ok (.iastore, 1) := by decide +kernel
theorem dX2_freeBus_28 : decode cX2_freeBus 28 = .ok (.aload_n 0, 1) := by decide +kernel
theorem dX2_freeBus_29 : decode cX2_freeBus 29 = .ok (.bipush (-6), 2) := by decide +kernel
theorem dX2_freeBus_31 : decode cX2_freeBus 31 = .ok (.putfield 27, 3) := by decide +kernel
theorem dX2_freeBus_34 : decode cX2_freeBus 34 = .ok (.aload_n 0, 1) := by decide +kernel
theorem dX2_freeBus_35 : decode cX2_freeBus 35 = .ok (.iconst 0, 1) := by decide +kernel
theorem dX2_freeBus_36 : decode cX2_freeBus 36 = .ok (.putfield 43, 3) := by decide +kernel
theorem dX2_freeBus_39 : decode cX2_freeBus 39 = .ok (.return_, 1) := by decide +kernel
theorem dX2_takeNextWord_0 : decode cX2_takeNextWord 0 = .ok (.iconst 0, 1) := by decide +kernel
theorem dX2_takeNextWord_1 : decode cX2_takeNextWord 1 = .ok (.istore_n 3, 1) := by decide +kernel
theorem dX2_takeNextWord_2 : decode cX2_takeNextWord 2 = .ok (.iload_n 3, 1) := by decide +kernel
theorem dX2_takeNextWord_3 : decode cX2_takeNextWord 3 = .ok (.aload_n 0, 1) := by decide +kernel
theorem dX2_takeNextWord_4 : decode cX2_takeNextWord 4 = .ok (.getfield 40, 3) := by decide +kernel
theorem dX2_takeNextWord_7 : decode cX2_takeNextWord 7 = .ok (.if_icmp .ge 79, 3) := by decide +kernel
theorem dX2_takeNextWord_10 : decode cX2_takeNextWord 10 = .ok (.aload_n 0, 1) := by decide +kernel
theorem dX2_takeNextWord_11 : decode cX2_takeNextWord 11 = .ok (.getfield 24, 3) := by decide +kernel
theorem dX2_takeNextWord_14 : decode cX2_takeNextWord 14 = .ok (.iload_n 3, 1) := by decide +kernel
theorem dX2_takeNextWord_15 : decode cX2_takeNextWord 15 = .ok (.iaload, 1) := by decide +kernel
theorem dX2_takeNextWord_16 : decode cX2_takeNextWord 16 = .ok (.istore 4, 2) := by decide +kernel
theorem dX2_takeNextWord_18 : decode cX2_takeNextWord 18 = .ok (.aload_n 0, 1) := by decide +kernel
theorem dX2_takeNextWord_19 : decode cX2_takeNextWord 19 = .ok (.iload 4, 2) := by decide +kernel
theorem dX2_takeNextWord_21 : decode cX2_takeNextWord 21 = .ok (.invokevirtual 55, 3) := by decide +kernel
theorem dX2_takeNextWord_24 : decode cX2_takeNextWord 24 = .ok (.ifCond .eq 56, 3) := by decide +kernel
theorem dX2_takeNextWord_27 : decode cX2_takeNextWord 27 = .ok (.aload_n 0, 1) := by decide +kernel
theorem dX2_takeNextWord_28 : decode cX2_takeNextWord 28 = .ok (.getfield 9, 3) := by decide +kernel
theorem dX2_takeNextWord_31 : decode cX2_takeNextWord 31 = .ok (.iload 4, 2) := by decide +kernel
theorem dX2_takeNextWord_33 : decode cX2_takeNextWord 33 = .ok (.iaload, 1) := by decide +kernel
theorem dX2_takeNextWord_34 : decode cX2_takeNextWord 34 = .ok (.iload_n 1, 1) := by decide +kernel
theorem dX2_takeNextWord_35 : decode cX2_takeNextWord 35 = .ok (.invokestatic 71, 3) := by decide +kernel
theorem dX2_takeNextWord_38 : decode cX2_takeNextWord 38 = .ok (.ifCond .eq 42, 3) := by decide +kernel
theorem dX2_takeNextWord_41 : decode cX2_takeNextWord 41 = .ok (.aload_n 0, 1) := by decide +kernel
theorem dX2_takeNextWord_42 : decode cX2_takeNextWord 42 = .ok (.getfield 15, 3) := by decide +kernel
theorem dX2_takeNextWord_45 : decode cX2_takeNextWord 45 = .ok (.iload 4, 2) := by decide +kernel
theorem dX2_takeNextWord_47 : decode cX2_takeNextWord 47 = .ok (.iaload, 1) := by decide +kernel
theorem dX2_takeNextWord_48 : decode cX2_takeNextWord 48 = .ok (.iload_n 1, 1) := by decide +kernel
theorem dX2_takeNextWord_49 : decode cX2_takeNextWord 49 = .ok (.invokestatic 71, 3) := by decide +kernel
theorem dX2_takeNextWord_52 : decode cX2_takeNextWord 52 = .ok (.ifCond .eq 28, 3) := by decide +kernel
theorem dX2_takeNextWord_55 : decode cX2_takeNextWord 55 = .ok (.aload_n 0, 1) := by decide +kernel
theorem dX2_takeNextWord_56 : decode cX2_takeNextWord 56 = .ok (.iload_n 3, 1) := by decide +kernel
theorem dX2_takeNextWord_57 : decode cX2_takeNextWord 57 = .ok (.invokevirtual 74, 3) := by decide +kernel
theorem dX2_takeNextWord_60 : decode cX2_takeNextWord 60 = .ok (.aload_n 0, 1) := by decide +kernel
theorem dX2_takeNextWord_61 : decode cX2_takeNextWord 61 = .ok (.getfield 18, 3) := by decide +kernel
theorem dX2_takeNextWord_64 : decode cX2_takeNextWord 64 = .ok (.iload 4, 2) := by decide +kernel
theorem dX2_takeNextWord_66 : decode cX2_takeNextWord 66 = .ok (.iconst 1, 1) := by decide +kernel
theorem dX2_takeNextWord_67 : decode cX2_takeNextWord 67 = .ok (.iastore, 1) := by decide +kernel
theorem dX2_takeNextWord_68 : decode cX2_takeNextWord 68 = .ok (.aload_n 0, 1) := by decide +kernel
theorem dX2_takeNextWord_69 : decode cX2_takeNextWord 69 = .ok (.iload 4, 2) := by decide +kernel
theorem dX2_takeNextWord_71 : decode cX2_takeNextWord 71 = .ok (.putfield 27, 3) := by decide +kernel
theorem dX2_takeNextWord_74 : decode cX2_takeNextWord 74 = .ok (.aload_n 0, 1) := by decide +kernel
theorem dX2_takeNextWord_75 : decode cX2_takeNextWord 75 = .ok (.iload_n 2, 1) := by decide +kernel
theorem dX2_takeNextWord_76 : decode cX2_takeNextWord 76 = .ok (.putfield 43, 3) := by decide +kernel
theorem dX2_takeNextWord_79 : decode cX2_takeNextWord 79 = .ok (.return_, 1) := by decide +kernel
theorem dX2_takeNextWord_80 : decode cX2_takeNextWord 80 = .ok (.iinc 3 1, 3) := by decide +kernel
theorem dX2_takeNextWord_83 : decode cX2_takeNextWord 83 = .ok (.goto (-81), 3) := by decide +kernel
theorem dX2_takeNextWord_86 : decode cX2_takeNextWord 86 = .ok (.return_, 1) := by decide +kernel
theorem dX2_isInSet_0 : decode cX2_isInSet 0 = .ok (.iload_n 1, 1) := by decide +kernel
theorem dX2_isInSet_1 : decode cX2_isInSet 1 = .ok (.iload_n 0, 1) := by decide +kernel
theorem dX2_isInSet_2 : decode cX2_isInSet 2 = .ok (.ishr, 1) := by decide +kernel
theorem dX2_isInSet_3 : decode cX2_isInSet 3 = .ok (.iconst 1, 1) := by decide +kernel
theorem dX2_isInSet_4 : decode cX2_isInSet 4 = .ok (.iand, 1) := by decide +kernel
theorem dX2_isInSet_5 : decode cX2_isInSet 5 = .ok (.iconst 1, 1) := by decide +kernel
theorem dX2_isInSet_6 : decode cX2_isInSet 6 = .ok (.if_icmp .ne 7, 3) := by decide +kernel
theorem dX2_isInSet_9 : decode cX2_isInSet 9 = .ok (.iconst 1, 1) := by decide +kernel
theorem dX2_isInSet_10 : decode cX2_isInSet 10 = .ok (.goto 4, 3) := by decide +kernel
theorem dX2_isInSet_13 : decode cX2_isInSet 13 = .ok (.iconst 0, 1) := by decide +kernel
theorem dX2_isInSet_14 : decode cX2_isInSet 14 = .ok (.ireturn, 1) := by decide +kernel
theorem dX2_removeFromQueue_0 : decode cX2_removeFromQueue 0 = .ok (.aload_n 0, 1) := by decide +kernel
theorem dX2_removeFromQueue_1 : decode cX2_removeFromQueue 1 = .ok (.dup, 1) := by decide +kernel
theorem dX2_removeFromQueue_2 : decode cX2_removeFromQueue 2 = .ok (.getfield 40, 3) := by decide +kernel
theorem dX2_removeFromQueue_5 : decode cX2_removeFromQueue 5 = .ok (.iconst 1, 1) := by decide +kernel
theorem dX2_removeFromQueue_6 : decode cX2_removeFromQueue 6 = .ok (.isub, 1) := by decide +kernel
theorem dX2_removeFromQueue_7 : decode cX2_removeFromQueue 7 = .ok (.putfield 40, 3) := by decide +kernel
theorem dX2_removeFromQueue_10 : decode cX2_removeFromQueue 10 = .ok (.iload_n 1, 1) := by decide +kernel
theorem dX2_removeFromQueue_11 : decode cX2_removeFromQueue 11 = .ok (.istore_n 2, 1) := by decide +kernel
theorem dX2_removeFromQueue_12 : decode cX2_removeFromQueue 12 = .ok (.iload_n 2, 1) := by decide +kernel
theorem dX2_removeFromQueue_13 : decode cX2_removeFromQueue 13 = .ok (.aload_n 0, 1) := by decide +kernel
theorem dX2_removeFromQueue_14 : decode cX2_removeFromQueue 14 = .ok (.getfield 40, 3) := by decide +kernel
theorem dX2_removeFromQueue_17 : decode cX2_removeFromQueue 17 = .ok (.if_icmp .ge 23, 3) := by decide +kernel
theorem dX2_removeFromQueue_20 : decode cX2_removeFromQueue 20 = .ok (.aload_n 0, 1) := by decide +kernel
theorem dX2_removeFromQueue_21 : decode cX2_removeFromQueue 21 = .ok (.getfield 24, 3) := by decide +kernel
theorem dX2_removeFromQueue_24 : decode cX2_removeFromQueue 24 = .ok (.iload_n 2, 1) := by decide +kernel
theorem dX2_removeFromQueue_25 : decode cX2_removeFromQueue 25 = .ok (.aload_n 0, 1) := by decide +kernel
theorem dX2_removeFromQueue_26 : decode cX2_removeFromQueue 26 = .ok (.getfield 24, 3) := by decide +kernel
theorem dX2_removeFromQueue_29 : decode cX2_removeFromQueue 29 = .ok (.iload_n 2, 1) := by decide +kernel
theorem dX2_removeFromQueue_30 : decode cX2_removeFromQueue 30 = .ok (.iconst 1, 1) := by decide +kernel
theorem dX2_removeFromQueue_31 : decode cX2_removeFromQueue 31 = .ok (.iadd, 1) := by decide +kernel
theorem dX2_removeFromQueue_32 : decode cX2_removeFromQueue 32 = .ok (.iaload, 1) := by decide +kernel
theorem dX2_removeFromQueue_33 : decode cX2_removeFromQueue 33 = .ok (.iastore, 1) := by decide +kernel
theorem dX2_removeFromQueue_34 : decode cX2_removeFromQueue 34 = .ok (.iinc 2 1, 3) := by decide +kernel
theorem dX2_removeFromQueue_37 : decode cX2_removeFromQueue 37 = .ok (.goto (-25), 3) := by decide +kernel
theorem dX2_removeFromQueue_40 : decode cX2_removeFromQueue 40 = .ok (.return_, 1) := by decide +kernel
theorem dX3_init_0 : decode cX3_init 0 = .ok (.aload_n 0, 1) := by decide +kernel
theorem dX3_init_1 : decode cX3_init 1 = .ok (.invokespecial 3, 3) := by decide +kernel
theorem dX3_init_4 : decode cX3_init 4 = .ok (.aload_n 0, 1) := by decide +kernel
theorem dX3_init_5 : decode cX3_init 5 = .ok (.bipush 7, 2) := by decide +kernel
theorem dX3_init_7 : decode cX3_init 7 = .ok (.anewarray 11, 3) := by decide +kernel
theorem dX3_init_10 : decode cX3_init 10 = .ok (.putfield 13, 3) := by decide +kernel
theorem dX3_init_13 : decode cX3_init 13 = .ok (.iconst 0, 1) := by decide +kernel
theorem dX3_init_14 : decode cX3_init 14 = .ok (.istore_n 1, 1) := by decide +kernel
theorem dX3_init_15 : decode cX3_init 15 = .ok (.iload_n 1, 1) := by decide +kernel
theorem dX3_init_16 : decode cX3_init 16 = .ok (.bipush 7, 2) := by decide +kernel
theorem dX3_init_18 : decode cX3_init 18 = .ok (.if_icmp .ge 22, 3) := by decide +kernel
theorem dX3_init_21 : decode cX3_init 21 = .ok (.aload_n 0, 1) := by decide +kernel
theorem dX3_init_22 : decode cX3_init 22 = .ok (.getfield 13, 3) := by decide +kernel
theorem dX3_init_25 : decode cX3_init 25 = .ok (.iload_n 1, 1) := by decide +kernel
theorem dX3_init_26 : decode cX3_init 26 = .ok (.new 11, 3) := by decide +kernel
theorem dX3_init_29 : decode cX3_init 29 = .ok (.dup, 1) := by decide +kernel
theorem dX3_init_30 : decode cX3_init 30 = .ok (.invokespecial 17, 3) := by decide +kernel
theorem dX3_init_33 : decode cX3_init 33 = .ok (.aastore, 1) := by decide +kernel
theorem dX3_init_34 : decode cX3_init 34 = .ok (.iinc 1 1, 3) := by decide +kernel
theorem dX3_init_37 : decode cX3_init 37 = .ok (.goto (-22), 3) := by decide +kernel
theorem dX3_init_40 : decode cX3_init 40 = .ok (.return_, 1) := by decide +kernel
theorem dX3_stateAt_0 : decode cX3_stateAt 0 = .ok (.aload_n 0, 1) := by decide +kernel
theorem dX3_stateAt_1 : decode cX3_stateAt 1 = .ok (.getfield 13, 3) := by decide +kernel
theorem dX3_stateAt_4 : decode cX3_stateAt 4 = .ok (.aload_n 0, 1) := by decide +kernel
theorem dX3_stateAt_5 : decode cX3_stateAt 5 = .ok (.getfield 18, 3) := by decide +kernel
theorem dX3_stateAt_8 : decode cX3_stateAt 8 = .ok (.iload_n 1, 1) := by decide +kernel
theorem dX3_stateAt_9 : decode cX3_stateAt 9 = .ok (.iadd, 1) := by decide +kernel
theorem dX3_stateAt_10 : decode cX3_stateAt 10 = .ok (.bipush 7, 2) := by decide +kernel
theorem dX3_stateAt_12 : decode cX3_stateAt 12 = .ok (.invokestatic 22, 3) := by decide +kernel
theorem dX3_stateAt_15 : decode cX3_stateAt 15 = .ok (.aaload, 1) := by decide +kernel
theorem dX3_stateAt_16 : decode cX3_stateAt 16 = .ok (.areturn, 1) := by decide +kernel
theorem dX3_prepare_0 : decode cX3_prepare 0 = .ok (.aload_n 0, 1) := by decide +kernel
theorem dX3_prepare_1 : decode cX3_prepare 1 = .ok (.aload_n 0, 1) := by decide +kernel
theorem dX3_prepare_2 : decode cX3_prepare 2 = .ok (.getfield 28, 3) := by decide +kernel
theorem dX3_prepare_5 : decode cX3_prepare 5 = .ok (.invokevirtual 31, 3) := by decide +kernel
theorem dX3_prepare_8 : decode cX3_prepare 8 = .ok (.aload_n 1, 1) := by decide +kernel
theorem dX3_prepare_9 : decode cX3_prepare 9 = .ok (.invokevirtual 35, 3) := by decide +kernel
theorem dX3_prepare_12 : decode cX3_prepare 12 = .ok (.return_, 1) := by decide +kernel
theorem dX3_settle_0 : decode cX3_settle 0 = .ok (.iload_n 1, 1) := by decide +kernel
theorem dX3_settle_1 : decode cX3_settle 1 = .ok (.ifCond .ge 5, 3) := by decide +kernel
theorem dX3_settle_4 : decode cX3_settle 4 = .ok (.iload_n 1, 1) := by decide +kernel
theorem dX3_settle_5 : decode cX3_settle 5 = .ok (.ireturn, 1) := by decide +kernel
theorem dX3_settle_6 : decode cX3_settle 6 = .ok (.aload_n 0, 1) := by decide +kernel
theorem dX3_settle_7 : decode cX3_settle 7 = .ok (.getfield 28, 3) := by decide +kernel
theorem dX3_settle_10 : decode cX3_settle 10 = .ok (.bipush 6, 2) := by decide +kernel
theorem dX3_settle_12 : decode cX3_settle 12 = .ok (.if_icmp .ge 16, 3) := by decide +kernel
theorem dX3_settle_15 : decode cX3_settle 15 = .ok (.aload_n 0, 1) := by decide +kernel
theorem dX3_settle_16 : decode cX3_settle 16 = .ok (.dup, 1) := by decide +kernel
theorem dX3_settle_17 : decode cX3_settle 17 = .ok (.getfield 28, 3) := by decide +kernel
theorem dX3_settle_20 : decode cX3_settle 20 = .ok (.iconst 1, 1) := by decide +kernel
theorem dX3_settle_21 : decode cX3_settle 21 = .ok (.iadd, 1) := by decide +kernel
theorem dX3_settle_22 : decode cX3_settle 22 = .ok (.putfield 28, 3) := by decide +kernel
theorem dX3_settle_25 : decode cX3_settle 25 = .ok (.goto 18, 3) := by decide +kernel
theorem dX3_settle_28 : decode cX3_settle 28 = .ok (.aload_n 0, 1) := by decide +kernel
theorem dX3_settle_29 : decode cX3_settle 29 = .ok (.aload_n 0, 1) := by decide +kernel
theorem dX3_settle_30 : decode cX3_settle 30 = .ok (.getfield 18, 3) := by decide +kernel
theorem dX3_settle_33 : decode cX3_settle 33 = .ok (.iconst 1, 1) := by decide +kernel
theorem dX3_settle_34 : decode cX3_settle 34 = .ok (.iadd, 1) := by decide +kernel
theorem dX3_settle_35 : decode cX3_settle 35 = .ok (.bipush 7, 2) := by decide +kernel
theorem dX3_settle_37 : decode cX3_settle 37 = .ok (.invokestatic 22, 3) := by decide +kernel
theorem dX3_settle_40 : decode cX3_settle 40 = .ok (.putfield 18, 3) := by decide +kernel
theorem dX3_settle_43 : decode cX3_settle 43 = .ok (.iload_n 1, 1) := by decide +kernel
theorem dX3_settle_44 : decode cX3_settle 44 = .ok (.ireturn, 1) := by decide +kernel
theorem dX3_takeBack_0 : decode cX3_takeBack 0 = .ok (.aload_n 0, 1) := by decide +kernel
theorem dX3_takeBack_1 : decode cX3_takeBack 1 = .ok (.getfield 28, 3) := by decide +kernel
theorem dX3_takeBack_4 : decode cX3_takeBack 4 = .ok (.ifCond .ne 6, 3) := by decide +kernel
theorem dX3_takeBack_7 : decode cX3_takeBack 7 = .ok (.bipush (-5), 2) := by decide +kernel
theorem dX3_takeBack_9 : decode cX3_takeBack 9 = .ok (.ireturn, 1) := by decide +kernel
theorem dX3_takeBack_10 : decode cX3_takeBack 10 = .ok (.aload_n 0, 1) := by decide +kernel
theorem dX3_takeBack_11 : decode cX3_takeBack 11 = .ok (.dup, 1) := by decide +kernel
theorem dX3_takeBack_12 : decode cX3_takeBack 12 = .ok (.getfield 28, 3) := by decide +kernel
theorem dX3_takeBack_15 : decode cX3_takeBack 15 = .ok (.iconst 1, 1) := by decide +kernel
theorem dX3_takeBack_16 : decode cX3_takeBack 16 = .ok (.isub, 1) := by decide +kernel
theorem dX3_takeBack_17 : decode cX3_takeBack 17 = .ok (.putfield 28, 3) := by decide +kernel
theorem dX3_takeBack_20 : decode cX3_takeBack 20 = .ok (.aload_n 1, 1) := by decide +kernel
theorem dX3_takeBack_21 : decode cX3_takeBack 21 = .ok (.aload_n 0, 1) := by decide +kernel
theorem dX3_takeBack_22 : decode cX3_takeBack 22 = .ok (.aload_n 0, 1) := by decide +kernel
theorem dX3_takeBack_23 : decode cX3_takeBack 23 = .ok (.getfield 28, 3) := by decide +kernel
theorem dX3_takeBack_26 : decode cX3_takeBack 26 = .ok (.invokevirtual 31, 3) := by decide +kernel
theorem dX3_takeBack_29 : decode cX3_takeBack 29 = .ok (.invokevirtual 35, 3) := by decide +kernel
theorem dX3_takeBack_32 : decode cX3_takeBack 32 = .ok (.aload_n 0, 1) := by decide +kernel
theorem dX3_takeBack_33 : decode cX3_takeBack 33 = .ok (.getfield 28, 3) := by decide +kernel
theorem dX3_takeBack_36 : decode cX3_takeBack 36 = .ok (.ireturn, 1) := by decide +kernel
theorem dX4_init_0 : decode cX4_init 0 = .ok (.aload_n 0, 1) := by decide +kernel
theorem dX4_init_1 : decode cX4_init 1 = .ok (.invokespecial 3, 3) := by decide +kernel
theorem dX4_init_4 : decode cX4_init 4 = .ok (.aload_n 0, 1) := by decide +kernel
theorem dX4_init_5 : decode cX4_init 5 = .ok (.bipush 80, 2) := by decide +kernel
theorem dX4_init_7 : decode cX4_init 7 = .ok (.newarray .int, 2) := by decide +kernel
theorem dX4_init_9 : decode cX4_init 9 = .ok (.putfield 9, 3) := by decide +kernel
theorem dX4_init_12 : decode cX4_init 12 = .ok (.aload_n 0, 1) := by decide +kernel
theorem dX4_init_13 : decode cX4_init 13 = .ok (.iconst 3, 1) := by decide +kernel
theorem dX4_init_14 : decode cX4_init 14 = .ok (.newarray .int, 2) := by decide +kernel
theorem dX4_init_16 : decode cX4_init 16 = .ok (.putfield 15, 3) := by decide +kernel
theorem dX4_init_19 : decode cX4_init 19 = .ok (.return_, 1) := by decide +kernel
theorem dX4_append_0 : decode cX4_append 0 = .ok (.lload_n 1, 1) := by decide +kernel
theorem dX4_append_1 : decode cX4_append 1 = .ok (.invokestatic 18, 3) := by decide +kernel
theorem dX4_append_4 : decode cX4_append 4 = .ok (.istore_n 3, 1) := by decide +kernel
theorem dX4_append_5 : decode cX4_append 5 = .ok (.iload_n 3, 1) := by decide +kernel
theorem dX4_append_6 : decode cX4_append 6 = .ok (.ifCond .ne 6, 3) := by decide +kernel
theorem dX4_append_9 : decode cX4_append 9 = .ok (.bipush (-2), 2) := by decide +kernel
theorem dX4_append_11 : decode cX4_append 11 = .ok (.ireturn, 1) := by decide +kernel
theorem dX4_append_12 : decode cX4_append 12 = .ok (.aload_n 0, 1) := by decide +kernel
theorem dX4_append_13 : decode cX4_append 13 = .ok (.getfield 22, 3) := by decide +kernel
theorem dX4_append_16 : decode cX4_append 16 = .ok (.iload_n 3, 1) := by decide +kernel
theorem dX4_append_17 : decode cX4_append 17 = .ok (.iadd, 1) := by decide +kernel
theorem dX4_append_18 : decode cX4_append 18 = .ok (.bipush 80, 2) := by decide +kernel
theorem dX4_append_20 : decode cX4_append 20 = .ok (.if_icmp .le 6, 3) := by decide +kernel
theorem dX4_append_23 : decode cX4_append 23 = .ok (.bipush (-4), 2) := by decide +kernel
theorem dX4_append_25 : decode cX4_append 25 = .ok (.ireturn, 1) := by decide +kernel
theorem dX4_append_26 : decode cX4_append 26 = .ok (.iload_n 3, 1) := by decide +kernel
theorem dX4_append_27 : decode cX4_append 27 = .ok (.iconst 1, 1) := by decide +kernel
theorem dX4_append_28 : decode cX4_append 28 = .ok (.isub, 1) := by decide +kernel
theorem dX4_append_29 : decode cX4_append 29 = .ok (.istore 4, 2) := by decide +kernel
theorem dX4_append_31 : decode cX4_append 31 = .ok (.iload 4, 2) := by decide +kernel
theorem dX4_append_33 : decode cX4_append 33 = .ok (.ifCond .lt 40, 3) := by decide +kernel
theorem dX4_append_36 : decode cX4_append 36 = .ok (.aload_n 0, 1) := by decide +kernel
theorem dX4_append_37 : decode cX4_append 37 = .ok (.getfield 9, 3) := by decide +kernel
theorem dX4_append_40 : decode cX4_append 40 = .ok (.aload_n 0, 1) := by decide +kernel
theorem dX4_append_41 : decode cX4_append 41 = .ok (.getfield 22, 3) := by decide +kernel
theorem dX4_append_44 : decode cX4_append 44 = .ok (.lload_n 1, 1) := by decide +kernel
theorem dX4_append_45 : decode cX4_append 45 = .ok (.bipush 8, 2) := by decide +kernel
theorem dX4_append_47 : decode cX4_append 47 = .ok (.iload 4, 2) := by decide +kernel
theorem dX4_append_49 : decode cX4_append 49 = .ok (.imul, 1) := by decide +kernel
theorem dX4_append_50 : decode cX4_append 50 = .ok (.lushr, 1) := by decide +kernel
theorem dX4_append_51 : decode cX4_append 51 = .ok (.l2i, 1) := by decide +kernel
theorem dX4_append_52 : decode cX4_append 52 = .ok (.sipush 255, 3) := by decide +kernel
theorem dX4_append_55 : decode cX4_append 55 = .ok (.iand, 1) := by decide +kernel
theorem dX4_append_56 : decode cX4_append 56 = .ok (.iastore, 1) := by decide +kernel
theorem dX4_append_57 : decode cX4_append 57 = .ok (.aload_n 0, 1) := by decide +kernel
theorem dX4_append_58 : decode cX4_append 58 = .ok (.dup, 1) := by decide +kernel
theorem dX4_append_59 : decode cX4_append 59 = .ok (.getfield 22, 3) := by decide +kernel
theorem dX4_append_62 : decode cX4_append 62 = .ok (.iconst 1, 1) := by decide +kernel
theorem dX4_append_63 : decode cX4_append 63 = .ok (.iadd, 1) := by decide +kernel
theorem dX4_append_64 : decode cX4_append 64 = .ok (.putfield 22, 3) := by decide +kernel
theorem dX4_append_67 : decode cX4_append 67 = .ok (.iinc 4 (-1), 3) := by decide +kernel
theorem dX4_append_70 : decode cX4_append 70 = .ok (.goto (-39), 3) := by decide +kernel
theorem dX4_append_73 : decode cX4_append 73 = .ok (.aload_n 0, 1) := by decide +kernel
theorem dX4_append_74 : decode cX4_append 74 = .ok (.getfield 22, 3) := by decide +kernel
theorem dX4_append_77 : decode cX4_append 77 = .ok (.ireturn, 1) := by decide +kernel
theorem dX4_charactersIn_0 : decode cX4_charactersIn 0 = .ok (.lload_n 0, 1) := by decide +kernel
theorem dX4_charactersIn_1 : decode cX4_charactersIn 1 = .ok (.lstore_n 2, 1) := by decide +kernel
theorem dX4_charactersIn_2 : decode cX4_charactersIn 2 = .ok (.iconst 0, 1) := by decide +kernel
theorem dX4_charactersIn_3 : decode cX4_charactersIn 3 = .ok (.istore 4, 2) := by decide +kernel
theorem dX4_charactersIn_5 : decode cX4_charactersIn 5 = .ok (.iload 4, 2) := by decide +kernel
theorem dX4_charactersIn_7 : decode cX4_charactersIn 7 = .ok (.bipush 8, 2) := by decide +kernel
theorem dX4_charactersIn_9 : decode cX4_charactersIn 9 = .ok (.if_icmp .ge 42, 3) := by decide +kernel
theorem dX4_charactersIn_12 : decode cX4_charactersIn 12 = .ok (.lload_n 2, 1) := by decide +kernel
theorem dX4_charactersIn_13 : decode cX4_charactersIn 13 = .ok (.ldc2_w 26, 3) := by decide +kernel
theorem dX4_charactersIn_16 : decode cX4_charactersIn 16 = .ok (.land, 1) := by decide +kernel
theorem dX4_charactersIn_17 : decode cX4_charactersIn 17 = .ok (.lconst 0, 1) := by decide +kernel
theorem dX4_charactersIn_18 : decode cX4_charactersIn 18 = .ok (.lcmp, 1) := by decide +kernel
theorem dX4_charactersIn_19 : decode cX4_charactersIn 19 = .ok (.ifCond .eq 32, 3) := by decide +kernel
theorem dX4_charactersIn_22 : decode cX4_charactersIn 22 = .ok (.lload_n 2, 1) := by decide +kernel
theorem dX4_charactersIn_23 : decode cX4_charactersIn 23 = .ok (.ldc2_w 26, 3) := by decide +kernel
theorem dX4_charactersIn_26 : decode cX4_charactersIn 26 = .ok (.land, 1) := by decide +kernel
theorem dX4_charactersIn_27 : decode cX4_charactersIn 27 = .ok (.l2i, 1) := by decide +kernel
theorem dX4_charactersIn_28 : decode cX4_charactersIn 28 = .ok (.bipush 33, 2) := by decide +kernel
theorem dX4_charactersIn_30 : decode cX4_charactersIn 30 = .ok (.bipush 126, 2) := by decide +kernel
theorem dX4_charactersIn_32 : decode cX4_charactersIn 32 = .ok (.invokestatic 28, 3) := by decide +kernel
theorem dX4_charactersIn_35 : decode cX4_charactersIn 35 = .ok (.ifCond .ne 5, 3) := by decide +kernel
theorem dX4_charactersIn_38 : decode cX4_charactersIn 38 = .ok (.iconst 0, 1) := by decide +kernel
theorem dX4_charactersIn_39 : decode cX4_charactersIn 39 = .ok (.ireturn, 1) := by decide +kernel
theorem dX4_charactersIn_40 : decode cX4_charactersIn 40 = .ok (.lload_n 2, 1) := by decide +kernel
theorem dX4_charactersIn_41 : decode cX4_charactersIn 41 = .ok (.bipush 8, 2) := by decide +kernel
theorem dX4_charactersIn_43 : decode cX4_charactersIn 43 = .ok (.lushr, 1) := by decide +kernel
theorem dX4_charactersIn_44 : decode cX4_charactersIn 44 = .ok (.lstore_n 2, 1) := by decide +kernel
theorem dX4_charactersIn_45 : decode cX4_charactersIn 45 = .ok (.iinc 4 1, 3) := by decide +kernel
theorem dX4_charactersIn_48 : decode cX4_charactersIn 48 = .ok (.goto (-43), 3) := by decide +kernel
theorem dX4_charactersIn_51 : decode cX4_charactersIn 51 = .ok (.lload_n 2, 1) := by decide +kernel
theorem dX4_charactersIn_52 : decode cX4_charactersIn 52 = .ok (.lconst 0, 1) := by decide +kernel
theorem dX4_charactersIn_53 : decode cX4_charactersIn 53 = .ok (.lcmp, 1) := by decide +kernel
theorem dX4_charactersIn_54 : decode cX4_charactersIn 54 = .ok (.ifCond .ne 8, 3) := by decide +kernel
theorem dX4_charactersIn_57 : decode cX4_charactersIn 57 = .ok (.iload 4, 2) := by decide +kernel
theorem dX4_charactersIn_59 : decode cX4_charactersIn 59 = .ok (.goto 4, 3) := by decide +kernel
theorem dX4_charactersIn_62 : decode cX4_charactersIn 62 = .ok (.iconst 0, 1) := by decide +kernel
theorem dX4_charactersIn_63 : decode cX4_charactersIn 63 = .ok (.ireturn, 1) := by decide +kernel
theorem dX4_clear_0 : decode cX4_clear 0 = .ok (.aload_n 0, 1) := by decide +kernel
theorem dX4_clear_1 : decode cX4_clear 1 = .ok (.getfield 22, 3) := by decide +kernel
theorem dX4_clear_4 : decode cX4_clear 4 = .ok (.istore_n 1, 1) := by decide +kernel
theorem dX4_clear_5 : decode cX4_clear 5 = .ok (.aload_n 0, 1) := by decide +kernel
theorem dX4_clear_6 : decode cX4_clear 6 = .ok (.iconst 0, 1) := by decide +kernel
theorem dX4_clear_7 : decode cX4_clear 7 = .ok (.putfield 22, 3) := by decide +kernel
theorem dX4_clear_10 : decode cX4_clear 10 = .ok (.iload_n 1, 1) := by decide +kernel
theorem dX4_clear_11 : decode cX4_clear 11 = .ok (.ireturn, 1) := by decide +kernel
theorem dX4_faultPlace_0 : decode cX4_faultPlace 0 = .ok (.aload_n 0, 1) := by decide +kernel
theorem dX4_faultPlace_1 : decode cX4_faultPlace 1 = .ok (.invokevirtual 32, 3) := by decide +kernel
theorem dX4_faultPlace_4 : decode cX4_faultPlace 4 = .ok (.iconst 0, 1) := by decide +kernel
theorem dX4_faultPlace_5 : decode cX4_faultPlace 5 = .ok (.istore_n 1, 1) := by decide +kernel
theorem dX4_faultPlace_6 : decode cX4_faultPlace 6 = .ok (.iload_n 1, 1) := by decide +kernel
theorem dX4_faultPlace_7 : decode cX4_faultPlace 7 = .ok (.bipush 80, 2) := by decide +kernel
theorem dX4_faultPlace_9 : decode cX4_faultPlace 9 = .ok (.if_icmp .ge 47, 3) := by decide +kernel
theorem dX4_faultPlace_12 : decode cX4_faultPlace 12 = .ok (.aload_n 0, 1) := by decide +kernel
theorem dX4_faultPlace_13 : decode cX4_faultPlace 13 = .ok (.invokevirtual 35, 3) := by decide +kernel
theorem dX4_faultPlace_16 : decode cX4_faultPlace 16 = .ok (.ifCond .ne 8, 3) := by decide +kernel
theorem dX4_faultPlace_19 : decode cX4_faultPlace 19 = .ok (.aload_n 0, 1) := by decide +kernel
theorem dX4_faultPlace_20 : decode cX4_faultPlace 20 = .ok (.getfield 39, 3) := by decide +kernel
theorem dX4_faultPlace_23 : decode cX4_faultPlace 23 = .ok (.ireturn, 1) := by decide +kernel
theorem dX4_faultPlace_24 : decode cX4_faultPlace 24 = .ok (.aload_n 0, 1) := by decide +kernel
theorem dX4_faultPlace_25 : decode cX4_faultPlace 25 = .ok (.getfield 39, 3) := by decide +kernel
theorem dX4_faultPlace_28 : decode cX4_faultPlace 28 = .ok (.aload_n 0, 1) := by decide +kernel
theorem dX4_faultPlace_29 : decode cX4_faultPlace 29 = .ok (.getfield 22, 3) := by decide +kernel
theorem dX4_faultPlace_32 : decode cX4_faultPlace 32 = .ok (.if_icmp .ne 6, 3) := by decide +kernel
theorem dX4_faultPlace_35 : decode cX4_faultPlace 35 = .ok (.bipush (-6), 2) := by decide +kernel
theorem dX4_faultPlace_37 : decode cX4_faultPlace 37 = .ok (.ireturn, 1) := by decide +kernel
theorem dX4_faultPlace_38 : decode cX4_faultPlace 38 = .ok (.aload_n 0, 1) := by decide +kernel
theorem dX4_faultPlace_39 : decode cX4_faultPlace 39 = .ok (.invokevirtual 42, 3) := by decide +kernel
theorem dX4_faultPlace_42 : decode cX4_faultPlace 42 = .ok (.ifCond .ne 8, 3) := by decide +kernel
theorem dX4_faultPlace_45 : decode cX4_faultPlace 45 = .ok (.aload_n 0, 1) := by decide +kernel
theorem dX4_faultPlace_46 : decode cX4_faultPlace 46 = .ok (.getfield 39, 3) := by decide +kernel
theorem dX4_faultPlace_49 : decode cX4_faultPlace 49 = .ok (.ireturn, 1) := by decide +kernel
theorem dX4_faultPlace_50 : decode cX4_faultPlace 50 = .ok (.iinc 1 1, 3) := by decide +kernel
theorem dX4_faultPlace_53 : decode cX4_faultPlace 53 = .ok (.goto (-47), 3) := by decide +kernel
theorem dX4_faultPlace_56 : decode cX4_faultPlace 56 = .ok (.aload_n 0, 1) := by decide +kernel
theorem dX4_faultPlace_57 : decode cX4_faultPlace 57 = .ok (.getfield 39, 3) := by decide +kernel
theorem dX4_faultPlace_60 : decode cX4_faultPlace 60 = .ok (.ireturn, 1) := by decide +kernel
theorem dX4_startReading_0 : decode cX4_startReading 0 = .ok (.aload_n 0, 1) := by decide +kernel
theorem dX4_startReading_1 : decode cX4_startReading 1 = .ok (.iconst 0, 1) := by decide +kernel
theorem dX4_startReading_2 : decode cX4_startReading 2 = .ok (.putfield 39, 3) := by decide +kernel
theorem dX4_startReading_5 : decode cX4_startReading 5 = .ok (.return_, 1) := by decide +kernel
theorem dX4_readSeparator_0 : decode cX4_readSeparator 0 = .ok (.aload_n 0, 1) := by decide +kernel
theorem dX4_readSeparator_1 : decode cX4_readSeparator 1 = .ok (.bipush 59, 2) := by decide +kernel
theorem dX4_readSeparator_3 : decode cX4_readSeparator 3 = .ok (.invokevirtual 45, 3) := by decide +kernel
theorem dX4_readSeparator_6 : decode cX4_readSeparator 6 = .ok (.ireturn, 1) := by decide +kernel
theorem dX4_readOrder_0 : decode cX4_readOrder 0 = .ok (.aload_n 0, 1) := by decide +kernel
theorem dX4_readOrder_1 : decode cX4_readOrder 1 = .ok (.aload_n 0, 1) := by decide +kernel
theorem dX4_readOrder_2 : decode cX4_readOrder 2 = .ok (.invokevirtual 49, 3) := by decide +kernel
theorem dX4_readOrder_5 : decode cX4_readOrder 5 = .ok (.putfield 53, 3) := by decide +kernel
theorem dX4_readOrder_8 : decode cX4_readOrder 8 = .ok (.aload_n 0, 1) := by decide +kernel
theorem dX4_readOrder_9 : decode cX4_readOrder 9 = .ok (.getfield 53, 3) := by decide +kernel
theorem dX4_readOrder_12 : decode cX4_readOrder 12 = .ok (.invokestatic 56, 3) := by decide +kernel
theorem dX4_readOrder_15 : decode cX4_readOrder 15 = .ok (.astore_n 1, 1) := by decide +kernel
theorem dX4_readOrder_16 : decode cX4_readOrder 16 = .ok (.aload_n 1, 1) := by decide +kernel
theorem dX4_readOrder_17 : decode cX4_readOrder 17 = .ok (.invokevirtual 60, 3) := by decide +kernel
theorem dX4_readOrder_20 : decode cX4_readOrder 20 = .ok (.ifCond .eq 5, 3) := by decide +kernel
theorem dX4_readOrder_23 : decode cX4_readOrder 23 = .ok (.iconst 0, 1) := by decide +kernel
theorem dX4_readOrder_24 : decode cX4_readOrder 24 = .ok (.ireturn, 1) := by decide +kernel
theorem dX4_readOrder_25 : decode cX4_readOrder 25 = .ok (.aload_n 0, 1) := by decide +kernel
theorem dX4_readOrder_26 : decode cX4_readOrder 26 = .ok (.dup, 1) := by decide +kernel
theorem dX4_readOrder_27 : decode cX4_readOrder 27 = .ok (.getfield 39, 3) := by decide +kernel
theorem dX4_readOrder_30 : decode cX4_readOrder 30 = .ok (.iconst 1, 1) := by decide +kernel
theorem dX4_readOrder_31 : decode cX4_readOrder 31 = .ok (.iadd, 1) := by decide +kernel
theorem dX4_readOrder_32 : decode cX4_readOrder 32 = .ok (.putfield 39, 3) := by decide +kernel
theorem dX4_readOrder_35 : decode cX4_readOrder 35 = .ok (.iconst 0, 1) := by decide +kernel
theorem dX4_readOrder_36 : decode cX4_readOrder 36 = .ok (.istore_n 2, 1) := by decide +kernel
theorem dX4_readOrder_37 : decode cX4_readOrder 37 = .ok (.iconst 0, 1) := by decide +kernel
theorem dX4_readOrder_38 : decode cX4_readOrder 38 = .ok (.istore_n 3, 1) := by decide +kernel
theorem dX4_readOrder_39 : decode cX4_readOrder 39 = .ok (.iload_n 3, 1) := by decide +kernel
theorem dX4_readOrder_40 : decode cX4_readOrder 40 = .ok (.aload_n 1, 1) := by decide +kernel
theorem dX4_readOrder_41 : decode cX4_readOrder 41 = .ok (.invokevirtual 65, 3) := by decide +kernel
theorem dX4_readOrder_44 : decode cX4_readOrder 44 = .ok (.if_icmp .ge 86, 3) := by decide +kernel
theorem dX4_readOrder_47 : decode cX4_readOrder 47 = .ok (.aload_n 1, 1) := by decide +kernel
theorem dX4_readOrder_48 : decode cX4_readOrder 48 = .ok (.iload_n 3, 1) := by decide +kernel
theorem dX4_readOrder_49 : decode cX4_readOrder 49 = .ok (.invokevirtual 67, 3) := by decide +kernel
theorem dX4_readOrder_52 : decode cX4_readOrder 52 = .ok (.istore 4, 2) := by decide +kernel
theorem dX4_readOrder_54 : decode cX4_readOrder 54 = .ok (.iload 4, 2) := by decide +kernel
theorem dX4_readOrder_56 : decode cX4_readOrder 56 = .ok (.bipush 35, 2) := by decide +kernel
theorem dX4_readOrder_58 : decode cX4_readOrder 58 = .ok (.if_icmp .eq 21, 3) := by decide +kernel
theorem dX4_readOrder_61 : decode cX4_readOrder 61 = .ok (.iload 4, 2) := by decide +kernel
theorem dX4_readOrder_63 : decode cX4_readOrder 63 = .ok (.bipush 100, 2) := by decide +kernel
theorem dX4_readOrder_65 : decode cX4_readOrder 65 = .ok (.if_icmp .eq 14, 3) := by decide +kernel
theorem dX4_readOrder_68 : decode cX4_readOrder 68 = .ok (.aload_n 0, 1) := by decide +kernel
theorem dX4_readOrder_69 : decode cX4_readOrder 69 = .ok (.iload 4, 2) := by decide +kernel
theorem dX4_readOrder_71 : decode cX4_readOrder 71 = .ok (.invokevirtual 45, 3) := by decide +kernel
theorem dX4_readOrder_74 : decode cX4_readOrder 74 = .ok (.ifCond .ne 50, 3) := by decide +kernel
theorem dX4_readOrder_77 : decode cX4_readOrder 77 = .ok (.iconst 0, 1) := by decide +kernel
theorem dX4_readOrder_78 : decode cX4_readOrder 78 = .ok (.ireturn, 1) := by decide +kernel
theorem dX4_readOrder_79 : decode cX4_readOrder 79 = .ok (.iload 4, 2) := by decide +kernel
theorem dX4_readOrder_81 : decode cX4_readOrder 81 = .ok (.bipush 100, 2) := by decide +kernel
theorem dX4_readOrder_83 : decode cX4_readOrder 83 = .ok (.if_icmp .ne 10, 3) := by decide +kernel
theorem dX4_readOrder_86 : decode cX4_readOrder 86 = .ok (.aload_n 0, 1) := by decide +kernel
theorem dX4_readOrder_87 : decode cX4_readOrder 87 = .ok (.invokevirtual 71, 3) := by decide +kernel
theorem dX4_readOrder_90 : decode cX4_readOrder 90 = .ok (.goto 7, 3) := by decide +kernel
theorem dX4_readOrder_93 : decode cX4_readOrder 93 = .ok (.aload_n 0, 1) := by decide +kernel
theorem dX4_readOrder_94 : decode cX4_readOrder 94 = .ok (.invokevirtual 74, 3) := by decide +kernel
theorem dX4_readOrder_97 : decode cX4_readOrder 97 = .ok (.istore 5, 2) := by decide +kernel
theorem dX4_readOrder_99 : decode cX4_readOrder 99 = .ok (.iload 5, 2) := by decide +kernel
theorem dX4_readOrder_101 : decode cX4_readOrder 101 = .ok (.bipush (-6), 2) := by decide +kernel
theorem dX4_readOrder_103 : decode cX4_readOrder 103 = .ok (.if_icmp .eq 8, 3) := by decide +kernel
theorem dX4_readOrder_106 : decode cX4_readOrder 106 = .ok (.iload_n 2, 1) := by decide +kernel
theorem dX4_readOrder_107 : decode cX4_readOrder 107 = .ok (.iconst 3, 1) := by decide +kernel
theorem dX4_readOrder_108 : decode cX4_readOrder 108 = .ok (.if_icmp .lt 5, 3) := by decide +kernel
theorem dX4_readOrder_111 : decode cX4_readOrder 111 = .ok (.iconst 0, 1) := by decide +kernel
theorem dX4_readOrder_112 : decode cX4_readOrder 112 = .ok (.ireturn, 1) := by decide +kernel
theorem dX4_readOrder_113 : decode cX4_readOrder 113 = .ok (.aload_n 0, 1) := by decide +kernel
theorem dX4_readOrder_114 : decode cX4_readOrder 114 = .ok (.getfield 15, 3) := by decide +kernel
theorem dX4_readOrder_117 : decode cX4_readOrder 117 = .ok (.iload_n 2, 1) := by decide +kernel
theorem dX4_readOrder_118 : decode cX4_readOrder 118 = .ok (.iload 5, 2) := by decide +kernel
theorem dX4_readOrder_120 : decode cX4_readOrder 120 = .ok (.iastore, 1) := by decide +kernel
theorem dX4_readOrder_121 : decode cX4_readOrder 121 = .ok (.iinc 2 1, 3) := by decide +kernel
theorem dX4_readOrder_124 : decode cX4_readOrder 124 = .ok (.iinc 3 1, 3) := by decide +kernel
theorem dX4_readOrder_127 : decode cX4_readOrder 127 = .ok (.goto (-88), 3) := by decide +kernel
theorem dX4_readOrder_130 : decode cX4_readOrder 130 = .ok (.iconst 1, 1) := by decide +kernel
theorem dX4_readOrder_131 : decode cX4_readOrder 131 = .ok (.ireturn, 1) := by decide +kernel
theorem dX4_formOf_0 : decode cX4_formOf 0 = .ok (.iload_n 0, 1) := by decide +kernel
theorem dX4_formOf_1 : decode cX4_formOf 1 = .ok (.lookupswitch 77 #[(97, 68), (98, 59), (105, 62), (111, 65), (116, 74), (119, 71)], 59) := by decide +kernel
theorem dX4_formOf_60 : decode cX4_formOf 60 = .ok (.ldc 77, 2) := by decide +kernel
theorem dX4_formOf_62 : decode cX4_formOf 62 = .ok (.areturn, 1) := by decide +kernel
theorem dX4_formOf_63 : decode cX4_formOf 63 = .ok (.ldc 79, 2) := by decide +kernel
theorem dX4_formOf_65 : decode cX4_formOf 65 = .ok (.areturn, 1) := by decide +kernel
theorem dX4_formOf_66 : decode cX4_formOf 66 = .ok (.ldc 81, 2) := by decide +kernel
theorem dX4_formOf_68 : decode cX4_formOf 68 = .ok (.areturn, 1) := by decide +kernel
theorem dX4_formOf_69 : decode cX4_formOf 69 = .ok (.ldc 83, 2) := by decide +kernel
theorem dX4_formOf_71 : decode cX4_formOf 71 = .ok (.areturn, 1) := by decide +kernel
theorem dX4_formOf_72 : decode cX4_formOf 72 = .ok (.ldc 85, 2) := by decide +kernel
theorem dX4_formOf_74 : decode cX4_formOf 74 = .ok (.areturn, 1) := by decide +kernel
theorem dX4_formOf_75 : decode cX4_formOf 75 = .ok (.ldc 87, 2) := by decide +kernel
theorem dX4_formOf_77 : decode cX4_formOf 77 = .ok (.areturn, 1) := by decide +kernel
theorem dX4_formOf_78 : decode cX4_formOf 78 = .ok (.ldc 89, 2) := by decide +kernel
theorem dX4_formOf_80 : decode cX4_formOf 80 = .ok (.areturn, 1) := by decide +kernel
theorem dX4_signHere_0 : decode cX4_signHere 0 = .ok (.aload_n 0, 1) := by decide +kernel
theorem dX4_signHere_1 : decode cX4_signHere 1 = .ok (.getfield 39, 3) := by decide +kernel
theorem dX4_signHere_4 : decode cX4_signHere 4 = .ok (.ifCond .lt 26, 3) := by decide +kernel
theorem dX4_signHere_7 : decode cX4_signHere 7 = .ok (.aload_n 0, 1) := by decide +kernel
theorem dX4_signHere_8 : decode cX4_signHere 8 = .ok (.getfield 39, 3) := by decide +kernel
theorem dX4_signHere_11 : decode cX4_signHere 11 = .ok (.aload_n 0, 1) := by decide +kernel
theorem dX4_signHere_12 : decode cX4_signHere 12 = .ok (.getfield 22, 3) := by decide +kernel
theorem dX4_signHere_15 : decode cX4_signHere 15 = .ok (.if_icmp .ge 15, 3) := by decide +kernel
theorem dX4_signHere_18 : decode cX4_signHere 18 = .ok (.aload_n 0, 1) := by decide +kernel
theorem dX4_signHere_19 : decode cX4_signHere 19 = .ok (.getfield 9, 3) := by decide +kernel
theorem dX4_signHere_22 : decode cX4_signHere 22 = .ok (.aload_n 0, 1) := by decide +kernel
theorem dX4_signHere_23 : decode cX4_signHere 23 = .ok (.getfield 39, 3) := by decide +kernel
theorem dX4_signHere_26 : decode cX4_signHere 26 = .ok (.iaload, 1) := by decide +kernel
theorem dX4_signHere_27 : decode cX4_signHere 27 = .ok (.goto 5, 3) := by decide +kernel
theorem dX4_signHere_30 : decode cX4_signHere 30 = .ok (.bipush (-6), 2) := by decide +kernel
theorem dX4_signHere_32 : decode cX4_signHere 32 = .ok (.ireturn, 1) := by decide +kernel
theorem dX4_readSign_0 : decode cX4_readSign 0 = .ok (.aload_n 0, 1) := by decide +kernel
theorem dX4_readSign_1 : decode cX4_readSign 1 = .ok (.invokevirtual 49, 3) := by decide +kernel
theorem dX4_readSign_4 : decode cX4_readSign 4 = .ok (.iload_n 1, 1) := by decide +kernel
theorem dX4_readSign_5 : decode cX4_readSign 5 = .ok (.if_icmp .eq 5, 3) := by decide +kernel
theorem dX4_readSign_8 : decode cX4_readSign 8 = .ok (.iconst 0, 1) := by decide +kernel
theorem dX4_readSign_9 : decode cX4_readSign 9 = .ok (.ireturn, 1) := by decide +kernel
theorem dX4_readSign_10 : decode cX4_readSign 10 = .ok (.aload_n 0, 1) := by decide +kernel
theorem dX4_readSign_11 : decode cX4_readSign 11 = .ok (.dup, 1) := by decide +kernel
theorem dX4_readSign_12 : decode cX4_readSign 12 = .ok (.getfield 39, 3) := by decide +kernel
theorem dX4_readSign_15 : decode cX4_readSign 15 = .ok (.iconst 1, 1) := by decide +kernel
theorem dX4_readSign_16 : decode cX4_readSign 16 = .ok (.iadd, 1) := by decide +kernel
theorem dX4_readSign_17 : decode cX4_readSign 17 = .ok (.putfield 39, 3) := by decide +kernel
theorem dX4_readSign_20 : decode cX4_readSign 20 = .ok (.iconst 1, 1) := by decide +kernel
theorem dX4_readSign_21 : decode cX4_readSign 21 = .ok (.ireturn, 1) := by decide +kernel
theorem dX4_readDigit_0 : decode cX4_readDigit 0 = .ok (.aload_n 0, 1) := by decide +kernel
theorem dX4_readDigit_1 : decode cX4_readDigit 1 = .ok (.invokevirtual 49, 3) := by decide +kernel
theorem dX4_readDigit_4 : decode cX4_readDigit 4 = .ok (.istore_n 1, 1) := by decide +kernel
theorem dX4_readDigit_5 : decode cX4_readDigit 5 = .ok (.iload_n 1, 1) := by decide +kernel
theorem dX4_readDigit_6 : decode cX4_readDigit 6 = .ok (.bipush 48, 2) := by decide +kernel
theorem dX4_readDigit_8 : decode cX4_readDigit 8 = .ok (.bipush 57, 2) := by decide +kernel
theorem dX4_readDigit_10 : decode cX4_readDigit 10 = .ok (.invokestatic 28, 3) := by decide +kernel
theorem dX4_readDigit_13 : decode cX4_readDigit 13 = .ok (.ifCond .ne 6, 3) := by decide +kernel
theorem dX4_readDigit_16 : decode cX4_readDigit 16 = .ok (.bipush (-6), 2) := by decide +kernel
theorem dX4_readDigit_18 : decode cX4_readDigit 18 = .ok (.ireturn, 1) := by decide +kernel
theorem dX4_readDigit_19 : decode cX4_readDigit 19 = .ok (.aload_n 0, 1) := by decide +kernel
theorem dX4_readDigit_20 : decode cX4_readDigit 20 = .ok (.dup, 1) := by decide +kernel
theorem dX4_readDigit_21 : decode cX4_readDigit 21 = .ok (.getfield 39, 3) := by decide +kernel
theorem dX4_readDigit_24 : decode cX4_readDigit 24 = .ok (.iconst 1, 1) := by decide +kernel
theorem dX4_readDigit_25 : decode cX4_readDigit 25 = .ok (.iadd, 1) := by decide +kernel
theorem dX4_readDigit_26 : decode cX4_readDigit 26 = .ok (.putfield 39, 3) := by decide +kernel
theorem dX4_readDigit_29 : decode cX4_readDigit 29 = .ok (.iload_n 1, 1) := by decide +kernel
theorem dX4_readDigit_30 : decode cX4_readDigit 30 = .ok (.bipush 48, 2) := by decide +kernel
theorem dX4_readDigit_32 : decode cX4_readDigit 32 = .ok (.isub, 1) := by decide +kernel
theorem dX4_readDigit_33 : decode cX4_readDigit 33 = .ok (.ireturn, 1) := by decide +kernel
theorem dX4_readNumber_0 : decode cX4_readNumber 0 = .ok (.aload_n 0, 1) := by decide +kernel
theorem dX4_readNumber_1 : decode cX4_readNumber 1 = .ok (.invokevirtual 71, 3) := by decide +kernel
theorem dX4_readNumber_4 : decode cX4_readNumber 4 = .ok (.istore_n 1, 1) := by decide +kernel
theorem dX4_readNumber_5 : decode cX4_readNumber 5 = .ok (.iload_n 1, 1) := by decide +kernel
theorem dX4_readNumber_6 : decode cX4_readNumber 6 = .ok (.bipush (-6), 2) := by decide +kernel
theorem dX4_readNumber_8 : decode cX4_readNumber 8 = .ok (.if_icmp .eq 7, 3) := by decide +kernel
theorem dX4_readNumber_11 : decode cX4_readNumber 11 = .ok (.iload_n 1, 1) := by decide +kernel
theorem dX4_readNumber_12 : decode cX4_readNumber 12 = .ok (.ifCond .ne 5, 3) := by decide +kernel
theorem dX4_readNumber_15 : decode cX4_readNumber 15 = .ok (.iload_n 1, 1) := by decide +kernel
theorem dX4_readNumber_16 : decode cX4_readNumber 16 = .ok (.ireturn, 1) := by decide +kernel
theorem dX4_readNumber_17 : decode cX4_readNumber 17 = .ok (.aload_n 0, 1) := by decide +kernel
theorem dX4_readNumber_18 : decode cX4_readNumber 18 = .ok (.invokevirtual 71, 3) := by decide +kernel
theorem dX4_readNumber_21 : decode cX4_readNumber 21 = .ok (.istore_n 2, 1) := by decide +kernel
theorem dX4_readNumber_22 : decode cX4_readNumber 22 = .ok (.iload_n 2, 1) := by decide +kernel
theorem dX4_readNumber_23 : decode cX4_readNumber 23 = .ok (.bipush (-6), 2) := by decide +kernel
theorem dX4_readNumber_25 : decode cX4_readNumber 25 = .ok (.if_icmp .ne 7, 3) := by decide +kernel
theorem dX4_readNumber_28 : decode cX4_readNumber 28 = .ok (.iload_n 1, 1) := by decide +kernel
theorem dX4_readNumber_29 : decode cX4_readNumber 29 = .ok (.goto 9, 3) := by decide +kernel
theorem dX4_readNumber_32 : decode cX4_readNumber 32 = .ok (.bipush 10, 2) := by decide +kernel
theorem dX4_readNumber_34 : decode cX4_readNumber 34 = .ok (.iload_n 1, 1) := by decide +kernel
theorem dX4_readNumber_35 : decode cX4_readNumber 35 = .ok (.imul, 1) := by decide +kernel
theorem dX4_readNumber_36 : decode cX4_readNumber 36 = .ok (.iload_n 2, 1) := by decide +kernel
theorem dX4_readNumber_37 : decode cX4_readNumber 37 = .ok (.iadd, 1) := by decide +kernel
theorem dX4_readNumber_38 : decode cX4_readNumber 38 = .ok (.ireturn, 1) := by decide +kernel
theorem dX5_init_0 : decode cX5_init 0 = .ok (.aload_n 0, 1) := by decide +kernel
theorem dX5_init_1 : decode cX5_init 1 = .ok (.invokespecial 1, 3) := by decide +kernel
theorem dX5_init_4 : decode cX5_init 4 = .ok (.aload_n 0, 1) := by decide +kernel
theorem dX5_init_5 : decode cX5_init 5 = .ok (.new 7, 3) := by decide +kernel
theorem dX5_init_8 : decode cX5_init 8 = .ok (.dup, 1) := by decide +kernel
theorem dX5_init_9 : decode cX5_init 9 = .ok (.invokespecial 9, 3) := by decide +kernel
theorem dX5_init_12 : decode cX5_init 12 = .ok (.putfield 10, 3) := by decide +kernel
theorem dX5_init_15 : decode cX5_init 15 = .ok (.aload_n 0, 1) := by decide +kernel
theorem dX5_init_16 : decode cX5_init 16 = .ok (.new 7, 3) := by decide +kernel
theorem dX5_init_19 : decode cX5_init 19 = .ok (.dup, 1) := by decide +kernel
theorem dX5_init_20 : decode cX5_init 20 = .ok (.invokespecial 9, 3) := by decide +kernel
theorem dX5_init_23 : decode cX5_init 23 = .ok (.putfield 16, 3) := by decide +kernel
theorem dX5_init_26 : decode cX5_init 26 = .ok (.aload_n 0, 1) := by decide +kernel
theorem dX5_init_27 : decode cX5_init 27 = .ok (.new 19, 3) := by decide +kernel
theorem dX5_init_30 : decode cX5_init 30 = .ok (.dup, 1) := by decide +kernel
theorem dX5_init_31 : decode cX5_init 31 = .ok (.invokespecial 21, 3) := by decide +kernel
theorem dX5_init_34 : decode cX5_init 34 = .ok (.putfield 22, 3) := by decide +kernel
theorem dX5_init_37 : decode cX5_init 37 = .ok (.aload_n 0, 1) := by decide +kernel
theorem dX5_init_38 : decode cX5_init 38 = .ok (.new 26, 3) := by decide +kernel
theorem dX5_init_41 : decode cX5_init 41 = .ok (.dup, 1) := by decide +kernel
theorem dX5_init_42 : decode cX5_init 42 = .ok (.invokespecial 28, 3) := by decide +kernel
theorem dX5_init_45 : decode cX5_init 45 = .ok (.putfield 29, 3) := by decide +kernel
theorem dX5_init_48 : decode cX5_init 48 = .ok (.aload_n 0, 1) := by decide +kernel
theorem dX5_init_49 : decode cX5_init 49 = .ok (.iconst 2, 1) := by decide +kernel
theorem dX5_init_50 : decode cX5_init 50 = .ok (.anewarray 7, 3) := by decide +kernel
theorem dX5_init_53 : decode cX5_init 53 = .ok (.putfield 33, 3) := by decide +kernel
theorem dX5_init_56 : decode cX5_init 56 = .ok (.iconst 0, 1) := by decide +kernel
theorem dX5_init_57 : decode cX5_init 57 = .ok (.istore_n 1, 1) := by decide +kernel
theorem dX5_init_58 : decode cX5_init 58 = .ok (.iload_n 1, 1) := by decide +kernel
theorem dX5_init_59 : decode cX5_init 59 = .ok (.iconst 2, 1) := by decide +kernel
theorem dX5_init_60 : decode cX5_init 60 = .ok (.if_icmp .ge 22, 3) := by decide +kernel
theorem dX5_init_63 : decode cX5_init 63 = .ok (.aload_n 0, 1) := by decide +kernel
theorem dX5_init_64 : decode cX5_init 64 = .ok (.getfield 33, 3) := by decide +kernel
theorem dX5_init_67 : decode cX5_init 67 = .ok (.iload_n 1, 1) := by decide +kernel
theorem dX5_init_68 : decode cX5_init 68 = .ok (.new 7, 3) := by decide +kernel
theorem dX5_init_71 : decode cX5_init 71 = .ok (.dup, 1) := by decide +kernel
theorem dX5_init_72 : decode cX5_init 72 = .ok (.invokespecial 9, 3) := by decide +kernel
theorem dX5_init_75 : decode cX5_init 75 = .ok (.aastore, 1) := by decide +kernel
theorem dX5_init_76 : decode cX5_init 76 = .ok (.iinc 1 1, 3) := by decide +kernel
theorem dX5_init_79 : decode cX5_init 79 = .ok (.goto (-21), 3) := by decide +kernel
theorem dX5_init_82 : decode cX5_init 82 = .ok (.aload_n 0, 1) := by decide +kernel
theorem dX5_init_83 : decode cX5_init 83 = .ok (.iconst 2, 1) := by decide +kernel
theorem dX5_init_84 : decode cX5_init 84 = .ok (.newarray .boolean, 2) := by decide +kernel
theorem dX5_init_86 : decode cX5_init 86 = .ok (.putfield 37, 3) := by decide +kernel
theorem dX5_init_89 : decode cX5_init 89 = .ok (.return_, 1) := by decide +kernel
theorem dX5_set_0 : decode cX5_set 0 = .ok (.aload_n 0, 1) := by decide +kernel
theorem dX5_set_1 : decode cX5_set 1 = .ok (.getfield 22, 3) := by decide +kernel
theorem dX5_set_4 : decode cX5_set 4 = .ok (.aload_n 0, 1) := by decide +kernel
theorem dX5_set_5 : decode cX5_set 5 = .ok (.getfield 10, 3) := by decide +kernel
theorem dX5_set_8 : decode cX5_set 8 = .ok (.invokevirtual 41, 3) := by decide +kernel
theorem dX5_set_11 : decode cX5_set 11 = .ok (.aload_n 0, 1) := by decide +kernel
theorem dX5_set_12 : decode cX5_set 12 = .ok (.getfield 22, 3) := by decide +kernel
theorem dX5_set_15 : decode cX5_set 15 = .ok (.aload_n 0, 1) := by decide +kernel
theorem dX5_set_16 : decode cX5_set 16 = .ok (.getfield 10, 3) := by decide +kernel
theorem dX5_set_19 : decode cX5_set 19 = .ok (.iload_n 1, 1) := by decide +kernel
theorem dX5_set_20 : decode cX5_set 20 = .ok (.iload_n 2, 1) := by decide +kernel
theorem dX5_set_21 : decode cX5_set 21 = .ok (.invokevirtual 45, 3) := by decide +kernel
theorem dX5_set_24 : decode cX5_set 24 = .ok (.invokevirtual 49, 3) := by decide +kernel
theorem dX5_set_27 : decode cX5_set 27 = .ok (.ireturn, 1) := by decide +kernel
theorem dX5_board_0 : decode cX5_board 0 = .ok (.aload_n 0, 1) := by decide +kernel
theorem dX5_board_1 : decode cX5_board 1 = .ok (.getfield 22, 3) := by decide +kernel
theorem dX5_board_4 : decode cX5_board 4 = .ok (.aload_n 0, 1) := by decide +kernel
theorem dX5_board_5 : decode cX5_board 5 = .ok (.getfield 10, 3) := by decide +kernel
theorem dX5_board_8 : decode cX5_board 8 = .ok (.invokevirtual 41, 3) := by decide +kernel
theorem dX5_board_11 : decode cX5_board 11 = .ok (.aload_n 0, 1) := by decide +kernel
theorem dX5_board_12 : decode cX5_board 12 = .ok (.getfield 22, 3) := by decide +kernel
theorem dX5_board_15 : decode cX5_board 15 = .ok (.aload_n 0, 1) := by decide +kernel
theorem dX5_board_16 : decode cX5_board 16 = .ok (.getfield 10, 3) := by decide +kernel
theorem dX5_board_19 : decode cX5_board 19 = .ok (.iload_n 1, 1) := by decide +kernel
theorem dX5_board_20 : decode cX5_board 20 = .ok (.iload_n 2, 1) := by decide +kernel
theorem dX5_board_21 : decode cX5_board 21 = .ok (.invokevirtual 53, 3) := by decide +kernel
theorem dX5_board_24 : decode cX5_board 24 = .ok (.invokevirtual 49, 3) := by decide +kernel
theorem dX5_board_27 : decode cX5_board 27 = .ok (.ireturn, 1) := by decide +kernel
theorem dX5_plug_0 : decode cX5_plug 0 = .ok (.aload_n 0, 1) := by decide +kernel
theorem dX5_plug_1 : decode cX5_plug 1 = .ok (.getfield 22, 3) := by decide +kernel
theorem dX5_plug_4 : decode cX5_plug 4 = .ok (.aload_n 0, 1) := by decide +kernel
theorem dX5_plug_5 : decode cX5_plug 5 = .ok (.getfield 10, 3) := by decide +kernel
theorem dX5_plug_8 : decode cX5_plug 8 = .ok (.invokevirtual 41, 3) := by decide +kernel
theorem dX5_plug_11 : decode cX5_plug 11 = .ok (.aload_n 0, 1) := by decide +kernel
theorem dX5_plug_12 : decode cX5_plug 12 = .ok (.getfield 22, 3) := by decide +kernel
theorem dX5_plug_15 : decode cX5_plug 15 = .ok (.aload_n 0, 1) := by decide +kernel
theorem dX5_plug_16 : decode cX5_plug 16 = .ok (.getfield 10, 3) := by decide +kernel
theorem dX5_plug_19 : decode cX5_plug 19 = .ok (.iload_n 1, 1) := by decide +kernel
theorem dX5_plug_20 : decode cX5_plug 20 = .ok (.iload_n 2, 1) := by decide +kernel
theorem dX5_plug_21 : decode cX5_plug 21 = .ok (.iload_n 3, 1) := by decide +kernel
theorem dX5_plug_22 : decode cX5_plug 22 = .ok (.invokevirtual 56, 3) := by decide +kernel
theorem dX5_plug_25 : decode cX5_plug 25 = .ok (.invokevirtual 49, 3) := by decide +kernel
theorem dX5_plug_28 : decode cX5_plug 28 = .ok (.ireturn, 1) := by decide +kernel
theorem dX5_pull_0 : decode cX5_pull 0 = .ok (.aload_n 0, 1) := by decide +kernel
theorem dX5_pull_1 : decode cX5_pull 1 = .ok (.getfield 22, 3) := by decide +kernel
theorem dX5_pull_4 : decode cX5_pull 4 = .ok (.aload_n 0, 1) := by decide +kernel
theorem dX5_pull_5 : decode cX5_pull 5 = .ok (.getfield 10, 3) := by decide +kernel
theorem dX5_pull_8 : decode cX5_pull 8 = .ok (.invokevirtual 41, 3) := by decide +kernel
theorem dX5_pull_11 : decode cX5_pull 11 = .ok (.aload_n 0, 1) := by decide +kernel
theorem dX5_pull_12 : decode cX5_pull 12 = .ok (.getfield 22, 3) := by decide +kernel
theorem dX5_pull_15 : decode cX5_pull 15 = .ok (.aload_n 0, 1) := by decide +kernel
theorem dX5_pull_16 : decode cX5_pull 16 = .ok (.getfield 10, 3) := by decide +kernel
theorem dX5_pull_19 : decode cX5_pull 19 = .ok (.iload_n 1, 1) := by decide +kernel
theorem dX5_pull_20 : decode cX5_pull 20 = .ok (.iload_n 2, 1) := by decide +kernel
theorem dX5_pull_21 : decode cX5_pull 21 = .ok (.invokevirtual 60, 3) := by decide +kernel
theorem dX5_pull_24 : decode cX5_pull 24 = .ok (.invokevirtual 49, 3) := by decide +kernel
theorem dX5_pull_27 : decode cX5_pull 27 = .ok (.ireturn, 1) := by decide +kernel
theorem dX5_ask_0 : decode cX5_ask 0 = .ok (.aload_n 0, 1) := by decide +kernel
theorem dX5_ask_1 : decode cX5_ask 1 = .ok (.getfield 22, 3) := by decide +kernel
theorem dX5_ask_4 : decode cX5_ask 4 = .ok (.aload_n 0, 1) := by decide +kernel
theorem dX5_ask_5 : decode cX5_ask 5 = .ok (.getfield 10, 3) := by decide +kernel
theorem dX5_ask_8 : decode cX5_ask 8 = .ok (.invokevirtual 41, 3) := by decide +kernel
theorem dX5_ask_11 : decode cX5_ask 11 = .ok (.aload_n 0, 1) := by decide +kernel
theorem dX5_ask_12 : decode cX5_ask 12 = .ok (.getfield 22, 3) := by decide +kernel
theorem dX5_ask_15 : decode cX5_ask 15 = .ok (.aload_n 0, 1) := by decide +kernel
theorem dX5_ask_16 : decode cX5_ask 16 = .ok (.getfield 10, 3) := by decide +kernel
theorem dX5_ask_19 : decode cX5_ask 19 = .ok (.iload_n 1, 1) := by decide +kernel
theorem dX5_ask_20 : decode cX5_ask 20 = .ok (.invokevirtual 63, 3) := by decide +kernel
theorem dX5_ask_23 : decode cX5_ask 23 = .ok (.invokevirtual 49, 3) := by decide +kernel
theorem dX5_ask_26 : decode cX5_ask 26 = .ok (.ireturn, 1) := by decide +kernel
theorem dX5_send_0 : decode cX5_send 0 = .ok (.aload_n 0, 1) := by decide +kernel
theorem dX5_send_1 : decode cX5_send 1 = .ok (.getfield 22, 3) := by decide +kernel
theorem dX5_send_4 : decode cX5_send 4 = .ok (.aload_n 0, 1) := by decide +kernel
theorem dX5_send_5 : decode cX5_send 5 = .ok (.getfield 10, 3) := by decide +kernel
theorem dX5_send_8 : decode cX5_send 8 = .ok (.invokevirtual 41, 3) := by decide +kernel
theorem dX5_send_11 : decode cX5_send 11 = .ok (.aload_n 0, 1) := by decide +kernel
theorem dX5_send_12 : decode cX5_send 12 = .ok (.getfield 22, 3) := by decide +kernel
theorem dX5_send_15 : decode cX5_send 15 = .ok (.aload_n 0, 1) := by decide +kernel
theorem dX5_send_16 : decode cX5_send 16 = .ok (.getfield 10, 3) := by decide +kernel
theorem dX5_send_19 : decode cX5_send 19 = .ok (.iload_n 1, 1) := by decide +kernel
theorem dX5_send_20 : decode cX5_send 20 = .ok (.iload_n 2, 1) := by decide +kernel
theorem dX5_send_21 : decode cX5_send 21 = .ok (.invokevirtual 66, 3) := by decide +kernel
theorem dX5_send_24 : decode cX5_send 24 = .ok (.invokevirtual 49, 3) := by decide +kernel
theorem dX5_send_27 : decode cX5_send 27 = .ok (.ireturn, 1) := by decide +kernel
theorem dX5_pass_0 : decode cX5_pass 0 = .ok (.aload_n 0, 1) := by decide +kernel
theorem dX5_pass_1 : decode cX5_pass 1 = .ok (.getfield 22, 3) := by decide +kernel
theorem dX5_pass_4 : decode cX5_pass 4 = .ok (.aload_n 0, 1) := by decide +kernel
theorem dX5_pass_5 : decode cX5_pass 5 = .ok (.getfield 10, 3) := by decide +kernel
theorem dX5_pass_8 : decode cX5_pass 8 = .ok (.invokevirtual 41, 3) := by decide +kernel
theorem dX5_pass_11 : decode cX5_pass 11 = .ok (.aload_n 0, 1) := by decide +kernel
theorem dX5_pass_12 : decode cX5_pass 12 = .ok (.getfield 22, 3) := by decide +kernel
theorem dX5_pass_15 : decode cX5_pass 15 = .ok (.aload_n 0, 1) := by decide +kernel
theorem dX5_pass_16 : decode cX5_pass 16 = .ok (.getfield 10, 3) := by decide +kernel
theorem dX5_pass_19 : decode cX5_pass 19 = .ok (.iload_n 1, 1) := by decide +kernel
theorem dX5_pass_20 : decode cX5_pass 20 = .ok (.invokevirtual 69, 3) := by decide +kernel
theorem dX5_pass_23 : decode cX5_pass 23 = .ok (.invokevirtual 49, 3) := by decide +kernel
theorem dX5_pass_26 : decode cX5_pass 26 = .ok (.ireturn, 1) := by decide +kernel
theorem dX5_of_0 : decode cX5_of 0 = .ok (.aload_n 0, 1) := by decide +kernel
theorem dX5_of_1 : decode cX5_of 1 = .ok (.getfield 10, 3) := by decide +kernel
theorem dX5_of_4 : decode cX5_of 4 = .ok (.iload_n 1, 1) := by decide +kernel
theorem dX5_of_5 : decode cX5_of 5 = .ok (.iload_n 2, 1) := by decide +kernel
theorem dX5_of_6 : decode cX5_of 6 = .ok (.invokevirtual 72, 3) := by decide +kernel
theorem dX5_of_9 : decode cX5_of 9 = .ok (.ireturn, 1) := by decide +kernel
theorem dX5_slot_0 : decode cX5_slot 0 = .ok (.iload_n 1, 1) := by decide +kernel
theorem dX5_slot_1 : decode cX5_slot 1 = .ok (.invokestatic 75, 3) := by decide +kernel
theorem dX5_slot_4 : decode cX5_slot 4 = .ok (.ifCond .eq 14, 3) := by decide +kernel
theorem dX5_slot_7 : decode cX5_slot 7 = .ok (.aload_n 0, 1) := by decide +kernel
theorem dX5_slot_8 : decode cX5_slot 8 = .ok (.getfield 10, 3) := by decide +kernel
theorem dX5_slot_11 : decode cX5_slot 11 = .ok (.iload_n 1, 1) := by decide +kernel
theorem dX5_slot_12 : decode cX5_slot 12 = .ok (.invokevirtual 79, 3) := by decide +kernel
theorem dX5_slot_15 : decode cX5_slot 15 = .ok (.goto 4, 3) := by decide +kernel
theorem dX5_slot_18 : decode cX5_slot 18 = .ok (.iconst (-1), 1) := by decide +kernel
theorem dX5_slot_19 : decode cX5_slot 19 = .ok (.ireturn, 1) := by decide +kernel
theorem dX5_word_0 : decode cX5_word 0 = .ok (.aload_n 0, 1) := by decide +kernel
theorem dX5_word_1 : decode cX5_word 1 = .ok (.getfield 10, 3) := by decide +kernel
theorem dX5_word_4 : decode cX5_word 4 = .ok (.getfield 82, 3) := by decide +kernel
theorem dX5_word_7 : decode cX5_word 7 = .ok (.iload_n 1, 1) := by decide +kernel
theorem dX5_word_8 : decode cX5_word 8 = .ok (.iload_n 2, 1) := by decide +kernel
theorem dX5_word_9 : decode cX5_word 9 = .ok (.invokevirtual 86, 3) := by decide +kernel
theorem dX5_word_12 : decode cX5_word 12 = .ok (.ireturn, 1) := by decide +kernel
theorem dX5_waiting_0 : decode cX5_waiting 0 = .ok (.aload_n 0, 1) := by decide +kernel
theorem dX5_waiting_1 : decode cX5_waiting 1 = .ok (.getfield 10, 3) := by decide +kernel
theorem dX5_waiting_4 : decode cX5_waiting 4 = .ok (.getfield 82, 3) := by decide +kernel
theorem dX5_waiting_7 : decode cX5_waiting 7 = .ok (.iload_n 1, 1) := by decide +kernel
theorem dX5_waiting_8 : decode cX5_waiting 8 = .ok (.invokevirtual 91, 3) := by decide +kernel
theorem dX5_waiting_11 : decode cX5_waiting 11 = .ok (.istore_n 2, 1) := by decide +kernel
theorem dX5_waiting_12 : decode cX5_waiting 12 = .ok (.iload_n 2, 1) := by decide +kernel
theorem dX5_waiting_13 : decode cX5_waiting 13 = .ok (.bipush (-6), 2) := by decide +kernel
theorem dX5_waiting_15 : decode cX5_waiting 15 = .ok (.if_icmp .ne 7, 3) := by decide +kernel
theorem dX5_waiting_18 : decode cX5_waiting 18 = .ok (.iconst (-1), 1) := by decide +kernel
theorem dX5_waiting_19 : decode cX5_waiting 19 = .ok (.goto 4, 3) := by decide +kernel
theorem dX5_waiting_22 : decode cX5_waiting 22 = .ok (.iload_n 2, 1) := by decide +kernel
theorem dX5_waiting_23 : decode cX5_waiting 23 = .ok (.ireturn, 1) := by decide +kernel
theorem dX5_count_0 : decode cX5_count 0 = .ok (.iload_n 1, 1) := by decide +kernel
theorem dX5_count_1 : decode cX5_count 1 = .ok (.tableswitch 288 0 19 #[95, 103, 111, 119, 127, 138, 149, 160, 171, 187, 195, 203, 214, 222, 232, 242, 252, 262, 272, 280], 95) := by decide +kernel
theorem dX5_count_96 : decode cX5_count 96 = .ok (.aload_n 0, 1) := by decide +kernel
theorem dX5_count_97 : decode cX5_count 97 = .ok (.getfield 10, 3) := by decide +kernel
theorem dX5_count_100 : decode cX5_count 100 = .ok (.getfield 94, 3) := by decide +kernel
theorem dX5_count_103 : decode cX5_count 103 = .ok (.ireturn, 1) := by decide +kernel
theorem dX5_count_104 : decode cX5_count 104 = .ok (.aload_n 0, 1) := by decide +kernel
theorem dX5_count_105 : decode cX5_count 105 = .ok (.getfield 10, 3) := by decide +kernel
theorem dX5_count_108 : decode cX5_count 108 = .ok (.invokevirtual 98, 3) := by decide +kernel
theorem dX5_count_111 : decode cX5_count 111 = .ok (.ireturn, 1) := by decide +kernel
theorem dX5_count_112 : decode cX5_count 112 = .ok (.aload_n 0, 1) := by decide +kernel
theorem dX5_count_113 : decode cX5_count 113 = .ok (.getfield 10, 3) := by decide +kernel
theorem dX5_count_116 : decode cX5_count 116 = .ok (.invokevirtual 102, 3) := by decide +kernel
theorem dX5_count_119 : decode cX5_count 119 = .ok (.ireturn, 1) := by decide +kernel
theorem dX5_count_120 : decode cX5_count 120 = .ok (.aload_n 0, 1) := by decide +kernel
theorem dX5_count_121 : decode cX5_count 121 = .ok (.getfield 10, 3) := by decide +kernel
theorem dX5_count_124 : decode cX5_count 124 = .ok (.invokevirtual 105, 3) := by decide +kernel
theorem dX5_count_127 : decode cX5_count 127 = .ok (.ireturn, 1) := by decide +kernel
theorem dX5_count_128 : decode cX5_count 128 = .ok (.aload_n 0, 1) := by decide +kernel
theorem dX5_count_129 : decode cX5_count 129 = .ok (.getfield 10, 3) := by decide +kernel
theorem dX5_count_132 : decode cX5_count 132 = .ok (.getfield 82, 3) := by decide +kernel
theorem dX5_count_135 : decode cX5_count 135 = .ok (.getfield 108, 3) := by decide +kernel
theorem dX5_count_138 : decode cX5_count 138 = .ok (.ireturn, 1) := by decide +kernel
theorem dX5_count_139 : decode cX5_count 139 = .ok (.aload_n 0, 1) := by decide +kernel
theorem dX5_count_140 : decode cX5_count 140 = .ok (.getfield 10, 3) := by decide +kernel
theorem dX5_count_143 : decode cX5_count 143 = .ok (.getfield 82, 3) := by decide +kernel
theorem dX5_count_146 : decode cX5_count 146 = .ok (.getfield 111, 3) := by decide +kernel
theorem dX5_count_149 : decode cX5_count 149 = .ok (.ireturn, 1) := by decide +kernel
theorem dX5_count_150 : decode cX5_count 150 = .ok (.aload_n 0, 1) := by decide +kernel
theorem dX5_count_151 : decode cX5_count 151 = .ok (.getfield 10, 3) := by decide +kernel
theorem dX5_count_154 : decode cX5_count 154 = .ok (.getfield 82, 3) := by decide +kernel
theorem dX5_count_157 : decode cX5_count 157 = .ok (.getfield 114, 3) := by decide +kernel
theorem dX5_count_160 : decode cX5_count 160 = .ok (.ireturn, 1) := by decide +kernel
theorem dX5_count_161 : decode cX5_count 161 = .ok (.aload_n 0, 1) := by decide +kernel
theorem dX5_count_162 : decode cX5_count 162 = .ok (.getfield 10, 3) := by decide +kernel
theorem dX5_count_165 : decode cX5_count 165 = .ok (.getfield 82, 3) := by decide +kernel
theorem dX5_count_168 : decode cX5_count 168 = .ok (.getfield 117, 3) := by decide +kernel
theorem dX5_count_171 : decode cX5_count 171 = .ok (.ireturn, 1) := by decide +kernel
theorem dX5_count_172 : decode cX5_count 172 = .ok (.aload_n 0, 1) := by decide +kernel
theorem dX5_count_173 : decode cX5_count 173 = .ok (.getfield 10, 3) := by decide +kernel
theorem dX5_count_176 : decode cX5_count 176 = .ok (.invokevirtual 120, 3) := by decide +kernel
theorem dX5_count_179 : decode cX5_count 179 = .ok (.ifCond .eq 7, 3) := by decide +kernel
theorem dX5_count_182 : decode cX5_count 182 = .ok (.iconst 1, 1) := by decide +kernel
theorem dX5_count_183 : decode cX5_count 183 = .ok (.goto 4, 3) := by decide +kernel
theorem dX5_count_186 : decode cX5_count 186 = .ok (.iconst 0, 1) := by decide +kernel
theorem dX5_count_187 : decode cX5_count 187 = .ok (.ireturn, 1) := by decide +kernel
theorem dX5_count_188 : decode cX5_count 188 = .ok (.aload_n 0, 1) := by decide +kernel
theorem dX5_count_189 : decode cX5_count 189 = .ok (.getfield 10, 3) := by decide +kernel
theorem dX5_count_192 : decode cX5_count 192 = .ok (.invokevirtual 124, 3) := by decide +kernel
theorem dX5_count_195 : decode cX5_count 195 = .ok (.ireturn, 1) := by decide +kernel
theorem dX5_count_196 : decode cX5_count 196 = .ok (.aload_n 0, 1) := by decide +kernel
theorem dX5_count_197 : decode cX5_count 197 = .ok (.getfield 10, 3) := by decide +kernel
theorem dX5_count_200 : decode cX5_count 200 = .ok (.getfield 127, 3) := by decide +kernel
theorem dX5_count_203 : decode cX5_count 203 = .ok (.ireturn, 1) := by decide +kernel
theorem dX5_count_204 : decode cX5_count 204 = .ok (.aload_n 0, 1) := by decide +kernel
theorem dX5_count_205 : decode cX5_count 205 = .ok (.getfield 10, 3) := by decide +kernel
theorem dX5_count_208 : decode cX5_count 208 = .ok (.getfield 82, 3) := by decide +kernel
theorem dX5_count_211 : decode cX5_count 211 = .ok (.getfield 130, 3) := by decide +kernel
theorem dX5_count_214 : decode cX5_count 214 = .ok (.ireturn, 1) := by decide +kernel
theorem dX5_count_215 : decode cX5_count 215 = .ok (.aload_n 0, 1) := by decide +kernel
theorem dX5_count_216 : decode cX5_count 216 = .ok (.getfield 10, 3) := by decide +kernel
theorem dX5_count_219 : decode cX5_count 219 = .ok (.invokevirtual 133, 3) := by decide +kernel
theorem dX5_count_222 : decode cX5_count 222 = .ok (.ireturn, 1) := by decide +kernel
theorem dX5_count_223 : decode cX5_count 223 = .ok (.aload_n 0, 1) := by decide +kernel
theorem dX5_count_224 : decode cX5_count 224 = .ok (.getfield 10, 3) := by decide +kernel
theorem dX5_count_227 : decode cX5_count 227 = .ok (.getfield 136, 3) := by decide +kernel
theorem dX5_count_230 : decode cX5_count 230 = .ok (.iconst 0, 1) := by decide +kernel
theorem dX5_count_231 : decode cX5_count 231 = .ok (.iaload, 1) := by decide +kernel
theorem dX5_count_232 : decode cX5_count 232 = .ok (.ireturn, 1) := by decide +kernel
theorem dX5_count_233 : decode cX5_count 233 = .ok (.aload_n 0, 1) := by decide +kernel
theorem dX5_count_234 : decode cX5_count 234 = .ok (.getfield 10, 3) := by decide +kernel
theorem dX5_count_237 : decode cX5_count 237 = .ok (.getfield 136, 3) := by decide +kernel
theorem dX5_count_240 : decode cX5_count 240 = .ok (.iconst 1, 1) := by decide +kernel
theorem dX5_count_241 : decode cX5_count 241 = .ok (.iaload, 1) := by decide +kernel
theorem dX5_count_242 : decode cX5_count 242 = .ok (.ireturn, 1) := by decide +kernel
theorem dX5_count_243 : decode cX5_count 243 = .ok (.aload_n 0, 1) := by decide +kernel
theorem dX5_count_244 : decode cX5_count 244 = .ok (.getfield 10, 3) := by decide +kernel
theorem dX5_count_247 : decode cX5_count 247 = .ok (.getfield 136, 3) := by decide +kernel
theorem dX5_count_250 : decode cX5_count 250 = .ok (.iconst 2, 1) := by decide +kernel
theorem dX5_count_251 : decode cX5_count 251 = .ok (.iaload, 1) := by decide +kernel
theorem dX5_count_252 : decode cX5_count 252 = .ok (.ireturn, 1) := by decide +kernel
theorem dX5_count_253 : decode cX5_count 253 = .ok (.aload_n 0, 1) := by decide +kernel
theorem dX5_count_254 : decode cX5_count 254 = .ok (.getfield 10, 3) := by decide +kernel
theorem dX5_count_257 : decode cX5_count 257 = .ok (.getfield 136, 3) := by decide +kernel
theorem dX5_count_260 : decode cX5_count 260 = .ok (.iconst 3, 1) := by decide +kernel
theorem dX5_count_261 : decode cX5_count 261 = .ok (.iaload, 1) := by decide +kernel
theorem dX5_count_262 : decode cX5_count 262 = .ok (.ireturn, 1) := by decide +kernel
theorem dX5_count_263 : decode cX5_count 263 = .ok (.aload_n 0, 1) := by decide +kernel
theorem dX5_count_264 : decode cX5_count 264 = .ok (.getfield 10, 3) := by decide +kernel
theorem dX5_count_267 : decode cX5_count 267 = .ok (.getfield 136, 3) := by decide +kernel
theorem dX5_count_270 : decode cX5_count 270 = .ok (.iconst 4, 1) := by decide +kernel
theorem dX5_count_271 : decode cX5_count 271 = .ok (.iaload, 1) := by decide +kernel
theorem dX5_count_272 : decode cX5_count 272 = .ok (.ireturn, 1) := by decide +kernel
theorem dX5_count_273 : decode cX5_count 273 = .ok (.aload_n 0, 1) := by decide +kernel
theorem dX5_count_274 : decode cX5_count 274 = .ok (.getfield 29, 3) := by decide +kernel
theorem dX5_count_277 : decode cX5_count 277 = .ok (.getfield 140, 3) := by decide +kernel
theorem dX5_count_280 : decode cX5_count 280 = .ok (.ireturn, 1) := by decide +kernel
theorem dX5_count_281 : decode cX5_count 281 = .ok (.aload_n 0, 1) := by decide +kernel
theorem dX5_count_282 : decode cX5_count 282 = .ok (.getfield 22, 3) := by decide +kernel
theorem dX5_count_285 : decode cX5_count 285 = .ok (.getfield 143, 3) := by decide +kernel
theorem dX5_count_288 : decode cX5_count 288 = .ok (.ireturn, 1) := by decide +kernel
theorem dX5_count_289 : decode cX5_count 289 = .ok (.bipush (-2), 2) := by decide +kernel
theorem dX5_count_291 : decode cX5_count 291 = .ok (.ireturn, 1) := by decide +kernel
theorem dX5_known_0 : decode cX5_known 0 = .ok (.iload_n 1, 1) := by decide +kernel
theorem dX5_known_1 : decode cX5_known 1 = .ok (.iconst 0, 1) := by decide +kernel
theorem dX5_known_2 : decode cX5_known 2 = .ok (.bipush 99, 2) := by decide +kernel
theorem dX5_known_4 : decode cX5_known 4 = .ok (.invokestatic 146, 3) := by decide +kernel
theorem dX5_known_7 : decode cX5_known 7 = .ok (.ifCond .eq 14, 3) := by decide +kernel
theorem dX5_known_10 : decode cX5_known 10 = .ok (.aload_n 0, 1) := by decide +kernel
theorem dX5_known_11 : decode cX5_known 11 = .ok (.getfield 10, 3) := by decide +kernel
theorem dX5_known_14 : decode cX5_known 14 = .ok (.iload_n 1, 1) := by decide +kernel
theorem dX5_known_15 : decode cX5_known 15 = .ok (.invokevirtual 150, 3) := by decide +kernel
theorem dX5_known_18 : decode cX5_known 18 = .ok (.goto 5, 3) := by decide +kernel
theorem dX5_known_21 : decode cX5_known 21 = .ok (.bipush (-2), 2) := by decide +kernel
theorem dX5_known_23 : decode cX5_known 23 = .ok (.ireturn, 1) := by decide +kernel
theorem dX5_why_0 : decode cX5_why 0 = .ok (.aload_n 0, 1) := by decide +kernel
theorem dX5_why_1 : decode cX5_why 1 = .ok (.getfield 10, 3) := by decide +kernel
theorem dX5_why_4 : decode cX5_why 4 = .ok (.iload_n 1, 1) := by decide +kernel
theorem dX5_why_5 : decode cX5_why 5 = .ok (.iload_n 2, 1) := by decide +kernel
theorem dX5_why_6 : decode cX5_why 6 = .ok (.invokevirtual 153, 3) := by decide +kernel
theorem dX5_why_9 : decode cX5_why 9 = .ok (.ireturn, 1) := by decide +kernel
theorem dX5_knownIn_0 : decode cX5_knownIn 0 = .ok (.aload_n 0, 1) := by decide +kernel
theorem dX5_knownIn_1 : decode cX5_knownIn 1 = .ok (.getfield 10, 3) := by decide +kernel
theorem dX5_knownIn_4 : decode cX5_knownIn 4 = .ok (.iload_n 1, 1) := by decide +kernel
theorem dX5_knownIn_5 : decode cX5_knownIn 5 = .ok (.invokevirtual 156, 3) := by decide +kernel
theorem dX5_knownIn_8 : decode cX5_knownIn 8 = .ok (.astore_n 2, 1) := by decide +kernel
theorem dX5_knownIn_9 : decode cX5_knownIn 9 = .ok (.aload_n 2, 1) := by decide +kernel
theorem dX5_knownIn_10 : decode cX5_knownIn 10 = .ok (.ifnonnull 5, 3) := by decide +kernel
theorem dX5_knownIn_13 : decode cX5_knownIn 13 = .ok (.iconst (-1), 1) := by decide +kernel
theorem dX5_knownIn_14 : decode cX5_knownIn 14 = .ok (.ireturn, 1) := by decide +kernel
theorem dX5_knownIn_15 : decode cX5_knownIn 15 = .ok (.aload_n 2, 1) := by decide +kernel
theorem dX5_knownIn_16 : decode cX5_knownIn 16 = .ok (.getfield 160, 3) := by decide +kernel
theorem dX5_knownIn_19 : decode cX5_knownIn 19 = .ok (.bipush (-6), 2) := by decide +kernel
theorem dX5_knownIn_21 : decode cX5_knownIn 21 = .ok (.if_icmp .ne 6, 3) := by decide +kernel
theorem dX5_knownIn_24 : decode cX5_knownIn 24 = .ok (.bipush (-5), 2) := by decide +kernel
theorem dX5_knownIn_26 : decode cX5_knownIn 26 = .ok (.ireturn, 1) := by decide +kernel
theorem dX5_knownIn_27 : decode cX5_knownIn 27 = .ok (.aload_n 0, 1) := by decide +kernel
theorem dX5_knownIn_28 : decode cX5_knownIn 28 = .ok (.getfield 16, 3) := by decide +kernel
theorem dX5_knownIn_31 : decode cX5_knownIn 31 = .ok (.aload_n 0, 1) := by decide +kernel
theorem dX5_knownIn_32 : decode cX5_knownIn 32 = .ok (.getfield 10, 3) := by decide +kernel
theorem dX5_knownIn_35 : decode cX5_knownIn 35 = .ok (.invokevirtual 165, 3) := by decide +kernel
theorem dX5_knownIn_38 : decode cX5_knownIn 38 = .ok (.aload_n 0, 1) := by decide +kernel
theorem dX5_knownIn_39 : decode cX5_knownIn 39 = .ok (.getfield 16, 3) := by decide +kernel
theorem dX5_knownIn_42 : decode cX5_knownIn 42 = .ok (.iload_n 1, 1) := by decide +kernel
theorem dX5_knownIn_43 : decode cX5_knownIn 43 = .ok (.invokevirtual 168, 3) := by decide +kernel
theorem dX5_knownIn_46 : decode cX5_knownIn 46 = .ok (.ireturn, 1) := by decide +kernel
theorem dX5_wouldHurt_0 : decode cX5_wouldHurt 0 = .ok (.aload_n 0, 1) := by decide +kernel
theorem dX5_wouldHurt_1 : decode cX5_wouldHurt 1 = .ok (.getfield 10, 3) := by decide +kernel
theorem dX5_wouldHurt_4 : decode cX5_wouldHurt 4 = .ok (.iload_n 1, 1) := by decide +kernel
theorem dX5_wouldHurt_5 : decode cX5_wouldHurt 5 = .ok (.iload_n 2, 1) := by decide +kernel
theorem dX5_wouldHurt_6 : decode cX5_wouldHurt 6 = .ok (.iload_n 3, 1) := by decide +kernel
theorem dX5_wouldHurt_7 : decode cX5_wouldHurt 7 = .ok (.invokevirtual 171, 3) := by decide +kernel
theorem dX5_wouldHurt_10 : decode cX5_wouldHurt 10 = .ok (.istore 4, 2) := by decide +kernel
theorem dX5_wouldHurt_12 : decode cX5_wouldHurt 12 = .ok (.iload 4, 2) := by decide +kernel
theorem dX5_wouldHurt_14 : decode cX5_wouldHurt 14 = .ok (.ifCond .ge 8, 3) := by decide +kernel
theorem dX5_wouldHurt_17 : decode cX5_wouldHurt 17 = .ok (.iload 4, 2) := by decide +kernel
theorem dX5_wouldHurt_19 : decode cX5_wouldHurt 19 = .ok (.goto 10, 3) := by decide +kernel
theorem dX5_wouldHurt_22 : decode cX5_wouldHurt 22 = .ok (.aload_n 0, 1) := by decide +kernel
theorem dX5_wouldHurt_23 : decode cX5_wouldHurt 23 = .ok (.iload_n 1, 1) := by decide +kernel
theorem dX5_wouldHurt_24 : decode cX5_wouldHurt 24 = .ok (.iload_n 2, 1) := by decide +kernel
theorem dX5_wouldHurt_25 : decode cX5_wouldHurt 25 = .ok (.iload_n 3, 1) := by decide +kernel
theorem dX5_wouldHurt_26 : decode cX5_wouldHurt 26 = .ok (.invokevirtual 174, 3) := by decide +kernel
theorem dX5_wouldHurt_29 : decode cX5_wouldHurt 29 = .ok (.ireturn, 1) := by decide +kernel
theorem dX5_safeSpeed_0 : decode cX5_safeSpeed 0 = .ok (.aload_n 0, 1) := by decide +kernel
theorem dX5_safeSpeed_1 : decode cX5_safeSpeed 1 = .ok (.getfield 10, 3) := by decide +kernel
theorem dX5_safeSpeed_4 : decode cX5_safeSpeed 4 = .ok (.iload_n 1, 1) := by decide +kernel
theorem dX5_safeSpeed_5 : decode cX5_safeSpeed 5 = .ok (.iload_n 2, 1) := by decide +kernel
theorem dX5_safeSpeed_6 : decode cX5_safeSpeed 6 = .ok (.bipush 24, 2) := by decide +kernel
theorem dX5_safeSpeed_8 : decode cX5_safeSpeed 8 = .ok (.invokevirtual 171, 3) := by decide +kernel
theorem dX5_safeSpeed_11 : decode cX5_safeSpeed 11 = .ok (.istore_n 3, 1) := by decide +kernel
theorem dX5_safeSpeed_12 : decode cX5_safeSpeed 12 = .ok (.iload_n 3, 1) := by decide +kernel
theorem dX5_safeSpeed_13 : decode cX5_safeSpeed 13 = .ok (.ifCond .ge 5, 3) := by decide +kernel
theorem dX5_safeSpeed_16 : decode cX5_safeSpeed 16 = .ok (.iload_n 3, 1) := by decide +kernel
theorem dX5_safeSpeed_17 : decode cX5_safeSpeed 17 = .ok (.ireturn, 1) := by decide +kernel
theorem dX5_safeSpeed_18 : decode cX5_safeSpeed 18 = .ok (.bipush 24, 2) := by decide +kernel
theorem dX5_safeSpeed_20 : decode cX5_safeSpeed 20 = .ok (.istore 4, 2) := by decide +kernel
theorem dX5_safeSpeed_22 : decode cX5_safeSpeed 22 = .ok (.iload 4, 2) := by decide +kernel
theorem dX5_safeSpeed_24 : decode cX5_safeSpeed 24 = .ok (.iconst 1, 1) := by decide +kernel
theorem dX5_safeSpeed_25 : decode cX5_safeSpeed 25 = .ok (.if_icmp .lt 23, 3) := by decide +kernel
theorem dX5_safeSpeed_28 : decode cX5_safeSpeed 28 = .ok (.aload_n 0, 1) := by decide +kernel
theorem dX5_safeSpeed_29 : decode cX5_safeSpeed 29 = .ok (.iload_n 1, 1) := by decide +kernel
theorem dX5_safeSpeed_30 : decode cX5_safeSpeed 30 = .ok (.iload_n 2, 1) := by decide +kernel
theorem dX5_safeSpeed_31 : decode cX5_safeSpeed 31 = .ok (.iload 4, 2) := by decide +kernel
theorem dX5_safeSpeed_33 : decode cX5_safeSpeed 33 = .ok (.invokevirtual 174, 3) := by decide +kernel
theorem dX5_safeSpeed_36 : decode cX5_safeSpeed 36 = .ok (.ifCond .ne 6, 3) := by decide +kernel
theorem dX5_safeSpeed_39 : decode cX5_safeSpeed 39 = .ok (.iload 4, 2) := by decide +kernel
theorem dX5_safeSpeed_41 : decode cX5_safeSpeed 41 = .ok (.ireturn, 1) := by decide +kernel
theorem dX5_safeSpeed_42 : decode cX5_safeSpeed 42 = .ok (.iinc 4 (-1), 3) := by decide +kernel
theorem dX5_safeSpeed_45 : decode cX5_safeSpeed 45 = .ok (.goto (-23), 3) := by decide +kernel
theorem dX5_safeSpeed_48 : decode cX5_safeSpeed 48 = .ok (.bipush (-6), 2) := by decide +kernel
theorem dX5_safeSpeed_50 : decode cX5_safeSpeed 50 = .ok (.ireturn, 1) := by decide +kernel
theorem dX5_quietIn_0 : decode cX5_quietIn 0 = .ok (.aload_n 0, 1) := by decide +kernel
theorem dX5_quietIn_1 : decode cX5_quietIn 1 = .ok (.getfield 16, 3) := by decide +kernel
theorem dX5_quietIn_4 : decode cX5_quietIn 4 = .ok (.aload_n 0, 1) := by decide +kernel
theorem dX5_quietIn_5 : decode cX5_quietIn 5 = .ok (.getfield 10, 3) := by decide +kernel
theorem dX5_quietIn_8 : decode cX5_quietIn 8 = .ok (.invokevirtual 165, 3) := by decide +kernel
theorem dX5_quietIn_11 : decode cX5_quietIn 11 = .ok (.aload_n 0, 1) := by decide +kernel
theorem dX5_quietIn_12 : decode cX5_quietIn 12 = .ok (.getfield 16, 3) := by decide +kernel
theorem dX5_quietIn_15 : decode cX5_quietIn 15 = .ok (.invokevirtual 177, 3) := by decide +kernel
theorem dX5_quietIn_18 : decode cX5_quietIn 18 = .ok (.ireturn, 1) := by decide +kernel
theorem dX5_put_0 : decode cX5_put 0 = .ok (.aload_n 0, 1) := by decide +kernel
theorem dX5_put_1 : decode cX5_put 1 = .ok (.getfield 29, 3) := by decide +kernel
theorem dX5_put_4 : decode cX5_put 4 = .ok (.lload_n 1, 1) := by decide +kernel
theorem dX5_put_5 : decode cX5_put 5 = .ok (.invokevirtual 180, 3) := by decide +kernel
theorem dX5_put_8 : decode cX5_put 8 = .ok (.ireturn, 1) := by decide +kernel
theorem dX5_wipe_0 : decode cX5_wipe 0 = .ok (.aload_n 0, 1) := by decide +kernel
theorem dX5_wipe_1 : decode cX5_wipe 1 = .ok (.getfield 29, 3) := by decide +kernel
theorem dX5_wipe_4 : decode cX5_wipe 4 = .ok (.invokevirtual 184, 3) := by decide +kernel
theorem dX5_wipe_7 : decode cX5_wipe 7 = .ok (.ireturn, 1) := by decide +kernel
theorem dX5_fault_0 : decode cX5_fault 0 = .ok (.aload_n 0, 1) := by decide +kernel
theorem dX5_fault_1 : decode cX5_fault 1 = .ok (.getfield 29, 3) := by decide +kernel
theorem dX5_fault_4 : decode cX5_fault 4 = .ok (.invokevirtual 187, 3) := by decide +kernel
theorem dX5_fault_7 : decode cX5_fault 7 = .ok (.ireturn, 1) := by decide +kernel
theorem dX5_carryOut_0 : decode cX5_carryOut 0 = .ok (.aload_n 0, 1) := by decide +kernel
theorem dX5_carryOut_1 : decode cX5_carryOut 1 = .ok (.getfield 29, 3) := by decide +kernel
theorem dX5_carryOut_4 : decode cX5_carryOut 4 = .ok (.invokevirtual 187, 3) := by decide +kernel
theorem dX5_carryOut_7 : decode cX5_carryOut 7 = .ok (.bipush (-6), 2) := by decide +kernel
theorem dX5_carryOut_9 : decode cX5_carryOut 9 = .ok (.if_icmp .eq 6, 3) := by decide +kernel
theorem dX5_carryOut_12 : decode cX5_carryOut 12 = .ok (.bipush (-3), 2) := by decide +kernel
theorem dX5_carryOut_14 : decode cX5_carryOut 14 = .ok (.ireturn, 1) := by decide +kernel
theorem dX5_carryOut_15 : decode cX5_carryOut 15 = .ok (.aload_n 0, 1) := by decide +kernel
theorem dX5_carryOut_16 : decode cX5_carryOut 16 = .ok (.getfield 22, 3) := by decide +kernel
theorem dX5_carryOut_19 : decode cX5_carryOut 19 = .ok (.aload_n 0, 1) := by decide +kernel
theorem dX5_carryOut_20 : decode cX5_carryOut 20 = .ok (.getfield 10, 3) := by decide +kernel
theorem dX5_carryOut_23 : decode cX5_carryOut 23 = .ok (.invokevirtual 41, 3) := by decide +kernel
theorem dX5_carryOut_26 : decode cX5_carryOut 26 = .ok (.aload_n 0, 1) := by decide +kernel
theorem dX5_carryOut_27 : decode cX5_carryOut 27 = .ok (.getfield 29, 3) := by decide +kernel
theorem dX5_carryOut_30 : decode cX5_carryOut 30 = .ok (.invokevirtual 190, 3) := by decide +kernel
theorem dX5_carryOut_33 : decode cX5_carryOut 33 = .ok (.iconst 0, 1) := by decide +kernel
theorem dX5_carryOut_34 : decode cX5_carryOut 34 = .ok (.istore_n 1, 1) := by decide +kernel
theorem dX5_carryOut_35 : decode cX5_carryOut 35 = .ok (.iload_n 1, 1) := by decide +kernel
theorem dX5_carryOut_36 : decode cX5_carryOut 36 = .ok (.bipush 80, 2) := by decide +kernel
theorem dX5_carryOut_38 : decode cX5_carryOut 38 = .ok (.if_icmp .ge 34, 3) := by decide +kernel
theorem dX5_carryOut_41 : decode cX5_carryOut 41 = .ok (.aload_n 0, 1) := by decide +kernel
theorem dX5_carryOut_42 : decode cX5_carryOut 42 = .ok (.getfield 29, 3) := by decide +kernel
theorem dX5_carryOut_45 : decode cX5_carryOut 45 = .ok (.invokevirtual 193, 3) := by decide +kernel
theorem dX5_carryOut_48 : decode cX5_carryOut 48 = .ok (.ifCond .eq 24, 3) := by decide +kernel
theorem dX5_carryOut_51 : decode cX5_carryOut 51 = .ok (.aload_n 0, 1) := by decide +kernel
theorem dX5_carryOut_52 : decode cX5_carryOut 52 = .ok (.invokevirtual 196, 3) := by decide +kernel
theorem dX5_carryOut_55 : decode cX5_carryOut 55 = .ok (.ifCond .lt 17, 3) := by decide +kernel
theorem dX5_carryOut_58 : decode cX5_carryOut 58 = .ok (.iinc 1 1, 3) := by decide +kernel
theorem dX5_carryOut_61 : decode cX5_carryOut 61 = .ok (.aload_n 0, 1) := by decide +kernel
theorem dX5_carryOut_62 : decode cX5_carryOut 62 = .ok (.getfield 29, 3) := by decide +kernel
theorem dX5_carryOut_65 : decode cX5_carryOut 65 = .ok (.invokevirtual 199, 3) := by decide +kernel
theorem dX5_carryOut_68 : decode cX5_carryOut 68 = .ok (.pop, 1) := by decide +kernel
theorem dX5_carryOut_69 : decode cX5_carryOut 69 = .ok (.goto (-34), 3) := by decide +kernel
theorem dX5_carryOut_72 : decode cX5_carryOut 72 = .ok (.aload_n 0, 1) := by decide +kernel
theorem dX5_carryOut_73 : decode cX5_carryOut 73 = .ok (.getfield 29, 3) := by decide +kernel
theorem dX5_carryOut_76 : decode cX5_carryOut 76 = .ok (.invokevirtual 184, 3) := by decide +kernel
theorem dX5_carryOut_79 : decode cX5_carryOut 79 = .ok (.pop, 1) := by decide +kernel
theorem dX5_carryOut_80 : decode cX5_carryOut 80 = .ok (.aload_n 0, 1) := by decide +kernel
theorem dX5_carryOut_81 : decode cX5_carryOut 81 = .ok (.getfield 22, 3) := by decide +kernel
theorem dX5_carryOut_84 : decode cX5_carryOut 84 = .ok (.iload_n 1, 1) := by decide +kernel
theorem dX5_carryOut_85 : decode cX5_carryOut 85 = .ok (.invokevirtual 49, 3) := by decide +kernel
theorem dX5_carryOut_88 : decode cX5_carryOut 88 = .ok (.ireturn, 1) := by decide +kernel
theorem dX5_undo_0 : decode cX5_undo 0 = .ok (.aload_n 0, 1) := by decide +kernel
theorem dX5_undo_1 : decode cX5_undo 1 = .ok (.getfield 22, 3) := by decide +kernel
theorem dX5_undo_4 : decode cX5_undo 4 = .ok (.aload_n 0, 1) := by decide +kernel
theorem dX5_undo_5 : decode cX5_undo 5 = .ok (.getfield 10, 3) := by decide +kernel
theorem dX5_undo_8 : decode cX5_undo 8 = .ok (.invokevirtual 202, 3) := by decide +kernel
theorem dX5_undo_11 : decode cX5_undo 11 = .ok (.ireturn, 1) := by decide +kernel
theorem dX5_save_0 : decode cX5_save 0 = .ok (.iload_n 1, 1) := by decide +kernel
theorem dX5_save_1 : decode cX5_save 1 = .ok (.iconst 0, 1) := by decide +kernel
theorem dX5_save_2 : decode cX5_save 2 = .ok (.iconst 1, 1) := by decide +kernel
theorem dX5_save_3 : decode cX5_save 3 = .ok (.invokestatic 146, 3) := by decide +kernel
theorem dX5_save_6 : decode cX5_save 6 = .ok (.ifCond .ne 6, 3) := by decide +kernel
theorem dX5_save_9 : decode cX5_save 9 = .ok (.bipush (-2), 2) := by decide +kernel
theorem dX5_save_11 : decode cX5_save 11 = .ok (.ireturn, 1) := by decide +kernel
theorem dX5_save_12 : decode cX5_save 12 = .ok (.aload_n 0, 1) := by decide +kernel
theorem dX5_save_13 : decode cX5_save 13 = .ok (.getfield 33, 3) := by decide +kernel
theorem dX5_save_16 : decode cX5_save 16 = .ok (.iload_n 1, 1) := by decide +kernel
theorem dX5_save_17 : decode cX5_save 17 = .ok (.aaload, 1) := by decide +kernel
theorem dX5_save_18 : decode cX5_save 18 = .ok (.aload_n 0, 1) := by decide +kernel
theorem dX5_save_19 : decode cX5_save 19 = .ok (.getfield 10, 3) := by decide +kernel
theorem dX5_save_22 : decode cX5_save 22 = .ok (.invokevirtual 165, 3) := by decide +kernel
theorem dX5_save_25 : decode cX5_save 25 = .ok (.aload_n 0, 1) := by decide +kernel
theorem dX5_save_26 : decode cX5_save 26 = .ok (.getfield 37, 3) := by decide +kernel
theorem dX5_save_29 : decode cX5_save 29 = .ok (.iload_n 1, 1) := by decide +kernel
theorem dX5_save_30 : decode cX5_save 30 = .ok (.iconst 1, 1) := by decide +kernel
theorem dX5_save_31 : decode cX5_save 31 = .ok (.bastore, 1) := by decide +kernel
theorem dX5_save_32 : decode cX5_save 32 = .ok (.aload_n 0, 1) := by decide +kernel
theorem dX5_save_33 : decode cX5_save 33 = .ok (.getfield 10, 3) := by decide +kernel
theorem dX5_save_36 : decode cX5_save 36 = .ok (.getfield 206, 3) := by decide +kernel
theorem dX5_save_39 : decode cX5_save 39 = .ok (.ireturn, 1) := by decide +kernel
theorem dX5_restore_0 : decode cX5_restore 0 = .ok (.iload_n 1, 1) := by decide +kernel
theorem dX5_restore_1 : decode cX5_restore 1 = .ok (.iconst 0, 1) := by decide +kernel
theorem dX5_restore_2 : decode cX5_restore 2 = .ok (.iconst 1, 1) := by decide +kernel
theorem dX5_restore_3 : decode cX5_restore 3 = .ok (.invokestatic 146, 3) := by decide +kernel
theorem dX5_restore_6 : decode cX5_restore 6 = .ok (.ifCond .ne 6, 3) := by decide +kernel
theorem dX5_restore_9 : decode cX5_restore 9 = .ok (.bipush (-2), 2) := by decide +kernel
theorem dX5_restore_11 : decode cX5_restore 11 = .ok (.ireturn, 1) := by decide +kernel
theorem dX5_restore_12 : decode cX5_restore 12 = .ok (.aload_n 0, 1) := by decide +kernel
theorem dX5_restore_13 : decode cX5_restore 13 = .ok (.getfield 37, 3) := by decide +kernel
theorem dX5_restore_16 : decode cX5_restore 16 = .ok (.iload_n 1, 1) := by decide +kernel
theorem dX5_restore_17 : decode cX5_restore 17 = .ok (.baload, 1) := by decide +kernel
theorem dX5_restore_18 : decode cX5_restore 18 = .ok (.ifCond .ne 6, 3) := by decide +kernel
theorem dX5_restore_21 : decode cX5_restore 21 = .ok (.bipush (-5), 2) := by decide +kernel
theorem dX5_restore_23 : decode cX5_restore 23 = .ok (.ireturn, 1) := by decide +kernel
theorem dX5_restore_24 : decode cX5_restore 24 = .ok (.aload_n 0, 1) := by decide +kernel
theorem dX5_restore_25 : decode cX5_restore 25 = .ok (.getfield 22, 3) := by decide +kernel
theorem dX5_restore_28 : decode cX5_restore 28 = .ok (.aload_n 0, 1) := by decide +kernel
theorem dX5_restore_29 : decode cX5_restore 29 = .ok (.getfield 10, 3) := by decide +kernel
theorem dX5_restore_32 : decode cX5_restore 32 = .ok (.invokevirtual 41, 3) := by decide +kernel
theorem dX5_restore_35 : decode cX5_restore 35 = .ok (.aload_n 0, 1) := by decide +kernel
theorem dX5_restore_36 : decode cX5_restore 36 = .ok (.getfield 10, 3) := by decide +kernel
theorem dX5_restore_39 : decode cX5_restore 39 = .ok (.aload_n 0, 1) := by decide +kernel
theorem dX5_restore_40 : decode cX5_restore 40 = .ok (.getfield 33, 3) := by decide +kernel
theorem dX5_restore_43 : decode cX5_restore 43 = .ok (.iload_n 1, 1) := by decide +kernel
theorem dX5_restore_44 : decode cX5_restore 44 = .ok (.aaload, 1) := by decide +kernel
theorem dX5_restore_45 : decode cX5_restore 45 = .ok (.invokevirtual 165, 3) := by decide +kernel
theorem dX5_restore_48 : decode cX5_restore 48 = .ok (.aload_n 0, 1) := by decide +kernel
theorem dX5_restore_49 : decode cX5_restore 49 = .ok (.getfield 22, 3) := by decide +kernel
theorem dX5_restore_52 : decode cX5_restore 52 = .ok (.aload_n 0, 1) := by decide +kernel
theorem dX5_restore_53 : decode cX5_restore 53 = .ok (.getfield 10, 3) := by decide +kernel
theorem dX5_restore_56 : decode cX5_restore 56 = .ok (.getfield 206, 3) := by decide +kernel
theorem dX5_restore_59 : decode cX5_restore 59 = .ok (.invokevirtual 49, 3) := by decide +kernel
theorem dX5_restore_62 : decode cX5_restore 62 = .ok (.ireturn, 1) := by decide +kernel
theorem dX5_isIn_0 : decode cX5_isIn 0 = .ok (.iload_n 0, 1) := by decide +kernel
theorem dX5_isIn_1 : decode cX5_isIn 1 = .ok (.iload_n 1, 1) := by decide +kernel
theorem dX5_isIn_2 : decode cX5_isIn 2 = .ok (.if_icmp .lt 12, 3) := by decide +kernel
theorem dX5_isIn_5 : decode cX5_isIn 5 = .ok (.iload_n 0, 1) := by decide +kernel
theorem dX5_isIn_6 : decode cX5_isIn 6 = .ok (.iload_n 2, 1) := by decide +kernel
theorem dX5_isIn_7 : decode cX5_isIn 7 = .ok (.if_icmp .gt 7, 3) := by decide +kernel
theorem dX5_isIn_10 : decode cX5_isIn 10 = .ok (.iconst 1, 1) := by decide +kernel
theorem dX5_isIn_11 : decode cX5_isIn 11 = .ok (.goto 4, 3) := by decide +kernel
theorem dX5_isIn_14 : decode cX5_isIn 14 = .ok (.iconst 0, 1) := by decide +kernel
theorem dX5_isIn_15 : decode cX5_isIn 15 = .ok (.ireturn, 1) := by decide +kernel
theorem dX5_isSlot_0 : decode cX5_isSlot 0 = .ok (.iload_n 0, 1) := by decide +kernel
theorem dX5_isSlot_1 : decode cX5_isSlot 1 = .ok (.iconst 0, 1) := by decide +kernel
theorem dX5_isSlot_2 : decode cX5_isSlot 2 = .ok (.iconst 4, 1) := by decide +kernel
theorem dX5_isSlot_3 : decode cX5_isSlot 3 = .ok (.invokestatic 146, 3) := by decide +kernel
theorem dX5_isSlot_6 : decode cX5_isSlot 6 = .ok (.ireturn, 1) := by decide +kernel
theorem dX5_hurtsByPlug_0 : decode cX5_hurtsByPlug 0 = .ok (.aload_n 0, 1) := by decide +kernel
theorem dX5_hurtsByPlug_1 : decode cX5_hurtsByPlug 1 = .ok (.getfield 16, 3) := by decide +kernel
theorem dX5_hurtsByPlug_4 : decode cX5_hurtsByPlug 4 = .ok (.aload_n 0, 1) := by decide +kernel
theorem dX5_hurtsByPlug_5 : decode cX5_hurtsByPlug 5 = .ok (.getfield 10, 3) := by decide +kernel
theorem dX5_hurtsByPlug_8 : decode cX5_hurtsByPlug 8 = .ok (.invokevirtual 165, 3) := by decide +kernel
theorem dX5_hurtsByPlug_11 : decode cX5_hurtsByPlug 11 = .ok (.aload_n 0, 1) := by decide +kernel
theorem dX5_hurtsByPlug_12 : decode cX5_hurtsByPlug 12 = .ok (.getfield 16, 3) := by decide +kernel
theorem dX5_hurtsByPlug_15 : decode cX5_hurtsByPlug 15 = .ok (.iload_n 1, 1) := by decide +kernel
theorem dX5_hurtsByPlug_16 : decode cX5_hurtsByPlug 16 = .ok (.iload_n 2, 1) := by decide +kernel
theorem dX5_hurtsByPlug_17 : decode cX5_hurtsByPlug 17 = .ok (.iload_n 3, 1) := by decide +kernel
theorem dX5_hurtsByPlug_18 : decode cX5_hurtsByPlug 18 = .ok (.invokevirtual 56, 3) := by decide +kernel
theorem dX5_hurtsByPlug_21 : decode cX5_hurtsByPlug 21 = .ok (.pop, 1) := by decide +kernel
theorem dX5_hurtsByPlug_22 : decode cX5_hurtsByPlug 22 = .ok (.aload_n 0, 1) := by decide +kernel
theorem dX5_hurtsByPlug_23 : decode cX5_hurtsByPlug 23 = .ok (.getfield 16, 3) := by decide +kernel
theorem dX5_hurtsByPlug_26 : decode cX5_hurtsByPlug 26 = .ok (.iload_n 1, 1) := by decide +kernel
theorem dX5_hurtsByPlug_27 : decode cX5_hurtsByPlug 27 = .ok (.invokevirtual 209, 3) := by decide +kernel
theorem dX5_hurtsByPlug_30 : decode cX5_hurtsByPlug 30 = .ok (.ireturn, 1) := by decide +kernel
theorem dX5_carryOutOrder_0 : decode cX5_carryOutOrder 0 = .ok (.aload_n 0, 1) := by decide +kernel
theorem dX5_carryOutOrder_1 : decode cX5_carryOutOrder 1 = .ok (.getfield 29, 3) := by decide +kernel
theorem dX5_carryOutOrder_4 : decode cX5_carryOutOrder 4 = .ok (.getfield 212, 3) := by decide +kernel
theorem dX5_carryOutOrder_7 : decode cX5_carryOutOrder 7 = .ok (.iconst 0, 1) := by decide +kernel
theorem dX5_carryOutOrder_8 : decode cX5_carryOutOrder 8 = .ok (.iaload, 1) := by decide +kernel
theorem dX5_carryOutOrder_9 : decode cX5_carryOutOrder 9 = .ok (.istore_n 1, 1) := by decide +kernel
theorem dX5_carryOutOrder_10 : decode cX5_carryOutOrder 10 = .ok (.aload_n 0, 1) := by decide +kernel
theorem dX5_carryOutOrder_11 : decode cX5_carryOutOrder 11 = .ok (.getfield 29, 3) := by decide +kernel
theorem dX5_carryOutOrder_14 : decode cX5_carryOutOrder 14 = .ok (.getfield 212, 3) := by decide +kernel
theorem dX5_carryOutOrder_17 : decode cX5_carryOutOrder 17 = .ok (.iconst 1, 1) := by decide +kernel
theorem dX5_carryOutOrder_18 : decode cX5_carryOutOrder 18 = .ok (.iaload, 1) := by decide +kernel
theorem dX5_carryOutOrder_19 : decode cX5_carryOutOrder 19 = .ok (.istore_n 2, 1) := by decide +kernel
theorem dX5_carryOutOrder_20 : decode cX5_carryOutOrder 20 = .ok (.aload_n 0, 1) := by decide +kernel
theorem dX5_carryOutOrder_21 : decode cX5_carryOutOrder 21 = .ok (.getfield 29, 3) := by decide +kernel
theorem dX5_carryOutOrder_24 : decode cX5_carryOutOrder 24 = .ok (.getfield 212, 3) := by decide +kernel
theorem dX5_carryOutOrder_27 : decode cX5_carryOutOrder 27 = .ok (.iconst 2, 1) := by decide +kernel
theorem dX5_carryOutOrder_28 : decode cX5_carryOutOrder 28 = .ok (.iaload, 1) := by decide +kernel
theorem dX5_carryOutOrder_29 : decode cX5_carryOutOrder 29 = .ok (.istore_n 3, 1) := by decide +kernel
theorem dX5_carryOutOrder_30 : decode cX5_carryOutOrder 30 = .ok (.aload_n 0, 1) := by decide +kernel
theorem dX5_carryOutOrder_31 : decode cX5_carryOutOrder 31 = .ok (.getfield 29, 3) := by decide +kernel
theorem dX5_carryOutOrder_34 : decode cX5_carryOutOrder 34 = .ok (.getfield 215, 3) := by decide +kernel
theorem dX5_carryOutOrder_37 : decode cX5_carryOutOrder 37 = .ok (.lookupswitch 118 #[(97, 90), (98, 59), (105, 69), (111, 80), (116, 109), (119, 99)], 59) := by decide +kernel
theorem dX5_carryOutOrder_96 : decode cX5_carryOutOrder 96 = .ok (.aload_n 0, 1) := by decide +kernel
theorem dX5_carryOutOrder_97 : decode cX5_carryOutOrder 97 = .ok (.getfield 10, 3) := by decide +kernel
theorem dX5_carryOutOrder_100 : decode cX5_carryOutOrder 100 = .ok (.iload_n 1, 1) := by decide +kernel
theorem dX5_carryOutOrder_101 : decode cX5_carryOutOrder 101 = .ok (.iload_n 2, 1) := by decide +kernel
theorem dX5_carryOutOrder_102 : decode cX5_carryOutOrder 102 = .ok (.invokevirtual 53, 3) := by decide +kernel
theorem dX5_carryOutOrder_105 : decode cX5_carryOutOrder 105 = .ok (.ireturn, 1) := by decide +kernel
theorem dX5_carryOutOrder_106 : decode cX5_carryOutOrder 106 = .ok (.aload_n 0, 1) := by decide +kernel
theorem dX5_carryOutOrder_107 : decode cX5_carryOutOrder 107 = .ok (.getfield 10, 3) := by decide +kernel
theorem dX5_carryOutOrder_110 : decode cX5_carryOutOrder 110 = .ok (.iload_n 1, 1) := by decide +kernel
theorem dX5_carryOutOrder_111 : decode cX5_carryOutOrder 111 = .ok (.iload_n 2, 1) := by decide +kernel
theorem dX5_carryOutOrder_112 : decode cX5_carryOutOrder 112 = .ok (.iload_n 3, 1) := by decide +kernel
theorem dX5_carryOutOrder_113 : decode cX5_carryOutOrder 113 = .ok (.invokevirtual 56, 3) := by decide +kernel
theorem dX5_carryOutOrder_116 : decode cX5_carryOutOrder 116 = .ok (.ireturn, 1) := by decide +kernel
theorem dX5_carryOutOrder_117 : decode cX5_carryOutOrder 117 = .ok (.aload_n 0, 1) := by decide +kernel
theorem dX5_carryOutOrder_118 : decode cX5_carryOutOrder 118 = .ok (.getfield 10, 3) := by decide +kernel
theorem dX5_carryOutOrder_121 : decode cX5_carryOutOrder 121 = .ok (.iload_n 1, 1) := by decide +kernel
theorem dX5_carryOutOrder_122 : decode cX5_carryOutOrder 122 = .ok (.iload_n 2, 1) := by decide +kernel
theorem dX5_carryOutOrder_123 : decode cX5_carryOutOrder 123 = .ok (.invokevirtual 60, 3) := by decide +kernel
theorem dX5_carryOutOrder_126 : decode cX5_carryOutOrder 126 = .ok (.ireturn, 1) := by decide +kernel
theorem dX5_carryOutOrder_127 : decode cX5_carryOutOrder 127 = .ok (.aload_n 0, 1) := by decide +kernel
theorem dX5_carryOutOrder_128 : decode cX5_carryOutOrder 128 = .ok (.getfield 10, 3) := by decide +kernel
theorem dX5_carryOutOrder_131 : decode cX5_carryOutOrder 131 = .ok (.iload_n 1, 1) := by decide +kernel
theorem dX5_carryOutOrder_132 : decode cX5_carryOutOrder 132 = .ok (.invokevirtual 63, 3) := by decide +kernel
theorem dX5_carryOutOrder_135 : decode cX5_carryOutOrder 135 = .ok (.ireturn, 1) := by decide +kernel
theorem dX5_carryOutOrder_136 : decode cX5_carryOutOrder 136 = .ok (.aload_n 0, 1) := by decide +kernel
theorem dX5_carryOutOrder_137 : decode cX5_carryOutOrder 137 = .ok (.getfield 10, 3) := by decide +kernel
theorem dX5_carryOutOrder_140 : decode cX5_carryOutOrder 140 = .ok (.iload_n 1, 1) := by decide +kernel
theorem dX5_carryOutOrder_141 : decode cX5_carryOutOrder 141 = .ok (.iload_n 2, 1) := by decide +kernel
theorem dX5_carryOutOrder_142 : decode cX5_carryOutOrder 142 = .ok (.invokevirtual 66, 3) := by decide +kernel
theorem dX5_carryOutOrder_145 : decode cX5_carryOutOrder 145 = .ok (.ireturn, 1) := by decide +kernel
theorem dX5_carryOutOrder_146 : decode cX5_carryOutOrder 146 = .ok (.aload_n 0, 1) := by decide +kernel
theorem dX5_carryOutOrder_147 : decode cX5_carryOutOrder 147 = .ok (.getfield 10, 3) := by decide +kernel
theorem dX5_carryOutOrder_150 : decode cX5_carryOutOrder 150 = .ok (.iload_n 1, 1) := by decide +kernel
theorem dX5_carryOutOrder_151 : decode cX5_carryOutOrder 151 = .ok (.invokevirtual 69, 3) := by decide +kernel
theorem dX5_carryOutOrder_154 : decode cX5_carryOutOrder 154 = .ok (.ireturn, 1) := by decide +kernel
theorem dX5_carryOutOrder_155 : decode cX5_carryOutOrder 155 = .ok (.bipush (-3), 2) := by decide +kernel
theorem dX5_carryOutOrder_157 : decode cX5_carryOutOrder 157 = .ok (.ireturn, 1) := by decide +kernel
theorem dJ9_floorMod_7cf53_0 : decode cJ9_floorMod_7cf53 0 = .ok (.iload_n 0, 1) := by decide +kernel
theorem dJ9_floorMod_7cf53_1 : decode cJ9_floorMod_7cf53 1 = .ok (.iload_n 1, 1) := by decide +kernel
theorem dJ9_floorMod_7cf53_2 : decode cJ9_floorMod_7cf53 2 = .ok (.irem, 1) := by decide +kernel
theorem dJ9_floorMod_7cf53_3 : decode cJ9_floorMod_7cf53 3 = .ok (.istore_n 2, 1) := by decide +kernel
theorem dJ9_floorMod_7cf53_4 : decode cJ9_floorMod_7cf53 4 = .ok (.iload_n 0, 1) := by decide +kernel
theorem dJ9_floorMod_7cf53_5 : decode cJ9_floorMod_7cf53 5 = .ok (.iload_n 1, 1) := by decide +kernel
theorem dJ9_floorMod_7cf53_6 : decode cJ9_floorMod_7cf53 6 = .ok (.ixor, 1) := by decide +kernel
theorem dJ9_floorMod_7cf53_7 : decode cJ9_floorMod_7cf53 7 = .ok (.ifCond .ge 11, 3) := by decide +kernel
theorem dJ9_floorMod_7cf53_10 : decode cJ9_floorMod_7cf53 10 = .ok (.iload_n 2, 1) := by decide +kernel
theorem dJ9_floorMod_7cf53_11 : decode cJ9_floorMod_7cf53 11 = .ok (.ifCond .eq 7, 3) := by decide +kernel
theorem dJ9_floorMod_7cf53_14 : decode cJ9_floorMod_7cf53 14 = .ok (.iload_n 2, 1) := by decide +kernel
theorem dJ9_floorMod_7cf53_15 : decode cJ9_floorMod_7cf53 15 = .ok (.iload_n 1, 1) := by decide +kernel
theorem dJ9_floorMod_7cf53_16 : decode cJ9_floorMod_7cf53 16 = .ok (.iadd, 1) := by decide +kernel
theorem dJ9_floorMod_7cf53_17 : decode cJ9_floorMod_7cf53 17 = .ok (.ireturn, 1) := by decide +kernel
theorem dJ9_floorMod_7cf53_18 : decode cJ9_floorMod_7cf53 18 = .ok (.iload_n 2, 1) := by decide +kernel
theorem dJ9_floorMod_7cf53_19 : decode cJ9_floorMod_7cf53 19 = .ok (.ireturn, 1) := by decide +kernel
theorem dJ9_max_7cf53_0 : decode cJ9_max_7cf53 0 = .ok (.iload_n 0, 1) := by decide +kernel
theorem dJ9_max_7cf53_1 : decode cJ9_max_7cf53 1 = .ok (.iload_n 1, 1) := by decide +kernel
theorem dJ9_max_7cf53_2 : decode cJ9_max_7cf53 2 = .ok (.if_icmp .lt 7, 3) := by decide +kernel
theorem dJ9_max_7cf53_5 : decode cJ9_max_7cf53 5 = .ok (.iload_n 0, 1) := by decide +kernel
theorem dJ9_max_7cf53_6 : decode cJ9_max_7cf53 6 = .ok (.goto 4, 3) := by decide +kernel
theorem dJ9_max_7cf53_9 : decode cJ9_max_7cf53 9 = .ok (.iload_n 1, 1) := by decide +kernel
theorem dJ9_max_7cf53_10 : decode cJ9_max_7cf53 10 = .ok (.ireturn, 1) := by decide +kernel
theorem dJ9_min_7cf53_0 : decode cJ9_min_7cf53 0 = .ok (.iload_n 0, 1) := by decide +kernel
theorem dJ9_min_7cf53_1 : decode cJ9_min_7cf53 1 = .ok (.iload_n 1, 1) := by decide +kernel
theorem dJ9_min_7cf53_2 : decode cJ9_min_7cf53 2 = .ok (.if_icmp .gt 7, 3) := by decide +kernel
theorem dJ9_min_7cf53_5 : decode cJ9_min_7cf53 5 = .ok (.iload_n 0, 1) := by decide +kernel
theorem dJ9_min_7cf53_6 : decode cJ9_min_7cf53 6 = .ok (.goto 4, 3) := by decide +kernel
theorem dJ9_min_7cf53_9 : decode cJ9_min_7cf53 9 = .ok (.iload_n 1, 1) := by decide +kernel
theorem dJ9_min_7cf53_10 : decode cJ9_min_7cf53 10 = .ok (.ireturn, 1) := by decide +kernel
theorem dJ0_length_8abf5_0 : decode cJ0_length_8abf5 0 = .ok (.aload_n 0, 1) := by decide +kernel
theorem dJ0_length_8abf5_1 : decode cJ0_length_8abf5 1 = .ok (.getfield 9, 3) := by decide +kernel
theorem dJ0_length_8abf5_4 : decode cJ0_length_8abf5 4 = .ok (.arraylength, 1) := by decide +kernel
theorem dJ0_length_8abf5_5 : decode cJ0_length_8abf5 5 = .ok (.aload_n 0, 1) := by decide +kernel
theorem dJ0_length_8abf5_6 : decode cJ0_length_8abf5 6 = .ok (.invokevirtual 335, 3) := by decide +kernel
theorem dJ0_length_8abf5_9 : decode cJ0_length_8abf5 9 = .ok (.ishr, 1) := by decide +kernel
theorem dJ0_length_8abf5_10 : decode cJ0_length_8abf5 10 = .ok (.ireturn, 1) := by decide +kernel
theorem dJ0_isEmpty_aae02_0 : decode cJ0_isEmpty_aae02 0 = .ok (.aload_n 0, 1) := by decide +kernel
theorem dJ0_isEmpty_aae02_1 : decode cJ0_isEmpty_aae02 1 = .ok (.getfield 9, 3) := by decide +kernel
theorem dJ0_isEmpty_aae02_4 : decode cJ0_isEmpty_aae02 4 = .ok (.arraylength, 1) := by decide +kernel
theorem dJ0_isEmpty_aae02_5 : decode cJ0_isEmpty_aae02 5 = .ok (.ifCond .ne 7, 3) := by decide +kernel
theorem dJ0_isEmpty_aae02_8 : decode cJ0_isEmpty_aae02 8 = .ok (.iconst 1, 1) := by decide +kernel
theorem dJ0_isEmpty_aae02_9 : decode cJ0_isEmpty_aae02 9 = .ok (.goto 4, 3) := by decide +kernel
theorem dJ0_isEmpty_aae02_12 : decode cJ0_isEmpty_aae02 12 = .ok (.iconst 0, 1) := by decide +kernel
theorem dJ0_isEmpty_aae02_13 : decode cJ0_isEmpty_aae02 13 = .ok (.ireturn, 1) := by decide +kernel
theorem dJ0_charAt_5068e_0 : decode cJ0_charAt_5068e 0 = .ok (.aload_n 0, 1) := by decide +kernel
theorem dJ0_charAt_5068e_1 : decode cJ0_charAt_5068e 1 = .ok (.invokevirtual 492, 3) := by decide +kernel
theorem dJ0_charAt_5068e_4 : decode cJ0_charAt_5068e 4 = .ok (.ifCond .eq 12, 3) := by decide +kernel
theorem dJ0_charAt_5068e_7 : decode cJ0_charAt_5068e 7 = .ok (.aload_n 0, 1) := by decide +kernel
theorem dJ0_charAt_5068e_8 : decode cJ0_charAt_5068e 8 = .ok (.getfield 9, 3) := by decide +kernel
theorem dJ0_charAt_5068e_11 : decode cJ0_charAt_5068e 11 = .ok (.iload_n 1, 1) := by decide +kernel
theorem dJ0_charAt_5068e_12 : decode cJ0_charAt_5068e 12 = .ok (.invokestatic 495, 3) := by decide +kernel
theorem dJ0_charAt_5068e_15 : decode cJ0_charAt_5068e 15 = .ok (.ireturn, 1) := by decide +kernel
theorem dJ0_charAt_5068e_16 : decode cJ0_charAt_5068e 16 = .ok (.aload_n 0, 1) := by decide +kernel
theorem dJ0_charAt_5068e_17 : decode cJ0_charAt_5068e 17 = .ok (.getfield 9, 3) := by decide +kernel
theorem dJ0_charAt_5068e_20 : decode cJ0_charAt_5068e 20 = .ok (.iload_n 1, 1) := by decide +kernel
theorem dJ0_charAt_5068e_21 : decode cJ0_charAt_5068e 21 = .ok (.invokestatic 498, 3) := by decide +kernel
theorem dJ0_charAt_5068e_24 : decode cJ0_charAt_5068e 24 = .ok (.ireturn, 1) := by decide +kernel
theorem dJ0_coder_7d493_0 : decode cJ0_coder_7d493 0 = .ok (.getstatic 38, 3) := by decide +kernel
theorem dJ0_coder_7d493_3 : decode cJ0_coder_7d493 3 = .ok (.ifCond .eq 10, 3) := by decide +kernel
theorem dJ0_coder_7d493_6 : decode cJ0_coder_7d493 6 = .ok (.aload_n 0, 1) := by decide +kernel
theorem dJ0_coder_7d493_7 : decode cJ0_coder_7d493 7 = .ok (.getfield 15, 3) := by decide +kernel
theorem dJ0_coder_7d493_10 : decode cJ0_coder_7d493 10 = .ok (.goto 4, 3) := by decide +kernel
theorem dJ0_coder_7d493_13 : decode cJ0_coder_7d493 13 = .ok (.iconst 1, 1) := by decide +kernel
theorem dJ0_coder_7d493_14 : decode cJ0_coder_7d493 14 = .ok (.ireturn, 1) := by decide +kernel
theorem dJ0_isLatin1_aae02_0 : decode cJ0_isLatin1_aae02 0 = .ok (.getstatic 38, 3) := by decide +kernel
theorem dJ0_isLatin1_aae02_3 : decode cJ0_isLatin1_aae02 3 = .ok (.ifCond .eq 14, 3) := by decide +kernel
theorem dJ0_isLatin1_aae02_6 : decode cJ0_isLatin1_aae02 6 = .ok (.aload_n 0, 1) := by decide +kernel
theorem dJ0_isLatin1_aae02_7 : decode cJ0_isLatin1_aae02 7 = .ok (.getfield 15, 3) := by decide +kernel
theorem dJ0_isLatin1_aae02_10 : decode cJ0_isLatin1_aae02 10 = .ok (.ifCond .ne 7, 3) := by decide +kernel
theorem dJ0_isLatin1_aae02_13 : decode cJ0_isLatin1_aae02 13 = .ok (.iconst 1, 1) := by decide +kernel
theorem dJ0_isLatin1_aae02_14 : decode cJ0_isLatin1_aae02 14 = .ok (.goto 4, 3) := by decide +kernel
theorem dJ0_isLatin1_aae02_17 : decode cJ0_isLatin1_aae02 17 = .ok (.iconst 0, 1) := by decide +kernel
theorem dJ0_isLatin1_aae02_18 : decode cJ0_isLatin1_aae02 18 = .ok (.ireturn, 1) := by decide +kernel
theorem dJ0_checkIndex_df160_0 : decode cJ0_checkIndex_df160 0 = .ok (.iload_n 0, 1) := by decide +kernel
theorem dJ0_checkIndex_df160_1 : decode cJ0_checkIndex_df160 1 = .ok (.iload_n 1, 1) := by decide +kernel
theorem dJ0_checkIndex_df160_2 : decode cJ0_checkIndex_df160 2 = .ok (.getstatic 1053, 3) := by decide +kernel
theorem dJ0_checkIndex_df160_5 : decode cJ0_checkIndex_df160 5 = .ok (.invokestatic 1059, 3) := by decide +kernel
theorem dJ0_checkIndex_df160_8 : decode cJ0_checkIndex_df160 8 = .ok (.pop, 1) := by decide +kernel
theorem dJ0_checkIndex_df160_9 : decode cJ0_checkIndex_df160 9 = .ok (.return_, 1) := by decide +kernel
theorem dJ1_charAt_3b067_0 : decode cJ1_charAt_3b067 0 = .ok (.iload_n 1, 1) := by decide +kernel
theorem dJ1_charAt_3b067_1 : decode cJ1_charAt_3b067 1 = .ok (.aload_n 0, 1) := by decide +kernel
theorem dJ1_charAt_3b067_2 : decode cJ1_charAt_3b067 2 = .ok (.arraylength, 1) := by decide +kernel
theorem dJ1_charAt_3b067_3 : decode cJ1_charAt_3b067 3 = .ok (.invokestatic 9, 3) := by decide +kernel
theorem dJ1_charAt_3b067_6 : decode cJ1_charAt_3b067 6 = .ok (.aload_n 0, 1) := by decide +kernel
theorem dJ1_charAt_3b067_7 : decode cJ1_charAt_3b067 7 = .ok (.iload_n 1, 1) := by decide +kernel
theorem dJ1_charAt_3b067_8 : decode cJ1_charAt_3b067 8 = .ok (.baload, 1) := by decide +kernel
theorem dJ1_charAt_3b067_9 : decode cJ1_charAt_3b067 9 = .ok (.sipush 255, 3) := by decide +kernel
theorem dJ1_charAt_3b067_12 : decode cJ1_charAt_3b067 12 = .ok (.iand, 1) := by decide +kernel
theorem dJ1_charAt_3b067_13 : decode cJ1_charAt_3b067 13 = .ok (.i2c, 1) := by decide +kernel
theorem dJ1_charAt_3b067_14 : decode cJ1_charAt_3b067 14 = .ok (.ireturn, 1) := by decide +kernel
theorem dJ2_getChar_3b067_0 : decode cJ2_getChar_3b067 0 = .ok (.getstatic 44, 3) := by decide +kernel
theorem dJ2_getChar_3b067_3 : decode cJ2_getChar_3b067 3 = .ok (.ifCond .ne 25, 3) := by decide +kernel
theorem dJ2_getChar_3b067_6 : decode cJ2_getChar_3b067 6 = .ok (.iload_n 1, 1) := by decide +kernel
theorem dJ2_getChar_3b067_7 : decode cJ2_getChar_3b067 7 = .ok (.ifCond .lt 11, 3) := by decide +kernel
theorem dJ2_getChar_3b067_10 : decode cJ2_getChar_3b067 10 = .ok (.iload_n 1, 1) := by decide +kernel
theorem dJ2_getChar_3b067_11 : decode cJ2_getChar_3b067 11 = .ok (.aload_n 0, 1) := by decide +kernel
theorem dJ2_getChar_3b067_12 : decode cJ2_getChar_3b067 12 = .ok (.invokestatic 48, 3) := by decide +kernel
theorem dJ2_getChar_3b067_15 : decode cJ2_getChar_3b067 15 = .ok (.if_icmp .lt 13, 3) := by decide +kernel
theorem dJ2_getChar_3b067_18 : decode cJ2_getChar_3b067 18 = .ok (.new 52, 3) := by decide +kernel
theorem dJ2_getChar_3b067_21 : decode cJ2_getChar_3b067 21 = .ok (.dup, 1) := by decide +kernel
theorem dJ2_getChar_3b067_22 : decode cJ2_getChar_3b067 22 = .ok (.ldc 54, 2) := by decide +kernel
theorem dJ2_getChar_3b067_24 : decode cJ2_getChar_3b067 24 = .ok (.invokespecial 56, 3) := by decide +kernel
theorem dJ2_getChar_3b067_27 : decode cJ2_getChar_3b067 27 = .ok (.athrow, 1) := by decide +kernel
theorem dJ2_getChar_3b067_28 : decode cJ2_getChar_3b067 28 = .ok (.iload_n 1, 1) := by decide +kernel
theorem dJ2_getChar_3b067_29 : decode cJ2_getChar_3b067 29 = .ok (.iconst 1, 1) := by decide +kernel
theorem dJ2_getChar_3b067_30 : decode cJ2_getChar_3b067 30 = .ok (.ishl, 1) := by decide +kernel
theorem dJ2_getChar_3b067_31 : decode cJ2_getChar_3b067 31 = .ok (.istore_n 1, 1) := by decide +kernel
theorem dJ2_getChar_3b067_32 : decode cJ2_getChar_3b067 32 = .ok (.aload_n 0, 1) := by decide +kernel
theorem dJ2_getChar_3b067_33 : decode cJ2_getChar_3b067 33 = .ok (.iload_n 1, 1) := by decide +kernel
theorem dJ2_getChar_3b067_34 : decode cJ2_getChar_3b067 34 = .ok (.iinc 1 1, 3) := by decide +kernel
theorem dJ2_getChar_3b067_37 : decode cJ2_getChar_3b067 37 = .ok (.baload, 1) := by decide +kernel
theorem dJ2_getChar_3b067_38 : decode cJ2_getChar_3b067 38 = .ok (.sipush 255, 3) := by decide +kernel
theorem dJ2_getChar_3b067_41 : decode cJ2_getChar_3b067 41 = .ok (.iand, 1) := by decide +kernel
theorem dJ2_getChar_3b067_42 : decode cJ2_getChar_3b067 42 = .ok (.getstatic 59, 3) := by decide +kernel
theorem dJ2_getChar_3b067_45 : decode cJ2_getChar_3b067 45 = .ok (.ishl, 1) := by decide +kernel
theorem dJ2_getChar_3b067_46 : decode cJ2_getChar_3b067 46 = .ok (.aload_n 0, 1) := by decide +kernel
theorem dJ2_getChar_3b067_47 : decode cJ2_getChar_3b067 47 = .ok (.iload_n 1, 1) := by decide +kernel
theorem dJ2_getChar_3b067_48 : decode cJ2_getChar_3b067 48 = .ok (.baload, 1) := by decide +kernel
theorem dJ2_getChar_3b067_49 : decode cJ2_getChar_3b067 49 = .ok (.sipush 255, 3) := by decide +kernel
theorem dJ2_getChar_3b067_52 : decode cJ2_getChar_3b067 52 = .ok (.iand, 1) := by decide +kernel
theorem dJ2_getChar_3b067_53 : decode cJ2_getChar_3b067 53 = .ok (.getstatic 63, 3) := by decide +kernel
theorem dJ2_getChar_3b067_56 : decode cJ2_getChar_3b067 56 = .ok (.ishl, 1) := by decide +kernel
theorem dJ2_getChar_3b067_57 : decode cJ2_getChar_3b067 57 = .ok (.ior, 1) := by decide +kernel
theorem dJ2_getChar_3b067_58 : decode cJ2_getChar_3b067 58 = .ok (.i2c, 1) := by decide +kernel
theorem dJ2_getChar_3b067_59 : decode cJ2_getChar_3b067 59 = .ok (.ireturn, 1) := by decide +kernel
theorem dJ2_length_9d52b_0 : decode cJ2_length_9d52b 0 = .ok (.aload_n 0, 1) := by decide +kernel
theorem dJ2_length_9d52b_1 : decode cJ2_length_9d52b 1 = .ok (.arraylength, 1) := by decide +kernel
theorem dJ2_length_9d52b_2 : decode cJ2_length_9d52b 2 = .ok (.iconst 1, 1) := by decide +kernel
theorem dJ2_length_9d52b_3 : decode cJ2_length_9d52b 3 = .ok (.ishr, 1) := by decide +kernel
theorem dJ2_length_9d52b_4 : decode cJ2_length_9d52b 4 = .ok (.ireturn, 1) := by decide +kernel
theorem dJ2_charAt_3b067_0 : decode cJ2_charAt_3b067 0 = .ok (.iload_n 1, 1) := by decide +kernel
theorem dJ2_charAt_3b067_1 : decode cJ2_charAt_3b067 1 = .ok (.aload_n 0, 1) := by decide +kernel
theorem dJ2_charAt_3b067_2 : decode cJ2_charAt_3b067 2 = .ok (.invokestatic 67, 3) := by decide +kernel
theorem dJ2_charAt_3b067_5 : decode cJ2_charAt_3b067 5 = .ok (.aload_n 0, 1) := by decide +kernel
theorem dJ2_charAt_3b067_6 : decode cJ2_charAt_3b067 6 = .ok (.iload_n 1, 1) := by decide +kernel
theorem dJ2_charAt_3b067_7 : decode cJ2_charAt_3b067 7 = .ok (.invokestatic 71, 3) := by decide +kernel
theorem dJ2_charAt_3b067_10 : decode cJ2_charAt_3b067 10 = .ok (.ireturn, 1) := by decide +kernel
theorem dJ2_checkIndex_2214a_0 : decode cJ2_checkIndex_2214a 0 = .ok (.iload_n 0, 1) := by decide +kernel
theorem dJ2_checkIndex_2214a_1 : decode cJ2_checkIndex_2214a 1 = .ok (.aload_n 1, 1) := by decide +kernel
theorem dJ2_checkIndex_2214a_2 : decode cJ2_checkIndex_2214a 2 = .ok (.invokestatic 48, 3) := by decide +kernel
theorem dJ2_checkIndex_2214a_5 : decode cJ2_checkIndex_2214a 5 = .ok (.invokestatic 414, 3) := by decide +kernel
theorem dJ2_checkIndex_2214a_8 : decode cJ2_checkIndex_2214a 8 = .ok (.return_, 1) := by decide +kernel
theorem dJ3_checkIndex_8e157_0 : decode cJ3_checkIndex_8e157 0 = .ok (.iload_n 0, 1) := by decide +kernel
theorem dJ3_checkIndex_8e157_1 : decode cJ3_checkIndex_8e157 1 = .ok (.ifCond .lt 8, 3) := by decide +kernel
theorem dJ3_checkIndex_8e157_4 : decode cJ3_checkIndex_8e157 4 = .ok (.iload_n 0, 1) := by decide +kernel
theorem dJ3_checkIndex_8e157_5 : decode cJ3_checkIndex_8e157 5 = .ok (.iload_n 1, 1) := by decide +kernel
theorem dJ3_checkIndex_8e157_6 : decode cJ3_checkIndex_8e157 6 = .ok (.if_icmp .lt 10, 3) := by decide +kernel
theorem dJ3_checkIndex_8e157_9 : decode cJ3_checkIndex_8e157 9 = .ok (.aload_n 2, 1) := by decide +kernel
theorem dJ3_checkIndex_8e157_10 : decode cJ3_checkIndex_8e157 10 = .ok (.iload_n 0, 1) := by decide +kernel
theorem dJ3_checkIndex_8e157_11 : decode cJ3_checkIndex_8e157 11 = .ok (.iload_n 1, 1) := by decide +kernel
theorem dJ3_checkIndex_8e157_12 : decode cJ3_checkIndex_8e157 12 = .ok (.invokestatic 95, 3) := by decide +kernel
theorem dJ3_checkIndex_8e157_15 : decode cJ3_checkIndex_8e157 15 = .ok (.athrow, 1) := by decide +kernel
theorem dJ3_checkIndex_8e157_16 : decode cJ3_checkIndex_8e157 16 = .ok (.iload_n 0, 1) := by decide +kernel
theorem dJ3_checkIndex_8e157_17 : decode cJ3_checkIndex_8e157 17 = .ok (.ireturn, 1) := by decide +kernel
end
section
theorem dX6_init_0 : decode cX6_init 0 = .ok (.aload_n 0, 1) := by decide +kernel
theorem dX6_init_1 : decode cX6_init 1 = .ok (.invokespecial 1, 3) := by decide +kernel
theorem dX6_init_4 : decode cX6_init 4 = .ok (.aload_n 0, 1) := by decide +kernel
theorem dX6_init_5 : decode cX6_init 5 = .ok (.sipush 302, 3) := by decide +kernel
theorem dX6_init_8 : decode cX6_init 8 = .ok (.newarray .int, 2) := by decide +kernel
theorem dX6_init_10 : decode cX6_init 10 = .ok (.putfield 7, 3) := by decide +kernel
theorem dX6_init_13 : decode cX6_init 13 = .ok (.aload_n 0, 1) := by decide +kernel
theorem dX6_init_14 : decode cX6_init 14 = .ok (.sipush 302, 3) := by decide +kernel
theorem dX6_init_17 : decode cX6_init 17 = .ok (.newarray .int, 2) := by decide +kernel
theorem dX6_init_19 : decode cX6_init 19 = .ok (.putfield 13, 3) := by decide +kernel
theorem dX6_init_22 : decode cX6_init 22 = .ok (.aload_n 0, 1) := by decide +kernel
theorem dX6_init_23 : decode cX6_init 23 = .ok (.sipush 1812, 3) := by decide +kernel
theorem dX6_init_26 : decode cX6_init 26 = .ok (.newarray .int, 2) := by decide +kernel
theorem dX6_init_28 : decode cX6_init 28 = .ok (.putfield 16, 3) := by decide +kernel
theorem dX6_init_31 : decode cX6_init 31 = .ok (.aload_n 0, 1) := by decide +kernel
theorem dX6_init_32 : decode cX6_init 32 = .ok (.sipush 604, 3) := by decide +kernel
theorem dX6_init_35 : decode cX6_init 35 = .ok (.newarray .int, 2) := by decide +kernel
theorem dX6_init_37 : decode cX6_init 37 = .ok (.putfield 19, 3) := by decide +kernel
theorem dX6_init_40 : decode cX6_init 40 = .ok (.aload_n 0, 1) := by decide +kernel
theorem dX6_init_41 : decode cX6_init 41 = .ok (.bipush 80, 2) := by decide +kernel
theorem dX6_init_43 : decode cX6_init 43 = .ok (.newarray .int, 2) := by decide +kernel
theorem dX6_init_45 : decode cX6_init 45 = .ok (.putfield 22, 3) := by decide +kernel
theorem dX6_init_48 : decode cX6_init 48 = .ok (.aload_n 0, 1) := by decide +kernel
theorem dX6_init_49 : decode cX6_init 49 = .ok (.getfield 7, 3) := by decide +kernel
theorem dX6_init_52 : decode cX6_init 52 = .ok (.iconst 0, 1) := by decide +kernel
theorem dX6_init_53 : decode cX6_init 53 = .ok (.iconst 1, 1) := by decide +kernel
theorem dX6_init_54 : decode cX6_init 54 = .ok (.iastore, 1) := by decide +kernel
theorem dX6_init_55 : decode cX6_init 55 = .ok (.aload_n 0, 1) := by decide +kernel
theorem dX6_init_56 : decode cX6_init 56 = .ok (.getfield 7, 3) := by decide +kernel
theorem dX6_init_59 : decode cX6_init 59 = .ok (.iconst 1, 1) := by decide +kernel
theorem dX6_init_60 : decode cX6_init 60 = .ok (.bipush 20, 2) := by decide +kernel
theorem dX6_init_62 : decode cX6_init 62 = .ok (.iastore, 1) := by decide +kernel
theorem dX6_init_63 : decode cX6_init 63 = .ok (.aload_n 0, 1) := by decide +kernel
theorem dX6_init_64 : decode cX6_init 64 = .ok (.getfield 7, 3) := by decide +kernel
theorem dX6_init_67 : decode cX6_init 67 = .ok (.iconst 2, 1) := by decide +kernel
theorem dX6_init_68 : decode cX6_init 68 = .ok (.iconst 3, 1) := by decide +kernel
theorem dX6_init_69 : decode cX6_init 69 = .ok (.iastore, 1) := by decide +kernel
theorem dX6_init_70 : decode cX6_init 70 = .ok (.aload_n 0, 1) := by decide +kernel
theorem dX6_init_71 : decode cX6_init 71 = .ok (.getfield 7, 3) := by decide +kernel
theorem dX6_init_74 : decode cX6_init 74 = .ok (.iconst 3, 1) := by decide +kernel
theorem dX6_init_75 : decode cX6_init 75 = .ok (.iconst 2, 1) := by decide +kernel
theorem dX6_init_76 : decode cX6_init 76 = .ok (.iastore, 1) := by decide +kernel
theorem dX6_init_77 : decode cX6_init 77 = .ok (.aload_n 0, 1) := by decide +kernel
theorem dX6_init_78 : decode cX6_init 78 = .ok (.getfield 7, 3) := by decide +kernel
theorem dX6_init_81 : decode cX6_init 81 = .ok (.iconst 4, 1) := by decide +kernel
theorem dX6_init_82 : decode cX6_init 82 = .ok (.bipush 120, 2) := by decide +kernel
theorem dX6_init_84 : decode cX6_init 84 = .ok (.iastore, 1) := by decide +kernel
theorem dX6_init_85 : decode cX6_init 85 = .ok (.aload_n 0, 1) := by decide +kernel
theorem dX6_init_86 : decode cX6_init 86 = .ok (.getfield 7, 3) := by decide +kernel
theorem dX6_init_89 : decode cX6_init 89 = .ok (.sipush 295, 3) := by decide +kernel
theorem dX6_init_92 : decode cX6_init 92 = .ok (.bipush (-6), 2) := by decide +kernel
theorem dX6_init_94 : decode cX6_init 94 = .ok (.iastore, 1) := by decide +kernel
theorem dX6_init_95 : decode cX6_init 95 = .ok (.return_, 1) := by decide +kernel
theorem dX6_in_0 : decode cX6_in 0 = .ok (.iload_n 0, 1) := by decide +kernel
theorem dX6_in_1 : decode cX6_in 1 = .ok (.iload_n 1, 1) := by decide +kernel
theorem dX6_in_2 : decode cX6_in 2 = .ok (.if_icmp .lt 12, 3) := by decide +kernel
theorem dX6_in_5 : decode cX6_in 5 = .ok (.iload_n 0, 1) := by decide +kernel
theorem dX6_in_6 : decode cX6_in 6 = .ok (.iload_n 2, 1) := by decide +kernel
theorem dX6_in_7 : decode cX6_in 7 = .ok (.if_icmp .gt 7, 3) := by decide +kernel
theorem dX6_in_10 : decode cX6_in 10 = .ok (.iconst 1, 1) := by decide +kernel
theorem dX6_in_11 : decode cX6_in 11 = .ok (.goto 4, 3) := by decide +kernel
theorem dX6_in_14 : decode cX6_in 14 = .ok (.iconst 0, 1) := by decide +kernel
theorem dX6_in_15 : decode cX6_in 15 = .ok (.ireturn, 1) := by decide +kernel
theorem dX6_isBoard_0 : decode cX6_isBoard 0 = .ok (.iload_n 1, 1) := by decide +kernel
theorem dX6_isBoard_1 : decode cX6_isBoard 1 = .ok (.iconst 0, 1) := by decide +kernel
theorem dX6_isBoard_2 : decode cX6_isBoard 2 = .ok (.aload_n 0, 1) := by decide +kernel
theorem dX6_isBoard_3 : decode cX6_isBoard 3 = .ok (.getfield 7, 3) := by decide +kernel
theorem dX6_isBoard_6 : decode cX6_isBoard 6 = .ok (.iconst 5, 1) := by decide +kernel
theorem dX6_isBoard_7 : decode cX6_isBoard 7 = .ok (.iaload, 1) := by decide +kernel
theorem dX6_isBoard_8 : decode cX6_isBoard 8 = .ok (.iconst 1, 1) := by decide +kernel
theorem dX6_isBoard_9 : decode cX6_isBoard 9 = .ok (.isub, 1) := by decide +kernel
theorem dX6_isBoard_10 : decode cX6_isBoard 10 = .ok (.invokestatic 25, 3) := by decide +kernel
theorem dX6_isBoard_13 : decode cX6_isBoard 13 = .ok (.ireturn, 1) := by decide +kernel
theorem dX6_isSlot_0 : decode cX6_isSlot 0 = .ok (.iload_n 0, 1) := by decide +kernel
theorem dX6_isSlot_1 : decode cX6_isSlot 1 = .ok (.iconst 0, 1) := by decide +kernel
theorem dX6_isSlot_2 : decode cX6_isSlot 2 = .ok (.iconst 4, 1) := by decide +kernel
theorem dX6_isSlot_3 : decode cX6_isSlot 3 = .ok (.invokestatic 25, 3) := by decide +kernel
theorem dX6_isSlot_6 : decode cX6_isSlot 6 = .ok (.ireturn, 1) := by decide +kernel
theorem dX6_ofBoard_0 : decode cX6_ofBoard 0 = .ok (.bipush 6, 2) := by decide +kernel
theorem dX6_ofBoard_2 : decode cX6_ofBoard 2 = .ok (.bipush 11, 2) := by decide +kernel
theorem dX6_ofBoard_4 : decode cX6_ofBoard 4 = .ok (.iload_n 0, 1) := by decide +kernel
theorem dX6_ofBoard_5 : decode cX6_ofBoard 5 = .ok (.imul, 1) := by decide +kernel
theorem dX6_ofBoard_6 : decode cX6_ofBoard 6 = .ok (.iadd, 1) := by decide +kernel
theorem dX6_ofBoard_7 : decode cX6_ofBoard 7 = .ok (.iload_n 1, 1) := by decide +kernel
theorem dX6_ofBoard_8 : decode cX6_ofBoard 8 = .ok (.iadd, 1) := by decide +kernel
theorem dX6_ofBoard_9 : decode cX6_ofBoard 9 = .ok (.ireturn, 1) := by decide +kernel
theorem dX6_fromOf_0 : decode cX6_fromOf 0 = .ok (.aload_n 0, 1) := by decide +kernel
theorem dX6_fromOf_1 : decode cX6_fromOf 1 = .ok (.getfield 7, 3) := by decide +kernel
theorem dX6_fromOf_4 : decode cX6_fromOf 4 = .ok (.bipush 95, 2) := by decide +kernel
theorem dX6_fromOf_6 : decode cX6_fromOf 6 = .ok (.iload_n 1, 1) := by decide +kernel
theorem dX6_fromOf_7 : decode cX6_fromOf 7 = .ok (.iadd, 1) := by decide +kernel
theorem dX6_fromOf_8 : decode cX6_fromOf 8 = .ok (.iaload, 1) := by decide +kernel
theorem dX6_fromOf_9 : decode cX6_fromOf 9 = .ok (.bipush 8, 2) := by decide +kernel
theorem dX6_fromOf_11 : decode cX6_fromOf 11 = .ok (.irem, 1) := by decide +kernel
theorem dX6_fromOf_12 : decode cX6_fromOf 12 = .ok (.ireturn, 1) := by decide +kernel
theorem dX6_toOf_0 : decode cX6_toOf 0 = .ok (.aload_n 0, 1) := by decide +kernel
theorem dX6_toOf_1 : decode cX6_toOf 1 = .ok (.getfield 7, 3) := by decide +kernel
theorem dX6_toOf_4 : decode cX6_toOf 4 = .ok (.bipush 95, 2) := by decide +kernel
theorem dX6_toOf_6 : decode cX6_toOf 6 = .ok (.iload_n 1, 1) := by decide +kernel
theorem dX6_toOf_7 : decode cX6_toOf 7 = .ok (.iadd, 1) := by decide +kernel
theorem dX6_toOf_8 : decode cX6_toOf 8 = .ok (.iaload, 1) := by decide +kernel
theorem dX6_toOf_9 : decode cX6_toOf 9 = .ok (.bipush 8, 2) := by decide +kernel
theorem dX6_toOf_11 : decode cX6_toOf 11 = .ok (.idiv, 1) := by decide +kernel
theorem dX6_toOf_12 : decode cX6_toOf 12 = .ok (.bipush 8, 2) := by decide +kernel
theorem dX6_toOf_14 : decode cX6_toOf 14 = .ok (.irem, 1) := by decide +kernel
theorem dX6_toOf_15 : decode cX6_toOf 15 = .ok (.ireturn, 1) := by decide +kernel
theorem dX6_stateOf_0 : decode cX6_stateOf 0 = .ok (.aload_n 0, 1) := by decide +kernel
theorem dX6_stateOf_1 : decode cX6_stateOf 1 = .ok (.getfield 7, 3) := by decide +kernel
theorem dX6_stateOf_4 : decode cX6_stateOf 4 = .ok (.bipush 95, 2) := by decide +kernel
theorem dX6_stateOf_6 : decode cX6_stateOf 6 = .ok (.iload_n 1, 1) := by decide +kernel
theorem dX6_stateOf_7 : decode cX6_stateOf 7 = .ok (.iadd, 1) := by decide +kernel
theorem dX6_stateOf_8 : decode cX6_stateOf 8 = .ok (.iaload, 1) := by decide +kernel
theorem dX6_stateOf_9 : decode cX6_stateOf 9 = .ok (.bipush 64, 2) := by decide +kernel
theorem dX6_stateOf_11 : decode cX6_stateOf 11 = .ok (.idiv, 1) := by decide +kernel
theorem dX6_stateOf_12 : decode cX6_stateOf 12 = .ok (.iconst 4, 1) := by decide +kernel
theorem dX6_stateOf_13 : decode cX6_stateOf 13 = .ok (.irem, 1) := by decide +kernel
theorem dX6_stateOf_14 : decode cX6_stateOf 14 = .ok (.ireturn, 1) := by decide +kernel
theorem dX6_becomes_0 : decode cX6_becomes 0 = .ok (.aload_n 0, 1) := by decide +kernel
theorem dX6_becomes_1 : decode cX6_becomes 1 = .ok (.getfield 7, 3) := by decide +kernel
theorem dX6_becomes_4 : decode cX6_becomes 4 = .ok (.bipush 95, 2) := by decide +kernel
theorem dX6_becomes_6 : decode cX6_becomes 6 = .ok (.iload_n 1, 1) := by decide +kernel
theorem dX6_becomes_7 : decode cX6_becomes 7 = .ok (.iadd, 1) := by decide +kernel
theorem dX6_becomes_8 : decode cX6_becomes 8 = .ok (.dup2, 1) := by decide +kernel
theorem dX6_becomes_9 : decode cX6_becomes 9 = .ok (.iaload, 1) := by decide +kernel
theorem dX6_becomes_10 : decode cX6_becomes 10 = .ok (.bipush 64, 2) := by decide +kernel
theorem dX6_becomes_12 : decode cX6_becomes 12 = .ok (.iload_n 2, 1) := by decide +kernel
theorem dX6_becomes_13 : decode cX6_becomes 13 = .ok (.aload_n 0, 1) := by decide +kernel
theorem dX6_becomes_14 : decode cX6_becomes 14 = .ok (.iload_n 1, 1) := by decide +kernel
theorem dX6_becomes_15 : decode cX6_becomes 15 = .ok (.invokevirtual 29, 3) := by decide +kernel
theorem dX6_becomes_18 : decode cX6_becomes 18 = .ok (.isub, 1) := by decide +kernel
theorem dX6_becomes_19 : decode cX6_becomes 19 = .ok (.imul, 1) := by decide +kernel
theorem dX6_becomes_20 : decode cX6_becomes 20 = .ok (.iadd, 1) := by decide +kernel
theorem dX6_becomes_21 : decode cX6_becomes 21 = .ok (.iastore, 1) := by decide +kernel
theorem dX6_becomes_22 : decode cX6_becomes 22 = .ok (.return_, 1) := by decide +kernel
theorem dX6_isOf_0 : decode cX6_isOf 0 = .ok (.aload_n 0, 1) := by decide +kernel
theorem dX6_isOf_1 : decode cX6_isOf 1 = .ok (.iload_n 1, 1) := by decide +kernel
theorem dX6_isOf_2 : decode cX6_isOf 2 = .ok (.invokevirtual 33, 3) := by decide +kernel
theorem dX6_isOf_5 : decode cX6_isOf 5 = .ok (.iload_n 2, 1) := by decide +kernel
theorem dX6_isOf_6 : decode cX6_isOf 6 = .ok (.if_icmp .eq 12, 3) := by decide +kernel
theorem dX6_isOf_9 : decode cX6_isOf 9 = .ok (.aload_n 0, 1) := by decide +kernel
theorem dX6_isOf_10 : decode cX6_isOf 10 = .ok (.iload_n 1, 1) := by decide +kernel
theorem dX6_isOf_11 : decode cX6_isOf 11 = .ok (.invokevirtual 36, 3) := by decide +kernel
theorem dX6_isOf_14 : decode cX6_isOf 14 = .ok (.iload_n 2, 1) := by decide +kernel
theorem dX6_isOf_15 : decode cX6_isOf 15 = .ok (.if_icmp .ne 7, 3) := by decide +kernel
theorem dX6_isOf_18 : decode cX6_isOf 18 = .ok (.iconst 1, 1) := by decide +kernel
theorem dX6_isOf_19 : decode cX6_isOf 19 = .ok (.goto 4, 3) := by decide +kernel
theorem dX6_isOf_22 : decode cX6_isOf 22 = .ok (.iconst 0, 1) := by decide +kernel
theorem dX6_isOf_23 : decode cX6_isOf 23 = .ok (.ireturn, 1) := by decide +kernel
theorem dX6_isGoing_0 : decode cX6_isGoing 0 = .ok (.aload_n 0, 1) := by decide +kernel
theorem dX6_isGoing_1 : decode cX6_isGoing 1 = .ok (.iload_n 1, 1) := by decide +kernel
theorem dX6_isGoing_2 : decode cX6_isGoing 2 = .ok (.invokevirtual 29, 3) := by decide +kernel
theorem dX6_isGoing_5 : decode cX6_isGoing 5 = .ok (.iconst 2, 1) := by decide +kernel
theorem dX6_isGoing_6 : decode cX6_isGoing 6 = .ok (.if_icmp .ge 7, 3) := by decide +kernel
theorem dX6_isGoing_9 : decode cX6_isGoing 9 = .ok (.iconst 1, 1) := by decide +kernel
theorem dX6_isGoing_10 : decode cX6_isGoing 10 = .ok (.goto 4, 3) := by decide +kernel
theorem dX6_isGoing_13 : decode cX6_isGoing 13 = .ok (.iconst 0, 1) := by decide +kernel
theorem dX6_isGoing_14 : decode cX6_isGoing 14 = .ok (.ireturn, 1) := by decide +kernel
theorem dX6_isLost_0 : decode cX6_isLost 0 = .ok (.aload_n 0, 1) := by decide +kernel
theorem dX6_isLost_1 : decode cX6_isLost 1 = .ok (.getfield 7, 3) := by decide +kernel
theorem dX6_isLost_4 : decode cX6_isLost 4 = .ok (.sipush 295, 3) := by decide +kernel
theorem dX6_isLost_7 : decode cX6_isLost 7 = .ok (.aload_n 0, 1) := by decide +kernel
theorem dX6_isLost_8 : decode cX6_isLost 8 = .ok (.getfield 7, 3) := by decide +kernel
theorem dX6_isLost_11 : decode cX6_isLost 11 = .ok (.sipush 295, 3) := by decide +kernel
theorem dX6_isLost_14 : decode cX6_isLost 14 = .ok (.iaload, 1) := by decide +kernel
theorem dX6_isLost_15 : decode cX6_isLost 15 = .ok (.iload_n 1, 1) := by decide +kernel
theorem dX6_isLost_16 : decode cX6_isLost 16 = .ok (.if_icmp .ne 8, 3) := by decide +kernel
theorem dX6_isLost_19 : decode cX6_isLost 19 = .ok (.bipush (-6), 2) := by decide +kernel
theorem dX6_isLost_21 : decode cX6_isLost 21 = .ok (.goto 11, 3) := by decide +kernel
theorem dX6_isLost_24 : decode cX6_isLost 24 = .ok (.aload_n 0, 1) := by decide +kernel
theorem dX6_isLost_25 : decode cX6_isLost 25 = .ok (.getfield 7, 3) := by decide +kernel
theorem dX6_isLost_28 : decode cX6_isLost 28 = .ok (.sipush 295, 3) := by decide +kernel
theorem dX6_isLost_31 : decode cX6_isLost 31 = .ok (.iaload, 1) := by decide +kernel
theorem dX6_isLost_32 : decode cX6_isLost 32 = .ok (.iastore, 1) := by decide +kernel
theorem dX6_isLost_33 : decode cX6_isLost 33 = .ok (.aload_n 0, 1) := by decide +kernel
theorem dX6_isLost_34 : decode cX6_isLost 34 = .ok (.iload_n 1, 1) := by decide +kernel
theorem dX6_isLost_35 : decode cX6_isLost 35 = .ok (.iconst 3, 1) := by decide +kernel
theorem dX6_isLost_36 : decode cX6_isLost 36 = .ok (.invokevirtual 39, 3) := by decide +kernel
theorem dX6_isLost_39 : decode cX6_isLost 39 = .ok (.aload_n 0, 1) := by decide +kernel
theorem dX6_isLost_40 : decode cX6_isLost 40 = .ok (.getfield 7, 3) := by decide +kernel
theorem dX6_isLost_43 : decode cX6_isLost 43 = .ok (.sipush 301, 3) := by decide +kernel
theorem dX6_isLost_46 : decode cX6_isLost 46 = .ok (.dup2, 1) := by decide +kernel
theorem dX6_isLost_47 : decode cX6_isLost 47 = .ok (.iaload, 1) := by decide +kernel
theorem dX6_isLost_48 : decode cX6_isLost 48 = .ok (.iconst 1, 1) := by decide +kernel
theorem dX6_isLost_49 : decode cX6_isLost 49 = .ok (.iadd, 1) := by decide +kernel
theorem dX6_isLost_50 : decode cX6_isLost 50 = .ok (.iastore, 1) := by decide +kernel
theorem dX6_isLost_51 : decode cX6_isLost 51 = .ok (.return_, 1) := by decide +kernel
theorem dX6_going_0 : decode cX6_going 0 = .ok (.iconst 0, 1) := by decide +kernel
theorem dX6_going_1 : decode cX6_going 1 = .ok (.istore_n 2, 1) := by decide +kernel
theorem dX6_going_2 : decode cX6_going 2 = .ok (.iconst 0, 1) := by decide +kernel
theorem dX6_going_3 : decode cX6_going 3 = .ok (.istore_n 3, 1) := by decide +kernel
theorem dX6_going_4 : decode cX6_going 4 = .ok (.iload_n 3, 1) := by decide +kernel
theorem dX6_going_5 : decode cX6_going 5 = .ok (.aload_n 0, 1) := by decide +kernel
theorem dX6_going_6 : decode cX6_going 6 = .ok (.getfield 7, 3) := by decide +kernel
theorem dX6_going_9 : decode cX6_going 9 = .ok (.bipush 94, 2) := by decide +kernel
theorem dX6_going_11 : decode cX6_going 11 = .ok (.iaload, 1) := by decide +kernel
theorem dX6_going_12 : decode cX6_going 12 = .ok (.if_icmp .ge 40, 3) := by decide +kernel
theorem dX6_going_15 : decode cX6_going 15 = .ok (.iload_n 2, 1) := by decide +kernel
theorem dX6_going_16 : decode cX6_going 16 = .ok (.aload_n 0, 1) := by decide +kernel
theorem dX6_going_17 : decode cX6_going 17 = .ok (.iload_n 3, 1) := by decide +kernel
theorem dX6_going_18 : decode cX6_going 18 = .ok (.invokevirtual 43, 3) := by decide +kernel
theorem dX6_going_21 : decode cX6_going 21 = .ok (.ifCond .eq 22, 3) := by decide +kernel
theorem dX6_going_24 : decode cX6_going 24 = .ok (.iload_n 1, 1) := by decide +kernel
theorem dX6_going_25 : decode cX6_going 25 = .ok (.bipush (-6), 2) := by decide +kernel
theorem dX6_going_27 : decode cX6_going 27 = .ok (.if_icmp .eq 12, 3) := by decide +kernel
theorem dX6_going_30 : decode cX6_going 30 = .ok (.aload_n 0, 1) := by decide +kernel
theorem dX6_going_31 : decode cX6_going 31 = .ok (.iload_n 3, 1) := by decide +kernel
theorem dX6_going_32 : decode cX6_going 32 = .ok (.iload_n 1, 1) := by decide +kernel
theorem dX6_going_33 : decode cX6_going 33 = .ok (.invokevirtual 47, 3) := by decide +kernel
theorem dX6_going_36 : decode cX6_going 36 = .ok (.ifCond .eq 7, 3) := by decide +kernel
theorem dX6_going_39 : decode cX6_going 39 = .ok (.iconst 1, 1) := by decide +kernel
theorem dX6_going_40 : decode cX6_going 40 = .ok (.goto 4, 3) := by decide +kernel
theorem dX6_going_43 : decode cX6_going 43 = .ok (.iconst 0, 1) := by decide +kernel
theorem dX6_going_44 : decode cX6_going 44 = .ok (.iadd, 1) := by decide +kernel
theorem dX6_going_45 : decode cX6_going 45 = .ok (.istore_n 2, 1) := by decide +kernel
theorem dX6_going_46 : decode cX6_going 46 = .ok (.iinc 3 1, 3) := by decide +kernel
theorem dX6_going_49 : decode cX6_going 49 = .ok (.goto (-45), 3) := by decide +kernel
theorem dX6_going_52 : decode cX6_going 52 = .ok (.iload_n 2, 1) := by decide +kernel
theorem dX6_going_53 : decode cX6_going 53 = .ok (.ireturn, 1) := by decide +kernel
theorem dX6_putAside_0 : decode cX6_putAside 0 = .ok (.iconst 0, 1) := by decide +kernel
theorem dX6_putAside_1 : decode cX6_putAside 1 = .ok (.istore_n 1, 1) := by decide +kernel
theorem dX6_putAside_2 : decode cX6_putAside 2 = .ok (.iload_n 1, 1) := by decide +kernel
theorem dX6_putAside_3 : decode cX6_putAside 3 = .ok (.sipush 302, 3) := by decide +kernel
theorem dX6_putAside_6 : decode cX6_putAside 6 = .ok (.if_icmp .ge 21, 3) := by decide +kernel
theorem dX6_putAside_9 : decode cX6_putAside 9 = .ok (.aload_n 0, 1) := by decide +kernel
theorem dX6_putAside_10 : decode cX6_putAside 10 = .ok (.getfield 13, 3) := by decide +kernel
theorem dX6_putAside_13 : decode cX6_putAside 13 = .ok (.iload_n 1, 1) := by decide +kernel
theorem dX6_putAside_14 : decode cX6_putAside 14 = .ok (.aload_n 0, 1) := by decide +kernel
theorem dX6_putAside_15 : decode cX6_putAside 15 = .ok (.getfield 7, 3) := by decide +kernel
theorem dX6_putAside_18 : decode cX6_putAside 18 = .ok (.iload_n 1, 1) := by decide +kernel
theorem dX6_putAside_19 : decode cX6_putAside 19 = .ok (.iaload, 1) := by decide +kernel
theorem dX6_putAside_20 : decode cX6_putAside 20 = .ok (.iastore, 1) := by decide +kernel
theorem dX6_putAside_21 : decode cX6_putAside 21 = .ok (.iinc 1 1, 3) := by decide +kernel
theorem dX6_putAside_24 : decode cX6_putAside 24 = .ok (.goto (-22), 3) := by decide +kernel
theorem dX6_putAside_27 : decode cX6_putAside 27 = .ok (.return_, 1) := by decide +kernel
theorem dX6_putBack_0 : decode cX6_putBack 0 = .ok (.iconst 0, 1) := by decide +kernel
theorem dX6_putBack_1 : decode cX6_putBack 1 = .ok (.istore_n 1, 1) := by decide +kernel
theorem dX6_putBack_2 : decode cX6_putBack 2 = .ok (.iload_n 1, 1) := by decide +kernel
theorem dX6_putBack_3 : decode cX6_putBack 3 = .ok (.sipush 302, 3) := by decide +kernel
theorem dX6_putBack_6 : decode cX6_putBack 6 = .ok (.if_icmp .ge 21, 3) := by decide +kernel
theorem dX6_putBack_9 : decode cX6_putBack 9 = .ok (.aload_n 0, 1) := by decide +kernel
theorem dX6_putBack_10 : decode cX6_putBack 10 = .ok (.getfield 7, 3) := by decide +kernel
theorem dX6_putBack_13 : decode cX6_putBack 13 = .ok (.iload_n 1, 1) := by decide +kernel
theorem dX6_putBack_14 : decode cX6_putBack 14 = .ok (.aload_n 0, 1) := by decide +kernel
theorem dX6_putBack_15 : decode cX6_putBack 15 = .ok (.getfield 13, 3) := by decide +kernel
theorem dX6_putBack_18 : decode cX6_putBack 18 = .ok (.iload_n 1, 1) := by decide +kernel
theorem dX6_putBack_19 : decode cX6_putBack 19 = .ok (.iaload, 1) := by decide +kernel
theorem dX6_putBack_20 : decode cX6_putBack 20 = .ok (.iastore, 1) := by decide +kernel
theorem dX6_putBack_21 : decode cX6_putBack 21 = .ok (.iinc 1 1, 3) := by decide +kernel
theorem dX6_putBack_24 : decode cX6_putBack 24 = .ok (.goto (-22), 3) := by decide +kernel
theorem dX6_putBack_27 : decode cX6_putBack 27 = .ok (.return_, 1) := by decide +kernel
theorem dX6_record_0 : decode cX6_record 0 = .ok (.aload_n 0, 1) := by decide +kernel
theorem dX6_record_1 : decode cX6_record 1 = .ok (.getfield 51, 3) := by decide +kernel
theorem dX6_record_4 : decode cX6_record 4 = .ok (.bipush 6, 2) := by decide +kernel
theorem dX6_record_6 : decode cX6_record 6 = .ok (.if_icmp .ne 44, 3) := by decide +kernel
theorem dX6_record_9 : decode cX6_record 9 = .ok (.iconst 0, 1) := by decide +kernel
theorem dX6_record_10 : decode cX6_record 10 = .ok (.istore_n 1, 1) := by decide +kernel
theorem dX6_record_11 : decode cX6_record 11 = .ok (.iload_n 1, 1) := by decide +kernel
theorem dX6_record_12 : decode cX6_record 12 = .ok (.sipush 1510, 3) := by decide +kernel
theorem dX6_record_15 : decode cX6_record 15 = .ok (.if_icmp .ge 25, 3) := by decide +kernel
theorem dX6_record_18 : decode cX6_record 18 = .ok (.aload_n 0, 1) := by decide +kernel
theorem dX6_record_19 : decode cX6_record 19 = .ok (.getfield 16, 3) := by decide +kernel
theorem dX6_record_22 : decode cX6_record 22 = .ok (.iload_n 1, 1) := by decide +kernel
theorem dX6_record_23 : decode cX6_record 23 = .ok (.aload_n 0, 1) := by decide +kernel
theorem dX6_record_24 : decode cX6_record 24 = .ok (.getfield 16, 3) := by decide +kernel
theorem dX6_record_27 : decode cX6_record 27 = .ok (.iload_n 1, 1) := by decide +kernel
theorem dX6_record_28 : decode cX6_record 28 = .ok (.sipush 302, 3) := by decide +kernel
theorem dX6_record_31 : decode cX6_record 31 = .ok (.iadd, 1) := by decide +kernel
theorem dX6_record_32 : decode cX6_record 32 = .ok (.iaload, 1) := by decide +kernel
theorem dX6_record_33 : decode cX6_record 33 = .ok (.iastore, 1) := by decide +kernel
theorem dX6_record_34 : decode cX6_record 34 = .ok (.iinc 1 1, 3) := by decide +kernel
theorem dX6_record_37 : decode cX6_record 37 = .ok (.goto (-26), 3) := by decide +kernel
theorem dX6_record_40 : decode cX6_record 40 = .ok (.aload_n 0, 1) := by decide +kernel
theorem dX6_record_41 : decode cX6_record 41 = .ok (.dup, 1) := by decide +kernel
theorem dX6_record_42 : decode cX6_record 42 = .ok (.getfield 51, 3) := by decide +kernel
theorem dX6_record_45 : decode cX6_record 45 = .ok (.iconst 1, 1) := by decide +kernel
theorem dX6_record_46 : decode cX6_record 46 = .ok (.isub, 1) := by decide +kernel
theorem dX6_record_47 : decode cX6_record 47 = .ok (.putfield 51, 3) := by decide +kernel
theorem dX6_record_50 : decode cX6_record 50 = .ok (.iconst 0, 1) := by decide +kernel
theorem dX6_record_51 : decode cX6_record 51 = .ok (.istore_n 1, 1) := by decide +kernel
theorem dX6_record_52 : decode cX6_record 52 = .ok (.iload_n 1, 1) := by decide +kernel
theorem dX6_record_53 : decode cX6_record 53 = .ok (.sipush 302, 3) := by decide +kernel
theorem dX6_record_56 : decode cX6_record 56 = .ok (.if_icmp .ge 30, 3) := by decide +kernel
theorem dX6_record_59 : decode cX6_record 59 = .ok (.aload_n 0, 1) := by decide +kernel
theorem dX6_record_60 : decode cX6_record 60 = .ok (.getfield 16, 3) := by decide +kernel
theorem dX6_record_63 : decode cX6_record 63 = .ok (.sipush 302, 3) := by decide +kernel
theorem dX6_record_66 : decode cX6_record 66 = .ok (.aload_n 0, 1) := by decide +kernel
theorem dX6_record_67 : decode cX6_record 67 = .ok (.getfield 51, 3) := by decide +kernel
theorem dX6_record_70 : decode cX6_record 70 = .ok (.imul, 1) := by decide +kernel
theorem dX6_record_71 : decode cX6_record 71 = .ok (.iload_n 1, 1) := by decide +kernel
theorem dX6_record_72 : decode cX6_record 72 = .ok (.iadd, 1) := by decide +kernel
theorem dX6_record_73 : decode cX6_record 73 = .ok (.aload_n 0, 1) := by decide +kernel
theorem dX6_record_74 : decode cX6_record 74 = .ok (.getfield 13, 3) := by decide +kernel
theorem dX6_record_77 : decode cX6_record 77 = .ok (.iload_n 1, 1) := by decide +kernel
theorem dX6_record_78 : decode cX6_record 78 = .ok (.iaload, 1) := by decide +kernel
theorem dX6_record_79 : decode cX6_record 79 = .ok (.iastore, 1) := by decide +kernel
theorem dX6_record_80 : decode cX6_record 80 = .ok (.iinc 1 1, 3) := by decide +kernel
theorem dX6_record_83 : decode cX6_record 83 = .ok (.goto (-31), 3) := by decide +kernel
theorem dX6_record_86 : decode cX6_record 86 = .ok (.aload_n 0, 1) := by decide +kernel
theorem dX6_record_87 : decode cX6_record 87 = .ok (.dup, 1) := by decide +kernel
theorem dX6_record_88 : decode cX6_record 88 = .ok (.getfield 51, 3) := by decide +kernel
theorem dX6_record_91 : decode cX6_record 91 = .ok (.iconst 1, 1) := by decide +kernel
theorem dX6_record_92 : decode cX6_record 92 = .ok (.iadd, 1) := by decide +kernel
theorem dX6_record_93 : decode cX6_record 93 = .ok (.putfield 51, 3) := by decide +kernel
theorem dX6_record_96 : decode cX6_record 96 = .ok (.return_, 1) := by decide +kernel
theorem dX6_changed_0 : decode cX6_changed 0 = .ok (.iload_n 1, 1) := by decide +kernel
theorem dX6_changed_1 : decode cX6_changed 1 = .ok (.ifCond .lt 7, 3) := by decide +kernel
theorem dX6_changed_4 : decode cX6_changed 4 = .ok (.aload_n 0, 1) := by decide +kernel
theorem dX6_changed_5 : decode cX6_changed 5 = .ok (.invokevirtual 55, 3) := by decide +kernel
theorem dX6_changed_8 : decode cX6_changed 8 = .ok (.iload_n 1, 1) := by decide +kernel
theorem dX6_changed_9 : decode cX6_changed 9 = .ok (.ireturn, 1) := by decide +kernel
theorem dX6_boardIn_0 : decode cX6_boardIn 0 = .ok (.bipush (-6), 2) := by decide +kernel
theorem dX6_boardIn_2 : decode cX6_boardIn 2 = .ok (.istore_n 2, 1) := by decide +kernel
theorem dX6_boardIn_3 : decode cX6_boardIn 3 = .ok (.iconst 0, 1) := by decide +kernel
theorem dX6_boardIn_4 : decode cX6_boardIn 4 = .ok (.istore_n 3, 1) := by decide +kernel
theorem dX6_boardIn_5 : decode cX6_boardIn 5 = .ok (.iload_n 3, 1) := by decide +kernel
theorem dX6_boardIn_6 : decode cX6_boardIn 6 = .ok (.aload_n 0, 1) := by decide +kernel
theorem dX6_boardIn_7 : decode cX6_boardIn 7 = .ok (.getfield 7, 3) := by decide +kernel
theorem dX6_boardIn_10 : decode cX6_boardIn 10 = .ok (.iconst 5, 1) := by decide +kernel
theorem dX6_boardIn_11 : decode cX6_boardIn 11 = .ok (.iaload, 1) := by decide +kernel
theorem dX6_boardIn_12 : decode cX6_boardIn 12 = .ok (.if_icmp .ge 29, 3) := by decide +kernel
theorem dX6_boardIn_15 : decode cX6_boardIn 15 = .ok (.aload_n 0, 1) := by decide +kernel
theorem dX6_boardIn_16 : decode cX6_boardIn 16 = .ok (.getfield 7, 3) := by decide +kernel
theorem dX6_boardIn_19 : decode cX6_boardIn 19 = .ok (.iload_n 3, 1) := by decide +kernel
theorem dX6_boardIn_20 : decode cX6_boardIn 20 = .ok (.iconst 2, 1) := by decide +kernel
theorem dX6_boardIn_21 : decode cX6_boardIn 21 = .ok (.invokestatic 58, 3) := by decide +kernel
theorem dX6_boardIn_24 : decode cX6_boardIn 24 = .ok (.iaload, 1) := by decide +kernel
theorem dX6_boardIn_25 : decode cX6_boardIn 25 = .ok (.iload_n 1, 1) := by decide +kernel
theorem dX6_boardIn_26 : decode cX6_boardIn 26 = .ok (.if_icmp .ne 7, 3) := by decide +kernel
theorem dX6_boardIn_29 : decode cX6_boardIn 29 = .ok (.iload_n 3, 1) := by decide +kernel
theorem dX6_boardIn_30 : decode cX6_boardIn 30 = .ok (.goto 4, 3) := by decide +kernel
theorem dX6_boardIn_33 : decode cX6_boardIn 33 = .ok (.iload_n 2, 1) := by decide +kernel
theorem dX6_boardIn_34 : decode cX6_boardIn 34 = .ok (.istore_n 2, 1) := by decide +kernel
theorem dX6_boardIn_35 : decode cX6_boardIn 35 = .ok (.iinc 3 1, 3) := by decide +kernel
theorem dX6_boardIn_38 : decode cX6_boardIn 38 = .ok (.goto (-33), 3) := by decide +kernel
theorem dX6_boardIn_41 : decode cX6_boardIn 41 = .ok (.iload_n 2, 1) := by decide +kernel
theorem dX6_boardIn_42 : decode cX6_boardIn 42 = .ok (.ireturn, 1) := by decide +kernel
theorem dX6_goes_0 : decode cX6_goes 0 = .ok (.aload_n 0, 1) := by decide +kernel
theorem dX6_goes_1 : decode cX6_goes 1 = .ok (.getfield 7, 3) := by decide +kernel
theorem dX6_goes_4 : decode cX6_goes 4 = .ok (.iload_n 1, 1) := by decide +kernel
theorem dX6_goes_5 : decode cX6_goes 5 = .ok (.iconst 3, 1) := by decide +kernel
theorem dX6_goes_6 : decode cX6_goes 6 = .ok (.invokestatic 58, 3) := by decide +kernel
theorem dX6_goes_9 : decode cX6_goes 9 = .ok (.iaload, 1) := by decide +kernel
theorem dX6_goes_10 : decode cX6_goes 10 = .ok (.istore_n 2, 1) := by decide +kernel
theorem dX6_goes_11 : decode cX6_goes 11 = .ok (.iload_n 2, 1) := by decide +kernel
theorem dX6_goes_12 : decode cX6_goes 12 = .ok (.aload_n 0, 1) := by decide +kernel
theorem dX6_goes_13 : decode cX6_goes 13 = .ok (.getfield 7, 3) := by decide +kernel
theorem dX6_goes_16 : decode cX6_goes 16 = .ok (.iload_n 1, 1) := by decide +kernel
theorem dX6_goes_17 : decode cX6_goes 17 = .ok (.iconst 4, 1) := by decide +kernel
theorem dX6_goes_18 : decode cX6_goes 18 = .ok (.invokestatic 58, 3) := by decide +kernel
theorem dX6_goes_21 : decode cX6_goes 21 = .ok (.iaload, 1) := by decide +kernel
theorem dX6_goes_22 : decode cX6_goes 22 = .ok (.iadd, 1) := by decide +kernel
theorem dX6_goes_23 : decode cX6_goes 23 = .ok (.istore_n 3, 1) := by decide +kernel
theorem dX6_goes_24 : decode cX6_goes 24 = .ok (.iload_n 3, 1) := by decide +kernel
theorem dX6_goes_25 : decode cX6_goes 25 = .ok (.bipush 24, 2) := by decide +kernel
theorem dX6_goes_27 : decode cX6_goes 27 = .ok (.if_icmp .le 8, 3) := by decide +kernel
theorem dX6_goes_30 : decode cX6_goes 30 = .ok (.bipush 24, 2) := by decide +kernel
theorem dX6_goes_32 : decode cX6_goes 32 = .ok (.goto 12, 3) := by decide +kernel
theorem dX6_goes_35 : decode cX6_goes 35 = .ok (.iload_n 3, 1) := by decide +kernel
theorem dX6_goes_36 : decode cX6_goes 36 = .ok (.ifCond .ge 7, 3) := by decide +kernel
theorem dX6_goes_39 : decode cX6_goes 39 = .ok (.iconst 0, 1) := by decide +kernel
theorem dX6_goes_40 : decode cX6_goes 40 = .ok (.goto 4, 3) := by decide +kernel
theorem dX6_goes_43 : decode cX6_goes 43 = .ok (.iload_n 3, 1) := by decide +kernel
theorem dX6_goes_44 : decode cX6_goes 44 = .ok (.istore_n 3, 1) := by decide +kernel
theorem dX6_goes_45 : decode cX6_goes 45 = .ok (.aload_n 0, 1) := by decide +kernel
theorem dX6_goes_46 : decode cX6_goes 46 = .ok (.getfield 7, 3) := by decide +kernel
theorem dX6_goes_49 : decode cX6_goes 49 = .ok (.iload_n 1, 1) := by decide +kernel
theorem dX6_goes_50 : decode cX6_goes 50 = .ok (.iconst 4, 1) := by decide +kernel
theorem dX6_goes_51 : decode cX6_goes 51 = .ok (.invokestatic 58, 3) := by decide +kernel
theorem dX6_goes_54 : decode cX6_goes 54 = .ok (.iaload, 1) := by decide +kernel
theorem dX6_goes_55 : decode cX6_goes 55 = .ok (.ifCond .ge 30, 3) := by decide +kernel
theorem dX6_goes_58 : decode cX6_goes 58 = .ok (.iload_n 3, 1) := by decide +kernel
theorem dX6_goes_59 : decode cX6_goes 59 = .ok (.ifCond .ne 26, 3) := by decide +kernel
theorem dX6_goes_62 : decode cX6_goes 62 = .ok (.aload_n 0, 1) := by decide +kernel
theorem dX6_goes_63 : decode cX6_goes 63 = .ok (.getfield 7, 3) := by decide +kernel
theorem dX6_goes_66 : decode cX6_goes 66 = .ok (.iload_n 1, 1) := by decide +kernel
theorem dX6_goes_67 : decode cX6_goes 67 = .ok (.iconst 2, 1) := by decide +kernel
theorem dX6_goes_68 : decode cX6_goes 68 = .ok (.invokestatic 58, 3) := by decide +kernel
theorem dX6_goes_71 : decode cX6_goes 71 = .ok (.bipush (-6), 2) := by decide +kernel
theorem dX6_goes_73 : decode cX6_goes 73 = .ok (.iastore, 1) := by decide +kernel
theorem dX6_goes_74 : decode cX6_goes 74 = .ok (.aload_n 0, 1) := by decide +kernel
theorem dX6_goes_75 : decode cX6_goes 75 = .ok (.getfield 7, 3) := by decide +kernel
theorem dX6_goes_78 : decode cX6_goes 78 = .ok (.iload_n 1, 1) := by decide +kernel
theorem dX6_goes_79 : decode cX6_goes 79 = .ok (.iconst 5, 1) := by decide +kernel
theorem dX6_goes_80 : decode cX6_goes 80 = .ok (.invokestatic 58, 3) := by decide +kernel
theorem dX6_goes_83 : decode cX6_goes 83 = .ok (.iconst 0, 1) := by decide +kernel
theorem dX6_goes_84 : decode cX6_goes 84 = .ok (.iastore, 1) := by decide +kernel
theorem dX6_goes_85 : decode cX6_goes 85 = .ok (.aload_n 0, 1) := by decide +kernel
theorem dX6_goes_86 : decode cX6_goes 86 = .ok (.getfield 7, 3) := by decide +kernel
theorem dX6_goes_89 : decode cX6_goes 89 = .ok (.iload_n 1, 1) := by decide +kernel
theorem dX6_goes_90 : decode cX6_goes 90 = .ok (.iconst 3, 1) := by decide +kernel
theorem dX6_goes_91 : decode cX6_goes 91 = .ok (.invokestatic 58, 3) := by decide +kernel
theorem dX6_goes_94 : decode cX6_goes 94 = .ok (.iload_n 3, 1) := by decide +kernel
theorem dX6_goes_95 : decode cX6_goes 95 = .ok (.iastore, 1) := by decide +kernel
theorem dX6_goes_96 : decode cX6_goes 96 = .ok (.aload_n 0, 1) := by decide +kernel
theorem dX6_goes_97 : decode cX6_goes 97 = .ok (.getfield 7, 3) := by decide +kernel
theorem dX6_goes_100 : decode cX6_goes 100 = .ok (.iload_n 1, 1) := by decide +kernel
theorem dX6_goes_101 : decode cX6_goes 101 = .ok (.iconst 4, 1) := by decide +kernel
theorem dX6_goes_102 : decode cX6_goes 102 = .ok (.invokestatic 58, 3) := by decide +kernel
theorem dX6_goes_105 : decode cX6_goes 105 = .ok (.iload_n 3, 1) := by decide +kernel
theorem dX6_goes_106 : decode cX6_goes 106 = .ok (.bipush 24, 2) := by decide +kernel
theorem dX6_goes_108 : decode cX6_goes 108 = .ok (.if_icmp .eq 18, 3) := by decide +kernel
theorem dX6_goes_111 : decode cX6_goes 111 = .ok (.aload_n 0, 1) := by decide +kernel
theorem dX6_goes_112 : decode cX6_goes 112 = .ok (.getfield 7, 3) := by decide +kernel
theorem dX6_goes_115 : decode cX6_goes 115 = .ok (.iload_n 1, 1) := by decide +kernel
theorem dX6_goes_116 : decode cX6_goes 116 = .ok (.iconst 2, 1) := by decide +kernel
theorem dX6_goes_117 : decode cX6_goes 117 = .ok (.invokestatic 58, 3) := by decide +kernel
theorem dX6_goes_120 : decode cX6_goes 120 = .ok (.iaload, 1) := by decide +kernel
theorem dX6_goes_121 : decode cX6_goes 121 = .ok (.bipush (-6), 2) := by decide +kernel
theorem dX6_goes_123 : decode cX6_goes 123 = .ok (.if_icmp .ne 7, 3) := by decide +kernel
theorem dX6_goes_126 : decode cX6_goes 126 = .ok (.iconst 0, 1) := by decide +kernel
theorem dX6_goes_127 : decode cX6_goes 127 = .ok (.goto 13, 3) := by decide +kernel
theorem dX6_goes_130 : decode cX6_goes 130 = .ok (.aload_n 0, 1) := by decide +kernel
theorem dX6_goes_131 : decode cX6_goes 131 = .ok (.getfield 7, 3) := by decide +kernel
theorem dX6_goes_134 : decode cX6_goes 134 = .ok (.iload_n 1, 1) := by decide +kernel
theorem dX6_goes_135 : decode cX6_goes 135 = .ok (.iconst 4, 1) := by decide +kernel
theorem dX6_goes_136 : decode cX6_goes 136 = .ok (.invokestatic 58, 3) := by decide +kernel
theorem dX6_goes_139 : decode cX6_goes 139 = .ok (.iaload, 1) := by decide +kernel
theorem dX6_goes_140 : decode cX6_goes 140 = .ok (.iastore, 1) := by decide +kernel
theorem dX6_goes_141 : decode cX6_goes 141 = .ok (.iload_n 2, 1) := by decide +kernel
theorem dX6_goes_142 : decode cX6_goes 142 = .ok (.bipush 14, 2) := by decide +kernel
theorem dX6_goes_144 : decode cX6_goes 144 = .ok (.if_icmp .ge 7, 3) := by decide +kernel
theorem dX6_goes_147 : decode cX6_goes 147 = .ok (.iconst 1, 1) := by decide +kernel
theorem dX6_goes_148 : decode cX6_goes 148 = .ok (.goto 4, 3) := by decide +kernel
theorem dX6_goes_151 : decode cX6_goes 151 = .ok (.iconst 0, 1) := by decide +kernel
theorem dX6_goes_152 : decode cX6_goes 152 = .ok (.iload_n 3, 1) := by decide +kernel
theorem dX6_goes_153 : decode cX6_goes 153 = .ok (.bipush 14, 2) := by decide +kernel
theorem dX6_goes_155 : decode cX6_goes 155 = .ok (.if_icmp .ge 7, 3) := by decide +kernel
theorem dX6_goes_158 : decode cX6_goes 158 = .ok (.iconst 1, 1) := by decide +kernel
theorem dX6_goes_159 : decode cX6_goes 159 = .ok (.goto 4, 3) := by decide +kernel
theorem dX6_goes_162 : decode cX6_goes 162 = .ok (.iconst 0, 1) := by decide +kernel
theorem dX6_goes_163 : decode cX6_goes 163 = .ok (.if_icmp .eq 7, 3) := by decide +kernel
theorem dX6_goes_166 : decode cX6_goes 166 = .ok (.iconst 1, 1) := by decide +kernel
theorem dX6_goes_167 : decode cX6_goes 167 = .ok (.goto 4, 3) := by decide +kernel
theorem dX6_goes_170 : decode cX6_goes 170 = .ok (.iconst 0, 1) := by decide +kernel
theorem dX6_goes_171 : decode cX6_goes 171 = .ok (.ireturn, 1) := by decide +kernel
theorem dX6_draw_0 : decode cX6_draw 0 = .ok (.iconst 0, 1) := by decide +kernel
theorem dX6_draw_1 : decode cX6_draw 1 = .ok (.istore_n 1, 1) := by decide +kernel
theorem dX6_draw_2 : decode cX6_draw 2 = .ok (.iconst 0, 1) := by decide +kernel
theorem dX6_draw_3 : decode cX6_draw 3 = .ok (.istore_n 2, 1) := by decide +kernel
theorem dX6_draw_4 : decode cX6_draw 4 = .ok (.iload_n 2, 1) := by decide +kernel
theorem dX6_draw_5 : decode cX6_draw 5 = .ok (.aload_n 0, 1) := by decide +kernel
theorem dX6_draw_6 : decode cX6_draw 6 = .ok (.getfield 7, 3) := by decide +kernel
theorem dX6_draw_9 : decode cX6_draw 9 = .ok (.iconst 5, 1) := by decide +kernel
theorem dX6_draw_10 : decode cX6_draw 10 = .ok (.iaload, 1) := by decide +kernel
theorem dX6_draw_11 : decode cX6_draw 11 = .ok (.if_icmp .ge 36, 3) := by decide +kernel
theorem dX6_draw_14 : decode cX6_draw 14 = .ok (.iload_n 1, 1) := by decide +kernel
theorem dX6_draw_15 : decode cX6_draw 15 = .ok (.aload_n 0, 1) := by decide +kernel
theorem dX6_draw_16 : decode cX6_draw 16 = .ok (.getfield 7, 3) := by decide +kernel
theorem dX6_draw_19 : decode cX6_draw 19 = .ok (.iload_n 2, 1) := by decide +kernel
theorem dX6_draw_20 : decode cX6_draw 20 = .ok (.iconst 1, 1) := by decide +kernel
theorem dX6_draw_21 : decode cX6_draw 21 = .ok (.invokestatic 58, 3) := by decide +kernel
theorem dX6_draw_24 : decode cX6_draw 24 = .ok (.iaload, 1) := by decide +kernel
theorem dX6_draw_25 : decode cX6_draw 25 = .ok (.aload_n 0, 1) := by decide +kernel
theorem dX6_draw_26 : decode cX6_draw 26 = .ok (.getfield 7, 3) := by decide +kernel
theorem dX6_draw_29 : decode cX6_draw 29 = .ok (.iload_n 2, 1) := by decide +kernel
theorem dX6_draw_30 : decode cX6_draw 30 = .ok (.iconst 5, 1) := by decide +kernel
theorem dX6_draw_31 : decode cX6_draw 31 = .ok (.invokestatic 58, 3) := by decide +kernel
theorem dX6_draw_34 : decode cX6_draw 34 = .ok (.iaload, 1) := by decide +kernel
theorem dX6_draw_35 : decode cX6_draw 35 = .ok (.imul, 1) := by decide +kernel
theorem dX6_draw_36 : decode cX6_draw 36 = .ok (.bipush 100, 2) := by decide +kernel
theorem dX6_draw_38 : decode cX6_draw 38 = .ok (.idiv, 1) := by decide +kernel
theorem dX6_draw_39 : decode cX6_draw 39 = .ok (.iadd, 1) := by decide +kernel
theorem dX6_draw_40 : decode cX6_draw 40 = .ok (.istore_n 1, 1) := by decide +kernel
theorem dX6_draw_41 : decode cX6_draw 41 = .ok (.iinc 2 1, 3) := by decide +kernel
theorem dX6_draw_44 : decode cX6_draw 44 = .ok (.goto (-40), 3) := by decide +kernel
theorem dX6_draw_47 : decode cX6_draw 47 = .ok (.iload_n 1, 1) := by decide +kernel
theorem dX6_draw_48 : decode cX6_draw 48 = .ok (.ireturn, 1) := by decide +kernel
theorem dX6_powers_0 : decode cX6_powers 0 = .ok (.aload_n 0, 1) := by decide +kernel
theorem dX6_powers_1 : decode cX6_powers 1 = .ok (.getfield 7, 3) := by decide +kernel
theorem dX6_powers_4 : decode cX6_powers 4 = .ok (.iload_n 1, 1) := by decide +kernel
theorem dX6_powers_5 : decode cX6_powers 5 = .ok (.iconst 5, 1) := by decide +kernel
theorem dX6_powers_6 : decode cX6_powers 6 = .ok (.invokestatic 58, 3) := by decide +kernel
theorem dX6_powers_9 : decode cX6_powers 9 = .ok (.iaload, 1) := by decide +kernel
theorem dX6_powers_10 : decode cX6_powers 10 = .ok (.istore_n 2, 1) := by decide +kernel
theorem dX6_powers_11 : decode cX6_powers 11 = .ok (.aload_n 0, 1) := by decide +kernel
theorem dX6_powers_12 : decode cX6_powers 12 = .ok (.getfield 7, 3) := by decide +kernel
theorem dX6_powers_15 : decode cX6_powers 15 = .ok (.iload_n 1, 1) := by decide +kernel
theorem dX6_powers_16 : decode cX6_powers 16 = .ok (.iconst 3, 1) := by decide +kernel
theorem dX6_powers_17 : decode cX6_powers 17 = .ok (.invokestatic 58, 3) := by decide +kernel
theorem dX6_powers_20 : decode cX6_powers 20 = .ok (.iaload, 1) := by decide +kernel
theorem dX6_powers_21 : decode cX6_powers 21 = .ok (.bipush 8, 2) := by decide +kernel
theorem dX6_powers_23 : decode cX6_powers 23 = .ok (.if_icmp .ge 17, 3) := by decide +kernel
theorem dX6_powers_26 : decode cX6_powers 26 = .ok (.aload_n 0, 1) := by decide +kernel
theorem dX6_powers_27 : decode cX6_powers 27 = .ok (.getfield 7, 3) := by decide +kernel
theorem dX6_powers_30 : decode cX6_powers 30 = .ok (.iload_n 1, 1) := by decide +kernel
theorem dX6_powers_31 : decode cX6_powers 31 = .ok (.iconst 5, 1) := by decide +kernel
theorem dX6_powers_32 : decode cX6_powers 32 = .ok (.invokestatic 58, 3) := by decide +kernel
theorem dX6_powers_35 : decode cX6_powers 35 = .ok (.iconst 0, 1) := by decide +kernel
theorem dX6_powers_36 : decode cX6_powers 36 = .ok (.iastore, 1) := by decide +kernel
theorem dX6_powers_37 : decode cX6_powers 37 = .ok (.goto 82, 3) := by decide +kernel
theorem dX6_powers_40 : decode cX6_powers 40 = .ok (.iload_n 2, 1) := by decide +kernel
theorem dX6_powers_41 : decode cX6_powers 41 = .ok (.bipush 100, 2) := by decide +kernel
theorem dX6_powers_43 : decode cX6_powers 43 = .ok (.if_icmp .ge 76, 3) := by decide +kernel
theorem dX6_powers_46 : decode cX6_powers 46 = .ok (.aload_n 0, 1) := by decide +kernel
theorem dX6_powers_47 : decode cX6_powers 47 = .ok (.getfield 7, 3) := by decide +kernel
theorem dX6_powers_50 : decode cX6_powers 50 = .ok (.iload_n 1, 1) := by decide +kernel
theorem dX6_powers_51 : decode cX6_powers 51 = .ok (.iconst 5, 1) := by decide +kernel
theorem dX6_powers_52 : decode cX6_powers 52 = .ok (.invokestatic 58, 3) := by decide +kernel
theorem dX6_powers_55 : decode cX6_powers 55 = .ok (.iload_n 2, 1) := by decide +kernel
theorem dX6_powers_56 : decode cX6_powers 56 = .ok (.aload_n 0, 1) := by decide +kernel
theorem dX6_powers_57 : decode cX6_powers 57 = .ok (.getfield 7, 3) := by decide +kernel
theorem dX6_powers_60 : decode cX6_powers 60 = .ok (.iconst 1, 1) := by decide +kernel
theorem dX6_powers_61 : decode cX6_powers 61 = .ok (.iaload, 1) := by decide +kernel
theorem dX6_powers_62 : decode cX6_powers 62 = .ok (.iadd, 1) := by decide +kernel
theorem dX6_powers_63 : decode cX6_powers 63 = .ok (.bipush 100, 2) := by decide +kernel
theorem dX6_powers_65 : decode cX6_powers 65 = .ok (.if_icmp .le 8, 3) := by decide +kernel
theorem dX6_powers_68 : decode cX6_powers 68 = .ok (.bipush 100, 2) := by decide +kernel
theorem dX6_powers_70 : decode cX6_powers 70 = .ok (.goto 11, 3) := by decide +kernel
theorem dX6_powers_73 : decode cX6_powers 73 = .ok (.iload_n 2, 1) := by decide +kernel
theorem dX6_powers_74 : decode cX6_powers 74 = .ok (.aload_n 0, 1) := by decide +kernel
theorem dX6_powers_75 : decode cX6_powers 75 = .ok (.getfield 7, 3) := by decide +kernel
theorem dX6_powers_78 : decode cX6_powers 78 = .ok (.iconst 1, 1) := by decide +kernel
theorem dX6_powers_79 : decode cX6_powers 79 = .ok (.iaload, 1) := by decide +kernel
theorem dX6_powers_80 : decode cX6_powers 80 = .ok (.iadd, 1) := by decide +kernel
theorem dX6_powers_81 : decode cX6_powers 81 = .ok (.iastore, 1) := by decide +kernel
theorem dX6_powers_82 : decode cX6_powers 82 = .ok (.aload_n 0, 1) := by decide +kernel
theorem dX6_powers_83 : decode cX6_powers 83 = .ok (.getfield 7, 3) := by decide +kernel
theorem dX6_powers_86 : decode cX6_powers 86 = .ok (.iload_n 1, 1) := by decide +kernel
theorem dX6_powers_87 : decode cX6_powers 87 = .ok (.iconst 5, 1) := by decide +kernel
theorem dX6_powers_88 : decode cX6_powers 88 = .ok (.invokestatic 58, 3) := by decide +kernel
theorem dX6_powers_91 : decode cX6_powers 91 = .ok (.aload_n 0, 1) := by decide +kernel
theorem dX6_powers_92 : decode cX6_powers 92 = .ok (.invokevirtual 62, 3) := by decide +kernel
theorem dX6_powers_95 : decode cX6_powers 95 = .ok (.aload_n 0, 1) := by decide +kernel
theorem dX6_powers_96 : decode cX6_powers 96 = .ok (.getfield 7, 3) := by decide +kernel
theorem dX6_powers_99 : decode cX6_powers 99 = .ok (.iconst 4, 1) := by decide +kernel
theorem dX6_powers_100 : decode cX6_powers 100 = .ok (.iaload, 1) := by decide +kernel
theorem dX6_powers_101 : decode cX6_powers 101 = .ok (.if_icmp .le 7, 3) := by decide +kernel
theorem dX6_powers_104 : decode cX6_powers 104 = .ok (.iload_n 2, 1) := by decide +kernel
theorem dX6_powers_105 : decode cX6_powers 105 = .ok (.goto 13, 3) := by decide +kernel
theorem dX6_powers_108 : decode cX6_powers 108 = .ok (.aload_n 0, 1) := by decide +kernel
theorem dX6_powers_109 : decode cX6_powers 109 = .ok (.getfield 7, 3) := by decide +kernel
theorem dX6_powers_112 : decode cX6_powers 112 = .ok (.iload_n 1, 1) := by decide +kernel
theorem dX6_powers_113 : decode cX6_powers 113 = .ok (.iconst 5, 1) := by decide +kernel
theorem dX6_powers_114 : decode cX6_powers 114 = .ok (.invokestatic 58, 3) := by decide +kernel
theorem dX6_powers_117 : decode cX6_powers 117 = .ok (.iaload, 1) := by decide +kernel
theorem dX6_powers_118 : decode cX6_powers 118 = .ok (.iastore, 1) := by decide +kernel
theorem dX6_powers_119 : decode cX6_powers 119 = .ok (.return_, 1) := by decide +kernel
theorem dX6_forgets_0 : decode cX6_forgets 0 = .ok (.iconst 0, 1) := by decide +kernel
theorem dX6_forgets_1 : decode cX6_forgets 1 = .ok (.istore_n 2, 1) := by decide +kernel
theorem dX6_forgets_2 : decode cX6_forgets 2 = .ok (.iload_n 2, 1) := by decide +kernel
theorem dX6_forgets_3 : decode cX6_forgets 3 = .ok (.aload_n 0, 1) := by decide +kernel
theorem dX6_forgets_4 : decode cX6_forgets 4 = .ok (.getfield 7, 3) := by decide +kernel
theorem dX6_forgets_7 : decode cX6_forgets 7 = .ok (.bipush 94, 2) := by decide +kernel
theorem dX6_forgets_9 : decode cX6_forgets 9 = .ok (.iaload, 1) := by decide +kernel
theorem dX6_forgets_10 : decode cX6_forgets 10 = .ok (.if_icmp .ge 31, 3) := by decide +kernel
theorem dX6_forgets_13 : decode cX6_forgets 13 = .ok (.aload_n 0, 1) := by decide +kernel
theorem dX6_forgets_14 : decode cX6_forgets 14 = .ok (.iload_n 2, 1) := by decide +kernel
theorem dX6_forgets_15 : decode cX6_forgets 15 = .ok (.invokevirtual 43, 3) := by decide +kernel
theorem dX6_forgets_18 : decode cX6_forgets 18 = .ok (.ifCond .eq 17, 3) := by decide +kernel
theorem dX6_forgets_21 : decode cX6_forgets 21 = .ok (.aload_n 0, 1) := by decide +kernel
theorem dX6_forgets_22 : decode cX6_forgets 22 = .ok (.iload_n 2, 1) := by decide +kernel
theorem dX6_forgets_23 : decode cX6_forgets 23 = .ok (.iload_n 1, 1) := by decide +kernel
theorem dX6_forgets_24 : decode cX6_forgets 24 = .ok (.invokevirtual 47, 3) := by decide +kernel
theorem dX6_forgets_27 : decode cX6_forgets 27 = .ok (.ifCond .eq 8, 3) := by decide +kernel
theorem dX6_forgets_30 : decode cX6_forgets 30 = .ok (.aload_n 0, 1) := by decide +kernel
theorem dX6_forgets_31 : decode cX6_forgets 31 = .ok (.iload_n 2, 1) := by decide +kernel
theorem dX6_forgets_32 : decode cX6_forgets 32 = .ok (.invokevirtual 66, 3) := by decide +kernel
theorem dX6_forgets_35 : decode cX6_forgets 35 = .ok (.iinc 2 1, 3) := by decide +kernel
theorem dX6_forgets_38 : decode cX6_forgets 38 = .ok (.goto (-36), 3) := by decide +kernel
theorem dX6_forgets_41 : decode cX6_forgets 41 = .ok (.aload_n 0, 1) := by decide +kernel
theorem dX6_forgets_42 : decode cX6_forgets 42 = .ok (.getfield 7, 3) := by decide +kernel
theorem dX6_forgets_45 : decode cX6_forgets 45 = .ok (.iload_n 1, 1) := by decide +kernel
theorem dX6_forgets_46 : decode cX6_forgets 46 = .ok (.bipush 10, 2) := by decide +kernel
theorem dX6_forgets_48 : decode cX6_forgets 48 = .ok (.invokestatic 58, 3) := by decide +kernel
theorem dX6_forgets_51 : decode cX6_forgets 51 = .ok (.dup2, 1) := by decide +kernel
theorem dX6_forgets_52 : decode cX6_forgets 52 = .ok (.iaload, 1) := by decide +kernel
theorem dX6_forgets_53 : decode cX6_forgets 53 = .ok (.aload_n 0, 1) := by decide +kernel
theorem dX6_forgets_54 : decode cX6_forgets 54 = .ok (.getfield 7, 3) := by decide +kernel
theorem dX6_forgets_57 : decode cX6_forgets 57 = .ok (.iload_n 1, 1) := by decide +kernel
theorem dX6_forgets_58 : decode cX6_forgets 58 = .ok (.bipush 7, 2) := by decide +kernel
theorem dX6_forgets_60 : decode cX6_forgets 60 = .ok (.invokestatic 58, 3) := by decide +kernel
theorem dX6_forgets_63 : decode cX6_forgets 63 = .ok (.iaload, 1) := by decide +kernel
theorem dX6_forgets_64 : decode cX6_forgets 64 = .ok (.ifCond .ne 7, 3) := by decide +kernel
theorem dX6_forgets_67 : decode cX6_forgets 67 = .ok (.iconst 1, 1) := by decide +kernel
theorem dX6_forgets_68 : decode cX6_forgets 68 = .ok (.goto 4, 3) := by decide +kernel
theorem dX6_forgets_71 : decode cX6_forgets 71 = .ok (.iconst 0, 1) := by decide +kernel
theorem dX6_forgets_72 : decode cX6_forgets 72 = .ok (.iadd, 1) := by decide +kernel
theorem dX6_forgets_73 : decode cX6_forgets 73 = .ok (.iastore, 1) := by decide +kernel
theorem dX6_forgets_74 : decode cX6_forgets 74 = .ok (.aload_n 0, 1) := by decide +kernel
theorem dX6_forgets_75 : decode cX6_forgets 75 = .ok (.getfield 7, 3) := by decide +kernel
theorem dX6_forgets_78 : decode cX6_forgets 78 = .ok (.iload_n 1, 1) := by decide +kernel
theorem dX6_forgets_79 : decode cX6_forgets 79 = .ok (.bipush 7, 2) := by decide +kernel
theorem dX6_forgets_81 : decode cX6_forgets 81 = .ok (.invokestatic 58, 3) := by decide +kernel
theorem dX6_forgets_84 : decode cX6_forgets 84 = .ok (.iconst 0, 1) := by decide +kernel
theorem dX6_forgets_85 : decode cX6_forgets 85 = .ok (.iastore, 1) := by decide +kernel
theorem dX6_forgets_86 : decode cX6_forgets 86 = .ok (.aload_n 0, 1) := by decide +kernel
theorem dX6_forgets_87 : decode cX6_forgets 87 = .ok (.getfield 7, 3) := by decide +kernel
theorem dX6_forgets_90 : decode cX6_forgets 90 = .ok (.iload_n 1, 1) := by decide +kernel
theorem dX6_forgets_91 : decode cX6_forgets 91 = .ok (.bipush 6, 2) := by decide +kernel
theorem dX6_forgets_93 : decode cX6_forgets 93 = .ok (.invokestatic 58, 3) := by decide +kernel
theorem dX6_forgets_96 : decode cX6_forgets 96 = .ok (.iconst 0, 1) := by decide +kernel
theorem dX6_forgets_97 : decode cX6_forgets 97 = .ok (.iastore, 1) := by decide +kernel
theorem dX6_forgets_98 : decode cX6_forgets 98 = .ok (.return_, 1) := by decide +kernel
theorem dX6_greets_0 : decode cX6_greets 0 = .ok (.aload_n 0, 1) := by decide +kernel
theorem dX6_greets_1 : decode cX6_greets 1 = .ok (.getfield 7, 3) := by decide +kernel
theorem dX6_greets_4 : decode cX6_greets 4 = .ok (.iload_n 1, 1) := by decide +kernel
theorem dX6_greets_5 : decode cX6_greets 5 = .ok (.iconst 2, 1) := by decide +kernel
theorem dX6_greets_6 : decode cX6_greets 6 = .ok (.invokestatic 58, 3) := by decide +kernel
theorem dX6_greets_9 : decode cX6_greets 9 = .ok (.iaload, 1) := by decide +kernel
theorem dX6_greets_10 : decode cX6_greets 10 = .ok (.bipush (-6), 2) := by decide +kernel
theorem dX6_greets_12 : decode cX6_greets 12 = .ok (.if_icmp .eq 22, 3) := by decide +kernel
theorem dX6_greets_15 : decode cX6_greets 15 = .ok (.aload_n 0, 1) := by decide +kernel
theorem dX6_greets_16 : decode cX6_greets 16 = .ok (.getfield 7, 3) := by decide +kernel
theorem dX6_greets_19 : decode cX6_greets 19 = .ok (.iload_n 1, 1) := by decide +kernel
theorem dX6_greets_20 : decode cX6_greets 20 = .ok (.iconst 3, 1) := by decide +kernel
theorem dX6_greets_21 : decode cX6_greets 21 = .ok (.invokestatic 58, 3) := by decide +kernel
theorem dX6_greets_24 : decode cX6_greets 24 = .ok (.iaload, 1) := by decide +kernel
theorem dX6_greets_25 : decode cX6_greets 25 = .ok (.bipush 20, 2) := by decide +kernel
theorem dX6_greets_27 : decode cX6_greets 27 = .ok (.if_icmp .lt 7, 3) := by decide +kernel
theorem dX6_greets_30 : decode cX6_greets 30 = .ok (.iconst 1, 1) := by decide +kernel
theorem dX6_greets_31 : decode cX6_greets 31 = .ok (.goto 4, 3) := by decide +kernel
theorem dX6_greets_34 : decode cX6_greets 34 = .ok (.iconst 0, 1) := by decide +kernel
theorem dX6_greets_35 : decode cX6_greets 35 = .ok (.istore_n 2, 1) := by decide +kernel
theorem dX6_greets_36 : decode cX6_greets 36 = .ok (.aload_n 0, 1) := by decide +kernel
theorem dX6_greets_37 : decode cX6_greets 37 = .ok (.getfield 7, 3) := by decide +kernel
theorem dX6_greets_40 : decode cX6_greets 40 = .ok (.iload_n 1, 1) := by decide +kernel
theorem dX6_greets_41 : decode cX6_greets 41 = .ok (.bipush 6, 2) := by decide +kernel
theorem dX6_greets_43 : decode cX6_greets 43 = .ok (.invokestatic 58, 3) := by decide +kernel
theorem dX6_greets_46 : decode cX6_greets 46 = .ok (.iaload, 1) := by decide +kernel
theorem dX6_greets_47 : decode cX6_greets 47 = .ok (.iconst 1, 1) := by decide +kernel
theorem dX6_greets_48 : decode cX6_greets 48 = .ok (.if_icmp .ne 7, 3) := by decide +kernel
theorem dX6_greets_51 : decode cX6_greets 51 = .ok (.iconst 1, 1) := by decide +kernel
theorem dX6_greets_52 : decode cX6_greets 52 = .ok (.goto 4, 3) := by decide +kernel
theorem dX6_greets_55 : decode cX6_greets 55 = .ok (.iconst 0, 1) := by decide +kernel
theorem dX6_greets_56 : decode cX6_greets 56 = .ok (.istore_n 3, 1) := by decide +kernel
theorem dX6_greets_57 : decode cX6_greets 57 = .ok (.iload_n 2, 1) := by decide +kernel
theorem dX6_greets_58 : decode cX6_greets 58 = .ok (.ifCond .ne 27, 3) := by decide +kernel
theorem dX6_greets_61 : decode cX6_greets 61 = .ok (.aload_n 0, 1) := by decide +kernel
theorem dX6_greets_62 : decode cX6_greets 62 = .ok (.getfield 7, 3) := by decide +kernel
theorem dX6_greets_65 : decode cX6_greets 65 = .ok (.iload_n 1, 1) := by decide +kernel
theorem dX6_greets_66 : decode cX6_greets 66 = .ok (.bipush 8, 2) := by decide +kernel
theorem dX6_greets_68 : decode cX6_greets 68 = .ok (.invokestatic 58, 3) := by decide +kernel
theorem dX6_greets_71 : decode cX6_greets 71 = .ok (.iconst 0, 1) := by decide +kernel
theorem dX6_greets_72 : decode cX6_greets 72 = .ok (.iastore, 1) := by decide +kernel
theorem dX6_greets_73 : decode cX6_greets 73 = .ok (.iload_n 3, 1) := by decide +kernel
theorem dX6_greets_74 : decode cX6_greets 74 = .ok (.ifCond .eq 100, 3) := by decide +kernel
theorem dX6_greets_77 : decode cX6_greets 77 = .ok (.aload_n 0, 1) := by decide +kernel
theorem dX6_greets_78 : decode cX6_greets 78 = .ok (.iload_n 1, 1) := by decide +kernel
theorem dX6_greets_79 : decode cX6_greets 79 = .ok (.invokevirtual 70, 3) := by decide +kernel
theorem dX6_greets_82 : decode cX6_greets 82 = .ok (.goto 92, 3) := by decide +kernel
theorem dX6_greets_85 : decode cX6_greets 85 = .ok (.iload_n 3, 1) := by decide +kernel
theorem dX6_greets_86 : decode cX6_greets 86 = .ok (.ifCond .ne 88, 3) := by decide +kernel
theorem dX6_greets_89 : decode cX6_greets 89 = .ok (.aload_n 0, 1) := by decide +kernel
theorem dX6_greets_90 : decode cX6_greets 90 = .ok (.getfield 7, 3) := by decide +kernel
theorem dX6_greets_93 : decode cX6_greets 93 = .ok (.iload_n 1, 1) := by decide +kernel
theorem dX6_greets_94 : decode cX6_greets 94 = .ok (.iconst 5, 1) := by decide +kernel
theorem dX6_greets_95 : decode cX6_greets 95 = .ok (.invokestatic 58, 3) := by decide +kernel
theorem dX6_greets_98 : decode cX6_greets 98 = .ok (.iaload, 1) := by decide +kernel
theorem dX6_greets_99 : decode cX6_greets 99 = .ok (.bipush 100, 2) := by decide +kernel
theorem dX6_greets_101 : decode cX6_greets 101 = .ok (.if_icmp .ne 73, 3) := by decide +kernel
theorem dX6_greets_104 : decode cX6_greets 104 = .ok (.aload_n 0, 1) := by decide +kernel
theorem dX6_greets_105 : decode cX6_greets 105 = .ok (.getfield 7, 3) := by decide +kernel
theorem dX6_greets_108 : decode cX6_greets 108 = .ok (.iload_n 1, 1) := by decide +kernel
theorem dX6_greets_109 : decode cX6_greets 109 = .ok (.bipush 8, 2) := by decide +kernel
theorem dX6_greets_111 : decode cX6_greets 111 = .ok (.invokestatic 58, 3) := by decide +kernel
theorem dX6_greets_114 : decode cX6_greets 114 = .ok (.iaload, 1) := by decide +kernel
theorem dX6_greets_115 : decode cX6_greets 115 = .ok (.iconst 1, 1) := by decide +kernel
theorem dX6_greets_116 : decode cX6_greets 116 = .ok (.iadd, 1) := by decide +kernel
theorem dX6_greets_117 : decode cX6_greets 117 = .ok (.istore 4, 2) := by decide +kernel
theorem dX6_greets_119 : decode cX6_greets 119 = .ok (.aload_n 0, 1) := by decide +kernel
theorem dX6_greets_120 : decode cX6_greets 120 = .ok (.getfield 7, 3) := by decide +kernel
theorem dX6_greets_123 : decode cX6_greets 123 = .ok (.iload_n 1, 1) := by decide +kernel
theorem dX6_greets_124 : decode cX6_greets 124 = .ok (.bipush 6, 2) := by decide +kernel
theorem dX6_greets_126 : decode cX6_greets 126 = .ok (.invokestatic 58, 3) := by decide +kernel
theorem dX6_greets_129 : decode cX6_greets 129 = .ok (.iload 4, 2) := by decide +kernel
theorem dX6_greets_131 : decode cX6_greets 131 = .ok (.aload_n 0, 1) := by decide +kernel
theorem dX6_greets_132 : decode cX6_greets 132 = .ok (.getfield 7, 3) := by decide +kernel
theorem dX6_greets_135 : decode cX6_greets 135 = .ok (.iconst 3, 1) := by decide +kernel
theorem dX6_greets_136 : decode cX6_greets 136 = .ok (.iaload, 1) := by decide +kernel
theorem dX6_greets_137 : decode cX6_greets 137 = .ok (.if_icmp .lt 7, 3) := by decide +kernel
theorem dX6_greets_140 : decode cX6_greets 140 = .ok (.iconst 1, 1) := by decide +kernel
theorem dX6_greets_141 : decode cX6_greets 141 = .ok (.goto 4, 3) := by decide +kernel
theorem dX6_greets_144 : decode cX6_greets 144 = .ok (.iconst 0, 1) := by decide +kernel
theorem dX6_greets_145 : decode cX6_greets 145 = .ok (.iastore, 1) := by decide +kernel
theorem dX6_greets_146 : decode cX6_greets 146 = .ok (.aload_n 0, 1) := by decide +kernel
theorem dX6_greets_147 : decode cX6_greets 147 = .ok (.getfield 7, 3) := by decide +kernel
theorem dX6_greets_150 : decode cX6_greets 150 = .ok (.iload_n 1, 1) := by decide +kernel
theorem dX6_greets_151 : decode cX6_greets 151 = .ok (.bipush 8, 2) := by decide +kernel
theorem dX6_greets_153 : decode cX6_greets 153 = .ok (.invokestatic 58, 3) := by decide +kernel
theorem dX6_greets_156 : decode cX6_greets 156 = .ok (.iload 4, 2) := by decide +kernel
theorem dX6_greets_158 : decode cX6_greets 158 = .ok (.aload_n 0, 1) := by decide +kernel
theorem dX6_greets_159 : decode cX6_greets 159 = .ok (.getfield 7, 3) := by decide +kernel
theorem dX6_greets_162 : decode cX6_greets 162 = .ok (.iconst 3, 1) := by decide +kernel
theorem dX6_greets_163 : decode cX6_greets 163 = .ok (.iaload, 1) := by decide +kernel
theorem dX6_greets_164 : decode cX6_greets 164 = .ok (.if_icmp .lt 7, 3) := by decide +kernel
theorem dX6_greets_167 : decode cX6_greets 167 = .ok (.iconst 0, 1) := by decide +kernel
theorem dX6_greets_168 : decode cX6_greets 168 = .ok (.goto 5, 3) := by decide +kernel
theorem dX6_greets_171 : decode cX6_greets 171 = .ok (.iload 4, 2) := by decide +kernel
theorem dX6_greets_173 : decode cX6_greets 173 = .ok (.iastore, 1) := by decide +kernel
theorem dX6_greets_174 : decode cX6_greets 174 = .ok (.return_, 1) := by decide +kernel
theorem dX6_serves_0 : decode cX6_serves 0 = .ok (.aload_n 0, 1) := by decide +kernel
theorem dX6_serves_1 : decode cX6_serves 1 = .ok (.getfield 7, 3) := by decide +kernel
theorem dX6_serves_4 : decode cX6_serves 4 = .ok (.sipush 295, 3) := by decide +kernel
theorem dX6_serves_7 : decode cX6_serves 7 = .ok (.iaload, 1) := by decide +kernel
theorem dX6_serves_8 : decode cX6_serves 8 = .ok (.istore_n 2, 1) := by decide +kernel
theorem dX6_serves_9 : decode cX6_serves 9 = .ok (.iload_n 2, 1) := by decide +kernel
theorem dX6_serves_10 : decode cX6_serves 10 = .ok (.bipush (-6), 2) := by decide +kernel
theorem dX6_serves_12 : decode cX6_serves 12 = .ok (.if_icmp .ne 4, 3) := by decide +kernel
theorem dX6_serves_15 : decode cX6_serves 15 = .ok (.return_, 1) := by decide +kernel
theorem dX6_serves_16 : decode cX6_serves 16 = .ok (.iload_n 1, 1) := by decide +kernel
theorem dX6_serves_17 : decode cX6_serves 17 = .ok (.ifCond .eq 67, 3) := by decide +kernel
theorem dX6_serves_20 : decode cX6_serves 20 = .ok (.aload_n 0, 1) := by decide +kernel
theorem dX6_serves_21 : decode cX6_serves 21 = .ok (.getfield 7, 3) := by decide +kernel
theorem dX6_serves_24 : decode cX6_serves 24 = .ok (.bipush 95, 2) := by decide +kernel
theorem dX6_serves_26 : decode cX6_serves 26 = .ok (.iload_n 2, 1) := by decide +kernel
theorem dX6_serves_27 : decode cX6_serves 27 = .ok (.iadd, 1) := by decide +kernel
theorem dX6_serves_28 : decode cX6_serves 28 = .ok (.dup2, 1) := by decide +kernel
theorem dX6_serves_29 : decode cX6_serves 29 = .ok (.iaload, 1) := by decide +kernel
theorem dX6_serves_30 : decode cX6_serves 30 = .ok (.sipush 256, 3) := by decide +kernel
theorem dX6_serves_33 : decode cX6_serves 33 = .ok (.iadd, 1) := by decide +kernel
theorem dX6_serves_34 : decode cX6_serves 34 = .ok (.iastore, 1) := by decide +kernel
theorem dX6_serves_35 : decode cX6_serves 35 = .ok (.aload_n 0, 1) := by decide +kernel
theorem dX6_serves_36 : decode cX6_serves 36 = .ok (.getfield 7, 3) := by decide +kernel
theorem dX6_serves_39 : decode cX6_serves 39 = .ok (.sipush 299, 3) := by decide +kernel
theorem dX6_serves_42 : decode cX6_serves 42 = .ok (.dup2, 1) := by decide +kernel
theorem dX6_serves_43 : decode cX6_serves 43 = .ok (.iaload, 1) := by decide +kernel
theorem dX6_serves_44 : decode cX6_serves 44 = .ok (.iconst 1, 1) := by decide +kernel
theorem dX6_serves_45 : decode cX6_serves 45 = .ok (.iadd, 1) := by decide +kernel
theorem dX6_serves_46 : decode cX6_serves 46 = .ok (.iastore, 1) := by decide +kernel
theorem dX6_serves_47 : decode cX6_serves 47 = .ok (.aload_n 0, 1) := by decide +kernel
theorem dX6_serves_48 : decode cX6_serves 48 = .ok (.getfield 7, 3) := by decide +kernel
theorem dX6_serves_51 : decode cX6_serves 51 = .ok (.sipush 296, 3) := by decide +kernel
theorem dX6_serves_54 : decode cX6_serves 54 = .ok (.aload_n 0, 1) := by decide +kernel
theorem dX6_serves_55 : decode cX6_serves 55 = .ok (.getfield 7, 3) := by decide +kernel
theorem dX6_serves_58 : decode cX6_serves 58 = .ok (.iconst 2, 1) := by decide +kernel
theorem dX6_serves_59 : decode cX6_serves 59 = .ok (.iaload, 1) := by decide +kernel
theorem dX6_serves_60 : decode cX6_serves 60 = .ok (.iastore, 1) := by decide +kernel
theorem dX6_serves_61 : decode cX6_serves 61 = .ok (.aload_n 0, 1) := by decide +kernel
theorem dX6_serves_62 : decode cX6_serves 62 = .ok (.getfield 7, 3) := by decide +kernel
theorem dX6_serves_65 : decode cX6_serves 65 = .ok (.bipush 95, 2) := by decide +kernel
theorem dX6_serves_67 : decode cX6_serves 67 = .ok (.iload_n 2, 1) := by decide +kernel
theorem dX6_serves_68 : decode cX6_serves 68 = .ok (.iadd, 1) := by decide +kernel
theorem dX6_serves_69 : decode cX6_serves 69 = .ok (.iaload, 1) := by decide +kernel
theorem dX6_serves_70 : decode cX6_serves 70 = .ok (.sipush 256, 3) := by decide +kernel
theorem dX6_serves_73 : decode cX6_serves 73 = .ok (.idiv, 1) := by decide +kernel
theorem dX6_serves_74 : decode cX6_serves 74 = .ok (.iconst 3, 1) := by decide +kernel
theorem dX6_serves_75 : decode cX6_serves 75 = .ok (.if_icmp .ne 8, 3) := by decide +kernel
theorem dX6_serves_78 : decode cX6_serves 78 = .ok (.aload_n 0, 1) := by decide +kernel
theorem dX6_serves_79 : decode cX6_serves 79 = .ok (.iload_n 2, 1) := by decide +kernel
theorem dX6_serves_80 : decode cX6_serves 80 = .ok (.invokevirtual 66, 3) := by decide +kernel
theorem dX6_serves_83 : decode cX6_serves 83 = .ok (.return_, 1) := by decide +kernel
theorem dX6_serves_84 : decode cX6_serves 84 = .ok (.aload_n 0, 1) := by decide +kernel
theorem dX6_serves_85 : decode cX6_serves 85 = .ok (.getfield 7, 3) := by decide +kernel
theorem dX6_serves_88 : decode cX6_serves 88 = .ok (.sipush 296, 3) := by decide +kernel
theorem dX6_serves_91 : decode cX6_serves 91 = .ok (.dup2, 1) := by decide +kernel
theorem dX6_serves_92 : decode cX6_serves 92 = .ok (.iaload, 1) := by decide +kernel
theorem dX6_serves_93 : decode cX6_serves 93 = .ok (.iconst 1, 1) := by decide +kernel
theorem dX6_serves_94 : decode cX6_serves 94 = .ok (.isub, 1) := by decide +kernel
theorem dX6_serves_95 : decode cX6_serves 95 = .ok (.iastore, 1) := by decide +kernel
theorem dX6_serves_96 : decode cX6_serves 96 = .ok (.aload_n 0, 1) := by decide +kernel
theorem dX6_serves_97 : decode cX6_serves 97 = .ok (.getfield 7, 3) := by decide +kernel
theorem dX6_serves_100 : decode cX6_serves 100 = .ok (.sipush 296, 3) := by decide +kernel
theorem dX6_serves_103 : decode cX6_serves 103 = .ok (.iaload, 1) := by decide +kernel
theorem dX6_serves_104 : decode cX6_serves 104 = .ok (.ifCond .ne 50, 3) := by decide +kernel
theorem dX6_serves_107 : decode cX6_serves 107 = .ok (.aload_n 0, 1) := by decide +kernel
theorem dX6_serves_108 : decode cX6_serves 108 = .ok (.iload_n 2, 1) := by decide +kernel
theorem dX6_serves_109 : decode cX6_serves 109 = .ok (.iconst 2, 1) := by decide +kernel
theorem dX6_serves_110 : decode cX6_serves 110 = .ok (.invokevirtual 39, 3) := by decide +kernel
theorem dX6_serves_113 : decode cX6_serves 113 = .ok (.aload_n 0, 1) := by decide +kernel
theorem dX6_serves_114 : decode cX6_serves 114 = .ok (.getfield 7, 3) := by decide +kernel
theorem dX6_serves_117 : decode cX6_serves 117 = .ok (.sipush 300, 3) := by decide +kernel
theorem dX6_serves_120 : decode cX6_serves 120 = .ok (.dup2, 1) := by decide +kernel
theorem dX6_serves_121 : decode cX6_serves 121 = .ok (.iaload, 1) := by decide +kernel
theorem dX6_serves_122 : decode cX6_serves 122 = .ok (.iconst 1, 1) := by decide +kernel
theorem dX6_serves_123 : decode cX6_serves 123 = .ok (.iadd, 1) := by decide +kernel
theorem dX6_serves_124 : decode cX6_serves 124 = .ok (.iastore, 1) := by decide +kernel
theorem dX6_serves_125 : decode cX6_serves 125 = .ok (.aload_n 0, 1) := by decide +kernel
theorem dX6_serves_126 : decode cX6_serves 126 = .ok (.getfield 7, 3) := by decide +kernel
theorem dX6_serves_129 : decode cX6_serves 129 = .ok (.aload_n 0, 1) := by decide +kernel
theorem dX6_serves_130 : decode cX6_serves 130 = .ok (.iload_n 2, 1) := by decide +kernel
theorem dX6_serves_131 : decode cX6_serves 131 = .ok (.invokevirtual 33, 3) := by decide +kernel
theorem dX6_serves_134 : decode cX6_serves 134 = .ok (.bipush 9, 2) := by decide +kernel
theorem dX6_serves_136 : decode cX6_serves 136 = .ok (.invokestatic 58, 3) := by decide +kernel
theorem dX6_serves_139 : decode cX6_serves 139 = .ok (.dup2, 1) := by decide +kernel
theorem dX6_serves_140 : decode cX6_serves 140 = .ok (.iaload, 1) := by decide +kernel
theorem dX6_serves_141 : decode cX6_serves 141 = .ok (.iconst 1, 1) := by decide +kernel
theorem dX6_serves_142 : decode cX6_serves 142 = .ok (.iadd, 1) := by decide +kernel
theorem dX6_serves_143 : decode cX6_serves 143 = .ok (.iastore, 1) := by decide +kernel
theorem dX6_serves_144 : decode cX6_serves 144 = .ok (.aload_n 0, 1) := by decide +kernel
theorem dX6_serves_145 : decode cX6_serves 145 = .ok (.getfield 7, 3) := by decide +kernel
theorem dX6_serves_148 : decode cX6_serves 148 = .ok (.sipush 295, 3) := by decide +kernel
theorem dX6_serves_151 : decode cX6_serves 151 = .ok (.bipush (-6), 2) := by decide +kernel
theorem dX6_serves_153 : decode cX6_serves 153 = .ok (.iastore, 1) := by decide +kernel
theorem dX6_serves_154 : decode cX6_serves 154 = .ok (.return_, 1) := by decide +kernel
theorem dX6_isHeld_0 : decode cX6_isHeld 0 = .ok (.iconst 0, 1) := by decide +kernel
theorem dX6_isHeld_1 : decode cX6_isHeld 1 = .ok (.istore_n 1, 1) := by decide +kernel
theorem dX6_isHeld_2 : decode cX6_isHeld 2 = .ok (.iconst 0, 1) := by decide +kernel
theorem dX6_isHeld_3 : decode cX6_isHeld 3 = .ok (.istore_n 2, 1) := by decide +kernel
theorem dX6_isHeld_4 : decode cX6_isHeld 4 = .ok (.iload_n 2, 1) := by decide +kernel
theorem dX6_isHeld_5 : decode cX6_isHeld 5 = .ok (.aload_n 0, 1) := by decide +kernel
theorem dX6_isHeld_6 : decode cX6_isHeld 6 = .ok (.getfield 7, 3) := by decide +kernel
theorem dX6_isHeld_9 : decode cX6_isHeld 9 = .ok (.iconst 5, 1) := by decide +kernel
theorem dX6_isHeld_10 : decode cX6_isHeld 10 = .ok (.iaload, 1) := by decide +kernel
theorem dX6_isHeld_11 : decode cX6_isHeld 11 = .ok (.if_icmp .ge 69, 3) := by decide +kernel
theorem dX6_isHeld_14 : decode cX6_isHeld 14 = .ok (.aload_n 0, 1) := by decide +kernel
theorem dX6_isHeld_15 : decode cX6_isHeld 15 = .ok (.getfield 7, 3) := by decide +kernel
theorem dX6_isHeld_18 : decode cX6_isHeld 18 = .ok (.iload_n 2, 1) := by decide +kernel
theorem dX6_isHeld_19 : decode cX6_isHeld 19 = .ok (.iconst 4, 1) := by decide +kernel
theorem dX6_isHeld_20 : decode cX6_isHeld 20 = .ok (.invokestatic 58, 3) := by decide +kernel
theorem dX6_isHeld_23 : decode cX6_isHeld 23 = .ok (.iaload, 1) := by decide +kernel
theorem dX6_isHeld_24 : decode cX6_isHeld 24 = .ok (.istore_n 3, 1) := by decide +kernel
theorem dX6_isHeld_25 : decode cX6_isHeld 25 = .ok (.aload_n 0, 1) := by decide +kernel
theorem dX6_isHeld_26 : decode cX6_isHeld 26 = .ok (.getfield 7, 3) := by decide +kernel
theorem dX6_isHeld_29 : decode cX6_isHeld 29 = .ok (.iload_n 2, 1) := by decide +kernel
theorem dX6_isHeld_30 : decode cX6_isHeld 30 = .ok (.iconst 3, 1) := by decide +kernel
theorem dX6_isHeld_31 : decode cX6_isHeld 31 = .ok (.invokestatic 58, 3) := by decide +kernel
theorem dX6_isHeld_34 : decode cX6_isHeld 34 = .ok (.iaload, 1) := by decide +kernel
theorem dX6_isHeld_35 : decode cX6_isHeld 35 = .ok (.istore 4, 2) := by decide +kernel
theorem dX6_isHeld_37 : decode cX6_isHeld 37 = .ok (.iload_n 1, 1) := by decide +kernel
theorem dX6_isHeld_38 : decode cX6_isHeld 38 = .ok (.ifCond .ne 30, 3) := by decide +kernel
theorem dX6_isHeld_41 : decode cX6_isHeld 41 = .ok (.iload_n 3, 1) := by decide +kernel
theorem dX6_isHeld_42 : decode cX6_isHeld 42 = .ok (.ifCond .le 15, 3) := by decide +kernel
theorem dX6_isHeld_45 : decode cX6_isHeld 45 = .ok (.iload 4, 2) := by decide +kernel
theorem dX6_isHeld_47 : decode cX6_isHeld 47 = .ok (.bipush 8, 2) := by decide +kernel
theorem dX6_isHeld_49 : decode cX6_isHeld 49 = .ok (.bipush 13, 2) := by decide +kernel
theorem dX6_isHeld_51 : decode cX6_isHeld 51 = .ok (.invokestatic 25, 3) := by decide +kernel
theorem dX6_isHeld_54 : decode cX6_isHeld 54 = .ok (.ifCond .ne 14, 3) := by decide +kernel
theorem dX6_isHeld_57 : decode cX6_isHeld 57 = .ok (.iload_n 3, 1) := by decide +kernel
theorem dX6_isHeld_58 : decode cX6_isHeld 58 = .ok (.ifCond .ge 14, 3) := by decide +kernel
theorem dX6_isHeld_61 : decode cX6_isHeld 61 = .ok (.iload 4, 2) := by decide +kernel
theorem dX6_isHeld_63 : decode cX6_isHeld 63 = .ok (.bipush 14, 2) := by decide +kernel
theorem dX6_isHeld_65 : decode cX6_isHeld 65 = .ok (.if_icmp .lt 7, 3) := by decide +kernel
theorem dX6_isHeld_68 : decode cX6_isHeld 68 = .ok (.iconst 1, 1) := by decide +kernel
theorem dX6_isHeld_69 : decode cX6_isHeld 69 = .ok (.goto 4, 3) := by decide +kernel
theorem dX6_isHeld_72 : decode cX6_isHeld 72 = .ok (.iconst 0, 1) := by decide +kernel
theorem dX6_isHeld_73 : decode cX6_isHeld 73 = .ok (.istore_n 1, 1) := by decide +kernel
theorem dX6_isHeld_74 : decode cX6_isHeld 74 = .ok (.iinc 2 1, 3) := by decide +kernel
theorem dX6_isHeld_77 : decode cX6_isHeld 77 = .ok (.goto (-73), 3) := by decide +kernel
theorem dX6_isHeld_80 : decode cX6_isHeld 80 = .ok (.iload_n 1, 1) := by decide +kernel
theorem dX6_isHeld_81 : decode cX6_isHeld 81 = .ok (.ifCond .eq 17, 3) := by decide +kernel
theorem dX6_isHeld_84 : decode cX6_isHeld 84 = .ok (.aload_n 0, 1) := by decide +kernel
theorem dX6_isHeld_85 : decode cX6_isHeld 85 = .ok (.getfield 7, 3) := by decide +kernel
theorem dX6_isHeld_88 : decode cX6_isHeld 88 = .ok (.iconst 0, 1) := by decide +kernel
theorem dX6_isHeld_89 : decode cX6_isHeld 89 = .ok (.iaload, 1) := by decide +kernel
theorem dX6_isHeld_90 : decode cX6_isHeld 90 = .ok (.iconst 1, 1) := by decide +kernel
theorem dX6_isHeld_91 : decode cX6_isHeld 91 = .ok (.if_icmp .ne 7, 3) := by decide +kernel
theorem dX6_isHeld_94 : decode cX6_isHeld 94 = .ok (.iconst 1, 1) := by decide +kernel
theorem dX6_isHeld_95 : decode cX6_isHeld 95 = .ok (.goto 4, 3) := by decide +kernel
theorem dX6_isHeld_98 : decode cX6_isHeld 98 = .ok (.iconst 0, 1) := by decide +kernel
theorem dX6_isHeld_99 : decode cX6_isHeld 99 = .ok (.ireturn, 1) := by decide +kernel
theorem dX6_isReady_0 : decode cX6_isReady 0 = .ok (.aload_n 0, 1) := by decide +kernel
theorem dX6_isReady_1 : decode cX6_isReady 1 = .ok (.iload_n 1, 1) := by decide +kernel
theorem dX6_isReady_2 : decode cX6_isReady 2 = .ok (.invokevirtual 29, 3) := by decide +kernel
theorem dX6_isReady_5 : decode cX6_isReady 5 = .ok (.ifCond .ne 45, 3) := by decide +kernel
theorem dX6_isReady_8 : decode cX6_isReady 8 = .ok (.aload_n 0, 1) := by decide +kernel
theorem dX6_isReady_9 : decode cX6_isReady 9 = .ok (.getfield 7, 3) := by decide +kernel
theorem dX6_isReady_12 : decode cX6_isReady 12 = .ok (.aload_n 0, 1) := by decide +kernel
theorem dX6_isReady_13 : decode cX6_isReady 13 = .ok (.iload_n 1, 1) := by decide +kernel
theorem dX6_isReady_14 : decode cX6_isReady 14 = .ok (.invokevirtual 33, 3) := by decide +kernel
theorem dX6_isReady_17 : decode cX6_isReady 17 = .ok (.bipush 6, 2) := by decide +kernel
theorem dX6_isReady_19 : decode cX6_isReady 19 = .ok (.invokestatic 58, 3) := by decide +kernel
theorem dX6_isReady_22 : decode cX6_isReady 22 = .ok (.iaload, 1) := by decide +kernel
theorem dX6_isReady_23 : decode cX6_isReady 23 = .ok (.iconst 1, 1) := by decide +kernel
theorem dX6_isReady_24 : decode cX6_isReady 24 = .ok (.if_icmp .ne 26, 3) := by decide +kernel
theorem dX6_isReady_27 : decode cX6_isReady 27 = .ok (.aload_n 0, 1) := by decide +kernel
theorem dX6_isReady_28 : decode cX6_isReady 28 = .ok (.getfield 7, 3) := by decide +kernel
theorem dX6_isReady_31 : decode cX6_isReady 31 = .ok (.aload_n 0, 1) := by decide +kernel
theorem dX6_isReady_32 : decode cX6_isReady 32 = .ok (.iload_n 1, 1) := by decide +kernel
theorem dX6_isReady_33 : decode cX6_isReady 33 = .ok (.invokevirtual 36, 3) := by decide +kernel
theorem dX6_isReady_36 : decode cX6_isReady 36 = .ok (.bipush 6, 2) := by decide +kernel
theorem dX6_isReady_38 : decode cX6_isReady 38 = .ok (.invokestatic 58, 3) := by decide +kernel
theorem dX6_isReady_41 : decode cX6_isReady 41 = .ok (.iaload, 1) := by decide +kernel
theorem dX6_isReady_42 : decode cX6_isReady 42 = .ok (.iconst 1, 1) := by decide +kernel
theorem dX6_isReady_43 : decode cX6_isReady 43 = .ok (.if_icmp .ne 7, 3) := by decide +kernel
theorem dX6_isReady_46 : decode cX6_isReady 46 = .ok (.iconst 1, 1) := by decide +kernel
theorem dX6_isReady_47 : decode cX6_isReady 47 = .ok (.goto 4, 3) := by decide +kernel
theorem dX6_isReady_50 : decode cX6_isReady 50 = .ok (.iconst 0, 1) := by decide +kernel
theorem dX6_isReady_51 : decode cX6_isReady 51 = .ok (.ireturn, 1) := by decide +kernel
theorem dX6_getsOn_0 : decode cX6_getsOn 0 = .ok (.bipush (-6), 2) := by decide +kernel
theorem dX6_getsOn_2 : decode cX6_getsOn 2 = .ok (.istore_n 1, 1) := by decide +kernel
theorem dX6_getsOn_3 : decode cX6_getsOn 3 = .ok (.aload_n 0, 1) := by decide +kernel
theorem dX6_getsOn_4 : decode cX6_getsOn 4 = .ok (.getfield 7, 3) := by decide +kernel
theorem dX6_getsOn_7 : decode cX6_getsOn 7 = .ok (.bipush 94, 2) := by decide +kernel
theorem dX6_getsOn_9 : decode cX6_getsOn 9 = .ok (.iaload, 1) := by decide +kernel
theorem dX6_getsOn_10 : decode cX6_getsOn 10 = .ok (.iconst 1, 1) := by decide +kernel
theorem dX6_getsOn_11 : decode cX6_getsOn 11 = .ok (.isub, 1) := by decide +kernel
theorem dX6_getsOn_12 : decode cX6_getsOn 12 = .ok (.istore_n 2, 1) := by decide +kernel
theorem dX6_getsOn_13 : decode cX6_getsOn 13 = .ok (.iload_n 2, 1) := by decide +kernel
theorem dX6_getsOn_14 : decode cX6_getsOn 14 = .ok (.ifCond .lt 23, 3) := by decide +kernel
theorem dX6_getsOn_17 : decode cX6_getsOn 17 = .ok (.aload_n 0, 1) := by decide +kernel
theorem dX6_getsOn_18 : decode cX6_getsOn 18 = .ok (.iload_n 2, 1) := by decide +kernel
theorem dX6_getsOn_19 : decode cX6_getsOn 19 = .ok (.invokevirtual 73, 3) := by decide +kernel
theorem dX6_getsOn_22 : decode cX6_getsOn 22 = .ok (.ifCond .eq 7, 3) := by decide +kernel
theorem dX6_getsOn_25 : decode cX6_getsOn 25 = .ok (.iload_n 2, 1) := by decide +kernel
theorem dX6_getsOn_26 : decode cX6_getsOn 26 = .ok (.goto 4, 3) := by decide +kernel
theorem dX6_getsOn_29 : decode cX6_getsOn 29 = .ok (.iload_n 1, 1) := by decide +kernel
theorem dX6_getsOn_30 : decode cX6_getsOn 30 = .ok (.istore_n 1, 1) := by decide +kernel
theorem dX6_getsOn_31 : decode cX6_getsOn 31 = .ok (.iinc 2 (-1), 3) := by decide +kernel
theorem dX6_getsOn_34 : decode cX6_getsOn 34 = .ok (.goto (-21), 3) := by decide +kernel
theorem dX6_getsOn_37 : decode cX6_getsOn 37 = .ok (.iload_n 1, 1) := by decide +kernel
theorem dX6_getsOn_38 : decode cX6_getsOn 38 = .ok (.bipush (-6), 2) := by decide +kernel
theorem dX6_getsOn_40 : decode cX6_getsOn 40 = .ok (.if_icmp .eq 32, 3) := by decide +kernel
theorem dX6_getsOn_43 : decode cX6_getsOn 43 = .ok (.aload_n 0, 1) := by decide +kernel
theorem dX6_getsOn_44 : decode cX6_getsOn 44 = .ok (.getfield 7, 3) := by decide +kernel
theorem dX6_getsOn_47 : decode cX6_getsOn 47 = .ok (.sipush 295, 3) := by decide +kernel
theorem dX6_getsOn_50 : decode cX6_getsOn 50 = .ok (.iload_n 1, 1) := by decide +kernel
theorem dX6_getsOn_51 : decode cX6_getsOn 51 = .ok (.iastore, 1) := by decide +kernel
theorem dX6_getsOn_52 : decode cX6_getsOn 52 = .ok (.aload_n 0, 1) := by decide +kernel
theorem dX6_getsOn_53 : decode cX6_getsOn 53 = .ok (.getfield 7, 3) := by decide +kernel
theorem dX6_getsOn_56 : decode cX6_getsOn 56 = .ok (.sipush 296, 3) := by decide +kernel
theorem dX6_getsOn_59 : decode cX6_getsOn 59 = .ok (.aload_n 0, 1) := by decide +kernel
theorem dX6_getsOn_60 : decode cX6_getsOn 60 = .ok (.getfield 7, 3) := by decide +kernel
theorem dX6_getsOn_63 : decode cX6_getsOn 63 = .ok (.iconst 2, 1) := by decide +kernel
theorem dX6_getsOn_64 : decode cX6_getsOn 64 = .ok (.iaload, 1) := by decide +kernel
theorem dX6_getsOn_65 : decode cX6_getsOn 65 = .ok (.iastore, 1) := by decide +kernel
theorem dX6_getsOn_66 : decode cX6_getsOn 66 = .ok (.aload_n 0, 1) := by decide +kernel
theorem dX6_getsOn_67 : decode cX6_getsOn 67 = .ok (.iload_n 1, 1) := by decide +kernel
theorem dX6_getsOn_68 : decode cX6_getsOn 68 = .ok (.iconst 1, 1) := by decide +kernel
theorem dX6_getsOn_69 : decode cX6_getsOn 69 = .ok (.invokevirtual 39, 3) := by decide +kernel
theorem dX6_getsOn_72 : decode cX6_getsOn 72 = .ok (.return_, 1) := by decide +kernel
theorem dX6_tick_0 : decode cX6_tick 0 = .ok (.iconst 0, 1) := by decide +kernel
theorem dX6_tick_1 : decode cX6_tick 1 = .ok (.istore_n 1, 1) := by decide +kernel
theorem dX6_tick_2 : decode cX6_tick 2 = .ok (.iconst 0, 1) := by decide +kernel
theorem dX6_tick_3 : decode cX6_tick 3 = .ok (.istore_n 2, 1) := by decide +kernel
theorem dX6_tick_4 : decode cX6_tick 4 = .ok (.iload_n 2, 1) := by decide +kernel
theorem dX6_tick_5 : decode cX6_tick 5 = .ok (.iconst 5, 1) := by decide +kernel
theorem dX6_tick_6 : decode cX6_tick 6 = .ok (.if_icmp .ge 64, 3) := by decide +kernel
theorem dX6_tick_9 : decode cX6_tick 9 = .ok (.aload_n 0, 1) := by decide +kernel
theorem dX6_tick_10 : decode cX6_tick 10 = .ok (.iload_n 2, 1) := by decide +kernel
theorem dX6_tick_11 : decode cX6_tick 11 = .ok (.invokevirtual 76, 3) := by decide +kernel
theorem dX6_tick_14 : decode cX6_tick 14 = .ok (.istore_n 3, 1) := by decide +kernel
theorem dX6_tick_15 : decode cX6_tick 15 = .ok (.iload_n 3, 1) := by decide +kernel
theorem dX6_tick_16 : decode cX6_tick 16 = .ok (.bipush (-6), 2) := by decide +kernel
theorem dX6_tick_18 : decode cX6_tick 18 = .ok (.if_icmp .eq 28, 3) := by decide +kernel
theorem dX6_tick_21 : decode cX6_tick 21 = .ok (.aload_n 0, 1) := by decide +kernel
theorem dX6_tick_22 : decode cX6_tick 22 = .ok (.getfield 7, 3) := by decide +kernel
theorem dX6_tick_25 : decode cX6_tick 25 = .ok (.iload_n 3, 1) := by decide +kernel
theorem dX6_tick_26 : decode cX6_tick 26 = .ok (.iconst 4, 1) := by decide +kernel
theorem dX6_tick_27 : decode cX6_tick 27 = .ok (.invokestatic 58, 3) := by decide +kernel
theorem dX6_tick_30 : decode cX6_tick 30 = .ok (.iaload, 1) := by decide +kernel
theorem dX6_tick_31 : decode cX6_tick 31 = .ok (.ifCond .eq 15, 3) := by decide +kernel
theorem dX6_tick_34 : decode cX6_tick 34 = .ok (.aload_n 0, 1) := by decide +kernel
theorem dX6_tick_35 : decode cX6_tick 35 = .ok (.iload_n 3, 1) := by decide +kernel
theorem dX6_tick_36 : decode cX6_tick 36 = .ok (.invokevirtual 79, 3) := by decide +kernel
theorem dX6_tick_39 : decode cX6_tick 39 = .ok (.ifCond .eq 7, 3) := by decide +kernel
theorem dX6_tick_42 : decode cX6_tick 42 = .ok (.iconst 1, 1) := by decide +kernel
theorem dX6_tick_43 : decode cX6_tick 43 = .ok (.goto 4, 3) := by decide +kernel
theorem dX6_tick_46 : decode cX6_tick 46 = .ok (.iconst 0, 1) := by decide +kernel
theorem dX6_tick_47 : decode cX6_tick 47 = .ok (.istore 4, 2) := by decide +kernel
theorem dX6_tick_49 : decode cX6_tick 49 = .ok (.iload_n 1, 1) := by decide +kernel
theorem dX6_tick_50 : decode cX6_tick 50 = .ok (.ifCond .ne 8, 3) := by decide +kernel
theorem dX6_tick_53 : decode cX6_tick 53 = .ok (.iload 4, 2) := by decide +kernel
theorem dX6_tick_55 : decode cX6_tick 55 = .ok (.ifCond .eq 7, 3) := by decide +kernel
theorem dX6_tick_58 : decode cX6_tick 58 = .ok (.iconst 1, 1) := by decide +kernel
theorem dX6_tick_59 : decode cX6_tick 59 = .ok (.goto 4, 3) := by decide +kernel
theorem dX6_tick_62 : decode cX6_tick 62 = .ok (.iconst 0, 1) := by decide +kernel
theorem dX6_tick_63 : decode cX6_tick 63 = .ok (.istore_n 1, 1) := by decide +kernel
theorem dX6_tick_64 : decode cX6_tick 64 = .ok (.iinc 2 1, 3) := by decide +kernel
theorem dX6_tick_67 : decode cX6_tick 67 = .ok (.goto (-63), 3) := by decide +kernel
theorem dX6_tick_70 : decode cX6_tick 70 = .ok (.aload_n 0, 1) := by decide +kernel
theorem dX6_tick_71 : decode cX6_tick 71 = .ok (.getfield 7, 3) := by decide +kernel
theorem dX6_tick_74 : decode cX6_tick 74 = .ok (.sipush 298, 3) := by decide +kernel
theorem dX6_tick_77 : decode cX6_tick 77 = .ok (.dup2, 1) := by decide +kernel
theorem dX6_tick_78 : decode cX6_tick 78 = .ok (.iaload, 1) := by decide +kernel
theorem dX6_tick_79 : decode cX6_tick 79 = .ok (.iload_n 1, 1) := by decide +kernel
theorem dX6_tick_80 : decode cX6_tick 80 = .ok (.ifCond .eq 7, 3) := by decide +kernel
theorem dX6_tick_83 : decode cX6_tick 83 = .ok (.iconst 1, 1) := by decide +kernel
theorem dX6_tick_84 : decode cX6_tick 84 = .ok (.goto 4, 3) := by decide +kernel
theorem dX6_tick_87 : decode cX6_tick 87 = .ok (.iconst 0, 1) := by decide +kernel
theorem dX6_tick_88 : decode cX6_tick 88 = .ok (.iadd, 1) := by decide +kernel
theorem dX6_tick_89 : decode cX6_tick 89 = .ok (.iastore, 1) := by decide +kernel
theorem dX6_tick_90 : decode cX6_tick 90 = .ok (.iconst 0, 1) := by decide +kernel
theorem dX6_tick_91 : decode cX6_tick 91 = .ok (.istore_n 2, 1) := by decide +kernel
theorem dX6_tick_92 : decode cX6_tick 92 = .ok (.iload_n 2, 1) := by decide +kernel
theorem dX6_tick_93 : decode cX6_tick 93 = .ok (.iconst 5, 1) := by decide +kernel
theorem dX6_tick_94 : decode cX6_tick 94 = .ok (.if_icmp .ge 28, 3) := by decide +kernel
theorem dX6_tick_97 : decode cX6_tick 97 = .ok (.aload_n 0, 1) := by decide +kernel
theorem dX6_tick_98 : decode cX6_tick 98 = .ok (.iload_n 2, 1) := by decide +kernel
theorem dX6_tick_99 : decode cX6_tick 99 = .ok (.invokevirtual 76, 3) := by decide +kernel
theorem dX6_tick_102 : decode cX6_tick 102 = .ok (.bipush (-6), 2) := by decide +kernel
theorem dX6_tick_104 : decode cX6_tick 104 = .ok (.if_icmp .eq 12, 3) := by decide +kernel
theorem dX6_tick_107 : decode cX6_tick 107 = .ok (.aload_n 0, 1) := by decide +kernel
theorem dX6_tick_108 : decode cX6_tick 108 = .ok (.aload_n 0, 1) := by decide +kernel
theorem dX6_tick_109 : decode cX6_tick 109 = .ok (.iload_n 2, 1) := by decide +kernel
theorem dX6_tick_110 : decode cX6_tick 110 = .ok (.invokevirtual 76, 3) := by decide +kernel
theorem dX6_tick_113 : decode cX6_tick 113 = .ok (.invokevirtual 82, 3) := by decide +kernel
theorem dX6_tick_116 : decode cX6_tick 116 = .ok (.iinc 2 1, 3) := by decide +kernel
theorem dX6_tick_119 : decode cX6_tick 119 = .ok (.goto (-27), 3) := by decide +kernel
theorem dX6_tick_122 : decode cX6_tick 122 = .ok (.iconst 0, 1) := by decide +kernel
theorem dX6_tick_123 : decode cX6_tick 123 = .ok (.istore_n 2, 1) := by decide +kernel
theorem dX6_tick_124 : decode cX6_tick 124 = .ok (.iload_n 2, 1) := by decide +kernel
theorem dX6_tick_125 : decode cX6_tick 125 = .ok (.aload_n 0, 1) := by decide +kernel
theorem dX6_tick_126 : decode cX6_tick 126 = .ok (.getfield 7, 3) := by decide +kernel
theorem dX6_tick_129 : decode cX6_tick 129 = .ok (.iconst 5, 1) := by decide +kernel
theorem dX6_tick_130 : decode cX6_tick 130 = .ok (.iaload, 1) := by decide +kernel
theorem dX6_tick_131 : decode cX6_tick 131 = .ok (.if_icmp .ge 14, 3) := by decide +kernel
theorem dX6_tick_134 : decode cX6_tick 134 = .ok (.aload_n 0, 1) := by decide +kernel
theorem dX6_tick_135 : decode cX6_tick 135 = .ok (.iload_n 2, 1) := by decide +kernel
theorem dX6_tick_136 : decode cX6_tick 136 = .ok (.invokevirtual 85, 3) := by decide +kernel
theorem dX6_tick_139 : decode cX6_tick 139 = .ok (.iinc 2 1, 3) := by decide +kernel
theorem dX6_tick_142 : decode cX6_tick 142 = .ok (.goto (-18), 3) := by decide +kernel
theorem dX6_tick_145 : decode cX6_tick 145 = .ok (.aload_n 0, 1) := by decide +kernel
theorem dX6_tick_146 : decode cX6_tick 146 = .ok (.iload_n 1, 1) := by decide +kernel
theorem dX6_tick_147 : decode cX6_tick 147 = .ok (.invokevirtual 88, 3) := by decide +kernel
theorem dX6_tick_150 : decode cX6_tick 150 = .ok (.aload_n 0, 1) := by decide +kernel
theorem dX6_tick_151 : decode cX6_tick 151 = .ok (.getfield 7, 3) := by decide +kernel
theorem dX6_tick_154 : decode cX6_tick 154 = .ok (.sipush 295, 3) := by decide +kernel
theorem dX6_tick_157 : decode cX6_tick 157 = .ok (.iaload, 1) := by decide +kernel
theorem dX6_tick_158 : decode cX6_tick 158 = .ok (.bipush (-6), 2) := by decide +kernel
theorem dX6_tick_160 : decode cX6_tick 160 = .ok (.if_icmp .ne 14, 3) := by decide +kernel
theorem dX6_tick_163 : decode cX6_tick 163 = .ok (.aload_n 0, 1) := by decide +kernel
theorem dX6_tick_164 : decode cX6_tick 164 = .ok (.invokevirtual 92, 3) := by decide +kernel
theorem dX6_tick_167 : decode cX6_tick 167 = .ok (.ifCond .ne 7, 3) := by decide +kernel
theorem dX6_tick_170 : decode cX6_tick 170 = .ok (.aload_n 0, 1) := by decide +kernel
theorem dX6_tick_171 : decode cX6_tick 171 = .ok (.invokevirtual 96, 3) := by decide +kernel
theorem dX6_tick_174 : decode cX6_tick 174 = .ok (.aload_n 0, 1) := by decide +kernel
theorem dX6_tick_175 : decode cX6_tick 175 = .ok (.getfield 7, 3) := by decide +kernel
theorem dX6_tick_178 : decode cX6_tick 178 = .ok (.sipush 297, 3) := by decide +kernel
theorem dX6_tick_181 : decode cX6_tick 181 = .ok (.dup2, 1) := by decide +kernel
theorem dX6_tick_182 : decode cX6_tick 182 = .ok (.iaload, 1) := by decide +kernel
theorem dX6_tick_183 : decode cX6_tick 183 = .ok (.iconst 1, 1) := by decide +kernel
theorem dX6_tick_184 : decode cX6_tick 184 = .ok (.iadd, 1) := by decide +kernel
theorem dX6_tick_185 : decode cX6_tick 185 = .ok (.iastore, 1) := by decide +kernel
theorem dX6_tick_186 : decode cX6_tick 186 = .ok (.return_, 1) := by decide +kernel
theorem dX6_passes_0 : decode cX6_passes 0 = .ok (.iload_n 1, 1) := by decide +kernel
theorem dX6_passes_1 : decode cX6_passes 1 = .ok (.iconst 1, 1) := by decide +kernel
theorem dX6_passes_2 : decode cX6_passes 2 = .ok (.bipush 99, 2) := by decide +kernel
theorem dX6_passes_4 : decode cX6_passes 4 = .ok (.invokestatic 25, 3) := by decide +kernel
theorem dX6_passes_7 : decode cX6_passes 7 = .ok (.ifCond .ne 6, 3) := by decide +kernel
theorem dX6_passes_10 : decode cX6_passes 10 = .ok (.bipush (-2), 2) := by decide +kernel
theorem dX6_passes_12 : decode cX6_passes 12 = .ok (.ireturn, 1) := by decide +kernel
theorem dX6_passes_13 : decode cX6_passes 13 = .ok (.aload_n 0, 1) := by decide +kernel
theorem dX6_passes_14 : decode cX6_passes 14 = .ok (.getfield 7, 3) := by decide +kernel
theorem dX6_passes_17 : decode cX6_passes 17 = .ok (.sipush 297, 3) := by decide +kernel
theorem dX6_passes_20 : decode cX6_passes 20 = .ok (.iaload, 1) := by decide +kernel
theorem dX6_passes_21 : decode cX6_passes 21 = .ok (.iload_n 1, 1) := by decide +kernel
theorem dX6_passes_22 : decode cX6_passes 22 = .ok (.iadd, 1) := by decide +kernel
theorem dX6_passes_23 : decode cX6_passes 23 = .ok (.sipush 9999, 3) := by decide +kernel
theorem dX6_passes_26 : decode cX6_passes 26 = .ok (.if_icmp .le 6, 3) := by decide +kernel
theorem dX6_passes_29 : decode cX6_passes 29 = .ok (.bipush (-5), 2) := by decide +kernel
theorem dX6_passes_31 : decode cX6_passes 31 = .ok (.ireturn, 1) := by decide +kernel
theorem dX6_passes_32 : decode cX6_passes 32 = .ok (.aload_n 0, 1) := by decide +kernel
theorem dX6_passes_33 : decode cX6_passes 33 = .ok (.getfield 7, 3) := by decide +kernel
theorem dX6_passes_36 : decode cX6_passes 36 = .ok (.sipush 300, 3) := by decide +kernel
theorem dX6_passes_39 : decode cX6_passes 39 = .ok (.iaload, 1) := by decide +kernel
theorem dX6_passes_40 : decode cX6_passes 40 = .ok (.istore_n 2, 1) := by decide +kernel
theorem dX6_passes_41 : decode cX6_passes 41 = .ok (.iconst 0, 1) := by decide +kernel
theorem dX6_passes_42 : decode cX6_passes 42 = .ok (.istore_n 3, 1) := by decide +kernel
theorem dX6_passes_43 : decode cX6_passes 43 = .ok (.iload_n 3, 1) := by decide +kernel
theorem dX6_passes_44 : decode cX6_passes 44 = .ok (.iload_n 1, 1) := by decide +kernel
theorem dX6_passes_45 : decode cX6_passes 45 = .ok (.if_icmp .ge 13, 3) := by decide +kernel
theorem dX6_passes_48 : decode cX6_passes 48 = .ok (.aload_n 0, 1) := by decide +kernel
theorem dX6_passes_49 : decode cX6_passes 49 = .ok (.invokevirtual 99, 3) := by decide +kernel
theorem dX6_passes_52 : decode cX6_passes 52 = .ok (.iinc 3 1, 3) := by decide +kernel
theorem dX6_passes_55 : decode cX6_passes 55 = .ok (.goto (-12), 3) := by decide +kernel
theorem dX6_passes_58 : decode cX6_passes 58 = .ok (.aload_n 0, 1) := by decide +kernel
theorem dX6_passes_59 : decode cX6_passes 59 = .ok (.getfield 7, 3) := by decide +kernel
theorem dX6_passes_62 : decode cX6_passes 62 = .ok (.sipush 300, 3) := by decide +kernel
theorem dX6_passes_65 : decode cX6_passes 65 = .ok (.iaload, 1) := by decide +kernel
theorem dX6_passes_66 : decode cX6_passes 66 = .ok (.iload_n 2, 1) := by decide +kernel
theorem dX6_passes_67 : decode cX6_passes 67 = .ok (.isub, 1) := by decide +kernel
theorem dX6_passes_68 : decode cX6_passes 68 = .ok (.ireturn, 1) := by decide +kernel
theorem dX6_least_0 : decode cX6_least 0 = .ok (.iload_n 0, 1) := by decide +kernel
theorem dX6_least_1 : decode cX6_least 1 = .ok (.ifCond .ne 7, 3) := by decide +kernel
theorem dX6_least_4 : decode cX6_least 4 = .ok (.iconst 0, 1) := by decide +kernel
theorem dX6_least_5 : decode cX6_least 5 = .ok (.goto 14, 3) := by decide +kernel
theorem dX6_least_8 : decode cX6_least 8 = .ok (.iload_n 0, 1) := by decide +kernel
theorem dX6_least_9 : decode cX6_least 9 = .ok (.iconst 4, 1) := by decide +kernel
theorem dX6_least_10 : decode cX6_least 10 = .ok (.if_icmp .ne 8, 3) := by decide +kernel
theorem dX6_least_13 : decode cX6_least 13 = .ok (.bipush 10, 2) := by decide +kernel
theorem dX6_least_15 : decode cX6_least 15 = .ok (.goto 4, 3) := by decide +kernel
theorem dX6_least_18 : decode cX6_least 18 = .ok (.iconst 1, 1) := by decide +kernel
theorem dX6_least_19 : decode cX6_least 19 = .ok (.ireturn, 1) := by decide +kernel
theorem dX6_most_0 : decode cX6_most 0 = .ok (.iload_n 0, 1) := by decide +kernel
theorem dX6_most_1 : decode cX6_most 1 = .ok (.ifCond .ne 7, 3) := by decide +kernel
theorem dX6_most_4 : decode cX6_most 4 = .ok (.iconst 1, 1) := by decide +kernel
theorem dX6_most_5 : decode cX6_most 5 = .ok (.goto 26, 3) := by decide +kernel
theorem dX6_most_8 : decode cX6_most 8 = .ok (.iload_n 0, 1) := by decide +kernel
theorem dX6_most_9 : decode cX6_most 9 = .ok (.iconst 1, 1) := by decide +kernel
theorem dX6_most_10 : decode cX6_most 10 = .ok (.if_icmp .ne 8, 3) := by decide +kernel
theorem dX6_most_13 : decode cX6_most 13 = .ok (.bipush 50, 2) := by decide +kernel
theorem dX6_most_15 : decode cX6_most 15 = .ok (.goto 16, 3) := by decide +kernel
theorem dX6_most_18 : decode cX6_most 18 = .ok (.iload_n 0, 1) := by decide +kernel
theorem dX6_most_19 : decode cX6_most 19 = .ok (.iconst 4, 1) := by decide +kernel
theorem dX6_most_20 : decode cX6_most 20 = .ok (.if_icmp .ne 9, 3) := by decide +kernel
theorem dX6_most_23 : decode cX6_most 23 = .ok (.sipush 300, 3) := by decide +kernel
theorem dX6_most_26 : decode cX6_most 26 = .ok (.goto 5, 3) := by decide +kernel
theorem dX6_most_29 : decode cX6_most 29 = .ok (.bipush 9, 2) := by decide +kernel
theorem dX6_most_31 : decode cX6_most 31 = .ok (.ireturn, 1) := by decide +kernel
theorem dX6_set_0 : decode cX6_set 0 = .ok (.aload_n 0, 1) := by decide +kernel
theorem dX6_set_1 : decode cX6_set 1 = .ok (.invokevirtual 102, 3) := by decide +kernel
theorem dX6_set_4 : decode cX6_set 4 = .ok (.iload_n 1, 1) := by decide +kernel
theorem dX6_set_5 : decode cX6_set 5 = .ok (.iconst 0, 1) := by decide +kernel
theorem dX6_set_6 : decode cX6_set 6 = .ok (.iconst 4, 1) := by decide +kernel
theorem dX6_set_7 : decode cX6_set 7 = .ok (.invokestatic 25, 3) := by decide +kernel
theorem dX6_set_10 : decode cX6_set 10 = .ok (.ifCond .eq 18, 3) := by decide +kernel
theorem dX6_set_13 : decode cX6_set 13 = .ok (.iload_n 2, 1) := by decide +kernel
theorem dX6_set_14 : decode cX6_set 14 = .ok (.iload_n 1, 1) := by decide +kernel
theorem dX6_set_15 : decode cX6_set 15 = .ok (.invokestatic 105, 3) := by decide +kernel
theorem dX6_set_18 : decode cX6_set 18 = .ok (.iload_n 1, 1) := by decide +kernel
theorem dX6_set_19 : decode cX6_set 19 = .ok (.invokestatic 108, 3) := by decide +kernel
theorem dX6_set_22 : decode cX6_set 22 = .ok (.invokestatic 25, 3) := by decide +kernel
theorem dX6_set_25 : decode cX6_set 25 = .ok (.ifCond .ne 6, 3) := by decide +kernel
theorem dX6_set_28 : decode cX6_set 28 = .ok (.bipush (-2), 2) := by decide +kernel
theorem dX6_set_30 : decode cX6_set 30 = .ok (.ireturn, 1) := by decide +kernel
theorem dX6_set_31 : decode cX6_set 31 = .ok (.aload_n 0, 1) := by decide +kernel
theorem dX6_set_32 : decode cX6_set 32 = .ok (.getfield 7, 3) := by decide +kernel
theorem dX6_set_35 : decode cX6_set 35 = .ok (.iload_n 1, 1) := by decide +kernel
theorem dX6_set_36 : decode cX6_set 36 = .ok (.iaload, 1) := by decide +kernel
theorem dX6_set_37 : decode cX6_set 37 = .ok (.istore_n 3, 1) := by decide +kernel
theorem dX6_set_38 : decode cX6_set 38 = .ok (.aload_n 0, 1) := by decide +kernel
theorem dX6_set_39 : decode cX6_set 39 = .ok (.getfield 7, 3) := by decide +kernel
theorem dX6_set_42 : decode cX6_set 42 = .ok (.iload_n 1, 1) := by decide +kernel
theorem dX6_set_43 : decode cX6_set 43 = .ok (.iload_n 2, 1) := by decide +kernel
theorem dX6_set_44 : decode cX6_set 44 = .ok (.iastore, 1) := by decide +kernel
theorem dX6_set_45 : decode cX6_set 45 = .ok (.aload_n 0, 1) := by decide +kernel
theorem dX6_set_46 : decode cX6_set 46 = .ok (.iload_n 3, 1) := by decide +kernel
theorem dX6_set_47 : decode cX6_set 47 = .ok (.invokevirtual 111, 3) := by decide +kernel
theorem dX6_set_50 : decode cX6_set 50 = .ok (.ireturn, 1) := by decide +kernel
theorem dX6_comes_0 : decode cX6_comes 0 = .ok (.iload_n 1, 1) := by decide +kernel
theorem dX6_comes_1 : decode cX6_comes 1 = .ok (.iconst 0, 1) := by decide +kernel
theorem dX6_comes_2 : decode cX6_comes 2 = .ok (.bipush 99, 2) := by decide +kernel
theorem dX6_comes_4 : decode cX6_comes 4 = .ok (.invokestatic 25, 3) := by decide +kernel
theorem dX6_comes_7 : decode cX6_comes 7 = .ok (.ifCond .eq 13, 3) := by decide +kernel
theorem dX6_comes_10 : decode cX6_comes 10 = .ok (.iload_n 2, 1) := by decide +kernel
theorem dX6_comes_11 : decode cX6_comes 11 = .ok (.iconst 1, 1) := by decide +kernel
theorem dX6_comes_12 : decode cX6_comes 12 = .ok (.bipush 60, 2) := by decide +kernel
theorem dX6_comes_14 : decode cX6_comes 14 = .ok (.invokestatic 25, 3) := by decide +kernel
theorem dX6_comes_17 : decode cX6_comes 17 = .ok (.ifCond .ne 6, 3) := by decide +kernel
theorem dX6_comes_20 : decode cX6_comes 20 = .ok (.bipush (-2), 2) := by decide +kernel
theorem dX6_comes_22 : decode cX6_comes 22 = .ok (.ireturn, 1) := by decide +kernel
theorem dX6_comes_23 : decode cX6_comes 23 = .ok (.aload_n 0, 1) := by decide +kernel
theorem dX6_comes_24 : decode cX6_comes 24 = .ok (.getfield 7, 3) := by decide +kernel
theorem dX6_comes_27 : decode cX6_comes 27 = .ok (.iconst 5, 1) := by decide +kernel
theorem dX6_comes_28 : decode cX6_comes 28 = .ok (.iaload, 1) := by decide +kernel
theorem dX6_comes_29 : decode cX6_comes 29 = .ok (.bipush 8, 2) := by decide +kernel
theorem dX6_comes_31 : decode cX6_comes 31 = .ok (.if_icmp .ne 6, 3) := by decide +kernel
theorem dX6_comes_34 : decode cX6_comes 34 = .ok (.bipush (-4), 2) := by decide +kernel
theorem dX6_comes_36 : decode cX6_comes 36 = .ok (.ireturn, 1) := by decide +kernel
theorem dX6_comes_37 : decode cX6_comes 37 = .ok (.aload_n 0, 1) := by decide +kernel
theorem dX6_comes_38 : decode cX6_comes 38 = .ok (.getfield 7, 3) := by decide +kernel
theorem dX6_comes_41 : decode cX6_comes 41 = .ok (.iconst 5, 1) := by decide +kernel
theorem dX6_comes_42 : decode cX6_comes 42 = .ok (.iaload, 1) := by decide +kernel
theorem dX6_comes_43 : decode cX6_comes 43 = .ok (.istore_n 3, 1) := by decide +kernel
theorem dX6_comes_44 : decode cX6_comes 44 = .ok (.aload_n 0, 1) := by decide +kernel
theorem dX6_comes_45 : decode cX6_comes 45 = .ok (.getfield 7, 3) := by decide +kernel
theorem dX6_comes_48 : decode cX6_comes 48 = .ok (.iconst 5, 1) := by decide +kernel
theorem dX6_comes_49 : decode cX6_comes 49 = .ok (.dup2, 1) := by decide +kernel
theorem dX6_comes_50 : decode cX6_comes 50 = .ok (.iaload, 1) := by decide +kernel
theorem dX6_comes_51 : decode cX6_comes 51 = .ok (.iconst 1, 1) := by decide +kernel
theorem dX6_comes_52 : decode cX6_comes 52 = .ok (.iadd, 1) := by decide +kernel
theorem dX6_comes_53 : decode cX6_comes 53 = .ok (.iastore, 1) := by decide +kernel
theorem dX6_comes_54 : decode cX6_comes 54 = .ok (.aload_n 0, 1) := by decide +kernel
theorem dX6_comes_55 : decode cX6_comes 55 = .ok (.getfield 7, 3) := by decide +kernel
theorem dX6_comes_58 : decode cX6_comes 58 = .ok (.iload_n 3, 1) := by decide +kernel
theorem dX6_comes_59 : decode cX6_comes 59 = .ok (.iconst 0, 1) := by decide +kernel
theorem dX6_comes_60 : decode cX6_comes 60 = .ok (.invokestatic 58, 3) := by decide +kernel
theorem dX6_comes_63 : decode cX6_comes 63 = .ok (.iload_n 1, 1) := by decide +kernel
theorem dX6_comes_64 : decode cX6_comes 64 = .ok (.iastore, 1) := by decide +kernel
theorem dX6_comes_65 : decode cX6_comes 65 = .ok (.aload_n 0, 1) := by decide +kernel
theorem dX6_comes_66 : decode cX6_comes 66 = .ok (.getfield 7, 3) := by decide +kernel
theorem dX6_comes_69 : decode cX6_comes 69 = .ok (.iload_n 3, 1) := by decide +kernel
theorem dX6_comes_70 : decode cX6_comes 70 = .ok (.iconst 1, 1) := by decide +kernel
theorem dX6_comes_71 : decode cX6_comes 71 = .ok (.invokestatic 58, 3) := by decide +kernel
theorem dX6_comes_74 : decode cX6_comes 74 = .ok (.iload_n 2, 1) := by decide +kernel
theorem dX6_comes_75 : decode cX6_comes 75 = .ok (.iastore, 1) := by decide +kernel
theorem dX6_comes_76 : decode cX6_comes 76 = .ok (.aload_n 0, 1) := by decide +kernel
theorem dX6_comes_77 : decode cX6_comes 77 = .ok (.getfield 7, 3) := by decide +kernel
theorem dX6_comes_80 : decode cX6_comes 80 = .ok (.iload_n 3, 1) := by decide +kernel
theorem dX6_comes_81 : decode cX6_comes 81 = .ok (.iconst 2, 1) := by decide +kernel
theorem dX6_comes_82 : decode cX6_comes 82 = .ok (.invokestatic 58, 3) := by decide +kernel
theorem dX6_comes_85 : decode cX6_comes 85 = .ok (.bipush (-6), 2) := by decide +kernel
theorem dX6_comes_87 : decode cX6_comes 87 = .ok (.iastore, 1) := by decide +kernel
theorem dX6_comes_88 : decode cX6_comes 88 = .ok (.iload_n 3, 1) := by decide +kernel
theorem dX6_comes_89 : decode cX6_comes 89 = .ok (.ireturn, 1) := by decide +kernel
theorem dX6_board_0 : decode cX6_board 0 = .ok (.aload_n 0, 1) := by decide +kernel
theorem dX6_board_1 : decode cX6_board 1 = .ok (.invokevirtual 102, 3) := by decide +kernel
theorem dX6_board_4 : decode cX6_board 4 = .ok (.aload_n 0, 1) := by decide +kernel
theorem dX6_board_5 : decode cX6_board 5 = .ok (.aload_n 0, 1) := by decide +kernel
theorem dX6_board_6 : decode cX6_board 6 = .ok (.iload_n 1, 1) := by decide +kernel
theorem dX6_board_7 : decode cX6_board 7 = .ok (.iload_n 2, 1) := by decide +kernel
theorem dX6_board_8 : decode cX6_board 8 = .ok (.invokevirtual 114, 3) := by decide +kernel
theorem dX6_board_11 : decode cX6_board 11 = .ok (.invokevirtual 111, 3) := by decide +kernel
theorem dX6_board_14 : decode cX6_board 14 = .ok (.ireturn, 1) := by decide +kernel
theorem dX6_plugs_0 : decode cX6_plugs 0 = .ok (.aload_n 0, 1) := by decide +kernel
theorem dX6_plugs_1 : decode cX6_plugs 1 = .ok (.iload_n 1, 1) := by decide +kernel
theorem dX6_plugs_2 : decode cX6_plugs 2 = .ok (.invokevirtual 117, 3) := by decide +kernel
theorem dX6_plugs_5 : decode cX6_plugs 5 = .ok (.ifCond .eq 10, 3) := by decide +kernel
theorem dX6_plugs_8 : decode cX6_plugs 8 = .ok (.iload_n 2, 1) := by decide +kernel
theorem dX6_plugs_9 : decode cX6_plugs 9 = .ok (.invokestatic 120, 3) := by decide +kernel
theorem dX6_plugs_12 : decode cX6_plugs 12 = .ok (.ifCond .ne 5, 3) := by decide +kernel
theorem dX6_plugs_15 : decode cX6_plugs 15 = .ok (.iconst (-1), 1) := by decide +kernel
theorem dX6_plugs_16 : decode cX6_plugs 16 = .ok (.ireturn, 1) := by decide +kernel
theorem dX6_plugs_17 : decode cX6_plugs 17 = .ok (.iload_n 3, 1) := by decide +kernel
theorem dX6_plugs_18 : decode cX6_plugs 18 = .ok (.iconst 1, 1) := by decide +kernel
theorem dX6_plugs_19 : decode cX6_plugs 19 = .ok (.bipush 24, 2) := by decide +kernel
theorem dX6_plugs_21 : decode cX6_plugs 21 = .ok (.invokestatic 25, 3) := by decide +kernel
theorem dX6_plugs_24 : decode cX6_plugs 24 = .ok (.ifCond .ne 6, 3) := by decide +kernel
theorem dX6_plugs_27 : decode cX6_plugs 27 = .ok (.bipush (-2), 2) := by decide +kernel
theorem dX6_plugs_29 : decode cX6_plugs 29 = .ok (.ireturn, 1) := by decide +kernel
theorem dX6_plugs_30 : decode cX6_plugs 30 = .ok (.aload_n 0, 1) := by decide +kernel
theorem dX6_plugs_31 : decode cX6_plugs 31 = .ok (.iload_n 2, 1) := by decide +kernel
theorem dX6_plugs_32 : decode cX6_plugs 32 = .ok (.invokevirtual 76, 3) := by decide +kernel
theorem dX6_plugs_35 : decode cX6_plugs 35 = .ok (.istore 4, 2) := by decide +kernel
theorem dX6_plugs_37 : decode cX6_plugs 37 = .ok (.aload_n 0, 1) := by decide +kernel
theorem dX6_plugs_38 : decode cX6_plugs 38 = .ok (.getfield 7, 3) := by decide +kernel
theorem dX6_plugs_41 : decode cX6_plugs 41 = .ok (.iload_n 1, 1) := by decide +kernel
theorem dX6_plugs_42 : decode cX6_plugs 42 = .ok (.iconst 2, 1) := by decide +kernel
theorem dX6_plugs_43 : decode cX6_plugs 43 = .ok (.invokestatic 58, 3) := by decide +kernel
theorem dX6_plugs_46 : decode cX6_plugs 46 = .ok (.iaload, 1) := by decide +kernel
theorem dX6_plugs_47 : decode cX6_plugs 47 = .ok (.istore 5, 2) := by decide +kernel
theorem dX6_plugs_49 : decode cX6_plugs 49 = .ok (.iload 5, 2) := by decide +kernel
theorem dX6_plugs_51 : decode cX6_plugs 51 = .ok (.iload_n 2, 1) := by decide +kernel
theorem dX6_plugs_52 : decode cX6_plugs 52 = .ok (.if_icmp .eq 17, 3) := by decide +kernel
theorem dX6_plugs_55 : decode cX6_plugs 55 = .ok (.iload 5, 2) := by decide +kernel
theorem dX6_plugs_57 : decode cX6_plugs 57 = .ok (.bipush (-6), 2) := by decide +kernel
theorem dX6_plugs_59 : decode cX6_plugs 59 = .ok (.if_icmp .ne 14, 3) := by decide +kernel
theorem dX6_plugs_62 : decode cX6_plugs 62 = .ok (.iload 4, 2) := by decide +kernel
theorem dX6_plugs_64 : decode cX6_plugs 64 = .ok (.bipush (-6), 2) := by decide +kernel
theorem dX6_plugs_66 : decode cX6_plugs 66 = .ok (.if_icmp .ne 7, 3) := by decide +kernel
theorem dX6_plugs_69 : decode cX6_plugs 69 = .ok (.iconst 1, 1) := by decide +kernel
theorem dX6_plugs_70 : decode cX6_plugs 70 = .ok (.goto 4, 3) := by decide +kernel
theorem dX6_plugs_73 : decode cX6_plugs 73 = .ok (.iconst 0, 1) := by decide +kernel
theorem dX6_plugs_74 : decode cX6_plugs 74 = .ok (.istore 6, 2) := by decide +kernel
theorem dX6_plugs_76 : decode cX6_plugs 76 = .ok (.iload 6, 2) := by decide +kernel
theorem dX6_plugs_78 : decode cX6_plugs 78 = .ok (.ifCond .eq 18, 3) := by decide +kernel
theorem dX6_plugs_81 : decode cX6_plugs 81 = .ok (.aload_n 0, 1) := by decide +kernel
theorem dX6_plugs_82 : decode cX6_plugs 82 = .ok (.getfield 7, 3) := by decide +kernel
theorem dX6_plugs_85 : decode cX6_plugs 85 = .ok (.iload_n 1, 1) := by decide +kernel
theorem dX6_plugs_86 : decode cX6_plugs 86 = .ok (.iconst 3, 1) := by decide +kernel
theorem dX6_plugs_87 : decode cX6_plugs 87 = .ok (.invokestatic 58, 3) := by decide +kernel
theorem dX6_plugs_90 : decode cX6_plugs 90 = .ok (.iaload, 1) := by decide +kernel
theorem dX6_plugs_91 : decode cX6_plugs 91 = .ok (.bipush 24, 2) := by decide +kernel
theorem dX6_plugs_93 : decode cX6_plugs 93 = .ok (.if_icmp .ne 6, 3) := by decide +kernel
theorem dX6_plugs_96 : decode cX6_plugs 96 = .ok (.bipush (-5), 2) := by decide +kernel
theorem dX6_plugs_98 : decode cX6_plugs 98 = .ok (.ireturn, 1) := by decide +kernel
theorem dX6_plugs_99 : decode cX6_plugs 99 = .ok (.aload_n 0, 1) := by decide +kernel
theorem dX6_plugs_100 : decode cX6_plugs 100 = .ok (.getfield 7, 3) := by decide +kernel
theorem dX6_plugs_103 : decode cX6_plugs 103 = .ok (.iload_n 1, 1) := by decide +kernel
theorem dX6_plugs_104 : decode cX6_plugs 104 = .ok (.iconst 2, 1) := by decide +kernel
theorem dX6_plugs_105 : decode cX6_plugs 105 = .ok (.invokestatic 58, 3) := by decide +kernel
theorem dX6_plugs_108 : decode cX6_plugs 108 = .ok (.iload_n 2, 1) := by decide +kernel
theorem dX6_plugs_109 : decode cX6_plugs 109 = .ok (.iastore, 1) := by decide +kernel
theorem dX6_plugs_110 : decode cX6_plugs 110 = .ok (.aload_n 0, 1) := by decide +kernel
theorem dX6_plugs_111 : decode cX6_plugs 111 = .ok (.getfield 7, 3) := by decide +kernel
theorem dX6_plugs_114 : decode cX6_plugs 114 = .ok (.iload_n 1, 1) := by decide +kernel
theorem dX6_plugs_115 : decode cX6_plugs 115 = .ok (.iconst 4, 1) := by decide +kernel
theorem dX6_plugs_116 : decode cX6_plugs 116 = .ok (.invokestatic 58, 3) := by decide +kernel
theorem dX6_plugs_119 : decode cX6_plugs 119 = .ok (.iload_n 3, 1) := by decide +kernel
theorem dX6_plugs_120 : decode cX6_plugs 120 = .ok (.iastore, 1) := by decide +kernel
theorem dX6_plugs_121 : decode cX6_plugs 121 = .ok (.aload_n 0, 1) := by decide +kernel
theorem dX6_plugs_122 : decode cX6_plugs 122 = .ok (.getfield 7, 3) := by decide +kernel
theorem dX6_plugs_125 : decode cX6_plugs 125 = .ok (.iload_n 1, 1) := by decide +kernel
theorem dX6_plugs_126 : decode cX6_plugs 126 = .ok (.bipush 7, 2) := by decide +kernel
theorem dX6_plugs_128 : decode cX6_plugs 128 = .ok (.invokestatic 58, 3) := by decide +kernel
theorem dX6_plugs_131 : decode cX6_plugs 131 = .ok (.iconst 0, 1) := by decide +kernel
theorem dX6_plugs_132 : decode cX6_plugs 132 = .ok (.iastore, 1) := by decide +kernel
theorem dX6_plugs_133 : decode cX6_plugs 133 = .ok (.aload_n 0, 1) := by decide +kernel
theorem dX6_plugs_134 : decode cX6_plugs 134 = .ok (.getfield 7, 3) := by decide +kernel
theorem dX6_plugs_137 : decode cX6_plugs 137 = .ok (.iload_n 1, 1) := by decide +kernel
theorem dX6_plugs_138 : decode cX6_plugs 138 = .ok (.iconst 3, 1) := by decide +kernel
theorem dX6_plugs_139 : decode cX6_plugs 139 = .ok (.invokestatic 58, 3) := by decide +kernel
theorem dX6_plugs_142 : decode cX6_plugs 142 = .ok (.iaload, 1) := by decide +kernel
theorem dX6_plugs_143 : decode cX6_plugs 143 = .ok (.ireturn, 1) := by decide +kernel
theorem dX6_plug_0 : decode cX6_plug 0 = .ok (.aload_n 0, 1) := by decide +kernel
theorem dX6_plug_1 : decode cX6_plug 1 = .ok (.invokevirtual 102, 3) := by decide +kernel
theorem dX6_plug_4 : decode cX6_plug 4 = .ok (.aload_n 0, 1) := by decide +kernel
theorem dX6_plug_5 : decode cX6_plug 5 = .ok (.aload_n 0, 1) := by decide +kernel
theorem dX6_plug_6 : decode cX6_plug 6 = .ok (.iload_n 1, 1) := by decide +kernel
theorem dX6_plug_7 : decode cX6_plug 7 = .ok (.iload_n 2, 1) := by decide +kernel
theorem dX6_plug_8 : decode cX6_plug 8 = .ok (.iload_n 3, 1) := by decide +kernel
theorem dX6_plug_9 : decode cX6_plug 9 = .ok (.invokevirtual 123, 3) := by decide +kernel
theorem dX6_plug_12 : decode cX6_plug 12 = .ok (.invokevirtual 111, 3) := by decide +kernel
theorem dX6_plug_15 : decode cX6_plug 15 = .ok (.ireturn, 1) := by decide +kernel
theorem dX6_pulls_0 : decode cX6_pulls 0 = .ok (.aload_n 0, 1) := by decide +kernel
theorem dX6_pulls_1 : decode cX6_pulls 1 = .ok (.iload_n 1, 1) := by decide +kernel
theorem dX6_pulls_2 : decode cX6_pulls 2 = .ok (.invokevirtual 117, 3) := by decide +kernel
theorem dX6_pulls_5 : decode cX6_pulls 5 = .ok (.ifCond .ne 5, 3) := by decide +kernel
theorem dX6_pulls_8 : decode cX6_pulls 8 = .ok (.iconst (-1), 1) := by decide +kernel
theorem dX6_pulls_9 : decode cX6_pulls 9 = .ok (.ireturn, 1) := by decide +kernel
theorem dX6_pulls_10 : decode cX6_pulls 10 = .ok (.iload_n 2, 1) := by decide +kernel
theorem dX6_pulls_11 : decode cX6_pulls 11 = .ok (.iconst 1, 1) := by decide +kernel
theorem dX6_pulls_12 : decode cX6_pulls 12 = .ok (.bipush 24, 2) := by decide +kernel
theorem dX6_pulls_14 : decode cX6_pulls 14 = .ok (.invokestatic 25, 3) := by decide +kernel
theorem dX6_pulls_17 : decode cX6_pulls 17 = .ok (.ifCond .ne 6, 3) := by decide +kernel
theorem dX6_pulls_20 : decode cX6_pulls 20 = .ok (.bipush (-2), 2) := by decide +kernel
theorem dX6_pulls_22 : decode cX6_pulls 22 = .ok (.ireturn, 1) := by decide +kernel
theorem dX6_pulls_23 : decode cX6_pulls 23 = .ok (.aload_n 0, 1) := by decide +kernel
theorem dX6_pulls_24 : decode cX6_pulls 24 = .ok (.getfield 7, 3) := by decide +kernel
theorem dX6_pulls_27 : decode cX6_pulls 27 = .ok (.iload_n 1, 1) := by decide +kernel
theorem dX6_pulls_28 : decode cX6_pulls 28 = .ok (.iconst 2, 1) := by decide +kernel
theorem dX6_pulls_29 : decode cX6_pulls 29 = .ok (.invokestatic 58, 3) := by decide +kernel
theorem dX6_pulls_32 : decode cX6_pulls 32 = .ok (.iaload, 1) := by decide +kernel
theorem dX6_pulls_33 : decode cX6_pulls 33 = .ok (.bipush (-6), 2) := by decide +kernel
theorem dX6_pulls_35 : decode cX6_pulls 35 = .ok (.if_icmp .ne 6, 3) := by decide +kernel
theorem dX6_pulls_38 : decode cX6_pulls 38 = .ok (.bipush (-5), 2) := by decide +kernel
theorem dX6_pulls_40 : decode cX6_pulls 40 = .ok (.ireturn, 1) := by decide +kernel
theorem dX6_pulls_41 : decode cX6_pulls 41 = .ok (.aload_n 0, 1) := by decide +kernel
theorem dX6_pulls_42 : decode cX6_pulls 42 = .ok (.getfield 7, 3) := by decide +kernel
theorem dX6_pulls_45 : decode cX6_pulls 45 = .ok (.iload_n 1, 1) := by decide +kernel
theorem dX6_pulls_46 : decode cX6_pulls 46 = .ok (.iconst 4, 1) := by decide +kernel
theorem dX6_pulls_47 : decode cX6_pulls 47 = .ok (.invokestatic 58, 3) := by decide +kernel
theorem dX6_pulls_50 : decode cX6_pulls 50 = .ok (.iload_n 2, 1) := by decide +kernel
theorem dX6_pulls_51 : decode cX6_pulls 51 = .ok (.ineg, 1) := by decide +kernel
theorem dX6_pulls_52 : decode cX6_pulls 52 = .ok (.iastore, 1) := by decide +kernel
theorem dX6_pulls_53 : decode cX6_pulls 53 = .ok (.aload_n 0, 1) := by decide +kernel
theorem dX6_pulls_54 : decode cX6_pulls 54 = .ok (.getfield 7, 3) := by decide +kernel
theorem dX6_pulls_57 : decode cX6_pulls 57 = .ok (.iload_n 1, 1) := by decide +kernel
theorem dX6_pulls_58 : decode cX6_pulls 58 = .ok (.iconst 3, 1) := by decide +kernel
theorem dX6_pulls_59 : decode cX6_pulls 59 = .ok (.invokestatic 58, 3) := by decide +kernel
theorem dX6_pulls_62 : decode cX6_pulls 62 = .ok (.iaload, 1) := by decide +kernel
theorem dX6_pulls_63 : decode cX6_pulls 63 = .ok (.ireturn, 1) := by decide +kernel
theorem dX6_pull_0 : decode cX6_pull 0 = .ok (.aload_n 0, 1) := by decide +kernel
theorem dX6_pull_1 : decode cX6_pull 1 = .ok (.invokevirtual 102, 3) := by decide +kernel
theorem dX6_pull_4 : decode cX6_pull 4 = .ok (.aload_n 0, 1) := by decide +kernel
theorem dX6_pull_5 : decode cX6_pull 5 = .ok (.aload_n 0, 1) := by decide +kernel
theorem dX6_pull_6 : decode cX6_pull 6 = .ok (.iload_n 1, 1) := by decide +kernel
theorem dX6_pull_7 : decode cX6_pull 7 = .ok (.iload_n 2, 1) := by decide +kernel
theorem dX6_pull_8 : decode cX6_pull 8 = .ok (.invokevirtual 127, 3) := by decide +kernel
theorem dX6_pull_11 : decode cX6_pull 11 = .ok (.invokevirtual 111, 3) := by decide +kernel
theorem dX6_pull_14 : decode cX6_pull 14 = .ok (.ireturn, 1) := by decide +kernel
theorem dX6_asks_0 : decode cX6_asks 0 = .ok (.aload_n 0, 1) := by decide +kernel
theorem dX6_asks_1 : decode cX6_asks 1 = .ok (.iload_n 1, 1) := by decide +kernel
theorem dX6_asks_2 : decode cX6_asks 2 = .ok (.invokevirtual 117, 3) := by decide +kernel
theorem dX6_asks_5 : decode cX6_asks 5 = .ok (.ifCond .ne 5, 3) := by decide +kernel
theorem dX6_asks_8 : decode cX6_asks 8 = .ok (.iconst (-1), 1) := by decide +kernel
theorem dX6_asks_9 : decode cX6_asks 9 = .ok (.ireturn, 1) := by decide +kernel
theorem dX6_asks_10 : decode cX6_asks 10 = .ok (.aload_n 0, 1) := by decide +kernel
theorem dX6_asks_11 : decode cX6_asks 11 = .ok (.getfield 7, 3) := by decide +kernel
theorem dX6_asks_14 : decode cX6_asks 14 = .ok (.iload_n 1, 1) := by decide +kernel
theorem dX6_asks_15 : decode cX6_asks 15 = .ok (.bipush 6, 2) := by decide +kernel
theorem dX6_asks_17 : decode cX6_asks 17 = .ok (.invokestatic 58, 3) := by decide +kernel
theorem dX6_asks_20 : decode cX6_asks 20 = .ok (.iaload, 1) := by decide +kernel
theorem dX6_asks_21 : decode cX6_asks 21 = .ok (.ifCond .eq 18, 3) := by decide +kernel
theorem dX6_asks_24 : decode cX6_asks 24 = .ok (.aload_n 0, 1) := by decide +kernel
theorem dX6_asks_25 : decode cX6_asks 25 = .ok (.getfield 7, 3) := by decide +kernel
theorem dX6_asks_28 : decode cX6_asks 28 = .ok (.iload_n 1, 1) := by decide +kernel
theorem dX6_asks_29 : decode cX6_asks 29 = .ok (.bipush 7, 2) := by decide +kernel
theorem dX6_asks_31 : decode cX6_asks 31 = .ok (.invokestatic 58, 3) := by decide +kernel
theorem dX6_asks_34 : decode cX6_asks 34 = .ok (.iaload, 1) := by decide +kernel
theorem dX6_asks_35 : decode cX6_asks 35 = .ok (.iconst 1, 1) := by decide +kernel
theorem dX6_asks_36 : decode cX6_asks 36 = .ok (.if_icmp .ne 6, 3) := by decide +kernel
theorem dX6_asks_39 : decode cX6_asks 39 = .ok (.bipush (-5), 2) := by decide +kernel
theorem dX6_asks_41 : decode cX6_asks 41 = .ok (.ireturn, 1) := by decide +kernel
theorem dX6_asks_42 : decode cX6_asks 42 = .ok (.aload_n 0, 1) := by decide +kernel
theorem dX6_asks_43 : decode cX6_asks 43 = .ok (.getfield 7, 3) := by decide +kernel
theorem dX6_asks_46 : decode cX6_asks 46 = .ok (.iload_n 1, 1) := by decide +kernel
theorem dX6_asks_47 : decode cX6_asks 47 = .ok (.bipush 7, 2) := by decide +kernel
theorem dX6_asks_49 : decode cX6_asks 49 = .ok (.invokestatic 58, 3) := by decide +kernel
theorem dX6_asks_52 : decode cX6_asks 52 = .ok (.iconst 1, 1) := by decide +kernel
theorem dX6_asks_53 : decode cX6_asks 53 = .ok (.iastore, 1) := by decide +kernel
theorem dX6_asks_54 : decode cX6_asks 54 = .ok (.aload_n 0, 1) := by decide +kernel
theorem dX6_asks_55 : decode cX6_asks 55 = .ok (.iload_n 1, 1) := by decide +kernel
theorem dX6_asks_56 : decode cX6_asks 56 = .ok (.invokevirtual 130, 3) := by decide +kernel
theorem dX6_asks_59 : decode cX6_asks 59 = .ok (.ireturn, 1) := by decide +kernel
theorem dX6_ask_0 : decode cX6_ask 0 = .ok (.aload_n 0, 1) := by decide +kernel
theorem dX6_ask_1 : decode cX6_ask 1 = .ok (.invokevirtual 102, 3) := by decide +kernel
theorem dX6_ask_4 : decode cX6_ask 4 = .ok (.aload_n 0, 1) := by decide +kernel
theorem dX6_ask_5 : decode cX6_ask 5 = .ok (.aload_n 0, 1) := by decide +kernel
theorem dX6_ask_6 : decode cX6_ask 6 = .ok (.iload_n 1, 1) := by decide +kernel
theorem dX6_ask_7 : decode cX6_ask 7 = .ok (.invokevirtual 133, 3) := by decide +kernel
theorem dX6_ask_10 : decode cX6_ask 10 = .ok (.invokevirtual 111, 3) := by decide +kernel
theorem dX6_ask_13 : decode cX6_ask 13 = .ok (.ireturn, 1) := by decide +kernel
theorem dX6_hindrance_0 : decode cX6_hindrance 0 = .ok (.aload_n 0, 1) := by decide +kernel
theorem dX6_hindrance_1 : decode cX6_hindrance 1 = .ok (.getfield 7, 3) := by decide +kernel
theorem dX6_hindrance_4 : decode cX6_hindrance 4 = .ok (.iload_n 1, 1) := by decide +kernel
theorem dX6_hindrance_5 : decode cX6_hindrance 5 = .ok (.bipush 6, 2) := by decide +kernel
theorem dX6_hindrance_7 : decode cX6_hindrance 7 = .ok (.invokestatic 58, 3) := by decide +kernel
theorem dX6_hindrance_10 : decode cX6_hindrance 10 = .ok (.iaload, 1) := by decide +kernel
theorem dX6_hindrance_11 : decode cX6_hindrance 11 = .ok (.ifCond .eq 17, 3) := by decide +kernel
theorem dX6_hindrance_14 : decode cX6_hindrance 14 = .ok (.aload_n 0, 1) := by decide +kernel
theorem dX6_hindrance_15 : decode cX6_hindrance 15 = .ok (.getfield 7, 3) := by decide +kernel
theorem dX6_hindrance_18 : decode cX6_hindrance 18 = .ok (.iload_n 2, 1) := by decide +kernel
theorem dX6_hindrance_19 : decode cX6_hindrance 19 = .ok (.bipush 6, 2) := by decide +kernel
theorem dX6_hindrance_21 : decode cX6_hindrance 21 = .ok (.invokestatic 58, 3) := by decide +kernel
theorem dX6_hindrance_24 : decode cX6_hindrance 24 = .ok (.iaload, 1) := by decide +kernel
theorem dX6_hindrance_25 : decode cX6_hindrance 25 = .ok (.ifCond .ne 23, 3) := by decide +kernel
theorem dX6_hindrance_28 : decode cX6_hindrance 28 = .ok (.aload_n 0, 1) := by decide +kernel
theorem dX6_hindrance_29 : decode cX6_hindrance 29 = .ok (.getfield 7, 3) := by decide +kernel
theorem dX6_hindrance_32 : decode cX6_hindrance 32 = .ok (.iload_n 1, 1) := by decide +kernel
theorem dX6_hindrance_33 : decode cX6_hindrance 33 = .ok (.bipush 6, 2) := by decide +kernel
theorem dX6_hindrance_35 : decode cX6_hindrance 35 = .ok (.invokestatic 58, 3) := by decide +kernel
theorem dX6_hindrance_38 : decode cX6_hindrance 38 = .ok (.iaload, 1) := by decide +kernel
theorem dX6_hindrance_39 : decode cX6_hindrance 39 = .ok (.ifCond .ne 7, 3) := by decide +kernel
theorem dX6_hindrance_42 : decode cX6_hindrance 42 = .ok (.iconst 1, 1) := by decide +kernel
theorem dX6_hindrance_43 : decode cX6_hindrance 43 = .ok (.goto 4, 3) := by decide +kernel
theorem dX6_hindrance_46 : decode cX6_hindrance 46 = .ok (.iconst 2, 1) := by decide +kernel
theorem dX6_hindrance_47 : decode cX6_hindrance 47 = .ok (.ireturn, 1) := by decide +kernel
theorem dX6_hindrance_48 : decode cX6_hindrance 48 = .ok (.aload_n 0, 1) := by decide +kernel
theorem dX6_hindrance_49 : decode cX6_hindrance 49 = .ok (.getfield 7, 3) := by decide +kernel
theorem dX6_hindrance_52 : decode cX6_hindrance 52 = .ok (.iload_n 1, 1) := by decide +kernel
theorem dX6_hindrance_53 : decode cX6_hindrance 53 = .ok (.bipush 7, 2) := by decide +kernel
theorem dX6_hindrance_55 : decode cX6_hindrance 55 = .ok (.invokestatic 58, 3) := by decide +kernel
theorem dX6_hindrance_58 : decode cX6_hindrance 58 = .ok (.iaload, 1) := by decide +kernel
theorem dX6_hindrance_59 : decode cX6_hindrance 59 = .ok (.iconst 1, 1) := by decide +kernel
theorem dX6_hindrance_60 : decode cX6_hindrance 60 = .ok (.if_icmp .eq 18, 3) := by decide +kernel
theorem dX6_hindrance_63 : decode cX6_hindrance 63 = .ok (.aload_n 0, 1) := by decide +kernel
theorem dX6_hindrance_64 : decode cX6_hindrance 64 = .ok (.getfield 7, 3) := by decide +kernel
theorem dX6_hindrance_67 : decode cX6_hindrance 67 = .ok (.iload_n 2, 1) := by decide +kernel
theorem dX6_hindrance_68 : decode cX6_hindrance 68 = .ok (.bipush 7, 2) := by decide +kernel
theorem dX6_hindrance_70 : decode cX6_hindrance 70 = .ok (.invokestatic 58, 3) := by decide +kernel
theorem dX6_hindrance_73 : decode cX6_hindrance 73 = .ok (.iaload, 1) := by decide +kernel
theorem dX6_hindrance_74 : decode cX6_hindrance 74 = .ok (.iconst 1, 1) := by decide +kernel
theorem dX6_hindrance_75 : decode cX6_hindrance 75 = .ok (.if_icmp .ne 7, 3) := by decide +kernel
theorem dX6_hindrance_78 : decode cX6_hindrance 78 = .ok (.iconst 3, 1) := by decide +kernel
theorem dX6_hindrance_79 : decode cX6_hindrance 79 = .ok (.goto 4, 3) := by decide +kernel
theorem dX6_hindrance_82 : decode cX6_hindrance 82 = .ok (.iconst 0, 1) := by decide +kernel
theorem dX6_hindrance_83 : decode cX6_hindrance 83 = .ok (.ireturn, 1) := by decide +kernel
theorem dX6_sends_0 : decode cX6_sends 0 = .ok (.aload_n 0, 1) := by decide +kernel
theorem dX6_sends_1 : decode cX6_sends 1 = .ok (.iload_n 1, 1) := by decide +kernel
theorem dX6_sends_2 : decode cX6_sends 2 = .ok (.invokevirtual 117, 3) := by decide +kernel
theorem dX6_sends_5 : decode cX6_sends 5 = .ok (.ifCond .eq 11, 3) := by decide +kernel
theorem dX6_sends_8 : decode cX6_sends 8 = .ok (.aload_n 0, 1) := by decide +kernel
theorem dX6_sends_9 : decode cX6_sends 9 = .ok (.iload_n 2, 1) := by decide +kernel
theorem dX6_sends_10 : decode cX6_sends 10 = .ok (.invokevirtual 117, 3) := by decide +kernel
theorem dX6_sends_13 : decode cX6_sends 13 = .ok (.ifCond .ne 5, 3) := by decide +kernel
theorem dX6_sends_16 : decode cX6_sends 16 = .ok (.iconst (-1), 1) := by decide +kernel
theorem dX6_sends_17 : decode cX6_sends 17 = .ok (.ireturn, 1) := by decide +kernel
theorem dX6_sends_18 : decode cX6_sends 18 = .ok (.iload_n 1, 1) := by decide +kernel
theorem dX6_sends_19 : decode cX6_sends 19 = .ok (.iload_n 2, 1) := by decide +kernel
theorem dX6_sends_20 : decode cX6_sends 20 = .ok (.if_icmp .ne 6, 3) := by decide +kernel
theorem dX6_sends_23 : decode cX6_sends 23 = .ok (.bipush (-2), 2) := by decide +kernel
theorem dX6_sends_25 : decode cX6_sends 25 = .ok (.ireturn, 1) := by decide +kernel
theorem dX6_sends_26 : decode cX6_sends 26 = .ok (.aload_n 0, 1) := by decide +kernel
theorem dX6_sends_27 : decode cX6_sends 27 = .ok (.iload_n 1, 1) := by decide +kernel
theorem dX6_sends_28 : decode cX6_sends 28 = .ok (.iload_n 2, 1) := by decide +kernel
theorem dX6_sends_29 : decode cX6_sends 29 = .ok (.invokevirtual 136, 3) := by decide +kernel
theorem dX6_sends_32 : decode cX6_sends 32 = .ok (.ifCond .eq 6, 3) := by decide +kernel
theorem dX6_sends_35 : decode cX6_sends 35 = .ok (.bipush (-5), 2) := by decide +kernel
theorem dX6_sends_37 : decode cX6_sends 37 = .ok (.ireturn, 1) := by decide +kernel
theorem dX6_sends_38 : decode cX6_sends 38 = .ok (.aload_n 0, 1) := by decide +kernel
theorem dX6_sends_39 : decode cX6_sends 39 = .ok (.bipush (-6), 2) := by decide +kernel
theorem dX6_sends_41 : decode cX6_sends 41 = .ok (.invokevirtual 130, 3) := by decide +kernel
theorem dX6_sends_44 : decode cX6_sends 44 = .ok (.bipush 10, 2) := by decide +kernel
theorem dX6_sends_46 : decode cX6_sends 46 = .ok (.if_icmp .eq 16, 3) := by decide +kernel
theorem dX6_sends_49 : decode cX6_sends 49 = .ok (.aload_n 0, 1) := by decide +kernel
theorem dX6_sends_50 : decode cX6_sends 50 = .ok (.getfield 7, 3) := by decide +kernel
theorem dX6_sends_53 : decode cX6_sends 53 = .ok (.bipush 94, 2) := by decide +kernel
theorem dX6_sends_55 : decode cX6_sends 55 = .ok (.iaload, 1) := by decide +kernel
theorem dX6_sends_56 : decode cX6_sends 56 = .ok (.sipush 200, 3) := by decide +kernel
theorem dX6_sends_59 : decode cX6_sends 59 = .ok (.if_icmp .ne 6, 3) := by decide +kernel
theorem dX6_sends_62 : decode cX6_sends 62 = .ok (.bipush (-4), 2) := by decide +kernel
theorem dX6_sends_64 : decode cX6_sends 64 = .ok (.ireturn, 1) := by decide +kernel
theorem dX6_sends_65 : decode cX6_sends 65 = .ok (.aload_n 0, 1) := by decide +kernel
theorem dX6_sends_66 : decode cX6_sends 66 = .ok (.getfield 7, 3) := by decide +kernel
theorem dX6_sends_69 : decode cX6_sends 69 = .ok (.bipush 94, 2) := by decide +kernel
theorem dX6_sends_71 : decode cX6_sends 71 = .ok (.iaload, 1) := by decide +kernel
theorem dX6_sends_72 : decode cX6_sends 72 = .ok (.istore_n 3, 1) := by decide +kernel
theorem dX6_sends_73 : decode cX6_sends 73 = .ok (.aload_n 0, 1) := by decide +kernel
theorem dX6_sends_74 : decode cX6_sends 74 = .ok (.getfield 7, 3) := by decide +kernel
theorem dX6_sends_77 : decode cX6_sends 77 = .ok (.bipush 94, 2) := by decide +kernel
theorem dX6_sends_79 : decode cX6_sends 79 = .ok (.dup2, 1) := by decide +kernel
theorem dX6_sends_80 : decode cX6_sends 80 = .ok (.iaload, 1) := by decide +kernel
theorem dX6_sends_81 : decode cX6_sends 81 = .ok (.iconst 1, 1) := by decide +kernel
theorem dX6_sends_82 : decode cX6_sends 82 = .ok (.iadd, 1) := by decide +kernel
theorem dX6_sends_83 : decode cX6_sends 83 = .ok (.iastore, 1) := by decide +kernel
theorem dX6_sends_84 : decode cX6_sends 84 = .ok (.aload_n 0, 1) := by decide +kernel
theorem dX6_sends_85 : decode cX6_sends 85 = .ok (.getfield 7, 3) := by decide +kernel
theorem dX6_sends_88 : decode cX6_sends 88 = .ok (.bipush 95, 2) := by decide +kernel
theorem dX6_sends_90 : decode cX6_sends 90 = .ok (.iload_n 3, 1) := by decide +kernel
theorem dX6_sends_91 : decode cX6_sends 91 = .ok (.iadd, 1) := by decide +kernel
theorem dX6_sends_92 : decode cX6_sends 92 = .ok (.iload_n 1, 1) := by decide +kernel
theorem dX6_sends_93 : decode cX6_sends 93 = .ok (.bipush 8, 2) := by decide +kernel
theorem dX6_sends_95 : decode cX6_sends 95 = .ok (.iload_n 2, 1) := by decide +kernel
theorem dX6_sends_96 : decode cX6_sends 96 = .ok (.imul, 1) := by decide +kernel
theorem dX6_sends_97 : decode cX6_sends 97 = .ok (.iadd, 1) := by decide +kernel
theorem dX6_sends_98 : decode cX6_sends 98 = .ok (.iastore, 1) := by decide +kernel
theorem dX6_sends_99 : decode cX6_sends 99 = .ok (.iload_n 3, 1) := by decide +kernel
theorem dX6_sends_100 : decode cX6_sends 100 = .ok (.ireturn, 1) := by decide +kernel
theorem dX6_send_0 : decode cX6_send 0 = .ok (.aload_n 0, 1) := by decide +kernel
theorem dX6_send_1 : decode cX6_send 1 = .ok (.invokevirtual 102, 3) := by decide +kernel
theorem dX6_send_4 : decode cX6_send 4 = .ok (.aload_n 0, 1) := by decide +kernel
theorem dX6_send_5 : decode cX6_send 5 = .ok (.aload_n 0, 1) := by decide +kernel
theorem dX6_send_6 : decode cX6_send 6 = .ok (.iload_n 1, 1) := by decide +kernel
theorem dX6_send_7 : decode cX6_send 7 = .ok (.iload_n 2, 1) := by decide +kernel
theorem dX6_send_8 : decode cX6_send 8 = .ok (.invokevirtual 139, 3) := by decide +kernel
theorem dX6_send_11 : decode cX6_send 11 = .ok (.invokevirtual 111, 3) := by decide +kernel
theorem dX6_send_14 : decode cX6_send 14 = .ok (.ireturn, 1) := by decide +kernel
theorem dX6_pass_0 : decode cX6_pass 0 = .ok (.aload_n 0, 1) := by decide +kernel
theorem dX6_pass_1 : decode cX6_pass 1 = .ok (.invokevirtual 102, 3) := by decide +kernel
theorem dX6_pass_4 : decode cX6_pass 4 = .ok (.aload_n 0, 1) := by decide +kernel
theorem dX6_pass_5 : decode cX6_pass 5 = .ok (.aload_n 0, 1) := by decide +kernel
theorem dX6_pass_6 : decode cX6_pass 6 = .ok (.iload_n 1, 1) := by decide +kernel
theorem dX6_pass_7 : decode cX6_pass 7 = .ok (.invokevirtual 142, 3) := by decide +kernel
theorem dX6_pass_10 : decode cX6_pass 10 = .ok (.invokevirtual 111, 3) := by decide +kernel
theorem dX6_pass_13 : decode cX6_pass 13 = .ok (.ireturn, 1) := by decide +kernel
theorem dX6_of_0 : decode cX6_of 0 = .ok (.aload_n 0, 1) := by decide +kernel
theorem dX6_of_1 : decode cX6_of 1 = .ok (.iload_n 1, 1) := by decide +kernel
theorem dX6_of_2 : decode cX6_of 2 = .ok (.invokevirtual 117, 3) := by decide +kernel
theorem dX6_of_5 : decode cX6_of 5 = .ok (.ifCond .ne 5, 3) := by decide +kernel
theorem dX6_of_8 : decode cX6_of 8 = .ok (.iconst (-1), 1) := by decide +kernel
theorem dX6_of_9 : decode cX6_of 9 = .ok (.ireturn, 1) := by decide +kernel
theorem dX6_of_10 : decode cX6_of 10 = .ok (.iload_n 2, 1) := by decide +kernel
theorem dX6_of_11 : decode cX6_of 11 = .ok (.iconst 0, 1) := by decide +kernel
theorem dX6_of_12 : decode cX6_of 12 = .ok (.bipush 10, 2) := by decide +kernel
theorem dX6_of_14 : decode cX6_of 14 = .ok (.invokestatic 25, 3) := by decide +kernel
theorem dX6_of_17 : decode cX6_of 17 = .ok (.ifCond .ne 6, 3) := by decide +kernel
theorem dX6_of_20 : decode cX6_of 20 = .ok (.bipush (-2), 2) := by decide +kernel
theorem dX6_of_22 : decode cX6_of 22 = .ok (.ireturn, 1) := by decide +kernel
theorem dX6_of_23 : decode cX6_of 23 = .ok (.aload_n 0, 1) := by decide +kernel
theorem dX6_of_24 : decode cX6_of 24 = .ok (.getfield 7, 3) := by decide +kernel
theorem dX6_of_27 : decode cX6_of 27 = .ok (.iload_n 1, 1) := by decide +kernel
theorem dX6_of_28 : decode cX6_of 28 = .ok (.iload_n 2, 1) := by decide +kernel
theorem dX6_of_29 : decode cX6_of 29 = .ok (.invokestatic 58, 3) := by decide +kernel
theorem dX6_of_32 : decode cX6_of 32 = .ok (.iaload, 1) := by decide +kernel
theorem dX6_of_33 : decode cX6_of 33 = .ok (.iload_n 2, 1) := by decide +kernel
theorem dX6_of_34 : decode cX6_of 34 = .ok (.iconst 4, 1) := by decide +kernel
theorem dX6_of_35 : decode cX6_of 35 = .ok (.if_icmp .ne 8, 3) := by decide +kernel
theorem dX6_of_38 : decode cX6_of 38 = .ok (.bipush 100, 2) := by decide +kernel
theorem dX6_of_40 : decode cX6_of 40 = .ok (.goto 4, 3) := by decide +kernel
theorem dX6_of_43 : decode cX6_of 43 = .ok (.iconst 0, 1) := by decide +kernel
theorem dX6_of_44 : decode cX6_of 44 = .ok (.iadd, 1) := by decide +kernel
theorem dX6_of_45 : decode cX6_of 45 = .ok (.ireturn, 1) := by decide +kernel
theorem dX6_slot_0 : decode cX6_slot 0 = .ok (.iload_n 1, 1) := by decide +kernel
theorem dX6_slot_1 : decode cX6_slot 1 = .ok (.invokestatic 120, 3) := by decide +kernel
theorem dX6_slot_4 : decode cX6_slot 4 = .ok (.ifCond .eq 11, 3) := by decide +kernel
theorem dX6_slot_7 : decode cX6_slot 7 = .ok (.aload_n 0, 1) := by decide +kernel
theorem dX6_slot_8 : decode cX6_slot 8 = .ok (.iload_n 1, 1) := by decide +kernel
theorem dX6_slot_9 : decode cX6_slot 9 = .ok (.invokevirtual 76, 3) := by decide +kernel
theorem dX6_slot_12 : decode cX6_slot 12 = .ok (.goto 4, 3) := by decide +kernel
theorem dX6_slot_15 : decode cX6_slot 15 = .ok (.iconst (-1), 1) := by decide +kernel
theorem dX6_slot_16 : decode cX6_slot 16 = .ok (.ireturn, 1) := by decide +kernel
theorem dX6_word_0 : decode cX6_word 0 = .ok (.iload_n 1, 1) := by decide +kernel
theorem dX6_word_1 : decode cX6_word 1 = .ok (.iconst 0, 1) := by decide +kernel
theorem dX6_word_2 : decode cX6_word 2 = .ok (.aload_n 0, 1) := by decide +kernel
theorem dX6_word_3 : decode cX6_word 3 = .ok (.getfield 7, 3) := by decide +kernel
theorem dX6_word_6 : decode cX6_word 6 = .ok (.bipush 94, 2) := by decide +kernel
theorem dX6_word_8 : decode cX6_word 8 = .ok (.iaload, 1) := by decide +kernel
theorem dX6_word_9 : decode cX6_word 9 = .ok (.iconst 1, 1) := by decide +kernel
theorem dX6_word_10 : decode cX6_word 10 = .ok (.isub, 1) := by decide +kernel
theorem dX6_word_11 : decode cX6_word 11 = .ok (.invokestatic 25, 3) := by decide +kernel
theorem dX6_word_14 : decode cX6_word 14 = .ok (.ifCond .ne 5, 3) := by decide +kernel
theorem dX6_word_17 : decode cX6_word 17 = .ok (.iconst (-1), 1) := by decide +kernel
theorem dX6_word_18 : decode cX6_word 18 = .ok (.ireturn, 1) := by decide +kernel
theorem dX6_word_19 : decode cX6_word 19 = .ok (.iload_n 2, 1) := by decide +kernel
theorem dX6_word_20 : decode cX6_word 20 = .ok (.tableswitch 93 0 4 #[36, 42, 48, 54, 68], 36) := by decide +kernel
theorem dX6_word_56 : decode cX6_word 56 = .ok (.aload_n 0, 1) := by decide +kernel
theorem dX6_word_57 : decode cX6_word 57 = .ok (.iload_n 1, 1) := by decide +kernel
theorem dX6_word_58 : decode cX6_word 58 = .ok (.invokevirtual 33, 3) := by decide +kernel
theorem dX6_word_61 : decode cX6_word 61 = .ok (.ireturn, 1) := by decide +kernel
theorem dX6_word_62 : decode cX6_word 62 = .ok (.aload_n 0, 1) := by decide +kernel
theorem dX6_word_63 : decode cX6_word 63 = .ok (.iload_n 1, 1) := by decide +kernel
theorem dX6_word_64 : decode cX6_word 64 = .ok (.invokevirtual 36, 3) := by decide +kernel
theorem dX6_word_67 : decode cX6_word 67 = .ok (.ireturn, 1) := by decide +kernel
theorem dX6_word_68 : decode cX6_word 68 = .ok (.aload_n 0, 1) := by decide +kernel
theorem dX6_word_69 : decode cX6_word 69 = .ok (.iload_n 1, 1) := by decide +kernel
theorem dX6_word_70 : decode cX6_word 70 = .ok (.invokevirtual 29, 3) := by decide +kernel
theorem dX6_word_73 : decode cX6_word 73 = .ok (.ireturn, 1) := by decide +kernel
theorem dX6_word_74 : decode cX6_word 74 = .ok (.aload_n 0, 1) := by decide +kernel
theorem dX6_word_75 : decode cX6_word 75 = .ok (.getfield 7, 3) := by decide +kernel
theorem dX6_word_78 : decode cX6_word 78 = .ok (.bipush 95, 2) := by decide +kernel
theorem dX6_word_80 : decode cX6_word 80 = .ok (.iload_n 1, 1) := by decide +kernel
theorem dX6_word_81 : decode cX6_word 81 = .ok (.iadd, 1) := by decide +kernel
theorem dX6_word_82 : decode cX6_word 82 = .ok (.iaload, 1) := by decide +kernel
theorem dX6_word_83 : decode cX6_word 83 = .ok (.sipush 256, 3) := by decide +kernel
theorem dX6_word_86 : decode cX6_word 86 = .ok (.idiv, 1) := by decide +kernel
theorem dX6_word_87 : decode cX6_word 87 = .ok (.ireturn, 1) := by decide +kernel
theorem dX6_word_88 : decode cX6_word 88 = .ok (.aload_n 0, 1) := by decide +kernel
theorem dX6_word_89 : decode cX6_word 89 = .ok (.getfield 7, 3) := by decide +kernel
theorem dX6_word_92 : decode cX6_word 92 = .ok (.sipush 295, 3) := by decide +kernel
theorem dX6_word_95 : decode cX6_word 95 = .ok (.iaload, 1) := by decide +kernel
theorem dX6_word_96 : decode cX6_word 96 = .ok (.iload_n 1, 1) := by decide +kernel
theorem dX6_word_97 : decode cX6_word 97 = .ok (.if_icmp .ne 14, 3) := by decide +kernel
theorem dX6_word_100 : decode cX6_word 100 = .ok (.aload_n 0, 1) := by decide +kernel
theorem dX6_word_101 : decode cX6_word 101 = .ok (.getfield 7, 3) := by decide +kernel
theorem dX6_word_104 : decode cX6_word 104 = .ok (.sipush 296, 3) := by decide +kernel
theorem dX6_word_107 : decode cX6_word 107 = .ok (.iaload, 1) := by decide +kernel
theorem dX6_word_108 : decode cX6_word 108 = .ok (.goto 4, 3) := by decide +kernel
theorem dX6_word_111 : decode cX6_word 111 = .ok (.iconst 0, 1) := by decide +kernel
theorem dX6_word_112 : decode cX6_word 112 = .ok (.ireturn, 1) := by decide +kernel
theorem dX6_word_113 : decode cX6_word 113 = .ok (.bipush (-2), 2) := by decide +kernel
theorem dX6_word_115 : decode cX6_word 115 = .ok (.ireturn, 1) := by decide +kernel
theorem dX6_waiting_0 : decode cX6_waiting 0 = .ok (.iconst (-1), 1) := by decide +kernel
theorem dX6_waiting_1 : decode cX6_waiting 1 = .ok (.istore_n 2, 1) := by decide +kernel
theorem dX6_waiting_2 : decode cX6_waiting 2 = .ok (.iconst 0, 1) := by decide +kernel
theorem dX6_waiting_3 : decode cX6_waiting 3 = .ok (.istore_n 3, 1) := by decide +kernel
theorem dX6_waiting_4 : decode cX6_waiting 4 = .ok (.iconst 0, 1) := by decide +kernel
theorem dX6_waiting_5 : decode cX6_waiting 5 = .ok (.istore 4, 2) := by decide +kernel
theorem dX6_waiting_7 : decode cX6_waiting 7 = .ok (.iload 4, 2) := by decide +kernel
theorem dX6_waiting_9 : decode cX6_waiting 9 = .ok (.aload_n 0, 1) := by decide +kernel
theorem dX6_waiting_10 : decode cX6_waiting 10 = .ok (.getfield 7, 3) := by decide +kernel
theorem dX6_waiting_13 : decode cX6_waiting 13 = .ok (.bipush 94, 2) := by decide +kernel
theorem dX6_waiting_15 : decode cX6_waiting 15 = .ok (.iaload, 1) := by decide +kernel
theorem dX6_waiting_16 : decode cX6_waiting 16 = .ok (.if_icmp .ge 55, 3) := by decide +kernel
theorem dX6_waiting_19 : decode cX6_waiting 19 = .ok (.aload_n 0, 1) := by decide +kernel
theorem dX6_waiting_20 : decode cX6_waiting 20 = .ok (.iload 4, 2) := by decide +kernel
theorem dX6_waiting_22 : decode cX6_waiting 22 = .ok (.invokevirtual 29, 3) := by decide +kernel
theorem dX6_waiting_25 : decode cX6_waiting 25 = .ok (.ifCond .ne 7, 3) := by decide +kernel
theorem dX6_waiting_28 : decode cX6_waiting 28 = .ok (.iconst 1, 1) := by decide +kernel
theorem dX6_waiting_29 : decode cX6_waiting 29 = .ok (.goto 4, 3) := by decide +kernel
theorem dX6_waiting_32 : decode cX6_waiting 32 = .ok (.iconst 0, 1) := by decide +kernel
theorem dX6_waiting_33 : decode cX6_waiting 33 = .ok (.istore 5, 2) := by decide +kernel
theorem dX6_waiting_35 : decode cX6_waiting 35 = .ok (.iload 5, 2) := by decide +kernel
theorem dX6_waiting_37 : decode cX6_waiting 37 = .ok (.ifCond .eq 13, 3) := by decide +kernel
theorem dX6_waiting_40 : decode cX6_waiting 40 = .ok (.iload_n 3, 1) := by decide +kernel
theorem dX6_waiting_41 : decode cX6_waiting 41 = .ok (.iload_n 1, 1) := by decide +kernel
theorem dX6_waiting_42 : decode cX6_waiting 42 = .ok (.if_icmp .ne 8, 3) := by decide +kernel
theorem dX6_waiting_45 : decode cX6_waiting 45 = .ok (.iload 4, 2) := by decide +kernel
theorem dX6_waiting_47 : decode cX6_waiting 47 = .ok (.goto 4, 3) := by decide +kernel
theorem dX6_waiting_50 : decode cX6_waiting 50 = .ok (.iload_n 2, 1) := by decide +kernel
theorem dX6_waiting_51 : decode cX6_waiting 51 = .ok (.istore_n 2, 1) := by decide +kernel
theorem dX6_waiting_52 : decode cX6_waiting 52 = .ok (.iload_n 3, 1) := by decide +kernel
theorem dX6_waiting_53 : decode cX6_waiting 53 = .ok (.iload 5, 2) := by decide +kernel
theorem dX6_waiting_55 : decode cX6_waiting 55 = .ok (.ifCond .eq 7, 3) := by decide +kernel
theorem dX6_waiting_58 : decode cX6_waiting 58 = .ok (.iconst 1, 1) := by decide +kernel
theorem dX6_waiting_59 : decode cX6_waiting 59 = .ok (.goto 4, 3) := by decide +kernel
theorem dX6_waiting_62 : decode cX6_waiting 62 = .ok (.iconst 0, 1) := by decide +kernel
theorem dX6_waiting_63 : decode cX6_waiting 63 = .ok (.iadd, 1) := by decide +kernel
theorem dX6_waiting_64 : decode cX6_waiting 64 = .ok (.istore_n 3, 1) := by decide +kernel
theorem dX6_waiting_65 : decode cX6_waiting 65 = .ok (.iinc 4 1, 3) := by decide +kernel
theorem dX6_waiting_68 : decode cX6_waiting 68 = .ok (.goto (-61), 3) := by decide +kernel
theorem dX6_waiting_71 : decode cX6_waiting 71 = .ok (.iload_n 2, 1) := by decide +kernel
theorem dX6_waiting_72 : decode cX6_waiting 72 = .ok (.ireturn, 1) := by decide +kernel
theorem dX6_boards_0 : decode cX6_boards 0 = .ok (.iconst 0, 1) := by decide +kernel
theorem dX6_boards_1 : decode cX6_boards 1 = .ok (.istore_n 2, 1) := by decide +kernel
theorem dX6_boards_2 : decode cX6_boards 2 = .ok (.iconst 0, 1) := by decide +kernel
theorem dX6_boards_3 : decode cX6_boards 3 = .ok (.istore_n 3, 1) := by decide +kernel
theorem dX6_boards_4 : decode cX6_boards 4 = .ok (.iload_n 3, 1) := by decide +kernel
theorem dX6_boards_5 : decode cX6_boards 5 = .ok (.aload_n 0, 1) := by decide +kernel
theorem dX6_boards_6 : decode cX6_boards 6 = .ok (.getfield 7, 3) := by decide +kernel
theorem dX6_boards_9 : decode cX6_boards 9 = .ok (.iconst 5, 1) := by decide +kernel
theorem dX6_boards_10 : decode cX6_boards 10 = .ok (.iaload, 1) := by decide +kernel
theorem dX6_boards_11 : decode cX6_boards 11 = .ok (.if_icmp .ge 73, 3) := by decide +kernel
theorem dX6_boards_14 : decode cX6_boards 14 = .ok (.iload_n 1, 1) := by decide +kernel
theorem dX6_boards_15 : decode cX6_boards 15 = .ok (.ifCond .eq 26, 3) := by decide +kernel
theorem dX6_boards_18 : decode cX6_boards 18 = .ok (.aload_n 0, 1) := by decide +kernel
theorem dX6_boards_19 : decode cX6_boards 19 = .ok (.getfield 7, 3) := by decide +kernel
theorem dX6_boards_22 : decode cX6_boards 22 = .ok (.iload_n 3, 1) := by decide +kernel
theorem dX6_boards_23 : decode cX6_boards 23 = .ok (.bipush 6, 2) := by decide +kernel
theorem dX6_boards_25 : decode cX6_boards 25 = .ok (.invokestatic 58, 3) := by decide +kernel
theorem dX6_boards_28 : decode cX6_boards 28 = .ok (.iaload, 1) := by decide +kernel
theorem dX6_boards_29 : decode cX6_boards 29 = .ok (.iconst 1, 1) := by decide +kernel
theorem dX6_boards_30 : decode cX6_boards 30 = .ok (.if_icmp .ne 7, 3) := by decide +kernel
theorem dX6_boards_33 : decode cX6_boards 33 = .ok (.iconst 1, 1) := by decide +kernel
theorem dX6_boards_34 : decode cX6_boards 34 = .ok (.goto 27, 3) := by decide +kernel
theorem dX6_boards_37 : decode cX6_boards 37 = .ok (.iconst 0, 1) := by decide +kernel
theorem dX6_boards_38 : decode cX6_boards 38 = .ok (.goto 23, 3) := by decide +kernel
theorem dX6_boards_41 : decode cX6_boards 41 = .ok (.aload_n 0, 1) := by decide +kernel
theorem dX6_boards_42 : decode cX6_boards 42 = .ok (.getfield 7, 3) := by decide +kernel
theorem dX6_boards_45 : decode cX6_boards 45 = .ok (.iload_n 3, 1) := by decide +kernel
theorem dX6_boards_46 : decode cX6_boards 46 = .ok (.iconst 2, 1) := by decide +kernel
theorem dX6_boards_47 : decode cX6_boards 47 = .ok (.invokestatic 58, 3) := by decide +kernel
theorem dX6_boards_50 : decode cX6_boards 50 = .ok (.iaload, 1) := by decide +kernel
theorem dX6_boards_51 : decode cX6_boards 51 = .ok (.bipush (-6), 2) := by decide +kernel
theorem dX6_boards_53 : decode cX6_boards 53 = .ok (.if_icmp .eq 7, 3) := by decide +kernel
theorem dX6_boards_56 : decode cX6_boards 56 = .ok (.iconst 1, 1) := by decide +kernel
theorem dX6_boards_57 : decode cX6_boards 57 = .ok (.goto 4, 3) := by decide +kernel
theorem dX6_boards_60 : decode cX6_boards 60 = .ok (.iconst 0, 1) := by decide +kernel
theorem dX6_boards_61 : decode cX6_boards 61 = .ok (.istore 4, 2) := by decide +kernel
theorem dX6_boards_63 : decode cX6_boards 63 = .ok (.iload_n 2, 1) := by decide +kernel
theorem dX6_boards_64 : decode cX6_boards 64 = .ok (.iload 4, 2) := by decide +kernel
theorem dX6_boards_66 : decode cX6_boards 66 = .ok (.ifCond .eq 9, 3) := by decide +kernel
theorem dX6_boards_69 : decode cX6_boards 69 = .ok (.iconst 1, 1) := by decide +kernel
theorem dX6_boards_70 : decode cX6_boards 70 = .ok (.iload_n 3, 1) := by decide +kernel
theorem dX6_boards_71 : decode cX6_boards 71 = .ok (.ishl, 1) := by decide +kernel
theorem dX6_boards_72 : decode cX6_boards 72 = .ok (.goto 4, 3) := by decide +kernel
theorem dX6_boards_75 : decode cX6_boards 75 = .ok (.iconst 0, 1) := by decide +kernel
theorem dX6_boards_76 : decode cX6_boards 76 = .ok (.ior, 1) := by decide +kernel
theorem dX6_boards_77 : decode cX6_boards 77 = .ok (.istore_n 2, 1) := by decide +kernel
theorem dX6_boards_78 : decode cX6_boards 78 = .ok (.iinc 3 1, 3) := by decide +kernel
theorem dX6_boards_81 : decode cX6_boards 81 = .ok (.goto (-77), 3) := by decide +kernel
theorem dX6_boards_84 : decode cX6_boards 84 = .ok (.iload_n 2, 1) := by decide +kernel
theorem dX6_boards_85 : decode cX6_boards 85 = .ok (.ireturn, 1) := by decide +kernel
theorem dX6_tooSoon_0 : decode cX6_tooSoon 0 = .ok (.iconst 0, 1) := by decide +kernel
theorem dX6_tooSoon_1 : decode cX6_tooSoon 1 = .ok (.istore_n 1, 1) := by decide +kernel
theorem dX6_tooSoon_2 : decode cX6_tooSoon 2 = .ok (.iconst 0, 1) := by decide +kernel
theorem dX6_tooSoon_3 : decode cX6_tooSoon 3 = .ok (.istore_n 2, 1) := by decide +kernel
theorem dX6_tooSoon_4 : decode cX6_tooSoon 4 = .ok (.iload_n 2, 1) := by decide +kernel
theorem dX6_tooSoon_5 : decode cX6_tooSoon 5 = .ok (.aload_n 0, 1) := by decide +kernel
theorem dX6_tooSoon_6 : decode cX6_tooSoon 6 = .ok (.getfield 7, 3) := by decide +kernel
theorem dX6_tooSoon_9 : decode cX6_tooSoon 9 = .ok (.iconst 5, 1) := by decide +kernel
theorem dX6_tooSoon_10 : decode cX6_tooSoon 10 = .ok (.iaload, 1) := by decide +kernel
theorem dX6_tooSoon_11 : decode cX6_tooSoon 11 = .ok (.if_icmp .ge 23, 3) := by decide +kernel
theorem dX6_tooSoon_14 : decode cX6_tooSoon 14 = .ok (.iload_n 1, 1) := by decide +kernel
theorem dX6_tooSoon_15 : decode cX6_tooSoon 15 = .ok (.aload_n 0, 1) := by decide +kernel
theorem dX6_tooSoon_16 : decode cX6_tooSoon 16 = .ok (.getfield 7, 3) := by decide +kernel
theorem dX6_tooSoon_19 : decode cX6_tooSoon 19 = .ok (.iload_n 2, 1) := by decide +kernel
theorem dX6_tooSoon_20 : decode cX6_tooSoon 20 = .ok (.bipush 10, 2) := by decide +kernel
theorem dX6_tooSoon_22 : decode cX6_tooSoon 22 = .ok (.invokestatic 58, 3) := by decide +kernel
theorem dX6_tooSoon_25 : decode cX6_tooSoon 25 = .ok (.iaload, 1) := by decide +kernel
theorem dX6_tooSoon_26 : decode cX6_tooSoon 26 = .ok (.iadd, 1) := by decide +kernel
theorem dX6_tooSoon_27 : decode cX6_tooSoon 27 = .ok (.istore_n 1, 1) := by decide +kernel
theorem dX6_tooSoon_28 : decode cX6_tooSoon 28 = .ok (.iinc 2 1, 3) := by decide +kernel
theorem dX6_tooSoon_31 : decode cX6_tooSoon 31 = .ok (.goto (-27), 3) := by decide +kernel
theorem dX6_tooSoon_34 : decode cX6_tooSoon 34 = .ok (.iload_n 1, 1) := by decide +kernel
theorem dX6_tooSoon_35 : decode cX6_tooSoon 35 = .ok (.ireturn, 1) := by decide +kernel
theorem dX6_count_0 : decode cX6_count 0 = .ok (.iload_n 1, 1) := by decide +kernel
theorem dX6_count_1 : decode cX6_count 1 = .ok (.bipush 13, 2) := by decide +kernel
theorem dX6_count_3 : decode cX6_count 3 = .ok (.bipush 17, 2) := by decide +kernel
theorem dX6_count_5 : decode cX6_count 5 = .ok (.invokestatic 25, 3) := by decide +kernel
theorem dX6_count_8 : decode cX6_count 8 = .ok (.ifCond .eq 13, 3) := by decide +kernel
theorem dX6_count_11 : decode cX6_count 11 = .ok (.aload_n 0, 1) := by decide +kernel
theorem dX6_count_12 : decode cX6_count 12 = .ok (.getfield 7, 3) := by decide +kernel
theorem dX6_count_15 : decode cX6_count 15 = .ok (.iload_n 1, 1) := by decide +kernel
theorem dX6_count_16 : decode cX6_count 16 = .ok (.bipush 13, 2) := by decide +kernel
theorem dX6_count_18 : decode cX6_count 18 = .ok (.isub, 1) := by decide +kernel
theorem dX6_count_19 : decode cX6_count 19 = .ok (.iaload, 1) := by decide +kernel
theorem dX6_count_20 : decode cX6_count 20 = .ok (.ireturn, 1) := by decide +kernel
theorem dX6_count_21 : decode cX6_count 21 = .ok (.iload_n 1, 1) := by decide +kernel
theorem dX6_count_22 : decode cX6_count 22 = .ok (.tableswitch 211 0 19 #[94, 103, 110, 110, 125, 133, 142, 151, 160, 173, 178, 187, 196, 211, 211, 211, 211, 211, 201, 206], 94) := by decide +kernel
theorem dX6_count_116 : decode cX6_count 116 = .ok (.aload_n 0, 1) := by decide +kernel
theorem dX6_count_117 : decode cX6_count 117 = .ok (.getfield 7, 3) := by decide +kernel
theorem dX6_count_120 : decode cX6_count 120 = .ok (.sipush 297, 3) := by decide +kernel
theorem dX6_count_123 : decode cX6_count 123 = .ok (.iaload, 1) := by decide +kernel
theorem dX6_count_124 : decode cX6_count 124 = .ok (.ireturn, 1) := by decide +kernel
theorem dX6_count_125 : decode cX6_count 125 = .ok (.aload_n 0, 1) := by decide +kernel
theorem dX6_count_126 : decode cX6_count 126 = .ok (.getfield 7, 3) := by decide +kernel
theorem dX6_count_129 : decode cX6_count 129 = .ok (.iconst 5, 1) := by decide +kernel
theorem dX6_count_130 : decode cX6_count 130 = .ok (.iaload, 1) := by decide +kernel
theorem dX6_count_131 : decode cX6_count 131 = .ok (.ireturn, 1) := by decide +kernel
theorem dX6_count_132 : decode cX6_count 132 = .ok (.aload_n 0, 1) := by decide +kernel
theorem dX6_count_133 : decode cX6_count 133 = .ok (.iload_n 1, 1) := by decide +kernel
theorem dX6_count_134 : decode cX6_count 134 = .ok (.iconst 3, 1) := by decide +kernel
theorem dX6_count_135 : decode cX6_count 135 = .ok (.if_icmp .ne 7, 3) := by decide +kernel
theorem dX6_count_138 : decode cX6_count 138 = .ok (.iconst 1, 1) := by decide +kernel
theorem dX6_count_139 : decode cX6_count 139 = .ok (.goto 4, 3) := by decide +kernel
theorem dX6_count_142 : decode cX6_count 142 = .ok (.iconst 0, 1) := by decide +kernel
theorem dX6_count_143 : decode cX6_count 143 = .ok (.invokevirtual 145, 3) := by decide +kernel
theorem dX6_count_146 : decode cX6_count 146 = .ok (.ireturn, 1) := by decide +kernel
theorem dX6_count_147 : decode cX6_count 147 = .ok (.aload_n 0, 1) := by decide +kernel
theorem dX6_count_148 : decode cX6_count 148 = .ok (.getfield 7, 3) := by decide +kernel
theorem dX6_count_151 : decode cX6_count 151 = .ok (.bipush 94, 2) := by decide +kernel
theorem dX6_count_153 : decode cX6_count 153 = .ok (.iaload, 1) := by decide +kernel
theorem dX6_count_154 : decode cX6_count 154 = .ok (.ireturn, 1) := by decide +kernel
theorem dX6_count_155 : decode cX6_count 155 = .ok (.aload_n 0, 1) := by decide +kernel
theorem dX6_count_156 : decode cX6_count 156 = .ok (.getfield 7, 3) := by decide +kernel
theorem dX6_count_159 : decode cX6_count 159 = .ok (.sipush 300, 3) := by decide +kernel
theorem dX6_count_162 : decode cX6_count 162 = .ok (.iaload, 1) := by decide +kernel
theorem dX6_count_163 : decode cX6_count 163 = .ok (.ireturn, 1) := by decide +kernel
theorem dX6_count_164 : decode cX6_count 164 = .ok (.aload_n 0, 1) := by decide +kernel
theorem dX6_count_165 : decode cX6_count 165 = .ok (.getfield 7, 3) := by decide +kernel
theorem dX6_count_168 : decode cX6_count 168 = .ok (.sipush 301, 3) := by decide +kernel
theorem dX6_count_171 : decode cX6_count 171 = .ok (.iaload, 1) := by decide +kernel
theorem dX6_count_172 : decode cX6_count 172 = .ok (.ireturn, 1) := by decide +kernel
theorem dX6_count_173 : decode cX6_count 173 = .ok (.aload_n 0, 1) := by decide +kernel
theorem dX6_count_174 : decode cX6_count 174 = .ok (.getfield 7, 3) := by decide +kernel
theorem dX6_count_177 : decode cX6_count 177 = .ok (.sipush 295, 3) := by decide +kernel
theorem dX6_count_180 : decode cX6_count 180 = .ok (.iaload, 1) := by decide +kernel
theorem dX6_count_181 : decode cX6_count 181 = .ok (.ireturn, 1) := by decide +kernel
theorem dX6_count_182 : decode cX6_count 182 = .ok (.aload_n 0, 1) := by decide +kernel
theorem dX6_count_183 : decode cX6_count 183 = .ok (.invokevirtual 92, 3) := by decide +kernel
theorem dX6_count_186 : decode cX6_count 186 = .ok (.ifCond .eq 7, 3) := by decide +kernel
theorem dX6_count_189 : decode cX6_count 189 = .ok (.iconst 1, 1) := by decide +kernel
theorem dX6_count_190 : decode cX6_count 190 = .ok (.goto 4, 3) := by decide +kernel
theorem dX6_count_193 : decode cX6_count 193 = .ok (.iconst 0, 1) := by decide +kernel
theorem dX6_count_194 : decode cX6_count 194 = .ok (.ireturn, 1) := by decide +kernel
theorem dX6_count_195 : decode cX6_count 195 = .ok (.aload_n 0, 1) := by decide +kernel
theorem dX6_count_196 : decode cX6_count 196 = .ok (.invokevirtual 62, 3) := by decide +kernel
theorem dX6_count_199 : decode cX6_count 199 = .ok (.ireturn, 1) := by decide +kernel
theorem dX6_count_200 : decode cX6_count 200 = .ok (.aload_n 0, 1) := by decide +kernel
theorem dX6_count_201 : decode cX6_count 201 = .ok (.getfield 7, 3) := by decide +kernel
theorem dX6_count_204 : decode cX6_count 204 = .ok (.sipush 298, 3) := by decide +kernel
theorem dX6_count_207 : decode cX6_count 207 = .ok (.iaload, 1) := by decide +kernel
theorem dX6_count_208 : decode cX6_count 208 = .ok (.ireturn, 1) := by decide +kernel
theorem dX6_count_209 : decode cX6_count 209 = .ok (.aload_n 0, 1) := by decide +kernel
theorem dX6_count_210 : decode cX6_count 210 = .ok (.getfield 7, 3) := by decide +kernel
theorem dX6_count_213 : decode cX6_count 213 = .ok (.sipush 299, 3) := by decide +kernel
theorem dX6_count_216 : decode cX6_count 216 = .ok (.iaload, 1) := by decide +kernel
theorem dX6_count_217 : decode cX6_count 217 = .ok (.ireturn, 1) := by decide +kernel
theorem dX6_count_218 : decode cX6_count 218 = .ok (.aload_n 0, 1) := by decide +kernel
theorem dX6_count_219 : decode cX6_count 219 = .ok (.invokevirtual 149, 3) := by decide +kernel
theorem dX6_count_222 : decode cX6_count 222 = .ok (.ireturn, 1) := by decide +kernel
theorem dX6_count_223 : decode cX6_count 223 = .ok (.aload_n 0, 1) := by decide +kernel
theorem dX6_count_224 : decode cX6_count 224 = .ok (.getfield 152, 3) := by decide +kernel
theorem dX6_count_227 : decode cX6_count 227 = .ok (.ireturn, 1) := by decide +kernel
theorem dX6_count_228 : decode cX6_count 228 = .ok (.aload_n 0, 1) := by decide +kernel
theorem dX6_count_229 : decode cX6_count 229 = .ok (.getfield 51, 3) := by decide +kernel
theorem dX6_count_232 : decode cX6_count 232 = .ok (.ireturn, 1) := by decide +kernel
theorem dX6_count_233 : decode cX6_count 233 = .ok (.bipush (-2), 2) := by decide +kernel
theorem dX6_count_235 : decode cX6_count 235 = .ok (.ireturn, 1) := by decide +kernel
theorem dX6_known_0 : decode cX6_known 0 = .ok (.iload_n 1, 1) := by decide +kernel
theorem dX6_known_1 : decode cX6_known 1 = .ok (.iconst 0, 1) := by decide +kernel
theorem dX6_known_2 : decode cX6_known 2 = .ok (.bipush 99, 2) := by decide +kernel
theorem dX6_known_4 : decode cX6_known 4 = .ok (.invokestatic 25, 3) := by decide +kernel
theorem dX6_known_7 : decode cX6_known 7 = .ok (.ifCond .ne 6, 3) := by decide +kernel
theorem dX6_known_10 : decode cX6_known 10 = .ok (.bipush (-2), 2) := by decide +kernel
theorem dX6_known_12 : decode cX6_known 12 = .ok (.ireturn, 1) := by decide +kernel
theorem dX6_known_13 : decode cX6_known 13 = .ok (.bipush (-6), 2) := by decide +kernel
theorem dX6_known_15 : decode cX6_known 15 = .ok (.istore_n 2, 1) := by decide +kernel
theorem dX6_known_16 : decode cX6_known 16 = .ok (.aload_n 0, 1) := by decide +kernel
theorem dX6_known_17 : decode cX6_known 17 = .ok (.getfield 7, 3) := by decide +kernel
theorem dX6_known_20 : decode cX6_known 20 = .ok (.iconst 5, 1) := by decide +kernel
theorem dX6_known_21 : decode cX6_known 21 = .ok (.iaload, 1) := by decide +kernel
theorem dX6_known_22 : decode cX6_known 22 = .ok (.iconst 1, 1) := by decide +kernel
theorem dX6_known_23 : decode cX6_known 23 = .ok (.isub, 1) := by decide +kernel
theorem dX6_known_24 : decode cX6_known 24 = .ok (.istore_n 3, 1) := by decide +kernel
theorem dX6_known_25 : decode cX6_known 25 = .ok (.iload_n 3, 1) := by decide +kernel
theorem dX6_known_26 : decode cX6_known 26 = .ok (.ifCond .lt 44, 3) := by decide +kernel
theorem dX6_known_29 : decode cX6_known 29 = .ok (.aload_n 0, 1) := by decide +kernel
theorem dX6_known_30 : decode cX6_known 30 = .ok (.getfield 7, 3) := by decide +kernel
theorem dX6_known_33 : decode cX6_known 33 = .ok (.iload_n 3, 1) := by decide +kernel
theorem dX6_known_34 : decode cX6_known 34 = .ok (.bipush 6, 2) := by decide +kernel
theorem dX6_known_36 : decode cX6_known 36 = .ok (.invokestatic 58, 3) := by decide +kernel
theorem dX6_known_39 : decode cX6_known 39 = .ok (.iaload, 1) := by decide +kernel
theorem dX6_known_40 : decode cX6_known 40 = .ok (.iconst 1, 1) := by decide +kernel
theorem dX6_known_41 : decode cX6_known 41 = .ok (.if_icmp .ne 21, 3) := by decide +kernel
theorem dX6_known_44 : decode cX6_known 44 = .ok (.aload_n 0, 1) := by decide +kernel
theorem dX6_known_45 : decode cX6_known 45 = .ok (.getfield 7, 3) := by decide +kernel
theorem dX6_known_48 : decode cX6_known 48 = .ok (.iload_n 3, 1) := by decide +kernel
theorem dX6_known_49 : decode cX6_known 49 = .ok (.iconst 0, 1) := by decide +kernel
theorem dX6_known_50 : decode cX6_known 50 = .ok (.invokestatic 58, 3) := by decide +kernel
theorem dX6_known_53 : decode cX6_known 53 = .ok (.iaload, 1) := by decide +kernel
theorem dX6_known_54 : decode cX6_known 54 = .ok (.iload_n 1, 1) := by decide +kernel
theorem dX6_known_55 : decode cX6_known 55 = .ok (.if_icmp .ne 7, 3) := by decide +kernel
theorem dX6_known_58 : decode cX6_known 58 = .ok (.iload_n 3, 1) := by decide +kernel
theorem dX6_known_59 : decode cX6_known 59 = .ok (.goto 4, 3) := by decide +kernel
theorem dX6_known_62 : decode cX6_known 62 = .ok (.iload_n 2, 1) := by decide +kernel
theorem dX6_known_63 : decode cX6_known 63 = .ok (.istore_n 2, 1) := by decide +kernel
theorem dX6_known_64 : decode cX6_known 64 = .ok (.iinc 3 (-1), 3) := by decide +kernel
theorem dX6_known_67 : decode cX6_known 67 = .ok (.goto (-42), 3) := by decide +kernel
theorem dX6_known_70 : decode cX6_known 70 = .ok (.iload_n 2, 1) := by decide +kernel
theorem dX6_known_71 : decode cX6_known 71 = .ok (.ireturn, 1) := by decide +kernel
theorem dX6_why_0 : decode cX6_why 0 = .ok (.aload_n 0, 1) := by decide +kernel
theorem dX6_why_1 : decode cX6_why 1 = .ok (.iload_n 1, 1) := by decide +kernel
theorem dX6_why_2 : decode cX6_why 2 = .ok (.invokevirtual 117, 3) := by decide +kernel
theorem dX6_why_5 : decode cX6_why 5 = .ok (.ifCond .eq 11, 3) := by decide +kernel
theorem dX6_why_8 : decode cX6_why 8 = .ok (.aload_n 0, 1) := by decide +kernel
theorem dX6_why_9 : decode cX6_why 9 = .ok (.iload_n 2, 1) := by decide +kernel
theorem dX6_why_10 : decode cX6_why 10 = .ok (.invokevirtual 117, 3) := by decide +kernel
theorem dX6_why_13 : decode cX6_why 13 = .ok (.ifCond .ne 5, 3) := by decide +kernel
theorem dX6_why_16 : decode cX6_why 16 = .ok (.iconst (-1), 1) := by decide +kernel
theorem dX6_why_17 : decode cX6_why 17 = .ok (.ireturn, 1) := by decide +kernel
theorem dX6_why_18 : decode cX6_why 18 = .ok (.iload_n 1, 1) := by decide +kernel
theorem dX6_why_19 : decode cX6_why 19 = .ok (.iload_n 2, 1) := by decide +kernel
theorem dX6_why_20 : decode cX6_why 20 = .ok (.if_icmp .ne 8, 3) := by decide +kernel
theorem dX6_why_23 : decode cX6_why 23 = .ok (.bipush (-2), 2) := by decide +kernel
theorem dX6_why_25 : decode cX6_why 25 = .ok (.goto 9, 3) := by decide +kernel
theorem dX6_why_28 : decode cX6_why 28 = .ok (.aload_n 0, 1) := by decide +kernel
theorem dX6_why_29 : decode cX6_why 29 = .ok (.iload_n 1, 1) := by decide +kernel
theorem dX6_why_30 : decode cX6_why 30 = .ok (.iload_n 2, 1) := by decide +kernel
theorem dX6_why_31 : decode cX6_why 31 = .ok (.invokevirtual 136, 3) := by decide +kernel
theorem dX6_why_34 : decode cX6_why 34 = .ok (.ireturn, 1) := by decide +kernel
theorem dX6_knownIn_0 : decode cX6_knownIn 0 = .ok (.aload_n 0, 1) := by decide +kernel
theorem dX6_knownIn_1 : decode cX6_knownIn 1 = .ok (.iload_n 1, 1) := by decide +kernel
theorem dX6_knownIn_2 : decode cX6_knownIn 2 = .ok (.invokevirtual 117, 3) := by decide +kernel
theorem dX6_knownIn_5 : decode cX6_knownIn 5 = .ok (.ifCond .ne 5, 3) := by decide +kernel
theorem dX6_knownIn_8 : decode cX6_knownIn 8 = .ok (.iconst (-1), 1) := by decide +kernel
theorem dX6_knownIn_9 : decode cX6_knownIn 9 = .ok (.ireturn, 1) := by decide +kernel
theorem dX6_knownIn_10 : decode cX6_knownIn 10 = .ok (.aload_n 0, 1) := by decide +kernel
theorem dX6_knownIn_11 : decode cX6_knownIn 11 = .ok (.getfield 7, 3) := by decide +kernel
theorem dX6_knownIn_14 : decode cX6_knownIn 14 = .ok (.iload_n 1, 1) := by decide +kernel
theorem dX6_knownIn_15 : decode cX6_knownIn 15 = .ok (.iconst 2, 1) := by decide +kernel
theorem dX6_knownIn_16 : decode cX6_knownIn 16 = .ok (.invokestatic 58, 3) := by decide +kernel
theorem dX6_knownIn_19 : decode cX6_knownIn 19 = .ok (.iaload, 1) := by decide +kernel
theorem dX6_knownIn_20 : decode cX6_knownIn 20 = .ok (.bipush (-6), 2) := by decide +kernel
theorem dX6_knownIn_22 : decode cX6_knownIn 22 = .ok (.if_icmp .ne 6, 3) := by decide +kernel
theorem dX6_knownIn_25 : decode cX6_knownIn 25 = .ok (.bipush (-5), 2) := by decide +kernel
theorem dX6_knownIn_27 : decode cX6_knownIn 27 = .ok (.ireturn, 1) := by decide +kernel
theorem dX6_knownIn_28 : decode cX6_knownIn 28 = .ok (.aload_n 0, 1) := by decide +kernel
theorem dX6_knownIn_29 : decode cX6_knownIn 29 = .ok (.invokevirtual 102, 3) := by decide +kernel
theorem dX6_knownIn_32 : decode cX6_knownIn 32 = .ok (.iconst 0, 1) := by decide +kernel
theorem dX6_knownIn_33 : decode cX6_knownIn 33 = .ok (.istore_n 2, 1) := by decide +kernel
theorem dX6_knownIn_34 : decode cX6_knownIn 34 = .ok (.iload_n 2, 1) := by decide +kernel
theorem dX6_knownIn_35 : decode cX6_knownIn 35 = .ok (.sipush 200, 3) := by decide +kernel
theorem dX6_knownIn_38 : decode cX6_knownIn 38 = .ok (.if_icmp .gt 27, 3) := by decide +kernel
theorem dX6_knownIn_41 : decode cX6_knownIn 41 = .ok (.aload_n 0, 1) := by decide +kernel
theorem dX6_knownIn_42 : decode cX6_knownIn 42 = .ok (.getfield 7, 3) := by decide +kernel
theorem dX6_knownIn_45 : decode cX6_knownIn 45 = .ok (.iload_n 1, 1) := by decide +kernel
theorem dX6_knownIn_46 : decode cX6_knownIn 46 = .ok (.bipush 6, 2) := by decide +kernel
theorem dX6_knownIn_48 : decode cX6_knownIn 48 = .ok (.invokestatic 58, 3) := by decide +kernel
theorem dX6_knownIn_51 : decode cX6_knownIn 51 = .ok (.iaload, 1) := by decide +kernel
theorem dX6_knownIn_52 : decode cX6_knownIn 52 = .ok (.ifCond .ne 13, 3) := by decide +kernel
theorem dX6_knownIn_55 : decode cX6_knownIn 55 = .ok (.aload_n 0, 1) := by decide +kernel
theorem dX6_knownIn_56 : decode cX6_knownIn 56 = .ok (.invokevirtual 99, 3) := by decide +kernel
theorem dX6_knownIn_59 : decode cX6_knownIn 59 = .ok (.iinc 2 1, 3) := by decide +kernel
theorem dX6_knownIn_62 : decode cX6_knownIn 62 = .ok (.goto (-28), 3) := by decide +kernel
theorem dX6_knownIn_65 : decode cX6_knownIn 65 = .ok (.aload_n 0, 1) := by decide +kernel
theorem dX6_knownIn_66 : decode cX6_knownIn 66 = .ok (.invokevirtual 155, 3) := by decide +kernel
theorem dX6_knownIn_69 : decode cX6_knownIn 69 = .ok (.iload_n 2, 1) := by decide +kernel
theorem dX6_knownIn_70 : decode cX6_knownIn 70 = .ok (.sipush 200, 3) := by decide +kernel
theorem dX6_knownIn_73 : decode cX6_knownIn 73 = .ok (.if_icmp .le 8, 3) := by decide +kernel
theorem dX6_knownIn_76 : decode cX6_knownIn 76 = .ok (.bipush (-6), 2) := by decide +kernel
theorem dX6_knownIn_78 : decode cX6_knownIn 78 = .ok (.goto 4, 3) := by decide +kernel
theorem dX6_knownIn_81 : decode cX6_knownIn 81 = .ok (.iload_n 2, 1) := by decide +kernel
theorem dX6_knownIn_82 : decode cX6_knownIn 82 = .ok (.ireturn, 1) := by decide +kernel
theorem dX6_hurtsBy_0 : decode cX6_hurtsBy 0 = .ok (.aload_n 0, 1) := by decide +kernel
theorem dX6_hurtsBy_1 : decode cX6_hurtsBy 1 = .ok (.invokevirtual 102, 3) := by decide +kernel
theorem dX6_hurtsBy_4 : decode cX6_hurtsBy 4 = .ok (.aload_n 0, 1) := by decide +kernel
theorem dX6_hurtsBy_5 : decode cX6_hurtsBy 5 = .ok (.iload_n 1, 1) := by decide +kernel
theorem dX6_hurtsBy_6 : decode cX6_hurtsBy 6 = .ok (.iload_n 2, 1) := by decide +kernel
theorem dX6_hurtsBy_7 : decode cX6_hurtsBy 7 = .ok (.iload_n 3, 1) := by decide +kernel
theorem dX6_hurtsBy_8 : decode cX6_hurtsBy 8 = .ok (.invokevirtual 123, 3) := by decide +kernel
theorem dX6_hurtsBy_11 : decode cX6_hurtsBy 11 = .ok (.istore 4, 2) := by decide +kernel
theorem dX6_hurtsBy_13 : decode cX6_hurtsBy 13 = .ok (.aload_n 0, 1) := by decide +kernel
theorem dX6_hurtsBy_14 : decode cX6_hurtsBy 14 = .ok (.getfield 7, 3) := by decide +kernel
theorem dX6_hurtsBy_17 : decode cX6_hurtsBy 17 = .ok (.sipush 299, 3) := by decide +kernel
theorem dX6_hurtsBy_20 : decode cX6_hurtsBy 20 = .ok (.iaload, 1) := by decide +kernel
theorem dX6_hurtsBy_21 : decode cX6_hurtsBy 21 = .ok (.istore 5, 2) := by decide +kernel
theorem dX6_hurtsBy_23 : decode cX6_hurtsBy 23 = .ok (.iload 4, 2) := by decide +kernel
theorem dX6_hurtsBy_25 : decode cX6_hurtsBy 25 = .ok (.ifCond .lt 23, 3) := by decide +kernel
theorem dX6_hurtsBy_28 : decode cX6_hurtsBy 28 = .ok (.aload_n 0, 1) := by decide +kernel
theorem dX6_hurtsBy_29 : decode cX6_hurtsBy 29 = .ok (.getfield 7, 3) := by decide +kernel
theorem dX6_hurtsBy_32 : decode cX6_hurtsBy 32 = .ok (.iload_n 1, 1) := by decide +kernel
theorem dX6_hurtsBy_33 : decode cX6_hurtsBy 33 = .ok (.iconst 4, 1) := by decide +kernel
theorem dX6_hurtsBy_34 : decode cX6_hurtsBy 34 = .ok (.invokestatic 58, 3) := by decide +kernel
theorem dX6_hurtsBy_37 : decode cX6_hurtsBy 37 = .ok (.iaload, 1) := by decide +kernel
theorem dX6_hurtsBy_38 : decode cX6_hurtsBy 38 = .ok (.ifCond .eq 10, 3) := by decide +kernel
theorem dX6_hurtsBy_41 : decode cX6_hurtsBy 41 = .ok (.aload_n 0, 1) := by decide +kernel
theorem dX6_hurtsBy_42 : decode cX6_hurtsBy 42 = .ok (.invokevirtual 99, 3) := by decide +kernel
theorem dX6_hurtsBy_45 : decode cX6_hurtsBy 45 = .ok (.goto (-22), 3) := by decide +kernel
theorem dX6_hurtsBy_48 : decode cX6_hurtsBy 48 = .ok (.aload_n 0, 1) := by decide +kernel
theorem dX6_hurtsBy_49 : decode cX6_hurtsBy 49 = .ok (.getfield 7, 3) := by decide +kernel
theorem dX6_hurtsBy_52 : decode cX6_hurtsBy 52 = .ok (.sipush 299, 3) := by decide +kernel
theorem dX6_hurtsBy_55 : decode cX6_hurtsBy 55 = .ok (.iaload, 1) := by decide +kernel
theorem dX6_hurtsBy_56 : decode cX6_hurtsBy 56 = .ok (.iload 5, 2) := by decide +kernel
theorem dX6_hurtsBy_58 : decode cX6_hurtsBy 58 = .ok (.isub, 1) := by decide +kernel
theorem dX6_hurtsBy_59 : decode cX6_hurtsBy 59 = .ok (.istore 6, 2) := by decide +kernel
theorem dX6_hurtsBy_61 : decode cX6_hurtsBy 61 = .ok (.aload_n 0, 1) := by decide +kernel
theorem dX6_hurtsBy_62 : decode cX6_hurtsBy 62 = .ok (.invokevirtual 155, 3) := by decide +kernel
theorem dX6_hurtsBy_65 : decode cX6_hurtsBy 65 = .ok (.iload 4, 2) := by decide +kernel
theorem dX6_hurtsBy_67 : decode cX6_hurtsBy 67 = .ok (.ifCond .ge 8, 3) := by decide +kernel
theorem dX6_hurtsBy_70 : decode cX6_hurtsBy 70 = .ok (.iload 4, 2) := by decide +kernel
theorem dX6_hurtsBy_72 : decode cX6_hurtsBy 72 = .ok (.goto 5, 3) := by decide +kernel
theorem dX6_hurtsBy_75 : decode cX6_hurtsBy 75 = .ok (.iload 6, 2) := by decide +kernel
theorem dX6_hurtsBy_77 : decode cX6_hurtsBy 77 = .ok (.ireturn, 1) := by decide +kernel
theorem dX6_wouldHurt_0 : decode cX6_wouldHurt 0 = .ok (.aload_n 0, 1) := by decide +kernel
theorem dX6_wouldHurt_1 : decode cX6_wouldHurt 1 = .ok (.iload_n 1, 1) := by decide +kernel
theorem dX6_wouldHurt_2 : decode cX6_wouldHurt 2 = .ok (.iload_n 2, 1) := by decide +kernel
theorem dX6_wouldHurt_3 : decode cX6_wouldHurt 3 = .ok (.iload_n 3, 1) := by decide +kernel
theorem dX6_wouldHurt_4 : decode cX6_wouldHurt 4 = .ok (.invokevirtual 158, 3) := by decide +kernel
theorem dX6_wouldHurt_7 : decode cX6_wouldHurt 7 = .ok (.ireturn, 1) := by decide +kernel
theorem dX6_safeSpeed_0 : decode cX6_safeSpeed 0 = .ok (.bipush (-6), 2) := by decide +kernel
theorem dX6_safeSpeed_2 : decode cX6_safeSpeed 2 = .ok (.istore_n 3, 1) := by decide +kernel
theorem dX6_safeSpeed_3 : decode cX6_safeSpeed 3 = .ok (.aload_n 0, 1) := by decide +kernel
theorem dX6_safeSpeed_4 : decode cX6_safeSpeed 4 = .ok (.iload_n 1, 1) := by decide +kernel
theorem dX6_safeSpeed_5 : decode cX6_safeSpeed 5 = .ok (.iload_n 2, 1) := by decide +kernel
theorem dX6_safeSpeed_6 : decode cX6_safeSpeed 6 = .ok (.iconst 1, 1) := by decide +kernel
theorem dX6_safeSpeed_7 : decode cX6_safeSpeed 7 = .ok (.invokevirtual 158, 3) := by decide +kernel
theorem dX6_safeSpeed_10 : decode cX6_safeSpeed 10 = .ok (.istore 4, 2) := by decide +kernel
theorem dX6_safeSpeed_12 : decode cX6_safeSpeed 12 = .ok (.iconst 1, 1) := by decide +kernel
theorem dX6_safeSpeed_13 : decode cX6_safeSpeed 13 = .ok (.istore 5, 2) := by decide +kernel
theorem dX6_safeSpeed_15 : decode cX6_safeSpeed 15 = .ok (.iload 5, 2) := by decide +kernel
theorem dX6_safeSpeed_17 : decode cX6_safeSpeed 17 = .ok (.bipush 24, 2) := by decide +kernel
theorem dX6_safeSpeed_19 : decode cX6_safeSpeed 19 = .ok (.if_icmp .gt 32, 3) := by decide +kernel
theorem dX6_safeSpeed_22 : decode cX6_safeSpeed 22 = .ok (.iload 4, 2) := by decide +kernel
theorem dX6_safeSpeed_24 : decode cX6_safeSpeed 24 = .ok (.ifCond .lt 27, 3) := by decide +kernel
theorem dX6_safeSpeed_27 : decode cX6_safeSpeed 27 = .ok (.aload_n 0, 1) := by decide +kernel
theorem dX6_safeSpeed_28 : decode cX6_safeSpeed 28 = .ok (.iload_n 1, 1) := by decide +kernel
theorem dX6_safeSpeed_29 : decode cX6_safeSpeed 29 = .ok (.iload_n 2, 1) := by decide +kernel
theorem dX6_safeSpeed_30 : decode cX6_safeSpeed 30 = .ok (.iload 5, 2) := by decide +kernel
theorem dX6_safeSpeed_32 : decode cX6_safeSpeed 32 = .ok (.invokevirtual 158, 3) := by decide +kernel
theorem dX6_safeSpeed_35 : decode cX6_safeSpeed 35 = .ok (.ifCond .ne 8, 3) := by decide +kernel
theorem dX6_safeSpeed_38 : decode cX6_safeSpeed 38 = .ok (.iload 5, 2) := by decide +kernel
theorem dX6_safeSpeed_40 : decode cX6_safeSpeed 40 = .ok (.goto 4, 3) := by decide +kernel
theorem dX6_safeSpeed_43 : decode cX6_safeSpeed 43 = .ok (.iload_n 3, 1) := by decide +kernel
theorem dX6_safeSpeed_44 : decode cX6_safeSpeed 44 = .ok (.istore_n 3, 1) := by decide +kernel
theorem dX6_safeSpeed_45 : decode cX6_safeSpeed 45 = .ok (.iinc 5 1, 3) := by decide +kernel
theorem dX6_safeSpeed_48 : decode cX6_safeSpeed 48 = .ok (.goto (-33), 3) := by decide +kernel
theorem dX6_safeSpeed_51 : decode cX6_safeSpeed 51 = .ok (.iload 4, 2) := by decide +kernel
theorem dX6_safeSpeed_53 : decode cX6_safeSpeed 53 = .ok (.ifCond .ge 8, 3) := by decide +kernel
theorem dX6_safeSpeed_56 : decode cX6_safeSpeed 56 = .ok (.iload 4, 2) := by decide +kernel
theorem dX6_safeSpeed_58 : decode cX6_safeSpeed 58 = .ok (.goto 4, 3) := by decide +kernel
theorem dX6_safeSpeed_61 : decode cX6_safeSpeed 61 = .ok (.iload_n 3, 1) := by decide +kernel
theorem dX6_safeSpeed_62 : decode cX6_safeSpeed 62 = .ok (.ireturn, 1) := by decide +kernel
theorem dX6_quietIn_0 : decode cX6_quietIn 0 = .ok (.aload_n 0, 1) := by decide +kernel
theorem dX6_quietIn_1 : decode cX6_quietIn 1 = .ok (.invokevirtual 102, 3) := by decide +kernel
theorem dX6_quietIn_4 : decode cX6_quietIn 4 = .ok (.iconst 0, 1) := by decide +kernel
theorem dX6_quietIn_5 : decode cX6_quietIn 5 = .ok (.istore_n 1, 1) := by decide +kernel
theorem dX6_quietIn_6 : decode cX6_quietIn 6 = .ok (.iload_n 1, 1) := by decide +kernel
theorem dX6_quietIn_7 : decode cX6_quietIn 7 = .ok (.sipush 200, 3) := by decide +kernel
theorem dX6_quietIn_10 : decode cX6_quietIn 10 = .ok (.if_icmp .gt 22, 3) := by decide +kernel
theorem dX6_quietIn_13 : decode cX6_quietIn 13 = .ok (.aload_n 0, 1) := by decide +kernel
theorem dX6_quietIn_14 : decode cX6_quietIn 14 = .ok (.bipush (-6), 2) := by decide +kernel
theorem dX6_quietIn_16 : decode cX6_quietIn 16 = .ok (.invokevirtual 130, 3) := by decide +kernel
theorem dX6_quietIn_19 : decode cX6_quietIn 19 = .ok (.ifCond .le 13, 3) := by decide +kernel
theorem dX6_quietIn_22 : decode cX6_quietIn 22 = .ok (.aload_n 0, 1) := by decide +kernel
theorem dX6_quietIn_23 : decode cX6_quietIn 23 = .ok (.invokevirtual 99, 3) := by decide +kernel
theorem dX6_quietIn_26 : decode cX6_quietIn 26 = .ok (.iinc 1 1, 3) := by decide +kernel
theorem dX6_quietIn_29 : decode cX6_quietIn 29 = .ok (.goto (-23), 3) := by decide +kernel
theorem dX6_quietIn_32 : decode cX6_quietIn 32 = .ok (.aload_n 0, 1) := by decide +kernel
theorem dX6_quietIn_33 : decode cX6_quietIn 33 = .ok (.invokevirtual 155, 3) := by decide +kernel
theorem dX6_quietIn_36 : decode cX6_quietIn 36 = .ok (.iload_n 1, 1) := by decide +kernel
theorem dX6_quietIn_37 : decode cX6_quietIn 37 = .ok (.sipush 200, 3) := by decide +kernel
theorem dX6_quietIn_40 : decode cX6_quietIn 40 = .ok (.if_icmp .le 8, 3) := by decide +kernel
theorem dX6_quietIn_43 : decode cX6_quietIn 43 = .ok (.bipush (-6), 2) := by decide +kernel
theorem dX6_quietIn_45 : decode cX6_quietIn 45 = .ok (.goto 4, 3) := by decide +kernel
theorem dX6_quietIn_48 : decode cX6_quietIn 48 = .ok (.iload_n 1, 1) := by decide +kernel
theorem dX6_quietIn_49 : decode cX6_quietIn 49 = .ok (.ireturn, 1) := by decide +kernel
theorem dX6_put_0 : decode cX6_put 0 = .ok (.iconst 0, 1) := by decide +kernel
theorem dX6_put_1 : decode cX6_put 1 = .ok (.istore_n 3, 1) := by decide +kernel
theorem dX6_put_2 : decode cX6_put 2 = .ok (.iconst 0, 1) := by decide +kernel
theorem dX6_put_3 : decode cX6_put 3 = .ok (.istore 4, 2) := by decide +kernel
theorem dX6_put_5 : decode cX6_put 5 = .ok (.lload_n 1, 1) := by decide +kernel
theorem dX6_put_6 : decode cX6_put 6 = .ok (.ldc2_w 161, 3) := by decide +kernel
theorem dX6_put_9 : decode cX6_put 9 = .ok (.land, 1) := by decide +kernel
theorem dX6_put_10 : decode cX6_put 10 = .ok (.lconst 0, 1) := by decide +kernel
theorem dX6_put_11 : decode cX6_put 11 = .ok (.lcmp, 1) := by decide +kernel
theorem dX6_put_12 : decode cX6_put 12 = .ok (.ifCond .ne 7, 3) := by decide +kernel
theorem dX6_put_15 : decode cX6_put 15 = .ok (.iconst 1, 1) := by decide +kernel
theorem dX6_put_16 : decode cX6_put 16 = .ok (.goto 4, 3) := by decide +kernel
theorem dX6_put_19 : decode cX6_put 19 = .ok (.iconst 0, 1) := by decide +kernel
theorem dX6_put_20 : decode cX6_put 20 = .ok (.istore 5, 2) := by decide +kernel
theorem dX6_put_22 : decode cX6_put 22 = .ok (.iconst 0, 1) := by decide +kernel
theorem dX6_put_23 : decode cX6_put 23 = .ok (.istore 6, 2) := by decide +kernel
theorem dX6_put_25 : decode cX6_put 25 = .ok (.iload 6, 2) := by decide +kernel
theorem dX6_put_27 : decode cX6_put 27 = .ok (.bipush 8, 2) := by decide +kernel
theorem dX6_put_29 : decode cX6_put 29 = .ok (.if_icmp .ge 90, 3) := by decide +kernel
theorem dX6_put_32 : decode cX6_put 32 = .ok (.lload_n 1, 1) := by decide +kernel
theorem dX6_put_33 : decode cX6_put 33 = .ok (.bipush 8, 2) := by decide +kernel
theorem dX6_put_35 : decode cX6_put 35 = .ok (.iload 6, 2) := by decide +kernel
theorem dX6_put_37 : decode cX6_put 37 = .ok (.imul, 1) := by decide +kernel
theorem dX6_put_38 : decode cX6_put 38 = .ok (.lshr, 1) := by decide +kernel
theorem dX6_put_39 : decode cX6_put 39 = .ok (.ldc2_w 161, 3) := by decide +kernel
theorem dX6_put_42 : decode cX6_put 42 = .ok (.land, 1) := by decide +kernel
theorem dX6_put_43 : decode cX6_put 43 = .ok (.l2i, 1) := by decide +kernel
theorem dX6_put_44 : decode cX6_put 44 = .ok (.istore 7, 2) := by decide +kernel
theorem dX6_put_46 : decode cX6_put 46 = .ok (.iload 4, 2) := by decide +kernel
theorem dX6_put_48 : decode cX6_put 48 = .ok (.ifCond .ne 8, 3) := by decide +kernel
theorem dX6_put_51 : decode cX6_put 51 = .ok (.iload 7, 2) := by decide +kernel
theorem dX6_put_53 : decode cX6_put 53 = .ok (.ifCond .ne 7, 3) := by decide +kernel
theorem dX6_put_56 : decode cX6_put 56 = .ok (.iconst 1, 1) := by decide +kernel
theorem dX6_put_57 : decode cX6_put 57 = .ok (.goto 4, 3) := by decide +kernel
theorem dX6_put_60 : decode cX6_put 60 = .ok (.iconst 0, 1) := by decide +kernel
theorem dX6_put_61 : decode cX6_put 61 = .ok (.istore 4, 2) := by decide +kernel
theorem dX6_put_63 : decode cX6_put 63 = .ok (.iload 5, 2) := by decide +kernel
theorem dX6_put_65 : decode cX6_put 65 = .ok (.ifCond .ne 28, 3) := by decide +kernel
theorem dX6_put_68 : decode cX6_put 68 = .ok (.iload 4, 2) := by decide +kernel
theorem dX6_put_70 : decode cX6_put 70 = .ok (.ifCond .eq 11, 3) := by decide +kernel
theorem dX6_put_73 : decode cX6_put 73 = .ok (.iload 7, 2) := by decide +kernel
theorem dX6_put_75 : decode cX6_put 75 = .ok (.ifCond .eq 22, 3) := by decide +kernel
theorem dX6_put_78 : decode cX6_put 78 = .ok (.goto 15, 3) := by decide +kernel
theorem dX6_put_81 : decode cX6_put 81 = .ok (.iload 7, 2) := by decide +kernel
theorem dX6_put_83 : decode cX6_put 83 = .ok (.bipush 33, 2) := by decide +kernel
theorem dX6_put_85 : decode cX6_put 85 = .ok (.bipush 126, 2) := by decide +kernel
theorem dX6_put_87 : decode cX6_put 87 = .ok (.invokestatic 25, 3) := by decide +kernel
theorem dX6_put_90 : decode cX6_put 90 = .ok (.ifCond .ne 7, 3) := by decide +kernel
theorem dX6_put_93 : decode cX6_put 93 = .ok (.iconst 1, 1) := by decide +kernel
theorem dX6_put_94 : decode cX6_put 94 = .ok (.goto 4, 3) := by decide +kernel
theorem dX6_put_97 : decode cX6_put 97 = .ok (.iconst 0, 1) := by decide +kernel
theorem dX6_put_98 : decode cX6_put 98 = .ok (.istore 5, 2) := by decide +kernel
theorem dX6_put_100 : decode cX6_put 100 = .ok (.iload_n 3, 1) := by decide +kernel
theorem dX6_put_101 : decode cX6_put 101 = .ok (.iload 4, 2) := by decide +kernel
theorem dX6_put_103 : decode cX6_put 103 = .ok (.ifCond .eq 7, 3) := by decide +kernel
theorem dX6_put_106 : decode cX6_put 106 = .ok (.iconst 0, 1) := by decide +kernel
theorem dX6_put_107 : decode cX6_put 107 = .ok (.goto 4, 3) := by decide +kernel
theorem dX6_put_110 : decode cX6_put 110 = .ok (.iconst 1, 1) := by decide +kernel
theorem dX6_put_111 : decode cX6_put 111 = .ok (.iadd, 1) := by decide +kernel
theorem dX6_put_112 : decode cX6_put 112 = .ok (.istore_n 3, 1) := by decide +kernel
theorem dX6_put_113 : decode cX6_put 113 = .ok (.iinc 6 1, 3) := by decide +kernel
theorem dX6_put_116 : decode cX6_put 116 = .ok (.goto (-91), 3) := by decide +kernel
theorem dX6_put_119 : decode cX6_put 119 = .ok (.iload 5, 2) := by decide +kernel
theorem dX6_put_121 : decode cX6_put 121 = .ok (.ifCond .eq 6, 3) := by decide +kernel
theorem dX6_put_124 : decode cX6_put 124 = .ok (.bipush (-2), 2) := by decide +kernel
theorem dX6_put_126 : decode cX6_put 126 = .ok (.ireturn, 1) := by decide +kernel
theorem dX6_put_127 : decode cX6_put 127 = .ok (.aload_n 0, 1) := by decide +kernel
theorem dX6_put_128 : decode cX6_put 128 = .ok (.getfield 152, 3) := by decide +kernel
theorem dX6_put_131 : decode cX6_put 131 = .ok (.iload_n 3, 1) := by decide +kernel
theorem dX6_put_132 : decode cX6_put 132 = .ok (.iadd, 1) := by decide +kernel
theorem dX6_put_133 : decode cX6_put 133 = .ok (.bipush 80, 2) := by decide +kernel
theorem dX6_put_135 : decode cX6_put 135 = .ok (.if_icmp .le 6, 3) := by decide +kernel
theorem dX6_put_138 : decode cX6_put 138 = .ok (.bipush (-4), 2) := by decide +kernel
theorem dX6_put_140 : decode cX6_put 140 = .ok (.ireturn, 1) := by decide +kernel
theorem dX6_put_141 : decode cX6_put 141 = .ok (.iload_n 3, 1) := by decide +kernel
theorem dX6_put_142 : decode cX6_put 142 = .ok (.iconst 1, 1) := by decide +kernel
theorem dX6_put_143 : decode cX6_put 143 = .ok (.isub, 1) := by decide +kernel
theorem dX6_put_144 : decode cX6_put 144 = .ok (.istore 6, 2) := by decide +kernel
theorem dX6_put_146 : decode cX6_put 146 = .ok (.iload 6, 2) := by decide +kernel
theorem dX6_put_148 : decode cX6_put 148 = .ok (.ifCond .lt 40, 3) := by decide +kernel
theorem dX6_put_151 : decode cX6_put 151 = .ok (.aload_n 0, 1) := by decide +kernel
theorem dX6_put_152 : decode cX6_put 152 = .ok (.getfield 22, 3) := by decide +kernel
theorem dX6_put_155 : decode cX6_put 155 = .ok (.aload_n 0, 1) := by decide +kernel
theorem dX6_put_156 : decode cX6_put 156 = .ok (.getfield 152, 3) := by decide +kernel
theorem dX6_put_159 : decode cX6_put 159 = .ok (.lload_n 1, 1) := by decide +kernel
theorem dX6_put_160 : decode cX6_put 160 = .ok (.bipush 8, 2) := by decide +kernel
theorem dX6_put_162 : decode cX6_put 162 = .ok (.iload 6, 2) := by decide +kernel
theorem dX6_put_164 : decode cX6_put 164 = .ok (.imul, 1) := by decide +kernel
theorem dX6_put_165 : decode cX6_put 165 = .ok (.lshr, 1) := by decide +kernel
theorem dX6_put_166 : decode cX6_put 166 = .ok (.ldc2_w 161, 3) := by decide +kernel
theorem dX6_put_169 : decode cX6_put 169 = .ok (.land, 1) := by decide +kernel
theorem dX6_put_170 : decode cX6_put 170 = .ok (.l2i, 1) := by decide +kernel
theorem dX6_put_171 : decode cX6_put 171 = .ok (.iastore, 1) := by decide +kernel
theorem dX6_put_172 : decode cX6_put 172 = .ok (.aload_n 0, 1) := by decide +kernel
theorem dX6_put_173 : decode cX6_put 173 = .ok (.dup, 1) := by decide +kernel
theorem dX6_put_174 : decode cX6_put 174 = .ok (.getfield 152, 3) := by decide +kernel
theorem dX6_put_177 : decode cX6_put 177 = .ok (.iconst 1, 1) := by decide +kernel
theorem dX6_put_178 : decode cX6_put 178 = .ok (.iadd, 1) := by decide +kernel
theorem dX6_put_179 : decode cX6_put 179 = .ok (.putfield 152, 3) := by decide +kernel
theorem dX6_put_182 : decode cX6_put 182 = .ok (.iinc 6 (-1), 3) := by decide +kernel
theorem dX6_put_185 : decode cX6_put 185 = .ok (.goto (-39), 3) := by decide +kernel
theorem dX6_put_188 : decode cX6_put 188 = .ok (.aload_n 0, 1) := by decide +kernel
theorem dX6_put_189 : decode cX6_put 189 = .ok (.getfield 152, 3) := by decide +kernel
theorem dX6_put_192 : decode cX6_put 192 = .ok (.ireturn, 1) := by decide +kernel
theorem dX6_wipe_0 : decode cX6_wipe 0 = .ok (.aload_n 0, 1) := by decide +kernel
theorem dX6_wipe_1 : decode cX6_wipe 1 = .ok (.getfield 152, 3) := by decide +kernel
theorem dX6_wipe_4 : decode cX6_wipe 4 = .ok (.istore_n 1, 1) := by decide +kernel
theorem dX6_wipe_5 : decode cX6_wipe 5 = .ok (.aload_n 0, 1) := by decide +kernel
theorem dX6_wipe_6 : decode cX6_wipe 6 = .ok (.iconst 0, 1) := by decide +kernel
theorem dX6_wipe_7 : decode cX6_wipe 7 = .ok (.putfield 152, 3) := by decide +kernel
theorem dX6_wipe_10 : decode cX6_wipe 10 = .ok (.iload_n 1, 1) := by decide +kernel
theorem dX6_wipe_11 : decode cX6_wipe 11 = .ok (.ireturn, 1) := by decide +kernel
theorem dX6_isNext_0 : decode cX6_isNext 0 = .ok (.aload_n 0, 1) := by decide +kernel
theorem dX6_isNext_1 : decode cX6_isNext 1 = .ok (.getfield 163, 3) := by decide +kernel
theorem dX6_isNext_4 : decode cX6_isNext 4 = .ok (.ifCond .ne 35, 3) := by decide +kernel
theorem dX6_isNext_7 : decode cX6_isNext 7 = .ok (.aload_n 0, 1) := by decide +kernel
theorem dX6_isNext_8 : decode cX6_isNext 8 = .ok (.getfield 167, 3) := by decide +kernel
theorem dX6_isNext_11 : decode cX6_isNext 11 = .ok (.aload_n 0, 1) := by decide +kernel
theorem dX6_isNext_12 : decode cX6_isNext 12 = .ok (.getfield 152, 3) := by decide +kernel
theorem dX6_isNext_15 : decode cX6_isNext 15 = .ok (.if_icmp .ge 24, 3) := by decide +kernel
theorem dX6_isNext_18 : decode cX6_isNext 18 = .ok (.aload_n 0, 1) := by decide +kernel
theorem dX6_isNext_19 : decode cX6_isNext 19 = .ok (.getfield 22, 3) := by decide +kernel
theorem dX6_isNext_22 : decode cX6_isNext 22 = .ok (.aload_n 0, 1) := by decide +kernel
theorem dX6_isNext_23 : decode cX6_isNext 23 = .ok (.getfield 167, 3) := by decide +kernel
theorem dX6_isNext_26 : decode cX6_isNext 26 = .ok (.iaload, 1) := by decide +kernel
theorem dX6_isNext_27 : decode cX6_isNext 27 = .ok (.iload_n 1, 1) := by decide +kernel
theorem dX6_isNext_28 : decode cX6_isNext 28 = .ok (.iload_n 2, 1) := by decide +kernel
theorem dX6_isNext_29 : decode cX6_isNext 29 = .ok (.invokestatic 25, 3) := by decide +kernel
theorem dX6_isNext_32 : decode cX6_isNext 32 = .ok (.ifCond .eq 7, 3) := by decide +kernel
theorem dX6_isNext_35 : decode cX6_isNext 35 = .ok (.iconst 1, 1) := by decide +kernel
theorem dX6_isNext_36 : decode cX6_isNext 36 = .ok (.goto 4, 3) := by decide +kernel
theorem dX6_isNext_39 : decode cX6_isNext 39 = .ok (.iconst 0, 1) := by decide +kernel
theorem dX6_isNext_40 : decode cX6_isNext 40 = .ok (.ireturn, 1) := by decide +kernel
theorem dX6_takes_0 : decode cX6_takes 0 = .ok (.aload_n 0, 1) := by decide +kernel
theorem dX6_takes_1 : decode cX6_takes 1 = .ok (.iload_n 1, 1) := by decide +kernel
theorem dX6_takes_2 : decode cX6_takes 2 = .ok (.iload_n 2, 1) := by decide +kernel
theorem dX6_takes_3 : decode cX6_takes 3 = .ok (.invokevirtual 170, 3) := by decide +kernel
theorem dX6_takes_6 : decode cX6_takes 6 = .ok (.istore_n 3, 1) := by decide +kernel
theorem dX6_takes_7 : decode cX6_takes 7 = .ok (.iload_n 3, 1) := by decide +kernel
theorem dX6_takes_8 : decode cX6_takes 8 = .ok (.ifCond .eq 17, 3) := by decide +kernel
theorem dX6_takes_11 : decode cX6_takes 11 = .ok (.aload_n 0, 1) := by decide +kernel
theorem dX6_takes_12 : decode cX6_takes 12 = .ok (.getfield 22, 3) := by decide +kernel
theorem dX6_takes_15 : decode cX6_takes 15 = .ok (.aload_n 0, 1) := by decide +kernel
theorem dX6_takes_16 : decode cX6_takes 16 = .ok (.getfield 167, 3) := by decide +kernel
theorem dX6_takes_19 : decode cX6_takes 19 = .ok (.iaload, 1) := by decide +kernel
theorem dX6_takes_20 : decode cX6_takes 20 = .ok (.iload_n 1, 1) := by decide +kernel
theorem dX6_takes_21 : decode cX6_takes 21 = .ok (.isub, 1) := by decide +kernel
theorem dX6_takes_22 : decode cX6_takes 22 = .ok (.goto 4, 3) := by decide +kernel
theorem dX6_takes_25 : decode cX6_takes 25 = .ok (.iconst 0, 1) := by decide +kernel
theorem dX6_takes_26 : decode cX6_takes 26 = .ok (.istore 4, 2) := by decide +kernel
theorem dX6_takes_28 : decode cX6_takes 28 = .ok (.aload_n 0, 1) := by decide +kernel
theorem dX6_takes_29 : decode cX6_takes 29 = .ok (.dup, 1) := by decide +kernel
theorem dX6_takes_30 : decode cX6_takes 30 = .ok (.getfield 167, 3) := by decide +kernel
theorem dX6_takes_33 : decode cX6_takes 33 = .ok (.iload_n 3, 1) := by decide +kernel
theorem dX6_takes_34 : decode cX6_takes 34 = .ok (.ifCond .eq 7, 3) := by decide +kernel
theorem dX6_takes_37 : decode cX6_takes 37 = .ok (.iconst 1, 1) := by decide +kernel
theorem dX6_takes_38 : decode cX6_takes 38 = .ok (.goto 4, 3) := by decide +kernel
theorem dX6_takes_41 : decode cX6_takes 41 = .ok (.iconst 0, 1) := by decide +kernel
theorem dX6_takes_42 : decode cX6_takes 42 = .ok (.iadd, 1) := by decide +kernel
theorem dX6_takes_43 : decode cX6_takes 43 = .ok (.putfield 167, 3) := by decide +kernel
theorem dX6_takes_46 : decode cX6_takes 46 = .ok (.aload_n 0, 1) := by decide +kernel
theorem dX6_takes_47 : decode cX6_takes 47 = .ok (.aload_n 0, 1) := by decide +kernel
theorem dX6_takes_48 : decode cX6_takes 48 = .ok (.getfield 163, 3) := by decide +kernel
theorem dX6_takes_51 : decode cX6_takes 51 = .ok (.ifCond .ne 7, 3) := by decide +kernel
theorem dX6_takes_54 : decode cX6_takes 54 = .ok (.iload_n 3, 1) := by decide +kernel
theorem dX6_takes_55 : decode cX6_takes 55 = .ok (.ifCond .ne 7, 3) := by decide +kernel
theorem dX6_takes_58 : decode cX6_takes 58 = .ok (.iconst 1, 1) := by decide +kernel
theorem dX6_takes_59 : decode cX6_takes 59 = .ok (.goto 4, 3) := by decide +kernel
theorem dX6_takes_62 : decode cX6_takes 62 = .ok (.iconst 0, 1) := by decide +kernel
theorem dX6_takes_63 : decode cX6_takes 63 = .ok (.putfield 163, 3) := by decide +kernel
theorem dX6_takes_66 : decode cX6_takes 66 = .ok (.iload 4, 2) := by decide +kernel
theorem dX6_takes_68 : decode cX6_takes 68 = .ok (.ireturn, 1) := by decide +kernel
theorem dX6_number_0 : decode cX6_number 0 = .ok (.aload_n 0, 1) := by decide +kernel
theorem dX6_number_1 : decode cX6_number 1 = .ok (.bipush 48, 2) := by decide +kernel
theorem dX6_number_3 : decode cX6_number 3 = .ok (.bipush 57, 2) := by decide +kernel
theorem dX6_number_5 : decode cX6_number 5 = .ok (.invokevirtual 173, 3) := by decide +kernel
theorem dX6_number_8 : decode cX6_number 8 = .ok (.istore_n 1, 1) := by decide +kernel
theorem dX6_number_9 : decode cX6_number 9 = .ok (.iload_n 1, 1) := by decide +kernel
theorem dX6_number_10 : decode cX6_number 10 = .ok (.ifCond .le 28, 3) := by decide +kernel
theorem dX6_number_13 : decode cX6_number 13 = .ok (.aload_n 0, 1) := by decide +kernel
theorem dX6_number_14 : decode cX6_number 14 = .ok (.bipush 48, 2) := by decide +kernel
theorem dX6_number_16 : decode cX6_number 16 = .ok (.bipush 57, 2) := by decide +kernel
theorem dX6_number_18 : decode cX6_number 18 = .ok (.invokevirtual 170, 3) := by decide +kernel
theorem dX6_number_21 : decode cX6_number 21 = .ok (.ifCond .eq 17, 3) := by decide +kernel
theorem dX6_number_24 : decode cX6_number 24 = .ok (.bipush 10, 2) := by decide +kernel
theorem dX6_number_26 : decode cX6_number 26 = .ok (.iload_n 1, 1) := by decide +kernel
theorem dX6_number_27 : decode cX6_number 27 = .ok (.imul, 1) := by decide +kernel
theorem dX6_number_28 : decode cX6_number 28 = .ok (.aload_n 0, 1) := by decide +kernel
theorem dX6_number_29 : decode cX6_number 29 = .ok (.bipush 48, 2) := by decide +kernel
theorem dX6_number_31 : decode cX6_number 31 = .ok (.bipush 57, 2) := by decide +kernel
theorem dX6_number_33 : decode cX6_number 33 = .ok (.invokevirtual 173, 3) := by decide +kernel
theorem dX6_number_36 : decode cX6_number 36 = .ok (.iadd, 1) := by decide +kernel
theorem dX6_number_37 : decode cX6_number 37 = .ok (.istore_n 1, 1) := by decide +kernel
theorem dX6_number_38 : decode cX6_number 38 = .ok (.iload_n 1, 1) := by decide +kernel
theorem dX6_number_39 : decode cX6_number 39 = .ok (.ireturn, 1) := by decide +kernel
theorem dX6_between_0 : decode cX6_between 0 = .ok (.iload_n 0, 1) := by decide +kernel
theorem dX6_between_1 : decode cX6_between 1 = .ok (.bipush 98, 2) := by decide +kernel
theorem dX6_between_3 : decode cX6_between 3 = .ok (.if_icmp .ne 8, 3) := by decide +kernel
theorem dX6_between_6 : decode cX6_between 6 = .ok (.bipush 46, 2) := by decide +kernel
theorem dX6_between_8 : decode cX6_between 8 = .ok (.goto 16, 3) := by decide +kernel
theorem dX6_between_11 : decode cX6_between 11 = .ok (.iload_n 0, 1) := by decide +kernel
theorem dX6_between_12 : decode cX6_between 12 = .ok (.bipush 105, 2) := by decide +kernel
theorem dX6_between_14 : decode cX6_between 14 = .ok (.if_icmp .ne 8, 3) := by decide +kernel
theorem dX6_between_17 : decode cX6_between 17 = .ok (.bipush 64, 2) := by decide +kernel
theorem dX6_between_19 : decode cX6_between 19 = .ok (.goto 5, 3) := by decide +kernel
theorem dX6_between_22 : decode cX6_between 22 = .ok (.bipush 45, 2) := by decide +kernel
theorem dX6_between_24 : decode cX6_between 24 = .ok (.ireturn, 1) := by decide +kernel
theorem dX6_readOrder_0 : decode cX6_readOrder 0 = .ok (.aload_n 0, 1) := by decide +kernel
theorem dX6_readOrder_1 : decode cX6_readOrder 1 = .ok (.aload_n 0, 1) := by decide +kernel
theorem dX6_readOrder_2 : decode cX6_readOrder 2 = .ok (.getfield 167, 3) := by decide +kernel
theorem dX6_readOrder_5 : decode cX6_readOrder 5 = .ok (.aload_n 0, 1) := by decide +kernel
theorem dX6_readOrder_6 : decode cX6_readOrder 6 = .ok (.getfield 152, 3) := by decide +kernel
theorem dX6_readOrder_9 : decode cX6_readOrder 9 = .ok (.if_icmp .ge 15, 3) := by decide +kernel
theorem dX6_readOrder_12 : decode cX6_readOrder 12 = .ok (.aload_n 0, 1) := by decide +kernel
theorem dX6_readOrder_13 : decode cX6_readOrder 13 = .ok (.getfield 22, 3) := by decide +kernel
theorem dX6_readOrder_16 : decode cX6_readOrder 16 = .ok (.aload_n 0, 1) := by decide +kernel
theorem dX6_readOrder_17 : decode cX6_readOrder 17 = .ok (.getfield 167, 3) := by decide +kernel
theorem dX6_readOrder_20 : decode cX6_readOrder 20 = .ok (.iaload, 1) := by decide +kernel
theorem dX6_readOrder_21 : decode cX6_readOrder 21 = .ok (.goto 4, 3) := by decide +kernel
theorem dX6_readOrder_24 : decode cX6_readOrder 24 = .ok (.iconst 0, 1) := by decide +kernel
theorem dX6_readOrder_25 : decode cX6_readOrder 25 = .ok (.putfield 176, 3) := by decide +kernel
theorem dX6_readOrder_28 : decode cX6_readOrder 28 = .ok (.aload_n 0, 1) := by decide +kernel
theorem dX6_readOrder_29 : decode cX6_readOrder 29 = .ok (.aload_n 0, 1) := by decide +kernel
theorem dX6_readOrder_30 : decode cX6_readOrder 30 = .ok (.getfield 163, 3) := by decide +kernel
theorem dX6_readOrder_33 : decode cX6_readOrder 33 = .ok (.ifCond .ne 57, 3) := by decide +kernel
theorem dX6_readOrder_36 : decode cX6_readOrder 36 = .ok (.aload_n 0, 1) := by decide +kernel
theorem dX6_readOrder_37 : decode cX6_readOrder 37 = .ok (.getfield 176, 3) := by decide +kernel
theorem dX6_readOrder_40 : decode cX6_readOrder 40 = .ok (.bipush 98, 2) := by decide +kernel
theorem dX6_readOrder_42 : decode cX6_readOrder 42 = .ok (.if_icmp .eq 52, 3) := by decide +kernel
theorem dX6_readOrder_45 : decode cX6_readOrder 45 = .ok (.aload_n 0, 1) := by decide +kernel
theorem dX6_readOrder_46 : decode cX6_readOrder 46 = .ok (.getfield 176, 3) := by decide +kernel
theorem dX6_readOrder_49 : decode cX6_readOrder 49 = .ok (.bipush 105, 2) := by decide +kernel
theorem dX6_readOrder_51 : decode cX6_readOrder 51 = .ok (.if_icmp .eq 43, 3) := by decide +kernel
theorem dX6_readOrder_54 : decode cX6_readOrder 54 = .ok (.aload_n 0, 1) := by decide +kernel
theorem dX6_readOrder_55 : decode cX6_readOrder 55 = .ok (.getfield 176, 3) := by decide +kernel
theorem dX6_readOrder_58 : decode cX6_readOrder 58 = .ok (.bipush 111, 2) := by decide +kernel
theorem dX6_readOrder_60 : decode cX6_readOrder 60 = .ok (.if_icmp .eq 34, 3) := by decide +kernel
theorem dX6_readOrder_63 : decode cX6_readOrder 63 = .ok (.aload_n 0, 1) := by decide +kernel
theorem dX6_readOrder_64 : decode cX6_readOrder 64 = .ok (.getfield 176, 3) := by decide +kernel
theorem dX6_readOrder_67 : decode cX6_readOrder 67 = .ok (.bipush 97, 2) := by decide +kernel
theorem dX6_readOrder_69 : decode cX6_readOrder 69 = .ok (.if_icmp .eq 25, 3) := by decide +kernel
theorem dX6_readOrder_72 : decode cX6_readOrder 72 = .ok (.aload_n 0, 1) := by decide +kernel
theorem dX6_readOrder_73 : decode cX6_readOrder 73 = .ok (.getfield 176, 3) := by decide +kernel
theorem dX6_readOrder_76 : decode cX6_readOrder 76 = .ok (.bipush 119, 2) := by decide +kernel
theorem dX6_readOrder_78 : decode cX6_readOrder 78 = .ok (.if_icmp .eq 16, 3) := by decide +kernel
theorem dX6_readOrder_81 : decode cX6_readOrder 81 = .ok (.aload_n 0, 1) := by decide +kernel
theorem dX6_readOrder_82 : decode cX6_readOrder 82 = .ok (.getfield 176, 3) := by decide +kernel
theorem dX6_readOrder_85 : decode cX6_readOrder 85 = .ok (.bipush 116, 2) := by decide +kernel
theorem dX6_readOrder_87 : decode cX6_readOrder 87 = .ok (.if_icmp .eq 7, 3) := by decide +kernel
theorem dX6_readOrder_90 : decode cX6_readOrder 90 = .ok (.iconst 1, 1) := by decide +kernel
theorem dX6_readOrder_91 : decode cX6_readOrder 91 = .ok (.goto 4, 3) := by decide +kernel
theorem dX6_readOrder_94 : decode cX6_readOrder 94 = .ok (.iconst 0, 1) := by decide +kernel
theorem dX6_readOrder_95 : decode cX6_readOrder 95 = .ok (.putfield 163, 3) := by decide +kernel
theorem dX6_readOrder_98 : decode cX6_readOrder 98 = .ok (.aload_n 0, 1) := by decide +kernel
theorem dX6_readOrder_99 : decode cX6_readOrder 99 = .ok (.dup, 1) := by decide +kernel
theorem dX6_readOrder_100 : decode cX6_readOrder 100 = .ok (.getfield 167, 3) := by decide +kernel
theorem dX6_readOrder_103 : decode cX6_readOrder 103 = .ok (.aload_n 0, 1) := by decide +kernel
theorem dX6_readOrder_104 : decode cX6_readOrder 104 = .ok (.getfield 163, 3) := by decide +kernel
theorem dX6_readOrder_107 : decode cX6_readOrder 107 = .ok (.ifCond .eq 7, 3) := by decide +kernel
theorem dX6_readOrder_110 : decode cX6_readOrder 110 = .ok (.iconst 0, 1) := by decide +kernel
theorem dX6_readOrder_111 : decode cX6_readOrder 111 = .ok (.goto 4, 3) := by decide +kernel
theorem dX6_readOrder_114 : decode cX6_readOrder 114 = .ok (.iconst 1, 1) := by decide +kernel
theorem dX6_readOrder_115 : decode cX6_readOrder 115 = .ok (.iadd, 1) := by decide +kernel
theorem dX6_readOrder_116 : decode cX6_readOrder 116 = .ok (.putfield 167, 3) := by decide +kernel
theorem dX6_readOrder_119 : decode cX6_readOrder 119 = .ok (.aload_n 0, 1) := by decide +kernel
theorem dX6_readOrder_120 : decode cX6_readOrder 120 = .ok (.aload_n 0, 1) := by decide +kernel
theorem dX6_readOrder_121 : decode cX6_readOrder 121 = .ok (.getfield 176, 3) := by decide +kernel
theorem dX6_readOrder_124 : decode cX6_readOrder 124 = .ok (.bipush 98, 2) := by decide +kernel
theorem dX6_readOrder_126 : decode cX6_readOrder 126 = .ok (.if_icmp .eq 12, 3) := by decide +kernel
theorem dX6_readOrder_129 : decode cX6_readOrder 129 = .ok (.aload_n 0, 1) := by decide +kernel
theorem dX6_readOrder_130 : decode cX6_readOrder 130 = .ok (.getfield 176, 3) := by decide +kernel
theorem dX6_readOrder_133 : decode cX6_readOrder 133 = .ok (.bipush 116, 2) := by decide +kernel
theorem dX6_readOrder_135 : decode cX6_readOrder 135 = .ok (.if_icmp .ne 10, 3) := by decide +kernel
theorem dX6_readOrder_138 : decode cX6_readOrder 138 = .ok (.aload_n 0, 1) := by decide +kernel
theorem dX6_readOrder_139 : decode cX6_readOrder 139 = .ok (.invokevirtual 179, 3) := by decide +kernel
theorem dX6_readOrder_142 : decode cX6_readOrder 142 = .ok (.goto 11, 3) := by decide +kernel
theorem dX6_readOrder_145 : decode cX6_readOrder 145 = .ok (.aload_n 0, 1) := by decide +kernel
theorem dX6_readOrder_146 : decode cX6_readOrder 146 = .ok (.bipush 48, 2) := by decide +kernel
theorem dX6_readOrder_148 : decode cX6_readOrder 148 = .ok (.bipush 57, 2) := by decide +kernel
theorem dX6_readOrder_150 : decode cX6_readOrder 150 = .ok (.invokevirtual 173, 3) := by decide +kernel
theorem dX6_readOrder_153 : decode cX6_readOrder 153 = .ok (.putfield 182, 3) := by decide +kernel
theorem dX6_readOrder_156 : decode cX6_readOrder 156 = .ok (.aload_n 0, 1) := by decide +kernel
theorem dX6_readOrder_157 : decode cX6_readOrder 157 = .ok (.getfield 176, 3) := by decide +kernel
theorem dX6_readOrder_160 : decode cX6_readOrder 160 = .ok (.bipush 98, 2) := by decide +kernel
theorem dX6_readOrder_162 : decode cX6_readOrder 162 = .ok (.if_icmp .eq 21, 3) := by decide +kernel
theorem dX6_readOrder_165 : decode cX6_readOrder 165 = .ok (.aload_n 0, 1) := by decide +kernel
theorem dX6_readOrder_166 : decode cX6_readOrder 166 = .ok (.getfield 176, 3) := by decide +kernel
theorem dX6_readOrder_169 : decode cX6_readOrder 169 = .ok (.bipush 105, 2) := by decide +kernel
theorem dX6_readOrder_171 : decode cX6_readOrder 171 = .ok (.if_icmp .eq 12, 3) := by decide +kernel
theorem dX6_readOrder_174 : decode cX6_readOrder 174 = .ok (.aload_n 0, 1) := by decide +kernel
theorem dX6_readOrder_175 : decode cX6_readOrder 175 = .ok (.getfield 176, 3) := by decide +kernel
theorem dX6_readOrder_178 : decode cX6_readOrder 178 = .ok (.bipush 111, 2) := by decide +kernel
theorem dX6_readOrder_180 : decode cX6_readOrder 180 = .ok (.if_icmp .ne 50, 3) := by decide +kernel
theorem dX6_readOrder_183 : decode cX6_readOrder 183 = .ok (.aload_n 0, 1) := by decide +kernel
theorem dX6_readOrder_184 : decode cX6_readOrder 184 = .ok (.aload_n 0, 1) := by decide +kernel
theorem dX6_readOrder_185 : decode cX6_readOrder 185 = .ok (.getfield 176, 3) := by decide +kernel
theorem dX6_readOrder_188 : decode cX6_readOrder 188 = .ok (.invokestatic 185, 3) := by decide +kernel
theorem dX6_readOrder_191 : decode cX6_readOrder 191 = .ok (.aload_n 0, 1) := by decide +kernel
theorem dX6_readOrder_192 : decode cX6_readOrder 192 = .ok (.getfield 176, 3) := by decide +kernel
theorem dX6_readOrder_195 : decode cX6_readOrder 195 = .ok (.invokestatic 185, 3) := by decide +kernel
theorem dX6_readOrder_198 : decode cX6_readOrder 198 = .ok (.invokevirtual 173, 3) := by decide +kernel
theorem dX6_readOrder_201 : decode cX6_readOrder 201 = .ok (.istore_n 1, 1) := by decide +kernel
theorem dX6_readOrder_202 : decode cX6_readOrder 202 = .ok (.aload_n 0, 1) := by decide +kernel
theorem dX6_readOrder_203 : decode cX6_readOrder 203 = .ok (.aload_n 0, 1) := by decide +kernel
theorem dX6_readOrder_204 : decode cX6_readOrder 204 = .ok (.getfield 176, 3) := by decide +kernel
theorem dX6_readOrder_207 : decode cX6_readOrder 207 = .ok (.bipush 105, 2) := by decide +kernel
theorem dX6_readOrder_209 : decode cX6_readOrder 209 = .ok (.if_icmp .ne 14, 3) := by decide +kernel
theorem dX6_readOrder_212 : decode cX6_readOrder 212 = .ok (.aload_n 0, 1) := by decide +kernel
theorem dX6_readOrder_213 : decode cX6_readOrder 213 = .ok (.bipush 48, 2) := by decide +kernel
theorem dX6_readOrder_215 : decode cX6_readOrder 215 = .ok (.bipush 57, 2) := by decide +kernel
theorem dX6_readOrder_217 : decode cX6_readOrder 217 = .ok (.invokevirtual 173, 3) := by decide +kernel
theorem dX6_readOrder_220 : decode cX6_readOrder 220 = .ok (.goto 7, 3) := by decide +kernel
theorem dX6_readOrder_223 : decode cX6_readOrder 223 = .ok (.aload_n 0, 1) := by decide +kernel
theorem dX6_readOrder_224 : decode cX6_readOrder 224 = .ok (.invokevirtual 179, 3) := by decide +kernel
theorem dX6_readOrder_227 : decode cX6_readOrder 227 = .ok (.putfield 188, 3) := by decide +kernel
theorem dX6_readOrder_230 : decode cX6_readOrder 230 = .ok (.aload_n 0, 1) := by decide +kernel
theorem dX6_readOrder_231 : decode cX6_readOrder 231 = .ok (.getfield 176, 3) := by decide +kernel
theorem dX6_readOrder_234 : decode cX6_readOrder 234 = .ok (.bipush 105, 2) := by decide +kernel
theorem dX6_readOrder_236 : decode cX6_readOrder 236 = .ok (.if_icmp .ne 20, 3) := by decide +kernel
theorem dX6_readOrder_239 : decode cX6_readOrder 239 = .ok (.aload_n 0, 1) := by decide +kernel
theorem dX6_readOrder_240 : decode cX6_readOrder 240 = .ok (.bipush 43, 2) := by decide +kernel
theorem dX6_readOrder_242 : decode cX6_readOrder 242 = .ok (.bipush 43, 2) := by decide +kernel
theorem dX6_readOrder_244 : decode cX6_readOrder 244 = .ok (.invokevirtual 173, 3) := by decide +kernel
theorem dX6_readOrder_247 : decode cX6_readOrder 247 = .ok (.istore_n 1, 1) := by decide +kernel
theorem dX6_readOrder_248 : decode cX6_readOrder 248 = .ok (.aload_n 0, 1) := by decide +kernel
theorem dX6_readOrder_249 : decode cX6_readOrder 249 = .ok (.aload_n 0, 1) := by decide +kernel
theorem dX6_readOrder_250 : decode cX6_readOrder 250 = .ok (.invokevirtual 179, 3) := by decide +kernel
theorem dX6_readOrder_253 : decode cX6_readOrder 253 = .ok (.putfield 191, 3) := by decide +kernel
theorem dX6_readOrder_256 : decode cX6_readOrder 256 = .ok (.aload_n 0, 1) := by decide +kernel
theorem dX6_readOrder_257 : decode cX6_readOrder 257 = .ok (.getfield 176, 3) := by decide +kernel
theorem dX6_readOrder_260 : decode cX6_readOrder 260 = .ok (.bipush 119, 2) := by decide +kernel
theorem dX6_readOrder_262 : decode cX6_readOrder 262 = .ok (.if_icmp .ne 15, 3) := by decide +kernel
theorem dX6_readOrder_265 : decode cX6_readOrder 265 = .ok (.aload_n 0, 1) := by decide +kernel
theorem dX6_readOrder_266 : decode cX6_readOrder 266 = .ok (.aload_n 0, 1) := by decide +kernel
theorem dX6_readOrder_267 : decode cX6_readOrder 267 = .ok (.bipush 48, 2) := by decide +kernel
theorem dX6_readOrder_269 : decode cX6_readOrder 269 = .ok (.bipush 57, 2) := by decide +kernel
theorem dX6_readOrder_271 : decode cX6_readOrder 271 = .ok (.invokevirtual 173, 3) := by decide +kernel
theorem dX6_readOrder_274 : decode cX6_readOrder 274 = .ok (.putfield 188, 3) := by decide +kernel
theorem dX6_readOrder_277 : decode cX6_readOrder 277 = .ok (.return_, 1) := by decide +kernel
theorem dX6_does_0 : decode cX6_does 0 = .ok (.aload_n 0, 1) := by decide +kernel
theorem dX6_does_1 : decode cX6_does 1 = .ok (.getfield 176, 3) := by decide +kernel
theorem dX6_does_4 : decode cX6_does 4 = .ok (.lookupswitch 117 #[(97, 95), (98, 52), (105, 65), (111, 82), (119, 104)], 52) := by decide +kernel
theorem dX6_does_56 : decode cX6_does 56 = .ok (.aload_n 0, 1) := by decide +kernel
theorem dX6_does_57 : decode cX6_does 57 = .ok (.aload_n 0, 1) := by decide +kernel
theorem dX6_does_58 : decode cX6_does 58 = .ok (.getfield 182, 3) := by decide +kernel
theorem dX6_does_61 : decode cX6_does 61 = .ok (.aload_n 0, 1) := by decide +kernel
theorem dX6_does_62 : decode cX6_does 62 = .ok (.getfield 188, 3) := by decide +kernel
theorem dX6_does_65 : decode cX6_does 65 = .ok (.invokevirtual 114, 3) := by decide +kernel
theorem dX6_does_68 : decode cX6_does 68 = .ok (.ireturn, 1) := by decide +kernel
theorem dX6_does_69 : decode cX6_does 69 = .ok (.aload_n 0, 1) := by decide +kernel
theorem dX6_does_70 : decode cX6_does 70 = .ok (.aload_n 0, 1) := by decide +kernel
theorem dX6_does_71 : decode cX6_does 71 = .ok (.getfield 182, 3) := by decide +kernel
theorem dX6_does_74 : decode cX6_does 74 = .ok (.aload_n 0, 1) := by decide +kernel
theorem dX6_does_75 : decode cX6_does 75 = .ok (.getfield 188, 3) := by decide +kernel
theorem dX6_does_78 : decode cX6_does 78 = .ok (.aload_n 0, 1) := by decide +kernel
theorem dX6_does_79 : decode cX6_does 79 = .ok (.getfield 191, 3) := by decide +kernel
theorem dX6_does_82 : decode cX6_does 82 = .ok (.invokevirtual 123, 3) := by decide +kernel
theorem dX6_does_85 : decode cX6_does 85 = .ok (.ireturn, 1) := by decide +kernel
theorem dX6_does_86 : decode cX6_does 86 = .ok (.aload_n 0, 1) := by decide +kernel
theorem dX6_does_87 : decode cX6_does 87 = .ok (.aload_n 0, 1) := by decide +kernel
theorem dX6_does_88 : decode cX6_does 88 = .ok (.getfield 182, 3) := by decide +kernel
theorem dX6_does_91 : decode cX6_does 91 = .ok (.aload_n 0, 1) := by decide +kernel
theorem dX6_does_92 : decode cX6_does 92 = .ok (.getfield 188, 3) := by decide +kernel
theorem dX6_does_95 : decode cX6_does 95 = .ok (.invokevirtual 127, 3) := by decide +kernel
theorem dX6_does_98 : decode cX6_does 98 = .ok (.ireturn, 1) := by decide +kernel
theorem dX6_does_99 : decode cX6_does 99 = .ok (.aload_n 0, 1) := by decide +kernel
theorem dX6_does_100 : decode cX6_does 100 = .ok (.aload_n 0, 1) := by decide +kernel
theorem dX6_does_101 : decode cX6_does 101 = .ok (.getfield 182, 3) := by decide +kernel
theorem dX6_does_104 : decode cX6_does 104 = .ok (.invokevirtual 133, 3) := by decide +kernel
theorem dX6_does_107 : decode cX6_does 107 = .ok (.ireturn, 1) := by decide +kernel
theorem dX6_does_108 : decode cX6_does 108 = .ok (.aload_n 0, 1) := by decide +kernel
theorem dX6_does_109 : decode cX6_does 109 = .ok (.aload_n 0, 1) := by decide +kernel
theorem dX6_does_110 : decode cX6_does 110 = .ok (.getfield 182, 3) := by decide +kernel
theorem dX6_does_113 : decode cX6_does 113 = .ok (.aload_n 0, 1) := by decide +kernel
theorem dX6_does_114 : decode cX6_does 114 = .ok (.getfield 188, 3) := by decide +kernel
theorem dX6_does_117 : decode cX6_does 117 = .ok (.invokevirtual 139, 3) := by decide +kernel
theorem dX6_does_120 : decode cX6_does 120 = .ok (.ireturn, 1) := by decide +kernel
theorem dX6_does_121 : decode cX6_does 121 = .ok (.aload_n 0, 1) := by decide +kernel
theorem dX6_does_122 : decode cX6_does 122 = .ok (.aload_n 0, 1) := by decide +kernel
theorem dX6_does_123 : decode cX6_does 123 = .ok (.getfield 182, 3) := by decide +kernel
theorem dX6_does_126 : decode cX6_does 126 = .ok (.invokevirtual 142, 3) := by decide +kernel
theorem dX6_does_129 : decode cX6_does 129 = .ok (.ireturn, 1) := by decide +kernel
theorem dX6_goesThrough_0 : decode cX6_goesThrough 0 = .ok (.aload_n 0, 1) := by decide +kernel
theorem dX6_goesThrough_1 : decode cX6_goesThrough 1 = .ok (.iconst 0, 1) := by decide +kernel
theorem dX6_goesThrough_2 : decode cX6_goesThrough 2 = .ok (.putfield 167, 3) := by decide +kernel
theorem dX6_goesThrough_5 : decode cX6_goesThrough 5 = .ok (.aload_n 0, 1) := by decide +kernel
theorem dX6_goesThrough_6 : decode cX6_goesThrough 6 = .ok (.iconst 0, 1) := by decide +kernel
theorem dX6_goesThrough_7 : decode cX6_goesThrough 7 = .ok (.putfield 163, 3) := by decide +kernel
theorem dX6_goesThrough_10 : decode cX6_goesThrough 10 = .ok (.iconst 0, 1) := by decide +kernel
theorem dX6_goesThrough_11 : decode cX6_goesThrough 11 = .ok (.istore_n 2, 1) := by decide +kernel
theorem dX6_goesThrough_12 : decode cX6_goesThrough 12 = .ok (.iconst 1, 1) := by decide +kernel
theorem dX6_goesThrough_13 : decode cX6_goesThrough 13 = .ok (.istore_n 3, 1) := by decide +kernel
theorem dX6_goesThrough_14 : decode cX6_goesThrough 14 = .ok (.iload_n 3, 1) := by decide +kernel
theorem dX6_goesThrough_15 : decode cX6_goesThrough 15 = .ok (.ifCond .eq 94, 3) := by decide +kernel
theorem dX6_goesThrough_18 : decode cX6_goesThrough 18 = .ok (.aload_n 0, 1) := by decide +kernel
theorem dX6_goesThrough_19 : decode cX6_goesThrough 19 = .ok (.invokevirtual 194, 3) := by decide +kernel
theorem dX6_goesThrough_22 : decode cX6_goesThrough 22 = .ok (.aload_n 0, 1) := by decide +kernel
theorem dX6_goesThrough_23 : decode cX6_goesThrough 23 = .ok (.getfield 163, 3) := by decide +kernel
theorem dX6_goesThrough_26 : decode cX6_goesThrough 26 = .ok (.ifCond .ne 18, 3) := by decide +kernel
theorem dX6_goesThrough_29 : decode cX6_goesThrough 29 = .ok (.iload_n 1, 1) := by decide +kernel
theorem dX6_goesThrough_30 : decode cX6_goesThrough 30 = .ok (.ifCond .eq 10, 3) := by decide +kernel
theorem dX6_goesThrough_33 : decode cX6_goesThrough 33 = .ok (.aload_n 0, 1) := by decide +kernel
theorem dX6_goesThrough_34 : decode cX6_goesThrough 34 = .ok (.invokevirtual 197, 3) := by decide +kernel
theorem dX6_goesThrough_37 : decode cX6_goesThrough 37 = .ok (.ifCond .lt 7, 3) := by decide +kernel
theorem dX6_goesThrough_40 : decode cX6_goesThrough 40 = .ok (.iconst 1, 1) := by decide +kernel
theorem dX6_goesThrough_41 : decode cX6_goesThrough 41 = .ok (.goto 4, 3) := by decide +kernel
theorem dX6_goesThrough_44 : decode cX6_goesThrough 44 = .ok (.iconst 0, 1) := by decide +kernel
theorem dX6_goesThrough_45 : decode cX6_goesThrough 45 = .ok (.istore_n 3, 1) := by decide +kernel
theorem dX6_goesThrough_46 : decode cX6_goesThrough 46 = .ok (.iload_n 2, 1) := by decide +kernel
theorem dX6_goesThrough_47 : decode cX6_goesThrough 47 = .ok (.iload_n 3, 1) := by decide +kernel
theorem dX6_goesThrough_48 : decode cX6_goesThrough 48 = .ok (.ifCond .eq 7, 3) := by decide +kernel
theorem dX6_goesThrough_51 : decode cX6_goesThrough 51 = .ok (.iconst 1, 1) := by decide +kernel
theorem dX6_goesThrough_52 : decode cX6_goesThrough 52 = .ok (.goto 4, 3) := by decide +kernel
theorem dX6_goesThrough_55 : decode cX6_goesThrough 55 = .ok (.iconst 0, 1) := by decide +kernel
theorem dX6_goesThrough_56 : decode cX6_goesThrough 56 = .ok (.iadd, 1) := by decide +kernel
theorem dX6_goesThrough_57 : decode cX6_goesThrough 57 = .ok (.istore_n 2, 1) := by decide +kernel
theorem dX6_goesThrough_58 : decode cX6_goesThrough 58 = .ok (.iload_n 3, 1) := by decide +kernel
theorem dX6_goesThrough_59 : decode cX6_goesThrough 59 = .ok (.ifCond .eq 18, 3) := by decide +kernel
theorem dX6_goesThrough_62 : decode cX6_goesThrough 62 = .ok (.aload_n 0, 1) := by decide +kernel
theorem dX6_goesThrough_63 : decode cX6_goesThrough 63 = .ok (.getfield 167, 3) := by decide +kernel
theorem dX6_goesThrough_66 : decode cX6_goesThrough 66 = .ok (.aload_n 0, 1) := by decide +kernel
theorem dX6_goesThrough_67 : decode cX6_goesThrough 67 = .ok (.getfield 152, 3) := by decide +kernel
theorem dX6_goesThrough_70 : decode cX6_goesThrough 70 = .ok (.if_icmp .ge 7, 3) := by decide +kernel
theorem dX6_goesThrough_73 : decode cX6_goesThrough 73 = .ok (.iconst 1, 1) := by decide +kernel
theorem dX6_goesThrough_74 : decode cX6_goesThrough 74 = .ok (.goto 4, 3) := by decide +kernel
theorem dX6_goesThrough_77 : decode cX6_goesThrough 77 = .ok (.iconst 0, 1) := by decide +kernel
theorem dX6_goesThrough_78 : decode cX6_goesThrough 78 = .ok (.istore_n 3, 1) := by decide +kernel
theorem dX6_goesThrough_79 : decode cX6_goesThrough 79 = .ok (.iload_n 3, 1) := by decide +kernel
theorem dX6_goesThrough_80 : decode cX6_goesThrough 80 = .ok (.ifCond .eq (-66), 3) := by decide +kernel
theorem dX6_goesThrough_83 : decode cX6_goesThrough 83 = .ok (.aload_n 0, 1) := by decide +kernel
theorem dX6_goesThrough_84 : decode cX6_goesThrough 84 = .ok (.bipush 59, 2) := by decide +kernel
theorem dX6_goesThrough_86 : decode cX6_goesThrough 86 = .ok (.bipush 59, 2) := by decide +kernel
theorem dX6_goesThrough_88 : decode cX6_goesThrough 88 = .ok (.invokevirtual 173, 3) := by decide +kernel
theorem dX6_goesThrough_91 : decode cX6_goesThrough 91 = .ok (.istore 4, 2) := by decide +kernel
theorem dX6_goesThrough_93 : decode cX6_goesThrough 93 = .ok (.aload_n 0, 1) := by decide +kernel
theorem dX6_goesThrough_94 : decode cX6_goesThrough 94 = .ok (.getfield 163, 3) := by decide +kernel
theorem dX6_goesThrough_97 : decode cX6_goesThrough 97 = .ok (.ifCond .ne 7, 3) := by decide +kernel
theorem dX6_goesThrough_100 : decode cX6_goesThrough 100 = .ok (.iconst 1, 1) := by decide +kernel
theorem dX6_goesThrough_101 : decode cX6_goesThrough 101 = .ok (.goto 4, 3) := by decide +kernel
theorem dX6_goesThrough_104 : decode cX6_goesThrough 104 = .ok (.iconst 0, 1) := by decide +kernel
theorem dX6_goesThrough_105 : decode cX6_goesThrough 105 = .ok (.istore_n 3, 1) := by decide +kernel
theorem dX6_goesThrough_106 : decode cX6_goesThrough 106 = .ok (.goto (-92), 3) := by decide +kernel
theorem dX6_goesThrough_109 : decode cX6_goesThrough 109 = .ok (.iload_n 2, 1) := by decide +kernel
theorem dX6_goesThrough_110 : decode cX6_goesThrough 110 = .ok (.ireturn, 1) := by decide +kernel
theorem dX6_fault_0 : decode cX6_fault 0 = .ok (.aload_n 0, 1) := by decide +kernel
theorem dX6_fault_1 : decode cX6_fault 1 = .ok (.iconst 0, 1) := by decide +kernel
theorem dX6_fault_2 : decode cX6_fault 2 = .ok (.invokevirtual 200, 3) := by decide +kernel
theorem dX6_fault_5 : decode cX6_fault 5 = .ok (.istore_n 1, 1) := by decide +kernel
theorem dX6_fault_6 : decode cX6_fault 6 = .ok (.aload_n 0, 1) := by decide +kernel
theorem dX6_fault_7 : decode cX6_fault 7 = .ok (.getfield 163, 3) := by decide +kernel
theorem dX6_fault_10 : decode cX6_fault 10 = .ok (.ifCond .eq 10, 3) := by decide +kernel
theorem dX6_fault_13 : decode cX6_fault 13 = .ok (.aload_n 0, 1) := by decide +kernel
theorem dX6_fault_14 : decode cX6_fault 14 = .ok (.getfield 167, 3) := by decide +kernel
theorem dX6_fault_17 : decode cX6_fault 17 = .ok (.goto 5, 3) := by decide +kernel
theorem dX6_fault_20 : decode cX6_fault 20 = .ok (.bipush (-6), 2) := by decide +kernel
theorem dX6_fault_22 : decode cX6_fault 22 = .ok (.ireturn, 1) := by decide +kernel
theorem dX6_carryOut_0 : decode cX6_carryOut 0 = .ok (.aload_n 0, 1) := by decide +kernel
theorem dX6_carryOut_1 : decode cX6_carryOut 1 = .ok (.invokevirtual 203, 3) := by decide +kernel
theorem dX6_carryOut_4 : decode cX6_carryOut 4 = .ok (.bipush (-6), 2) := by decide +kernel
theorem dX6_carryOut_6 : decode cX6_carryOut 6 = .ok (.if_icmp .eq 6, 3) := by decide +kernel
theorem dX6_carryOut_9 : decode cX6_carryOut 9 = .ok (.bipush (-3), 2) := by decide +kernel
theorem dX6_carryOut_11 : decode cX6_carryOut 11 = .ok (.ireturn, 1) := by decide +kernel
theorem dX6_carryOut_12 : decode cX6_carryOut 12 = .ok (.aload_n 0, 1) := by decide +kernel
theorem dX6_carryOut_13 : decode cX6_carryOut 13 = .ok (.invokevirtual 102, 3) := by decide +kernel
theorem dX6_carryOut_16 : decode cX6_carryOut 16 = .ok (.aload_n 0, 1) := by decide +kernel
theorem dX6_carryOut_17 : decode cX6_carryOut 17 = .ok (.iconst 1, 1) := by decide +kernel
theorem dX6_carryOut_18 : decode cX6_carryOut 18 = .ok (.invokevirtual 200, 3) := by decide +kernel
theorem dX6_carryOut_21 : decode cX6_carryOut 21 = .ok (.istore_n 1, 1) := by decide +kernel
theorem dX6_carryOut_22 : decode cX6_carryOut 22 = .ok (.aload_n 0, 1) := by decide +kernel
theorem dX6_carryOut_23 : decode cX6_carryOut 23 = .ok (.invokevirtual 55, 3) := by decide +kernel
theorem dX6_carryOut_26 : decode cX6_carryOut 26 = .ok (.aload_n 0, 1) := by decide +kernel
theorem dX6_carryOut_27 : decode cX6_carryOut 27 = .ok (.iconst 0, 1) := by decide +kernel
theorem dX6_carryOut_28 : decode cX6_carryOut 28 = .ok (.putfield 152, 3) := by decide +kernel
theorem dX6_carryOut_31 : decode cX6_carryOut 31 = .ok (.iload_n 1, 1) := by decide +kernel
theorem dX6_carryOut_32 : decode cX6_carryOut 32 = .ok (.ireturn, 1) := by decide +kernel
theorem dX6_undo_0 : decode cX6_undo 0 = .ok (.aload_n 0, 1) := by decide +kernel
theorem dX6_undo_1 : decode cX6_undo 1 = .ok (.getfield 51, 3) := by decide +kernel
theorem dX6_undo_4 : decode cX6_undo 4 = .ok (.ifCond .ne 6, 3) := by decide +kernel
theorem dX6_undo_7 : decode cX6_undo 7 = .ok (.bipush (-5), 2) := by decide +kernel
theorem dX6_undo_9 : decode cX6_undo 9 = .ok (.ireturn, 1) := by decide +kernel
theorem dX6_undo_10 : decode cX6_undo 10 = .ok (.aload_n 0, 1) := by decide +kernel
theorem dX6_undo_11 : decode cX6_undo 11 = .ok (.dup, 1) := by decide +kernel
theorem dX6_undo_12 : decode cX6_undo 12 = .ok (.getfield 51, 3) := by decide +kernel
theorem dX6_undo_15 : decode cX6_undo 15 = .ok (.iconst 1, 1) := by decide +kernel
theorem dX6_undo_16 : decode cX6_undo 16 = .ok (.isub, 1) := by decide +kernel
theorem dX6_undo_17 : decode cX6_undo 17 = .ok (.putfield 51, 3) := by decide +kernel
theorem dX6_undo_20 : decode cX6_undo 20 = .ok (.iconst 0, 1) := by decide +kernel
theorem dX6_undo_21 : decode cX6_undo 21 = .ok (.istore_n 1, 1) := by decide +kernel
theorem dX6_undo_22 : decode cX6_undo 22 = .ok (.iload_n 1, 1) := by decide +kernel
theorem dX6_undo_23 : decode cX6_undo 23 = .ok (.sipush 302, 3) := by decide +kernel
theorem dX6_undo_26 : decode cX6_undo 26 = .ok (.if_icmp .ge 30, 3) := by decide +kernel
theorem dX6_undo_29 : decode cX6_undo 29 = .ok (.aload_n 0, 1) := by decide +kernel
theorem dX6_undo_30 : decode cX6_undo 30 = .ok (.getfield 7, 3) := by decide +kernel
theorem dX6_undo_33 : decode cX6_undo 33 = .ok (.iload_n 1, 1) := by decide +kernel
theorem dX6_undo_34 : decode cX6_undo 34 = .ok (.aload_n 0, 1) := by decide +kernel
theorem dX6_undo_35 : decode cX6_undo 35 = .ok (.getfield 16, 3) := by decide +kernel
theorem dX6_undo_38 : decode cX6_undo 38 = .ok (.sipush 302, 3) := by decide +kernel
theorem dX6_undo_41 : decode cX6_undo 41 = .ok (.aload_n 0, 1) := by decide +kernel
theorem dX6_undo_42 : decode cX6_undo 42 = .ok (.getfield 51, 3) := by decide +kernel
theorem dX6_undo_45 : decode cX6_undo 45 = .ok (.imul, 1) := by decide +kernel
theorem dX6_undo_46 : decode cX6_undo 46 = .ok (.iload_n 1, 1) := by decide +kernel
theorem dX6_undo_47 : decode cX6_undo 47 = .ok (.iadd, 1) := by decide +kernel
theorem dX6_undo_48 : decode cX6_undo 48 = .ok (.iaload, 1) := by decide +kernel
theorem dX6_undo_49 : decode cX6_undo 49 = .ok (.iastore, 1) := by decide +kernel
theorem dX6_undo_50 : decode cX6_undo 50 = .ok (.iinc 1 1, 3) := by decide +kernel
theorem dX6_undo_53 : decode cX6_undo 53 = .ok (.goto (-31), 3) := by decide +kernel
theorem dX6_undo_56 : decode cX6_undo 56 = .ok (.aload_n 0, 1) := by decide +kernel
theorem dX6_undo_57 : decode cX6_undo 57 = .ok (.getfield 51, 3) := by decide +kernel
theorem dX6_undo_60 : decode cX6_undo 60 = .ok (.ireturn, 1) := by decide +kernel
theorem dX6_save_0 : decode cX6_save 0 = .ok (.iload_n 1, 1) := by decide +kernel
theorem dX6_save_1 : decode cX6_save 1 = .ok (.iconst 0, 1) := by decide +kernel
theorem dX6_save_2 : decode cX6_save 2 = .ok (.iconst 1, 1) := by decide +kernel
theorem dX6_save_3 : decode cX6_save 3 = .ok (.invokestatic 25, 3) := by decide +kernel
theorem dX6_save_6 : decode cX6_save 6 = .ok (.ifCond .ne 6, 3) := by decide +kernel
theorem dX6_save_9 : decode cX6_save 9 = .ok (.bipush (-2), 2) := by decide +kernel
theorem dX6_save_11 : decode cX6_save 11 = .ok (.ireturn, 1) := by decide +kernel
theorem dX6_save_12 : decode cX6_save 12 = .ok (.iconst 0, 1) := by decide +kernel
theorem dX6_save_13 : decode cX6_save 13 = .ok (.istore_n 2, 1) := by decide +kernel
theorem dX6_save_14 : decode cX6_save 14 = .ok (.iload_n 2, 1) := by decide +kernel
theorem dX6_save_15 : decode cX6_save 15 = .ok (.sipush 302, 3) := by decide +kernel
theorem dX6_save_18 : decode cX6_save 18 = .ok (.if_icmp .ge 27, 3) := by decide +kernel
theorem dX6_save_21 : decode cX6_save 21 = .ok (.aload_n 0, 1) := by decide +kernel
theorem dX6_save_22 : decode cX6_save 22 = .ok (.getfield 19, 3) := by decide +kernel
theorem dX6_save_25 : decode cX6_save 25 = .ok (.sipush 302, 3) := by decide +kernel
theorem dX6_save_28 : decode cX6_save 28 = .ok (.iload_n 1, 1) := by decide +kernel
theorem dX6_save_29 : decode cX6_save 29 = .ok (.imul, 1) := by decide +kernel
theorem dX6_save_30 : decode cX6_save 30 = .ok (.iload_n 2, 1) := by decide +kernel
theorem dX6_save_31 : decode cX6_save 31 = .ok (.iadd, 1) := by decide +kernel
theorem dX6_save_32 : decode cX6_save 32 = .ok (.aload_n 0, 1) := by decide +kernel
theorem dX6_save_33 : decode cX6_save 33 = .ok (.getfield 7, 3) := by decide +kernel
theorem dX6_save_36 : decode cX6_save 36 = .ok (.iload_n 2, 1) := by decide +kernel
theorem dX6_save_37 : decode cX6_save 37 = .ok (.iaload, 1) := by decide +kernel
theorem dX6_save_38 : decode cX6_save 38 = .ok (.iastore, 1) := by decide +kernel
theorem dX6_save_39 : decode cX6_save 39 = .ok (.iinc 2 1, 3) := by decide +kernel
theorem dX6_save_42 : decode cX6_save 42 = .ok (.goto (-28), 3) := by decide +kernel
theorem dX6_save_45 : decode cX6_save 45 = .ok (.aload_n 0, 1) := by decide +kernel
theorem dX6_save_46 : decode cX6_save 46 = .ok (.dup, 1) := by decide +kernel
theorem dX6_save_47 : decode cX6_save 47 = .ok (.getfield 206, 3) := by decide +kernel
theorem dX6_save_50 : decode cX6_save 50 = .ok (.iconst 1, 1) := by decide +kernel
theorem dX6_save_51 : decode cX6_save 51 = .ok (.iload_n 1, 1) := by decide +kernel
theorem dX6_save_52 : decode cX6_save 52 = .ok (.ishl, 1) := by decide +kernel
theorem dX6_save_53 : decode cX6_save 53 = .ok (.ior, 1) := by decide +kernel
theorem dX6_save_54 : decode cX6_save 54 = .ok (.putfield 206, 3) := by decide +kernel
theorem dX6_save_57 : decode cX6_save 57 = .ok (.aload_n 0, 1) := by decide +kernel
theorem dX6_save_58 : decode cX6_save 58 = .ok (.getfield 7, 3) := by decide +kernel
theorem dX6_save_61 : decode cX6_save 61 = .ok (.iconst 5, 1) := by decide +kernel
theorem dX6_save_62 : decode cX6_save 62 = .ok (.iaload, 1) := by decide +kernel
theorem dX6_save_63 : decode cX6_save 63 = .ok (.ireturn, 1) := by decide +kernel
theorem dX6_restore_0 : decode cX6_restore 0 = .ok (.iload_n 1, 1) := by decide +kernel
theorem dX6_restore_1 : decode cX6_restore 1 = .ok (.iconst 0, 1) := by decide +kernel
theorem dX6_restore_2 : decode cX6_restore 2 = .ok (.iconst 1, 1) := by decide +kernel
theorem dX6_restore_3 : decode cX6_restore 3 = .ok (.invokestatic 25, 3) := by decide +kernel
theorem dX6_restore_6 : decode cX6_restore 6 = .ok (.ifCond .ne 6, 3) := by decide +kernel
theorem dX6_restore_9 : decode cX6_restore 9 = .ok (.bipush (-2), 2) := by decide +kernel
theorem dX6_restore_11 : decode cX6_restore 11 = .ok (.ireturn, 1) := by decide +kernel
theorem dX6_restore_12 : decode cX6_restore 12 = .ok (.aload_n 0, 1) := by decide +kernel
theorem dX6_restore_13 : decode cX6_restore 13 = .ok (.getfield 206, 3) := by decide +kernel
theorem dX6_restore_16 : decode cX6_restore 16 = .ok (.iload_n 1, 1) := by decide +kernel
theorem dX6_restore_17 : decode cX6_restore 17 = .ok (.ishr, 1) := by decide +kernel
theorem dX6_restore_18 : decode cX6_restore 18 = .ok (.iconst 1, 1) := by decide +kernel
theorem dX6_restore_19 : decode cX6_restore 19 = .ok (.iand, 1) := by decide +kernel
theorem dX6_restore_20 : decode cX6_restore 20 = .ok (.ifCond .ne 6, 3) := by decide +kernel
theorem dX6_restore_23 : decode cX6_restore 23 = .ok (.bipush (-5), 2) := by decide +kernel
theorem dX6_restore_25 : decode cX6_restore 25 = .ok (.ireturn, 1) := by decide +kernel
theorem dX6_restore_26 : decode cX6_restore 26 = .ok (.aload_n 0, 1) := by decide +kernel
theorem dX6_restore_27 : decode cX6_restore 27 = .ok (.invokevirtual 102, 3) := by decide +kernel
theorem dX6_restore_30 : decode cX6_restore 30 = .ok (.aload_n 0, 1) := by decide +kernel
theorem dX6_restore_31 : decode cX6_restore 31 = .ok (.invokevirtual 55, 3) := by decide +kernel
theorem dX6_restore_34 : decode cX6_restore 34 = .ok (.iconst 0, 1) := by decide +kernel
theorem dX6_restore_35 : decode cX6_restore 35 = .ok (.istore_n 2, 1) := by decide +kernel
theorem dX6_restore_36 : decode cX6_restore 36 = .ok (.iload_n 2, 1) := by decide +kernel
theorem dX6_restore_37 : decode cX6_restore 37 = .ok (.sipush 302, 3) := by decide +kernel
theorem dX6_restore_40 : decode cX6_restore 40 = .ok (.if_icmp .ge 27, 3) := by decide +kernel
theorem dX6_restore_43 : decode cX6_restore 43 = .ok (.aload_n 0, 1) := by decide +kernel
theorem dX6_restore_44 : decode cX6_restore 44 = .ok (.getfield 7, 3) := by decide +kernel
theorem dX6_restore_47 : decode cX6_restore 47 = .ok (.iload_n 2, 1) := by decide +kernel
theorem dX6_restore_48 : decode cX6_restore 48 = .ok (.aload_n 0, 1) := by decide +kernel
theorem dX6_restore_49 : decode cX6_restore 49 = .ok (.getfield 19, 3) := by decide +kernel
theorem dX6_restore_52 : decode cX6_restore 52 = .ok (.sipush 302, 3) := by decide +kernel
theorem dX6_restore_55 : decode cX6_restore 55 = .ok (.iload_n 1, 1) := by decide +kernel
theorem dX6_restore_56 : decode cX6_restore 56 = .ok (.imul, 1) := by decide +kernel
theorem dX6_restore_57 : decode cX6_restore 57 = .ok (.iload_n 2, 1) := by decide +kernel
theorem dX6_restore_58 : decode cX6_restore 58 = .ok (.iadd, 1) := by decide +kernel
theorem dX6_restore_59 : decode cX6_restore 59 = .ok (.iaload, 1) := by decide +kernel
theorem dX6_restore_60 : decode cX6_restore 60 = .ok (.iastore, 1) := by decide +kernel
theorem dX6_restore_61 : decode cX6_restore 61 = .ok (.iinc 2 1, 3) := by decide +kernel
theorem dX6_restore_64 : decode cX6_restore 64 = .ok (.goto (-28), 3) := by decide +kernel
theorem dX6_restore_67 : decode cX6_restore 67 = .ok (.aload_n 0, 1) := by decide +kernel
theorem dX6_restore_68 : decode cX6_restore 68 = .ok (.getfield 7, 3) := by decide +kernel
theorem dX6_restore_71 : decode cX6_restore 71 = .ok (.iconst 5, 1) := by decide +kernel
theorem dX6_restore_72 : decode cX6_restore 72 = .ok (.iaload, 1) := by decide +kernel
theorem dX6_restore_73 : decode cX6_restore 73 = .ok (.ireturn, 1) := by decide +kernel
end
section
theorem dL_law_0 : decode cL_law 0 = .ok (.new 7, 3) := by decide +kernel
theorem dL_law_3 : decode cL_law 3 = .ok (.dup, 1) := by decide +kernel
theorem dL_law_4 : decode cL_law 4 = .ok (.invokespecial 9, 3) := by decide +kernel
theorem dL_law_7 : decode cL_law 7 = .ok (.astore_n 1, 1) := by decide +kernel
theorem dL_law_8 : decode cL_law 8 = .ok (.new 10, 3) := by decide +kernel
theorem dL_law_11 : decode cL_law 11 = .ok (.dup, 1) := by decide +kernel
theorem dL_law_12 : decode cL_law 12 = .ok (.invokespecial 12, 3) := by decide +kernel
theorem dL_law_15 : decode cL_law 15 = .ok (.astore_n 2, 1) := by decide +kernel
theorem dL_law_16 : decode cL_law 16 = .ok (.iconst 0, 1) := by decide +kernel
theorem dL_law_17 : decode cL_law 17 = .ok (.istore_n 3, 1) := by decide +kernel
theorem dL_law_18 : decode cL_law 18 = .ok (.iload_n 3, 1) := by decide +kernel
theorem dL_law_19 : decode cL_law 19 = .ok (.aload_n 0, 1) := by decide +kernel
theorem dL_law_20 : decode cL_law 20 = .ok (.arraylength, 1) := by decide +kernel
theorem dL_law_21 : decode cL_law 21 = .ok (.iconst 4, 1) := by decide +kernel
theorem dL_law_22 : decode cL_law 22 = .ok (.isub, 1) := by decide +kernel
theorem dL_law_23 : decode cL_law 23 = .ok (.if_icmp .gt 806, 3) := by decide +kernel
theorem dL_law_26 : decode cL_law 26 = .ok (.aload_n 0, 1) := by decide +kernel
theorem dL_law_27 : decode cL_law 27 = .ok (.iload_n 3, 1) := by decide +kernel
theorem dL_law_28 : decode cL_law 28 = .ok (.iaload, 1) := by decide +kernel
theorem dL_law_29 : decode cL_law 29 = .ok (.bipush 31, 2) := by decide +kernel
theorem dL_law_31 : decode cL_law 31 = .ok (.iand, 1) := by decide +kernel
theorem dL_law_32 : decode cL_law 32 = .ok (.tableswitch 791 0 24 #[116, 149, 182, 225, 258, 281, 314, 337, 370, 393, 426, 449, 472, 495, 528, 551, 594, 627, 640, 693, 706, 719, 732, 745, 768], 116) := by decide +kernel
theorem dL_law_148 : decode cL_law 148 = .ok (.aload_n 1, 1) := by decide +kernel
theorem dL_law_149 : decode cL_law 149 = .ok (.aload_n 0, 1) := by decide +kernel
theorem dL_law_150 : decode cL_law 150 = .ok (.iload_n 3, 1) := by decide +kernel
theorem dL_law_151 : decode cL_law 151 = .ok (.iconst 1, 1) := by decide +kernel
theorem dL_law_152 : decode cL_law 152 = .ok (.iadd, 1) := by decide +kernel
theorem dL_law_153 : decode cL_law 153 = .ok (.iaload, 1) := by decide +kernel
theorem dL_law_154 : decode cL_law 154 = .ok (.aload_n 0, 1) := by decide +kernel
theorem dL_law_155 : decode cL_law 155 = .ok (.iload_n 3, 1) := by decide +kernel
theorem dL_law_156 : decode cL_law 156 = .ok (.iconst 2, 1) := by decide +kernel
theorem dL_law_157 : decode cL_law 157 = .ok (.iadd, 1) := by decide +kernel
theorem dL_law_158 : decode cL_law 158 = .ok (.iaload, 1) := by decide +kernel
theorem dL_law_159 : decode cL_law 159 = .ok (.invokevirtual 13, 3) := by decide +kernel
theorem dL_law_162 : decode cL_law 162 = .ok (.aload_n 2, 1) := by decide +kernel
theorem dL_law_163 : decode cL_law 163 = .ok (.aload_n 0, 1) := by decide +kernel
theorem dL_law_164 : decode cL_law 164 = .ok (.iload_n 3, 1) := by decide +kernel
theorem dL_law_165 : decode cL_law 165 = .ok (.iconst 1, 1) := by decide +kernel
theorem dL_law_166 : decode cL_law 166 = .ok (.iadd, 1) := by decide +kernel
theorem dL_law_167 : decode cL_law 167 = .ok (.iaload, 1) := by decide +kernel
theorem dL_law_168 : decode cL_law 168 = .ok (.aload_n 0, 1) := by decide +kernel
theorem dL_law_169 : decode cL_law 169 = .ok (.iload_n 3, 1) := by decide +kernel
theorem dL_law_170 : decode cL_law 170 = .ok (.iconst 2, 1) := by decide +kernel
theorem dL_law_171 : decode cL_law 171 = .ok (.iadd, 1) := by decide +kernel
theorem dL_law_172 : decode cL_law 172 = .ok (.iaload, 1) := by decide +kernel
theorem dL_law_173 : decode cL_law 173 = .ok (.invokevirtual 17, 3) := by decide +kernel
theorem dL_law_176 : decode cL_law 176 = .ok (.if_icmp .eq 647, 3) := by decide +kernel
theorem dL_law_179 : decode cL_law 179 = .ok (.iconst 0, 1) := by decide +kernel
theorem dL_law_180 : decode cL_law 180 = .ok (.ireturn, 1) := by decide +kernel
theorem dL_law_181 : decode cL_law 181 = .ok (.aload_n 1, 1) := by decide +kernel
theorem dL_law_182 : decode cL_law 182 = .ok (.aload_n 0, 1) := by decide +kernel
theorem dL_law_183 : decode cL_law 183 = .ok (.iload_n 3, 1) := by decide +kernel
theorem dL_law_184 : decode cL_law 184 = .ok (.iconst 1, 1) := by decide +kernel
theorem dL_law_185 : decode cL_law 185 = .ok (.iadd, 1) := by decide +kernel
theorem dL_law_186 : decode cL_law 186 = .ok (.iaload, 1) := by decide +kernel
theorem dL_law_187 : decode cL_law 187 = .ok (.aload_n 0, 1) := by decide +kernel
theorem dL_law_188 : decode cL_law 188 = .ok (.iload_n 3, 1) := by decide +kernel
theorem dL_law_189 : decode cL_law 189 = .ok (.iconst 2, 1) := by decide +kernel
theorem dL_law_190 : decode cL_law 190 = .ok (.iadd, 1) := by decide +kernel
theorem dL_law_191 : decode cL_law 191 = .ok (.iaload, 1) := by decide +kernel
theorem dL_law_192 : decode cL_law 192 = .ok (.invokevirtual 18, 3) := by decide +kernel
theorem dL_law_195 : decode cL_law 195 = .ok (.aload_n 2, 1) := by decide +kernel
theorem dL_law_196 : decode cL_law 196 = .ok (.aload_n 0, 1) := by decide +kernel
theorem dL_law_197 : decode cL_law 197 = .ok (.iload_n 3, 1) := by decide +kernel
theorem dL_law_198 : decode cL_law 198 = .ok (.iconst 1, 1) := by decide +kernel
theorem dL_law_199 : decode cL_law 199 = .ok (.iadd, 1) := by decide +kernel
theorem dL_law_200 : decode cL_law 200 = .ok (.iaload, 1) := by decide +kernel
theorem dL_law_201 : decode cL_law 201 = .ok (.aload_n 0, 1) := by decide +kernel
theorem dL_law_202 : decode cL_law 202 = .ok (.iload_n 3, 1) := by decide +kernel
theorem dL_law_203 : decode cL_law 203 = .ok (.iconst 2, 1) := by decide +kernel
theorem dL_law_204 : decode cL_law 204 = .ok (.iadd, 1) := by decide +kernel
theorem dL_law_205 : decode cL_law 205 = .ok (.iaload, 1) := by decide +kernel
theorem dL_law_206 : decode cL_law 206 = .ok (.invokevirtual 21, 3) := by decide +kernel
theorem dL_law_209 : decode cL_law 209 = .ok (.if_icmp .eq 614, 3) := by decide +kernel
theorem dL_law_212 : decode cL_law 212 = .ok (.iconst 0, 1) := by decide +kernel
theorem dL_law_213 : decode cL_law 213 = .ok (.ireturn, 1) := by decide +kernel
theorem dL_law_214 : decode cL_law 214 = .ok (.aload_n 1, 1) := by decide +kernel
theorem dL_law_215 : decode cL_law 215 = .ok (.aload_n 0, 1) := by decide +kernel
theorem dL_law_216 : decode cL_law 216 = .ok (.iload_n 3, 1) := by decide +kernel
theorem dL_law_217 : decode cL_law 217 = .ok (.iconst 1, 1) := by decide +kernel
theorem dL_law_218 : decode cL_law 218 = .ok (.iadd, 1) := by decide +kernel
theorem dL_law_219 : decode cL_law 219 = .ok (.iaload, 1) := by decide +kernel
theorem dL_law_220 : decode cL_law 220 = .ok (.aload_n 0, 1) := by decide +kernel
theorem dL_law_221 : decode cL_law 221 = .ok (.iload_n 3, 1) := by decide +kernel
theorem dL_law_222 : decode cL_law 222 = .ok (.iconst 2, 1) := by decide +kernel
theorem dL_law_223 : decode cL_law 223 = .ok (.iadd, 1) := by decide +kernel
theorem dL_law_224 : decode cL_law 224 = .ok (.iaload, 1) := by decide +kernel
theorem dL_law_225 : decode cL_law 225 = .ok (.aload_n 0, 1) := by decide +kernel
theorem dL_law_226 : decode cL_law 226 = .ok (.iload_n 3, 1) := by decide +kernel
theorem dL_law_227 : decode cL_law 227 = .ok (.iconst 3, 1) := by decide +kernel
theorem dL_law_228 : decode cL_law 228 = .ok (.iadd, 1) := by decide +kernel
theorem dL_law_229 : decode cL_law 229 = .ok (.iaload, 1) := by decide +kernel
theorem dL_law_230 : decode cL_law 230 = .ok (.invokevirtual 22, 3) := by decide +kernel
theorem dL_law_233 : decode cL_law 233 = .ok (.aload_n 2, 1) := by decide +kernel
theorem dL_law_234 : decode cL_law 234 = .ok (.aload_n 0, 1) := by decide +kernel
theorem dL_law_235 : decode cL_law 235 = .ok (.iload_n 3, 1) := by decide +kernel
theorem dL_law_236 : decode cL_law 236 = .ok (.iconst 1, 1) := by decide +kernel
theorem dL_law_237 : decode cL_law 237 = .ok (.iadd, 1) := by decide +kernel
theorem dL_law_238 : decode cL_law 238 = .ok (.iaload, 1) := by decide +kernel
theorem dL_law_239 : decode cL_law 239 = .ok (.aload_n 0, 1) := by decide +kernel
theorem dL_law_240 : decode cL_law 240 = .ok (.iload_n 3, 1) := by decide +kernel
theorem dL_law_241 : decode cL_law 241 = .ok (.iconst 2, 1) := by decide +kernel
theorem dL_law_242 : decode cL_law 242 = .ok (.iadd, 1) := by decide +kernel
theorem dL_law_243 : decode cL_law 243 = .ok (.iaload, 1) := by decide +kernel
theorem dL_law_244 : decode cL_law 244 = .ok (.aload_n 0, 1) := by decide +kernel
theorem dL_law_245 : decode cL_law 245 = .ok (.iload_n 3, 1) := by decide +kernel
theorem dL_law_246 : decode cL_law 246 = .ok (.iconst 3, 1) := by decide +kernel
theorem dL_law_247 : decode cL_law 247 = .ok (.iadd, 1) := by decide +kernel
theorem dL_law_248 : decode cL_law 248 = .ok (.iaload, 1) := by decide +kernel
theorem dL_law_249 : decode cL_law 249 = .ok (.invokevirtual 26, 3) := by decide +kernel
theorem dL_law_252 : decode cL_law 252 = .ok (.if_icmp .eq 571, 3) := by decide +kernel
theorem dL_law_255 : decode cL_law 255 = .ok (.iconst 0, 1) := by decide +kernel
theorem dL_law_256 : decode cL_law 256 = .ok (.ireturn, 1) := by decide +kernel
theorem dL_law_257 : decode cL_law 257 = .ok (.aload_n 1, 1) := by decide +kernel
theorem dL_law_258 : decode cL_law 258 = .ok (.aload_n 0, 1) := by decide +kernel
theorem dL_law_259 : decode cL_law 259 = .ok (.iload_n 3, 1) := by decide +kernel
theorem dL_law_260 : decode cL_law 260 = .ok (.iconst 1, 1) := by decide +kernel
theorem dL_law_261 : decode cL_law 261 = .ok (.iadd, 1) := by decide +kernel
theorem dL_law_262 : decode cL_law 262 = .ok (.iaload, 1) := by decide +kernel
theorem dL_law_263 : decode cL_law 263 = .ok (.aload_n 0, 1) := by decide +kernel
theorem dL_law_264 : decode cL_law 264 = .ok (.iload_n 3, 1) := by decide +kernel
theorem dL_law_265 : decode cL_law 265 = .ok (.iconst 2, 1) := by decide +kernel
theorem dL_law_266 : decode cL_law 266 = .ok (.iadd, 1) := by decide +kernel
theorem dL_law_267 : decode cL_law 267 = .ok (.iaload, 1) := by decide +kernel
theorem dL_law_268 : decode cL_law 268 = .ok (.invokevirtual 27, 3) := by decide +kernel
theorem dL_law_271 : decode cL_law 271 = .ok (.aload_n 2, 1) := by decide +kernel
theorem dL_law_272 : decode cL_law 272 = .ok (.aload_n 0, 1) := by decide +kernel
theorem dL_law_273 : decode cL_law 273 = .ok (.iload_n 3, 1) := by decide +kernel
theorem dL_law_274 : decode cL_law 274 = .ok (.iconst 1, 1) := by decide +kernel
theorem dL_law_275 : decode cL_law 275 = .ok (.iadd, 1) := by decide +kernel
theorem dL_law_276 : decode cL_law 276 = .ok (.iaload, 1) := by decide +kernel
theorem dL_law_277 : decode cL_law 277 = .ok (.aload_n 0, 1) := by decide +kernel
theorem dL_law_278 : decode cL_law 278 = .ok (.iload_n 3, 1) := by decide +kernel
theorem dL_law_279 : decode cL_law 279 = .ok (.iconst 2, 1) := by decide +kernel
theorem dL_law_280 : decode cL_law 280 = .ok (.iadd, 1) := by decide +kernel
theorem dL_law_281 : decode cL_law 281 = .ok (.iaload, 1) := by decide +kernel
theorem dL_law_282 : decode cL_law 282 = .ok (.invokevirtual 30, 3) := by decide +kernel
theorem dL_law_285 : decode cL_law 285 = .ok (.if_icmp .eq 538, 3) := by decide +kernel
theorem dL_law_288 : decode cL_law 288 = .ok (.iconst 0, 1) := by decide +kernel
theorem dL_law_289 : decode cL_law 289 = .ok (.ireturn, 1) := by decide +kernel
theorem dL_law_290 : decode cL_law 290 = .ok (.aload_n 1, 1) := by decide +kernel
theorem dL_law_291 : decode cL_law 291 = .ok (.aload_n 0, 1) := by decide +kernel
theorem dL_law_292 : decode cL_law 292 = .ok (.iload_n 3, 1) := by decide +kernel
theorem dL_law_293 : decode cL_law 293 = .ok (.iconst 1, 1) := by decide +kernel
theorem dL_law_294 : decode cL_law 294 = .ok (.iadd, 1) := by decide +kernel
theorem dL_law_295 : decode cL_law 295 = .ok (.iaload, 1) := by decide +kernel
theorem dL_law_296 : decode cL_law 296 = .ok (.invokevirtual 31, 3) := by decide +kernel
theorem dL_law_299 : decode cL_law 299 = .ok (.aload_n 2, 1) := by decide +kernel
theorem dL_law_300 : decode cL_law 300 = .ok (.aload_n 0, 1) := by decide +kernel
theorem dL_law_301 : decode cL_law 301 = .ok (.iload_n 3, 1) := by decide +kernel
theorem dL_law_302 : decode cL_law 302 = .ok (.iconst 1, 1) := by decide +kernel
theorem dL_law_303 : decode cL_law 303 = .ok (.iadd, 1) := by decide +kernel
theorem dL_law_304 : decode cL_law 304 = .ok (.iaload, 1) := by decide +kernel
theorem dL_law_305 : decode cL_law 305 = .ok (.invokevirtual 35, 3) := by decide +kernel
theorem dL_law_308 : decode cL_law 308 = .ok (.if_icmp .eq 515, 3) := by decide +kernel
theorem dL_law_311 : decode cL_law 311 = .ok (.iconst 0, 1) := by decide +kernel
theorem dL_law_312 : decode cL_law 312 = .ok (.ireturn, 1) := by decide +kernel
theorem dL_law_313 : decode cL_law 313 = .ok (.aload_n 1, 1) := by decide +kernel
theorem dL_law_314 : decode cL_law 314 = .ok (.aload_n 0, 1) := by decide +kernel
theorem dL_law_315 : decode cL_law 315 = .ok (.iload_n 3, 1) := by decide +kernel
theorem dL_law_316 : decode cL_law 316 = .ok (.iconst 1, 1) := by decide +kernel
theorem dL_law_317 : decode cL_law 317 = .ok (.iadd, 1) := by decide +kernel
theorem dL_law_318 : decode cL_law 318 = .ok (.iaload, 1) := by decide +kernel
theorem dL_law_319 : decode cL_law 319 = .ok (.aload_n 0, 1) := by decide +kernel
theorem dL_law_320 : decode cL_law 320 = .ok (.iload_n 3, 1) := by decide +kernel
theorem dL_law_321 : decode cL_law 321 = .ok (.iconst 2, 1) := by decide +kernel
theorem dL_law_322 : decode cL_law 322 = .ok (.iadd, 1) := by decide +kernel
theorem dL_law_323 : decode cL_law 323 = .ok (.iaload, 1) := by decide +kernel
theorem dL_law_324 : decode cL_law 324 = .ok (.invokevirtual 36, 3) := by decide +kernel
theorem dL_law_327 : decode cL_law 327 = .ok (.aload_n 2, 1) := by decide +kernel
theorem dL_law_328 : decode cL_law 328 = .ok (.aload_n 0, 1) := by decide +kernel
theorem dL_law_329 : decode cL_law 329 = .ok (.iload_n 3, 1) := by decide +kernel
theorem dL_law_330 : decode cL_law 330 = .ok (.iconst 1, 1) := by decide +kernel
theorem dL_law_331 : decode cL_law 331 = .ok (.iadd, 1) := by decide +kernel
theorem dL_law_332 : decode cL_law 332 = .ok (.iaload, 1) := by decide +kernel
theorem dL_law_333 : decode cL_law 333 = .ok (.aload_n 0, 1) := by decide +kernel
theorem dL_law_334 : decode cL_law 334 = .ok (.iload_n 3, 1) := by decide +kernel
theorem dL_law_335 : decode cL_law 335 = .ok (.iconst 2, 1) := by decide +kernel
theorem dL_law_336 : decode cL_law 336 = .ok (.iadd, 1) := by decide +kernel
theorem dL_law_337 : decode cL_law 337 = .ok (.iaload, 1) := by decide +kernel
theorem dL_law_338 : decode cL_law 338 = .ok (.invokevirtual 39, 3) := by decide +kernel
theorem dL_law_341 : decode cL_law 341 = .ok (.if_icmp .eq 482, 3) := by decide +kernel
theorem dL_law_344 : decode cL_law 344 = .ok (.iconst 0, 1) := by decide +kernel
theorem dL_law_345 : decode cL_law 345 = .ok (.ireturn, 1) := by decide +kernel
theorem dL_law_346 : decode cL_law 346 = .ok (.aload_n 1, 1) := by decide +kernel
theorem dL_law_347 : decode cL_law 347 = .ok (.aload_n 0, 1) := by decide +kernel
theorem dL_law_348 : decode cL_law 348 = .ok (.iload_n 3, 1) := by decide +kernel
theorem dL_law_349 : decode cL_law 349 = .ok (.iconst 1, 1) := by decide +kernel
theorem dL_law_350 : decode cL_law 350 = .ok (.iadd, 1) := by decide +kernel
theorem dL_law_351 : decode cL_law 351 = .ok (.iaload, 1) := by decide +kernel
theorem dL_law_352 : decode cL_law 352 = .ok (.invokevirtual 40, 3) := by decide +kernel
theorem dL_law_355 : decode cL_law 355 = .ok (.aload_n 2, 1) := by decide +kernel
theorem dL_law_356 : decode cL_law 356 = .ok (.aload_n 0, 1) := by decide +kernel
theorem dL_law_357 : decode cL_law 357 = .ok (.iload_n 3, 1) := by decide +kernel
theorem dL_law_358 : decode cL_law 358 = .ok (.iconst 1, 1) := by decide +kernel
theorem dL_law_359 : decode cL_law 359 = .ok (.iadd, 1) := by decide +kernel
theorem dL_law_360 : decode cL_law 360 = .ok (.iaload, 1) := by decide +kernel
theorem dL_law_361 : decode cL_law 361 = .ok (.invokevirtual 43, 3) := by decide +kernel
theorem dL_law_364 : decode cL_law 364 = .ok (.if_icmp .eq 459, 3) := by decide +kernel
theorem dL_law_367 : decode cL_law 367 = .ok (.iconst 0, 1) := by decide +kernel
theorem dL_law_368 : decode cL_law 368 = .ok (.ireturn, 1) := by decide +kernel
theorem dL_law_369 : decode cL_law 369 = .ok (.aload_n 1, 1) := by decide +kernel
theorem dL_law_370 : decode cL_law 370 = .ok (.aload_n 0, 1) := by decide +kernel
theorem dL_law_371 : decode cL_law 371 = .ok (.iload_n 3, 1) := by decide +kernel
theorem dL_law_372 : decode cL_law 372 = .ok (.iconst 1, 1) := by decide +kernel
theorem dL_law_373 : decode cL_law 373 = .ok (.iadd, 1) := by decide +kernel
theorem dL_law_374 : decode cL_law 374 = .ok (.iaload, 1) := by decide +kernel
theorem dL_law_375 : decode cL_law 375 = .ok (.aload_n 0, 1) := by decide +kernel
theorem dL_law_376 : decode cL_law 376 = .ok (.iload_n 3, 1) := by decide +kernel
theorem dL_law_377 : decode cL_law 377 = .ok (.iconst 2, 1) := by decide +kernel
theorem dL_law_378 : decode cL_law 378 = .ok (.iadd, 1) := by decide +kernel
theorem dL_law_379 : decode cL_law 379 = .ok (.iaload, 1) := by decide +kernel
theorem dL_law_380 : decode cL_law 380 = .ok (.invokevirtual 44, 3) := by decide +kernel
theorem dL_law_383 : decode cL_law 383 = .ok (.aload_n 2, 1) := by decide +kernel
theorem dL_law_384 : decode cL_law 384 = .ok (.aload_n 0, 1) := by decide +kernel
theorem dL_law_385 : decode cL_law 385 = .ok (.iload_n 3, 1) := by decide +kernel
theorem dL_law_386 : decode cL_law 386 = .ok (.iconst 1, 1) := by decide +kernel
theorem dL_law_387 : decode cL_law 387 = .ok (.iadd, 1) := by decide +kernel
theorem dL_law_388 : decode cL_law 388 = .ok (.iaload, 1) := by decide +kernel
theorem dL_law_389 : decode cL_law 389 = .ok (.aload_n 0, 1) := by decide +kernel
theorem dL_law_390 : decode cL_law 390 = .ok (.iload_n 3, 1) := by decide +kernel
theorem dL_law_391 : decode cL_law 391 = .ok (.iconst 2, 1) := by decide +kernel
theorem dL_law_392 : decode cL_law 392 = .ok (.iadd, 1) := by decide +kernel
theorem dL_law_393 : decode cL_law 393 = .ok (.iaload, 1) := by decide +kernel
theorem dL_law_394 : decode cL_law 394 = .ok (.invokevirtual 47, 3) := by decide +kernel
theorem dL_law_397 : decode cL_law 397 = .ok (.if_icmp .eq 426, 3) := by decide +kernel
theorem dL_law_400 : decode cL_law 400 = .ok (.iconst 0, 1) := by decide +kernel
theorem dL_law_401 : decode cL_law 401 = .ok (.ireturn, 1) := by decide +kernel
theorem dL_law_402 : decode cL_law 402 = .ok (.aload_n 1, 1) := by decide +kernel
theorem dL_law_403 : decode cL_law 403 = .ok (.aload_n 0, 1) := by decide +kernel
theorem dL_law_404 : decode cL_law 404 = .ok (.iload_n 3, 1) := by decide +kernel
theorem dL_law_405 : decode cL_law 405 = .ok (.iconst 1, 1) := by decide +kernel
theorem dL_law_406 : decode cL_law 406 = .ok (.iadd, 1) := by decide +kernel
theorem dL_law_407 : decode cL_law 407 = .ok (.iaload, 1) := by decide +kernel
theorem dL_law_408 : decode cL_law 408 = .ok (.invokevirtual 48, 3) := by decide +kernel
theorem dL_law_411 : decode cL_law 411 = .ok (.aload_n 2, 1) := by decide +kernel
theorem dL_law_412 : decode cL_law 412 = .ok (.aload_n 0, 1) := by decide +kernel
theorem dL_law_413 : decode cL_law 413 = .ok (.iload_n 3, 1) := by decide +kernel
theorem dL_law_414 : decode cL_law 414 = .ok (.iconst 1, 1) := by decide +kernel
theorem dL_law_415 : decode cL_law 415 = .ok (.iadd, 1) := by decide +kernel
theorem dL_law_416 : decode cL_law 416 = .ok (.iaload, 1) := by decide +kernel
theorem dL_law_417 : decode cL_law 417 = .ok (.invokevirtual 51, 3) := by decide +kernel
theorem dL_law_420 : decode cL_law 420 = .ok (.if_icmp .eq 403, 3) := by decide +kernel
theorem dL_law_423 : decode cL_law 423 = .ok (.iconst 0, 1) := by decide +kernel
theorem dL_law_424 : decode cL_law 424 = .ok (.ireturn, 1) := by decide +kernel
theorem dL_law_425 : decode cL_law 425 = .ok (.aload_n 1, 1) := by decide +kernel
theorem dL_law_426 : decode cL_law 426 = .ok (.aload_n 0, 1) := by decide +kernel
theorem dL_law_427 : decode cL_law 427 = .ok (.iload_n 3, 1) := by decide +kernel
theorem dL_law_428 : decode cL_law 428 = .ok (.iconst 1, 1) := by decide +kernel
theorem dL_law_429 : decode cL_law 429 = .ok (.iadd, 1) := by decide +kernel
theorem dL_law_430 : decode cL_law 430 = .ok (.iaload, 1) := by decide +kernel
theorem dL_law_431 : decode cL_law 431 = .ok (.aload_n 0, 1) := by decide +kernel
theorem dL_law_432 : decode cL_law 432 = .ok (.iload_n 3, 1) := by decide +kernel
theorem dL_law_433 : decode cL_law 433 = .ok (.iconst 2, 1) := by decide +kernel
theorem dL_law_434 : decode cL_law 434 = .ok (.iadd, 1) := by decide +kernel
theorem dL_law_435 : decode cL_law 435 = .ok (.iaload, 1) := by decide +kernel
theorem dL_law_436 : decode cL_law 436 = .ok (.invokevirtual 52, 3) := by decide +kernel
theorem dL_law_439 : decode cL_law 439 = .ok (.aload_n 2, 1) := by decide +kernel
theorem dL_law_440 : decode cL_law 440 = .ok (.aload_n 0, 1) := by decide +kernel
theorem dL_law_441 : decode cL_law 441 = .ok (.iload_n 3, 1) := by decide +kernel
theorem dL_law_442 : decode cL_law 442 = .ok (.iconst 1, 1) := by decide +kernel
theorem dL_law_443 : decode cL_law 443 = .ok (.iadd, 1) := by decide +kernel
theorem dL_law_444 : decode cL_law 444 = .ok (.iaload, 1) := by decide +kernel
theorem dL_law_445 : decode cL_law 445 = .ok (.aload_n 0, 1) := by decide +kernel
theorem dL_law_446 : decode cL_law 446 = .ok (.iload_n 3, 1) := by decide +kernel
theorem dL_law_447 : decode cL_law 447 = .ok (.iconst 2, 1) := by decide +kernel
theorem dL_law_448 : decode cL_law 448 = .ok (.iadd, 1) := by decide +kernel
theorem dL_law_449 : decode cL_law 449 = .ok (.iaload, 1) := by decide +kernel
theorem dL_law_450 : decode cL_law 450 = .ok (.invokevirtual 55, 3) := by decide +kernel
theorem dL_law_453 : decode cL_law 453 = .ok (.if_icmp .eq 370, 3) := by decide +kernel
theorem dL_law_456 : decode cL_law 456 = .ok (.iconst 0, 1) := by decide +kernel
theorem dL_law_457 : decode cL_law 457 = .ok (.ireturn, 1) := by decide +kernel
theorem dL_law_458 : decode cL_law 458 = .ok (.aload_n 1, 1) := by decide +kernel
theorem dL_law_459 : decode cL_law 459 = .ok (.aload_n 0, 1) := by decide +kernel
theorem dL_law_460 : decode cL_law 460 = .ok (.iload_n 3, 1) := by decide +kernel
theorem dL_law_461 : decode cL_law 461 = .ok (.iconst 1, 1) := by decide +kernel
theorem dL_law_462 : decode cL_law 462 = .ok (.iadd, 1) := by decide +kernel
theorem dL_law_463 : decode cL_law 463 = .ok (.iaload, 1) := by decide +kernel
theorem dL_law_464 : decode cL_law 464 = .ok (.invokevirtual 56, 3) := by decide +kernel
theorem dL_law_467 : decode cL_law 467 = .ok (.aload_n 2, 1) := by decide +kernel
theorem dL_law_468 : decode cL_law 468 = .ok (.aload_n 0, 1) := by decide +kernel
theorem dL_law_469 : decode cL_law 469 = .ok (.iload_n 3, 1) := by decide +kernel
theorem dL_law_470 : decode cL_law 470 = .ok (.iconst 1, 1) := by decide +kernel
theorem dL_law_471 : decode cL_law 471 = .ok (.iadd, 1) := by decide +kernel
theorem dL_law_472 : decode cL_law 472 = .ok (.iaload, 1) := by decide +kernel
theorem dL_law_473 : decode cL_law 473 = .ok (.invokevirtual 59, 3) := by decide +kernel
theorem dL_law_476 : decode cL_law 476 = .ok (.if_icmp .eq 347, 3) := by decide +kernel
theorem dL_law_479 : decode cL_law 479 = .ok (.iconst 0, 1) := by decide +kernel
theorem dL_law_480 : decode cL_law 480 = .ok (.ireturn, 1) := by decide +kernel
theorem dL_law_481 : decode cL_law 481 = .ok (.aload_n 1, 1) := by decide +kernel
theorem dL_law_482 : decode cL_law 482 = .ok (.aload_n 0, 1) := by decide +kernel
theorem dL_law_483 : decode cL_law 483 = .ok (.iload_n 3, 1) := by decide +kernel
theorem dL_law_484 : decode cL_law 484 = .ok (.iconst 1, 1) := by decide +kernel
theorem dL_law_485 : decode cL_law 485 = .ok (.iadd, 1) := by decide +kernel
theorem dL_law_486 : decode cL_law 486 = .ok (.iaload, 1) := by decide +kernel
theorem dL_law_487 : decode cL_law 487 = .ok (.invokevirtual 60, 3) := by decide +kernel
theorem dL_law_490 : decode cL_law 490 = .ok (.aload_n 2, 1) := by decide +kernel
theorem dL_law_491 : decode cL_law 491 = .ok (.aload_n 0, 1) := by decide +kernel
theorem dL_law_492 : decode cL_law 492 = .ok (.iload_n 3, 1) := by decide +kernel
theorem dL_law_493 : decode cL_law 493 = .ok (.iconst 1, 1) := by decide +kernel
theorem dL_law_494 : decode cL_law 494 = .ok (.iadd, 1) := by decide +kernel
theorem dL_law_495 : decode cL_law 495 = .ok (.iaload, 1) := by decide +kernel
theorem dL_law_496 : decode cL_law 496 = .ok (.invokevirtual 63, 3) := by decide +kernel
theorem dL_law_499 : decode cL_law 499 = .ok (.if_icmp .eq 324, 3) := by decide +kernel
theorem dL_law_502 : decode cL_law 502 = .ok (.iconst 0, 1) := by decide +kernel
theorem dL_law_503 : decode cL_law 503 = .ok (.ireturn, 1) := by decide +kernel
theorem dL_law_504 : decode cL_law 504 = .ok (.aload_n 1, 1) := by decide +kernel
theorem dL_law_505 : decode cL_law 505 = .ok (.aload_n 0, 1) := by decide +kernel
theorem dL_law_506 : decode cL_law 506 = .ok (.iload_n 3, 1) := by decide +kernel
theorem dL_law_507 : decode cL_law 507 = .ok (.iconst 1, 1) := by decide +kernel
theorem dL_law_508 : decode cL_law 508 = .ok (.iadd, 1) := by decide +kernel
theorem dL_law_509 : decode cL_law 509 = .ok (.iaload, 1) := by decide +kernel
theorem dL_law_510 : decode cL_law 510 = .ok (.invokevirtual 64, 3) := by decide +kernel
theorem dL_law_513 : decode cL_law 513 = .ok (.aload_n 2, 1) := by decide +kernel
theorem dL_law_514 : decode cL_law 514 = .ok (.aload_n 0, 1) := by decide +kernel
theorem dL_law_515 : decode cL_law 515 = .ok (.iload_n 3, 1) := by decide +kernel
theorem dL_law_516 : decode cL_law 516 = .ok (.iconst 1, 1) := by decide +kernel
theorem dL_law_517 : decode cL_law 517 = .ok (.iadd, 1) := by decide +kernel
theorem dL_law_518 : decode cL_law 518 = .ok (.iaload, 1) := by decide +kernel
theorem dL_law_519 : decode cL_law 519 = .ok (.invokevirtual 67, 3) := by decide +kernel
theorem dL_law_522 : decode cL_law 522 = .ok (.if_icmp .eq 301, 3) := by decide +kernel
theorem dL_law_525 : decode cL_law 525 = .ok (.iconst 0, 1) := by decide +kernel
theorem dL_law_526 : decode cL_law 526 = .ok (.ireturn, 1) := by decide +kernel
theorem dL_law_527 : decode cL_law 527 = .ok (.aload_n 1, 1) := by decide +kernel
theorem dL_law_528 : decode cL_law 528 = .ok (.aload_n 0, 1) := by decide +kernel
theorem dL_law_529 : decode cL_law 529 = .ok (.iload_n 3, 1) := by decide +kernel
theorem dL_law_530 : decode cL_law 530 = .ok (.iconst 1, 1) := by decide +kernel
theorem dL_law_531 : decode cL_law 531 = .ok (.iadd, 1) := by decide +kernel
theorem dL_law_532 : decode cL_law 532 = .ok (.iaload, 1) := by decide +kernel
theorem dL_law_533 : decode cL_law 533 = .ok (.aload_n 0, 1) := by decide +kernel
theorem dL_law_534 : decode cL_law 534 = .ok (.iload_n 3, 1) := by decide +kernel
theorem dL_law_535 : decode cL_law 535 = .ok (.iconst 2, 1) := by decide +kernel
theorem dL_law_536 : decode cL_law 536 = .ok (.iadd, 1) := by decide +kernel
theorem dL_law_537 : decode cL_law 537 = .ok (.iaload, 1) := by decide +kernel
theorem dL_law_538 : decode cL_law 538 = .ok (.invokevirtual 68, 3) := by decide +kernel
theorem dL_law_541 : decode cL_law 541 = .ok (.aload_n 2, 1) := by decide +kernel
theorem dL_law_542 : decode cL_law 542 = .ok (.aload_n 0, 1) := by decide +kernel
theorem dL_law_543 : decode cL_law 543 = .ok (.iload_n 3, 1) := by decide +kernel
theorem dL_law_544 : decode cL_law 544 = .ok (.iconst 1, 1) := by decide +kernel
theorem dL_law_545 : decode cL_law 545 = .ok (.iadd, 1) := by decide +kernel
theorem dL_law_546 : decode cL_law 546 = .ok (.iaload, 1) := by decide +kernel
theorem dL_law_547 : decode cL_law 547 = .ok (.aload_n 0, 1) := by decide +kernel
theorem dL_law_548 : decode cL_law 548 = .ok (.iload_n 3, 1) := by decide +kernel
theorem dL_law_549 : decode cL_law 549 = .ok (.iconst 2, 1) := by decide +kernel
theorem dL_law_550 : decode cL_law 550 = .ok (.iadd, 1) := by decide +kernel
theorem dL_law_551 : decode cL_law 551 = .ok (.iaload, 1) := by decide +kernel
theorem dL_law_552 : decode cL_law 552 = .ok (.invokevirtual 71, 3) := by decide +kernel
theorem dL_law_555 : decode cL_law 555 = .ok (.if_icmp .eq 268, 3) := by decide +kernel
theorem dL_law_558 : decode cL_law 558 = .ok (.iconst 0, 1) := by decide +kernel
theorem dL_law_559 : decode cL_law 559 = .ok (.ireturn, 1) := by decide +kernel
theorem dL_law_560 : decode cL_law 560 = .ok (.aload_n 1, 1) := by decide +kernel
theorem dL_law_561 : decode cL_law 561 = .ok (.aload_n 0, 1) := by decide +kernel
theorem dL_law_562 : decode cL_law 562 = .ok (.iload_n 3, 1) := by decide +kernel
theorem dL_law_563 : decode cL_law 563 = .ok (.iconst 1, 1) := by decide +kernel
theorem dL_law_564 : decode cL_law 564 = .ok (.iadd, 1) := by decide +kernel
theorem dL_law_565 : decode cL_law 565 = .ok (.iaload, 1) := by decide +kernel
theorem dL_law_566 : decode cL_law 566 = .ok (.invokevirtual 72, 3) := by decide +kernel
theorem dL_law_569 : decode cL_law 569 = .ok (.aload_n 2, 1) := by decide +kernel
theorem dL_law_570 : decode cL_law 570 = .ok (.aload_n 0, 1) := by decide +kernel
theorem dL_law_571 : decode cL_law 571 = .ok (.iload_n 3, 1) := by decide +kernel
theorem dL_law_572 : decode cL_law 572 = .ok (.iconst 1, 1) := by decide +kernel
theorem dL_law_573 : decode cL_law 573 = .ok (.iadd, 1) := by decide +kernel
theorem dL_law_574 : decode cL_law 574 = .ok (.iaload, 1) := by decide +kernel
theorem dL_law_575 : decode cL_law 575 = .ok (.invokevirtual 75, 3) := by decide +kernel
theorem dL_law_578 : decode cL_law 578 = .ok (.if_icmp .eq 245, 3) := by decide +kernel
theorem dL_law_581 : decode cL_law 581 = .ok (.iconst 0, 1) := by decide +kernel
theorem dL_law_582 : decode cL_law 582 = .ok (.ireturn, 1) := by decide +kernel
theorem dL_law_583 : decode cL_law 583 = .ok (.aload_n 1, 1) := by decide +kernel
theorem dL_law_584 : decode cL_law 584 = .ok (.aload_n 0, 1) := by decide +kernel
theorem dL_law_585 : decode cL_law 585 = .ok (.iload_n 3, 1) := by decide +kernel
theorem dL_law_586 : decode cL_law 586 = .ok (.iconst 1, 1) := by decide +kernel
theorem dL_law_587 : decode cL_law 587 = .ok (.iadd, 1) := by decide +kernel
theorem dL_law_588 : decode cL_law 588 = .ok (.iaload, 1) := by decide +kernel
theorem dL_law_589 : decode cL_law 589 = .ok (.aload_n 0, 1) := by decide +kernel
theorem dL_law_590 : decode cL_law 590 = .ok (.iload_n 3, 1) := by decide +kernel
theorem dL_law_591 : decode cL_law 591 = .ok (.iconst 2, 1) := by decide +kernel
theorem dL_law_592 : decode cL_law 592 = .ok (.iadd, 1) := by decide +kernel
theorem dL_law_593 : decode cL_law 593 = .ok (.iaload, 1) := by decide +kernel
theorem dL_law_594 : decode cL_law 594 = .ok (.aload_n 0, 1) := by decide +kernel
theorem dL_law_595 : decode cL_law 595 = .ok (.iload_n 3, 1) := by decide +kernel
theorem dL_law_596 : decode cL_law 596 = .ok (.iconst 3, 1) := by decide +kernel
theorem dL_law_597 : decode cL_law 597 = .ok (.iadd, 1) := by decide +kernel
theorem dL_law_598 : decode cL_law 598 = .ok (.iaload, 1) := by decide +kernel
theorem dL_law_599 : decode cL_law 599 = .ok (.invokevirtual 76, 3) := by decide +kernel
theorem dL_law_602 : decode cL_law 602 = .ok (.aload_n 2, 1) := by decide +kernel
theorem dL_law_603 : decode cL_law 603 = .ok (.aload_n 0, 1) := by decide +kernel
theorem dL_law_604 : decode cL_law 604 = .ok (.iload_n 3, 1) := by decide +kernel
theorem dL_law_605 : decode cL_law 605 = .ok (.iconst 1, 1) := by decide +kernel
theorem dL_law_606 : decode cL_law 606 = .ok (.iadd, 1) := by decide +kernel
theorem dL_law_607 : decode cL_law 607 = .ok (.iaload, 1) := by decide +kernel
theorem dL_law_608 : decode cL_law 608 = .ok (.aload_n 0, 1) := by decide +kernel
theorem dL_law_609 : decode cL_law 609 = .ok (.iload_n 3, 1) := by decide +kernel
theorem dL_law_610 : decode cL_law 610 = .ok (.iconst 2, 1) := by decide +kernel
theorem dL_law_611 : decode cL_law 611 = .ok (.iadd, 1) := by decide +kernel
theorem dL_law_612 : decode cL_law 612 = .ok (.iaload, 1) := by decide +kernel
theorem dL_law_613 : decode cL_law 613 = .ok (.aload_n 0, 1) := by decide +kernel
theorem dL_law_614 : decode cL_law 614 = .ok (.iload_n 3, 1) := by decide +kernel
theorem dL_law_615 : decode cL_law 615 = .ok (.iconst 3, 1) := by decide +kernel
theorem dL_law_616 : decode cL_law 616 = .ok (.iadd, 1) := by decide +kernel
theorem dL_law_617 : decode cL_law 617 = .ok (.iaload, 1) := by decide +kernel
theorem dL_law_618 : decode cL_law 618 = .ok (.invokevirtual 79, 3) := by decide +kernel
theorem dL_law_621 : decode cL_law 621 = .ok (.if_icmp .eq 202, 3) := by decide +kernel
theorem dL_law_624 : decode cL_law 624 = .ok (.iconst 0, 1) := by decide +kernel
theorem dL_law_625 : decode cL_law 625 = .ok (.ireturn, 1) := by decide +kernel
theorem dL_law_626 : decode cL_law 626 = .ok (.aload_n 1, 1) := by decide +kernel
theorem dL_law_627 : decode cL_law 627 = .ok (.aload_n 0, 1) := by decide +kernel
theorem dL_law_628 : decode cL_law 628 = .ok (.iload_n 3, 1) := by decide +kernel
theorem dL_law_629 : decode cL_law 629 = .ok (.iconst 1, 1) := by decide +kernel
theorem dL_law_630 : decode cL_law 630 = .ok (.iadd, 1) := by decide +kernel
theorem dL_law_631 : decode cL_law 631 = .ok (.iaload, 1) := by decide +kernel
theorem dL_law_632 : decode cL_law 632 = .ok (.aload_n 0, 1) := by decide +kernel
theorem dL_law_633 : decode cL_law 633 = .ok (.iload_n 3, 1) := by decide +kernel
theorem dL_law_634 : decode cL_law 634 = .ok (.iconst 2, 1) := by decide +kernel
theorem dL_law_635 : decode cL_law 635 = .ok (.iadd, 1) := by decide +kernel
theorem dL_law_636 : decode cL_law 636 = .ok (.iaload, 1) := by decide +kernel
theorem dL_law_637 : decode cL_law 637 = .ok (.invokevirtual 80, 3) := by decide +kernel
theorem dL_law_640 : decode cL_law 640 = .ok (.aload_n 2, 1) := by decide +kernel
theorem dL_law_641 : decode cL_law 641 = .ok (.aload_n 0, 1) := by decide +kernel
theorem dL_law_642 : decode cL_law 642 = .ok (.iload_n 3, 1) := by decide +kernel
theorem dL_law_643 : decode cL_law 643 = .ok (.iconst 1, 1) := by decide +kernel
theorem dL_law_644 : decode cL_law 644 = .ok (.iadd, 1) := by decide +kernel
theorem dL_law_645 : decode cL_law 645 = .ok (.iaload, 1) := by decide +kernel
theorem dL_law_646 : decode cL_law 646 = .ok (.aload_n 0, 1) := by decide +kernel
theorem dL_law_647 : decode cL_law 647 = .ok (.iload_n 3, 1) := by decide +kernel
theorem dL_law_648 : decode cL_law 648 = .ok (.iconst 2, 1) := by decide +kernel
theorem dL_law_649 : decode cL_law 649 = .ok (.iadd, 1) := by decide +kernel
theorem dL_law_650 : decode cL_law 650 = .ok (.iaload, 1) := by decide +kernel
theorem dL_law_651 : decode cL_law 651 = .ok (.invokevirtual 83, 3) := by decide +kernel
theorem dL_law_654 : decode cL_law 654 = .ok (.if_icmp .eq 169, 3) := by decide +kernel
theorem dL_law_657 : decode cL_law 657 = .ok (.iconst 0, 1) := by decide +kernel
theorem dL_law_658 : decode cL_law 658 = .ok (.ireturn, 1) := by decide +kernel
theorem dL_law_659 : decode cL_law 659 = .ok (.aload_n 1, 1) := by decide +kernel
theorem dL_law_660 : decode cL_law 660 = .ok (.invokevirtual 84, 3) := by decide +kernel
theorem dL_law_663 : decode cL_law 663 = .ok (.aload_n 2, 1) := by decide +kernel
theorem dL_law_664 : decode cL_law 664 = .ok (.invokevirtual 88, 3) := by decide +kernel
theorem dL_law_667 : decode cL_law 667 = .ok (.if_icmp .eq 156, 3) := by decide +kernel
theorem dL_law_670 : decode cL_law 670 = .ok (.iconst 0, 1) := by decide +kernel
theorem dL_law_671 : decode cL_law 671 = .ok (.ireturn, 1) := by decide +kernel
theorem dL_law_672 : decode cL_law 672 = .ok (.aload_n 1, 1) := by decide +kernel
theorem dL_law_673 : decode cL_law 673 = .ok (.aload_n 0, 1) := by decide +kernel
theorem dL_law_674 : decode cL_law 674 = .ok (.iload_n 3, 1) := by decide +kernel
theorem dL_law_675 : decode cL_law 675 = .ok (.iconst 1, 1) := by decide +kernel
theorem dL_law_676 : decode cL_law 676 = .ok (.iadd, 1) := by decide +kernel
theorem dL_law_677 : decode cL_law 677 = .ok (.iaload, 1) := by decide +kernel
theorem dL_law_678 : decode cL_law 678 = .ok (.i2l, 1) := by decide +kernel
theorem dL_law_679 : decode cL_law 679 = .ok (.bipush 32, 2) := by decide +kernel
theorem dL_law_681 : decode cL_law 681 = .ok (.lshl, 1) := by decide +kernel
theorem dL_law_682 : decode cL_law 682 = .ok (.aload_n 0, 1) := by decide +kernel
theorem dL_law_683 : decode cL_law 683 = .ok (.iload_n 3, 1) := by decide +kernel
theorem dL_law_684 : decode cL_law 684 = .ok (.iconst 2, 1) := by decide +kernel
theorem dL_law_685 : decode cL_law 685 = .ok (.iadd, 1) := by decide +kernel
theorem dL_law_686 : decode cL_law 686 = .ok (.iaload, 1) := by decide +kernel
theorem dL_law_687 : decode cL_law 687 = .ok (.i2l, 1) := by decide +kernel
theorem dL_law_688 : decode cL_law 688 = .ok (.ldc2_w 89, 3) := by decide +kernel
theorem dL_law_691 : decode cL_law 691 = .ok (.land, 1) := by decide +kernel
theorem dL_law_692 : decode cL_law 692 = .ok (.lor, 1) := by decide +kernel
theorem dL_law_693 : decode cL_law 693 = .ok (.invokevirtual 91, 3) := by decide +kernel
theorem dL_law_696 : decode cL_law 696 = .ok (.aload_n 2, 1) := by decide +kernel
theorem dL_law_697 : decode cL_law 697 = .ok (.aload_n 0, 1) := by decide +kernel
theorem dL_law_698 : decode cL_law 698 = .ok (.iload_n 3, 1) := by decide +kernel
theorem dL_law_699 : decode cL_law 699 = .ok (.iconst 1, 1) := by decide +kernel
theorem dL_law_700 : decode cL_law 700 = .ok (.iadd, 1) := by decide +kernel
theorem dL_law_701 : decode cL_law 701 = .ok (.iaload, 1) := by decide +kernel
theorem dL_law_702 : decode cL_law 702 = .ok (.i2l, 1) := by decide +kernel
theorem dL_law_703 : decode cL_law 703 = .ok (.bipush 32, 2) := by decide +kernel
theorem dL_law_705 : decode cL_law 705 = .ok (.lshl, 1) := by decide +kernel
theorem dL_law_706 : decode cL_law 706 = .ok (.aload_n 0, 1) := by decide +kernel
theorem dL_law_707 : decode cL_law 707 = .ok (.iload_n 3, 1) := by decide +kernel
theorem dL_law_708 : decode cL_law 708 = .ok (.iconst 2, 1) := by decide +kernel
theorem dL_law_709 : decode cL_law 709 = .ok (.iadd, 1) := by decide +kernel
theorem dL_law_710 : decode cL_law 710 = .ok (.iaload, 1) := by decide +kernel
theorem dL_law_711 : decode cL_law 711 = .ok (.i2l, 1) := by decide +kernel
theorem dL_law_712 : decode cL_law 712 = .ok (.ldc2_w 89, 3) := by decide +kernel
theorem dL_law_715 : decode cL_law 715 = .ok (.land, 1) := by decide +kernel
theorem dL_law_716 : decode cL_law 716 = .ok (.lor, 1) := by decide +kernel
theorem dL_law_717 : decode cL_law 717 = .ok (.invokevirtual 95, 3) := by decide +kernel
theorem dL_law_720 : decode cL_law 720 = .ok (.if_icmp .eq 103, 3) := by decide +kernel
theorem dL_law_723 : decode cL_law 723 = .ok (.iconst 0, 1) := by decide +kernel
theorem dL_law_724 : decode cL_law 724 = .ok (.ireturn, 1) := by decide +kernel
theorem dL_law_725 : decode cL_law 725 = .ok (.aload_n 1, 1) := by decide +kernel
theorem dL_law_726 : decode cL_law 726 = .ok (.invokevirtual 96, 3) := by decide +kernel
theorem dL_law_729 : decode cL_law 729 = .ok (.aload_n 2, 1) := by decide +kernel
theorem dL_law_730 : decode cL_law 730 = .ok (.invokevirtual 99, 3) := by decide +kernel
theorem dL_law_733 : decode cL_law 733 = .ok (.if_icmp .eq 90, 3) := by decide +kernel
theorem dL_law_736 : decode cL_law 736 = .ok (.iconst 0, 1) := by decide +kernel
theorem dL_law_737 : decode cL_law 737 = .ok (.ireturn, 1) := by decide +kernel
theorem dL_law_738 : decode cL_law 738 = .ok (.aload_n 1, 1) := by decide +kernel
theorem dL_law_739 : decode cL_law 739 = .ok (.invokevirtual 100, 3) := by decide +kernel
theorem dL_law_742 : decode cL_law 742 = .ok (.aload_n 2, 1) := by decide +kernel
theorem dL_law_743 : decode cL_law 743 = .ok (.invokevirtual 103, 3) := by decide +kernel
theorem dL_law_746 : decode cL_law 746 = .ok (.if_icmp .eq 77, 3) := by decide +kernel
theorem dL_law_749 : decode cL_law 749 = .ok (.iconst 0, 1) := by decide +kernel
theorem dL_law_750 : decode cL_law 750 = .ok (.ireturn, 1) := by decide +kernel
theorem dL_law_751 : decode cL_law 751 = .ok (.aload_n 1, 1) := by decide +kernel
theorem dL_law_752 : decode cL_law 752 = .ok (.invokevirtual 104, 3) := by decide +kernel
theorem dL_law_755 : decode cL_law 755 = .ok (.aload_n 2, 1) := by decide +kernel
theorem dL_law_756 : decode cL_law 756 = .ok (.invokevirtual 107, 3) := by decide +kernel
theorem dL_law_759 : decode cL_law 759 = .ok (.if_icmp .eq 64, 3) := by decide +kernel
theorem dL_law_762 : decode cL_law 762 = .ok (.iconst 0, 1) := by decide +kernel
theorem dL_law_763 : decode cL_law 763 = .ok (.ireturn, 1) := by decide +kernel
theorem dL_law_764 : decode cL_law 764 = .ok (.aload_n 1, 1) := by decide +kernel
theorem dL_law_765 : decode cL_law 765 = .ok (.invokevirtual 108, 3) := by decide +kernel
theorem dL_law_768 : decode cL_law 768 = .ok (.aload_n 2, 1) := by decide +kernel
theorem dL_law_769 : decode cL_law 769 = .ok (.invokevirtual 111, 3) := by decide +kernel
theorem dL_law_772 : decode cL_law 772 = .ok (.if_icmp .eq 51, 3) := by decide +kernel
theorem dL_law_775 : decode cL_law 775 = .ok (.iconst 0, 1) := by decide +kernel
theorem dL_law_776 : decode cL_law 776 = .ok (.ireturn, 1) := by decide +kernel
theorem dL_law_777 : decode cL_law 777 = .ok (.aload_n 1, 1) := by decide +kernel
theorem dL_law_778 : decode cL_law 778 = .ok (.aload_n 0, 1) := by decide +kernel
theorem dL_law_779 : decode cL_law 779 = .ok (.iload_n 3, 1) := by decide +kernel
theorem dL_law_780 : decode cL_law 780 = .ok (.iconst 1, 1) := by decide +kernel
theorem dL_law_781 : decode cL_law 781 = .ok (.iadd, 1) := by decide +kernel
theorem dL_law_782 : decode cL_law 782 = .ok (.iaload, 1) := by decide +kernel
theorem dL_law_783 : decode cL_law 783 = .ok (.invokevirtual 112, 3) := by decide +kernel
theorem dL_law_786 : decode cL_law 786 = .ok (.aload_n 2, 1) := by decide +kernel
theorem dL_law_787 : decode cL_law 787 = .ok (.aload_n 0, 1) := by decide +kernel
theorem dL_law_788 : decode cL_law 788 = .ok (.iload_n 3, 1) := by decide +kernel
theorem dL_law_789 : decode cL_law 789 = .ok (.iconst 1, 1) := by decide +kernel
theorem dL_law_790 : decode cL_law 790 = .ok (.iadd, 1) := by decide +kernel
theorem dL_law_791 : decode cL_law 791 = .ok (.iaload, 1) := by decide +kernel
theorem dL_law_792 : decode cL_law 792 = .ok (.invokevirtual 115, 3) := by decide +kernel
theorem dL_law_795 : decode cL_law 795 = .ok (.if_icmp .eq 28, 3) := by decide +kernel
theorem dL_law_798 : decode cL_law 798 = .ok (.iconst 0, 1) := by decide +kernel
theorem dL_law_799 : decode cL_law 799 = .ok (.ireturn, 1) := by decide +kernel
theorem dL_law_800 : decode cL_law 800 = .ok (.aload_n 1, 1) := by decide +kernel
theorem dL_law_801 : decode cL_law 801 = .ok (.aload_n 0, 1) := by decide +kernel
theorem dL_law_802 : decode cL_law 802 = .ok (.iload_n 3, 1) := by decide +kernel
theorem dL_law_803 : decode cL_law 803 = .ok (.iconst 1, 1) := by decide +kernel
theorem dL_law_804 : decode cL_law 804 = .ok (.iadd, 1) := by decide +kernel
theorem dL_law_805 : decode cL_law 805 = .ok (.iaload, 1) := by decide +kernel
theorem dL_law_806 : decode cL_law 806 = .ok (.invokevirtual 116, 3) := by decide +kernel
theorem dL_law_809 : decode cL_law 809 = .ok (.aload_n 2, 1) := by decide +kernel
theorem dL_law_810 : decode cL_law 810 = .ok (.aload_n 0, 1) := by decide +kernel
theorem dL_law_811 : decode cL_law 811 = .ok (.iload_n 3, 1) := by decide +kernel
theorem dL_law_812 : decode cL_law 812 = .ok (.iconst 1, 1) := by decide +kernel
theorem dL_law_813 : decode cL_law 813 = .ok (.iadd, 1) := by decide +kernel
theorem dL_law_814 : decode cL_law 814 = .ok (.iaload, 1) := by decide +kernel
theorem dL_law_815 : decode cL_law 815 = .ok (.invokevirtual 119, 3) := by decide +kernel
theorem dL_law_818 : decode cL_law 818 = .ok (.if_icmp .eq 5, 3) := by decide +kernel
theorem dL_law_821 : decode cL_law 821 = .ok (.iconst 0, 1) := by decide +kernel
theorem dL_law_822 : decode cL_law 822 = .ok (.ireturn, 1) := by decide +kernel
theorem dL_law_823 : decode cL_law 823 = .ok (.iinc 3 4, 3) := by decide +kernel
theorem dL_law_826 : decode cL_law 826 = .ok (.goto (-808), 3) := by decide +kernel
theorem dL_law_829 : decode cL_law 829 = .ok (.iconst 1, 1) := by decide +kernel
theorem dL_law_830 : decode cL_law 830 = .ok (.ireturn, 1) := by decide +kernel
end
section
/-! THE JUDGEMENT: all that a walk carries of the machine, in one word. X: the launch, the tables' numbers, the class numbers of the arrays, the addresses outside, the first new address, the script. -/
abbrev jX : Type := Launch × va_G × (Nat → ClassId) × (Nat → Nat) × Nat × (Nat × Nat × (Nat → Int32))
abbrev jl (X : jX) : Launch := X.1
abbrev jD (X : jX) : va_G := X.2.1
abbrev jcA (X : jX) : Nat → ClassId := X.2.2.1
abbrev jx (X : jX) : Nat → Nat := X.2.2.2.1
abbrev jSZ (X : jX) : Nat := X.2.2.2.2.1
abbrev jb (X : jX) : Nat := X.2.2.2.2.2.1
abbrev jL (X : jX) : Nat := X.2.2.2.2.2.2.1
abbrev jxs (X : jX) : Nat → Int32 := X.2.2.2.2.2.2.2
def jA (X : jX) : Nat → Prop := fun q => jSZ X ≤ q
def jT (X : jX) : List (ClassId × FieldType) := [(jcA X 0, .int), (jcA X 1, .boolean), (jcA X 2, .object RX1), (jcA X 3, .object RX0)]
/-- the words of the tables that hold in every frame -/
def TW : List Cond := lw_tbl.filter goodWord
theorem inTW {w : Cond} (i : Nat) (h : lw_tbl[i]? = some w) (g : goodWord w = true) : w ∈ TW := List.mem_filter.mpr ⟨List.mem_of_getElem? h, g⟩
theorem inTWs (ws : List Cond) (ps : List Nat) (hp : ws = ps.filterMap (fun i => lw_tbl[i]?)) (h : ws.all goodWord = true) : ∀ w ∈ ws, w ∈ TW := by
  intro w hw
  have h1 := List.all_eq_true.mp h w hw
  rw [hp] at hw
  obtain ⟨i, -, hi⟩ := List.mem_filterMap.mp hw
  exact inTW i hi h1
theorem goodTW {ws : List Cond} (h : ∀ w ∈ ws, w ∈ TW) : GoodIn TW ws := fun w hw => ⟨h w hw, good_of_word (List.mem_filter.mp (h w hw)).2⟩
/-- the words of nest mates, carried beside -/
def jNest : List Cond := [.fieldLinkNest RX0 9 RX5 "FIRST_SETTINGS" "[I" RX5, .fieldLinkNest RX0 107 RX5 "LOWEST_SETTINGS" "[I" RX5, .fieldLinkNest RX0 110 RX5 "HIGHEST_SETTINGS" "[I" RX5, .methodLinkNest RX0 29 yX1_init RX5, .methodLinkNest RX0 103 yX5_isIn RX5, .methodLinkNest RX0 117 yX5_isSlot RX5, .methodLinkNest RX4 28 yX5_isIn RX5]
def jStat (X : jX) : List (String × String × String × Value) := [(RX5, "FIRST_SETTINGS", "[I", .ref (jx X 0)), (RX5, "LOWEST_SETTINGS", "[I", .ref (jx X 1)), (RX5, "HIGHEST_SETTINGS", "[I", .ref (jx X 2)), ("java/lang/String", "COMPACT_STRINGS", "Z", .int 1)]
def jArr (X : jX) : List (Nat × List Int32) := [(jx X 1, [0, 1, 1, 1, 10]), (jx X 2, [1, 50, 9, 9, 300])]
/-- the first settings, whole: they are cloned -/
def jF (X : jX) (U : State) (H : Heap) : Prop := ∃ cell : Cell, H[jx X 0]? = some cell ∧ U.isArrayOf cell .int ∧ cell.vm ≠ .unknown ∧ cell.vm.isStatics = false ∧ cell.slots = #[.int 1, .int 20, .int 3, .int 2, .int 120] ∧ cell.cls = jcA X 0 ∧ ¬ jA X (jx X 0)
theorem jF.moved {X : jX} {u U : State} {H : Heap} (hvm : u.vm.Alike U.vm) (h : jF X u H) : jF X U H := by
  obtain ⟨cell, h1, h2, h3⟩ := h
  exact ⟨cell, h1, State.isArrayOf_alike hvm h2, h3⟩
theorem jF.kept {X : jX} {U : State} {H H1 : Heap} (h : jF X U H) (hq : ∀ a : Nat, a < H.size → ¬ jA X a → H1[a]? = H[a]?) : jF X U H1 := by
  obtain ⟨cell, h1, h2, h3, h4, h5, h6, h7⟩ := h
  exact ⟨cell, by rw [hq _ (Array.getElem?_eq_some_iff.mp h1).1 h7]; exact h1, h2, h3, h4, h5, h6, h7⟩
def jTx : List String := ["#.#", "d@d+#", "d-#", "d", "dd", "#", ""]
def jLen : List Nat := [3, 5, 3, 1, 2, 1, 0]
def jByt : List (List Int32) := [[35, 46, 35], [100, 64, 100, 43, 35], [100, 45, 35], [100], [100, 100], [35], []]
/-- a static that holds a reference or null -/
def jZq (X : jX) (U : State) (H : Heap) : Prop := va_Z "jdk/internal/util/Preconditions" "SIOOBE_FORMATTER" "Ljava/util/function/BiFunction;" .null (jA X) U H ∨ va_Z "jdk/internal/util/Preconditions" "SIOOBE_FORMATTER" "Ljava/util/function/BiFunction;" (.ref (jx X 3)) (jA X) U H
/-- what holds of the machine's tables and of the cells that nobody writes -/
def jE (X : jX) (U : State) (H : Heap) : Prop := (∀ w ∈ jNest, va_Nw w U) ∧ va_K (jD X) vwCl (jT X) U ∧ va_Nw (.castable "[I" "java/lang/Cloneable") U ∧ va_AO RX1 U ∧ va_AO RX0 U
  ∧ (∀ q ∈ jStat X, va_Z q.1 q.2.1 q.2.2.1 q.2.2.2 (jA X) U H) ∧ (∀ q ∈ jArr X, va_T .int q.1 5 (fun j => .int (q.2.getD j 0)) (jA X) U H) ∧ jF X U H ∧ jZq X U H
  ∧ (∀ i, i < 7 → vk_R RX4 (77 + 2 * i) (jTx.getD i "") (jx X (10 + i)) U) ∧ vk_S 7 jLen jByt (fun i => jx X (10 + i)) (fun i => jx X (20 + i)) (jA X) U H ∧ va_X (jb X) (jL X) (jxs X) U H ∧ jb X < jSZ X
theorem jZq.moved {X : jX} {u U : State} {H : Heap} (hvm : u.vm.Alike U.vm) (h : jZq X u H) : jZq X U H := h.imp (fun h => va_Z.moved hvm h) (fun h => va_Z.moved hvm h)
theorem jZq.kept {X : jX} {U : State} {H H1 : Heap} (h : jZq X U H) (hq : ∀ a : Nat, a < H.size → ¬ jA X a → H1[a]? = H[a]?) : jZq X U H1 := h.imp (fun h => h.kept hq) (fun h => h.kept hq)
theorem jNest_warm {s U : State} (hW : s.WarmedH U.vm) (h : ∀ w ∈ jNest, va_Nw w s) : ∀ w ∈ jNest, va_Nw w U := by
  intro w hw
  have h1 := h w hw
  simp only [jNest, List.mem_cons, List.not_mem_nil, or_false] at hw
  rcases hw with rfl | rfl | rfl | rfl | rfl | rfl | rfl
  · exact va_Nw.warmF hW h1
  · exact va_Nw.warmF hW h1
  · exact va_Nw.warmF hW h1
  · exact va_Nw.warmM hW h1
  · exact va_Nw.warmM hW h1
  · exact va_Nw.warmM hW h1
  · exact va_Nw.warmM hW h1
theorem jNest_same {s U : State} (hv : s.vm = U.vm) (h : ∀ w ∈ jNest, va_Nw w s) : ∀ w ∈ jNest, va_Nw w U := by
  intro w hw
  have h1 := h w hw
  simp only [jNest, List.mem_cons, List.not_mem_nil, or_false] at hw
  rcases hw with rfl | rfl | rfl | rfl | rfl | rfl | rfl <;> exact va_Nw.same rfl hv h1
theorem jE.go {X : jX} {s U : State} {H : Heap} {locs : List Loc} (h : jE X s s.heap) (hz : jSZ X ≤ s.heap.size) (hS : va_S (jA X) s.heap H locs) (hU : U.heap = H) (hW : s.WarmedH U.vm) : jE X U U.heap := by
  obtain ⟨h1, h2, h3, h4, h5, h6, h7, hF, h8, h9, h10, h11, h12⟩ := h
  subst hU
  have hal := hW.alike
  refine ⟨jNest_warm hW h1, h2.moved hal, va_Nw.warmC hW h3, h4.moved hal, h5.moved hal, fun q hq => ((h6 q hq).moved hal).kept hS.2.1, fun q hq => ((h7 q hq).moved hal).kept hS.2.1, (hF.moved hal).kept hS.2.1, (h8.moved hal).kept hS.2.1, fun i hi => (h9 i hi).warm hW, (h10.moved hal).kept hS.2.1, (h11.moved hal).kept (hS.2.1 _ (Nat.lt_of_lt_of_le h12 hz) (Nat.not_le.mpr h12)), h12⟩
theorem jE.same {X : jX} {s U : State} (h : jE X s s.heap) (hv : s.vm = U.vm) (hh : s.heap = U.heap) : jE X U U.heap := by
  obtain ⟨h1, h2, h3, h4, h5, h6, h7, hF, h8, h9, h10, h11, h12⟩ := h
  have hal : s.vm.Alike U.vm := by rw [hv]; exact Vm.Alike.refl _
  rw [← hh]
  refine ⟨jNest_same hv h1, h2.moved hal, va_Nw.same rfl hv h3, h4.moved hal, h5.moved hal, fun q hq => (h6 q hq).moved hal, fun q hq => (h7 q hq).moved hal, hF.moved hal, h8.moved hal, fun i hi => vk_R.same hv.symm (h9 i hi), h10.moved hal, h11.moved hal, h12⟩
/-- values over cell numbers, and over addresses -/
def em (ad : Nat → Nat) (v : Value) : Value := match v with
  | .ref n => .ref (ad n)
  | v => v
theorem em_cat (ad : Nat → Nat) (v : Value) : (em ad v).category = v.category := by cases v <;> rfl
def lvm (ad : Nat → Nat) (lv : List (Nat × Value)) : List (Nat × Value) := lv.map (fun q => (q.1, em ad q.2))
def lk : List (Nat × Value) → Nat → Option Value
  | [], _ => none
  | q :: t, i => match Nat.beq q.1 i with
    | true => some q.2
    | false => lk t i
def lvno : List (Nat × Value) → Nat → Bool
  | [], _ => true
  | q :: t, i => match Nat.beq q.1 i, Nat.beq (q.1 + 1) i, Nat.beq q.2.category 2 with
    | false, false, _ => lvno t i
    | false, true, false => lvno t i
    | _, _, _ => false
def stL : List (Nat × Value) → Nat → Value → Option (List (Nat × Value))
  | [], i, v => some [(i, v)]
  | q :: t, i, v => match Nat.beq q.1 i with
    | true => match lvno t i with
      | true => some ((i, v) :: t)
      | false => none
    | false => match Nat.beq (q.1 + 1) i, Nat.beq q.2.category 2 with
      | true, true => none
      | _, _ => match stL t i v with
        | some t' => some (q :: t')
        | none => none
theorem lk_mem {lv : List (Nat × Value)} {i : Nat} {v : Value} (h : lk lv i = some v) : (i, v) ∈ lv := by
  induction lv with
  | nil => cases h
  | cons q t ih =>
    unfold lk at h
    cases hb : Nat.beq q.1 i with
    | true =>
      rw [hb] at h
      have e : q.1 = i := Nat.eq_of_beq_eq_true hb
      have e2 : q.2 = v := Option.some.inj h
      rw [← e, ← e2]
      exact List.mem_cons_self
    | false =>
      rw [hb] at h
      exact List.mem_cons_of_mem _ (ih h)
theorem lk_at {ls : Array Slot} {nL : Nat} {ad : Nat → Nat} {lv : List (Nat × Value)} (h : lv_has ls nL (lvm ad lv)) {i : Nat} {v : Value} (hk : lk lv i = some v) : ls[i]? = some (.val (em ad v)) :=
  h.2.2 (i, em ad v) (List.mem_map.mpr ⟨(i, v), lk_mem hk, rfl⟩)
theorem lvno_ok {ad : Nat → Nat} {t : List (Nat × Value)} {i : Nat} (h : lvno t i = true) : ∀ q ∈ lvm ad t, (!(q.1 == i) && !(q.1 + 1 == i && q.2.category == 2)) = true := by
  induction t with
  | nil => intro q hq; simp [lvm] at hq
  | cons r t ih =>
    intro q hq
    have h0 : lvno t i = true ∧ (!(r.1 == i) && !(r.1 + 1 == i && r.2.category == 2)) = true := by
      unfold lvno at h
      have c1 := fun (a b : Nat) (q : Nat.beq a b = false) => Nat.ne_of_beq_eq_false q
      cases h1 : Nat.beq r.1 i <;> cases h2 : Nat.beq (r.1 + 1) i <;> cases h3 : Nat.beq r.2.category 2 <;> rw [h1, h2, h3] at h <;> first | (exact absurd h Bool.false_ne_true) | (refine ⟨h, ?_⟩; have z1 := c1 _ _ h1; have z2 := c1 _ _ h2; simp [z1, z2]; done) | (refine ⟨h, ?_⟩; have z1 := c1 _ _ h1; have z3 := c1 _ _ h3; simp [z1, z3]; done)
    rcases List.mem_cons.mp hq with e | hq
    · rw [e]
      simp only [em_cat]
      exact h0.2
    · exact ih h0.1 q hq
theorem stL_sub {ad : Nat → Nat} {i : Nat} {v : Value} : ∀ {lv lv' : List (Nat × Value)}, stL lv i v = some lv' → ∀ q ∈ lvm ad lv', q ∈ (i, em ad v) :: (lvm ad lv).filter (fun q => !(q.1 == i) && !(q.1 + 1 == i && q.2.category == 2)) := by
  intro lv
  induction lv with
  | nil =>
    intro lv' h q hq
    have e : [(i, v)] = lv' := Option.some.inj h
    rw [← e] at hq
    simpa [lvm] using hq
  | cons r t ih =>
    intro lv' h q hq
    unfold stL at h
    cases h1 : Nat.beq r.1 i with
    | true =>
      simp only [h1] at h
      cases h2 : lvno t i with
      | false => simp only [h2] at h; cases h
      | true =>
        simp only [h2] at h
        have e := Option.some.inj h
        rw [← e] at hq
        rcases List.mem_cons.mp hq with e2 | hq
        · rw [e2]; exact List.mem_cons_self
        · exact List.mem_cons_of_mem _ (List.mem_filter.mpr ⟨List.mem_cons_of_mem _ hq, lvno_ok h2 q hq⟩)
    | false =>
      simp only [h1] at h
      have key : (!(r.1 == i) && !(r.1 + 1 == i && r.2.category == 2)) = true ∧ ∃ t', stL t i v = some t' ∧ lv' = r :: t' := by
        cases h2 : Nat.beq (r.1 + 1) i <;> cases h3 : Nat.beq r.2.category 2 <;> simp only [h2, h3] at h
        · cases h4 : stL t i v with
          | none => rw [h4] at h; cases h
          | some t' => rw [h4] at h; exact ⟨by have z1 := Nat.ne_of_beq_eq_false h1; first | (have z2 := Nat.ne_of_beq_eq_false h2; simp [z1, z2]; done) | (have z3 := Nat.ne_of_beq_eq_false h3; simp [z1, z3]; done), t', rfl, (Option.some.inj h).symm⟩
        · cases h4 : stL t i v with
          | none => rw [h4] at h; cases h
          | some t' => rw [h4] at h; exact ⟨by have z1 := Nat.ne_of_beq_eq_false h1; first | (have z2 := Nat.ne_of_beq_eq_false h2; simp [z1, z2]; done) | (have z3 := Nat.ne_of_beq_eq_false h3; simp [z1, z3]; done), t', rfl, (Option.some.inj h).symm⟩
        · cases h4 : stL t i v with
          | none => rw [h4] at h; cases h
          | some t' => rw [h4] at h; exact ⟨by have z1 := Nat.ne_of_beq_eq_false h1; first | (have z2 := Nat.ne_of_beq_eq_false h2; simp [z1, z2]; done) | (have z3 := Nat.ne_of_beq_eq_false h3; simp [z1, z3]; done), t', rfl, (Option.some.inj h).symm⟩
        · cases h
      obtain ⟨k1, t', k2, k3⟩ := key
      rw [k3] at hq
      rcases List.mem_cons.mp hq with e2 | hq
      · refine List.mem_cons_of_mem _ (List.mem_filter.mpr ⟨?_, ?_⟩)
        · rw [e2]; exact List.mem_cons_self
        · rw [e2]; simp only [em_cat]; exact k1
      · rcases List.mem_cons.mp (ih k2 q hq) with e3 | h5
        · rw [e3]; exact List.mem_cons_self
        · exact List.mem_cons_of_mem _ (List.mem_filter.mpr ⟨List.mem_cons_of_mem _ (List.mem_filter.mp h5).1, (List.mem_filter.mp h5).2⟩)
/-- a store of a value of one slot -/
theorem stL_has {ls : Array Slot} {nL i : Nat} {ad : Nat → Nat} {lv lv' : List (Nat × Value)} {v : Value} (hst : stL lv i v = some lv') (h : lv_has ls nL ((i, em ad v) :: (lvm ad lv).filter (fun q => !(q.1 == i) && !(q.1 + 1 == i && q.2.category == 2)))) : lv_has ls nL (lvm ad lv') := ⟨h.1, h.2.1, fun q hq => h.2.2 q (stL_sub hst q hq)⟩
/-- what a frame knows -/
def jC (X : jX) (own : String) (cc : ByteArray) (nL : Nat) (ret : Option FieldType) (nm : String) (d CR SR : Nat) (p : Program) (R : Room) (s : State) (m : MethodId) (args : Array Value) (meth : Method) (c : Code) : Prop :=
  p.tables.exec = Jvm.exec ∧ c.code = cc ∧ c.maxLocals = nL ∧ meth.sig.returnType = ret ∧ meth.name = nm ∧ s.vm.findClass own = some m.cls ∧ (∀ w ∈ TW, w.before args s = true) ∧ meth.locks = false ∧ d ≤ R.frames ∧ 40 * d ≤ R.locals ∧ CR ≤ R.cells ∧ SR ≤ R.slots ∧ jE X s s.heap ∧ jSZ X ≤ s.heap.size
/-- THE JUDGEMENT: from this place, with these locals, this stack and this world, the machine comes to an end that Q allows -/
def Jg (X : jX) (own : String) (cc : ByteArray) (nL : Nat) (ret : Option FieldType) (nm : String) (d CR SR : Nat) (Q : List Frame → Array Value → State → State → Prop) (ad : Nat → Nat) (cells slots pc : Nat) (lv : List (Nat × Value)) (st : List Value) (ws : va_W) : Prop :=
  ∀ (p : Program) (e : Env) (R : Room) (s : State) (m : MethodId) (args : Array Value) (below : List Frame) (meth : Method) (c : Code) (H : Heap) (locs : List Loc) (ls : Array Slot),
    jC X own cc nL ret nm d CR SR p R s m args meth c → va_P (jD X) vwCl ws H → va_D (jA X) ws → va_S (jA X) s.heap H locs → lv_has ls nL (lvm ad lv) →
    W p (jl X) e R s m args below meth c H locs cells slots (Q below args s) (F0 m pc ls (st.map (em ad)))
section RULES
variable {X : jX} {own : String} {cc : ByteArray} {nL : Nat} {ret : Option FieldType} {nm : String} {d CR SR : Nat} {Q : List Frame → Array Value → State → State → Prop} {ad : Nat → Nat} {cells slots pc : Nat} {lv : List (Nat × Value)} {st : List Value} {ws : va_W}
theorem J_lv {lv' : List (Nat × Value)} (ks : List Nat) (h : lv_pick lv ks = lv') (k : Jg X own cc nL ret nm d CR SR (Q) ad cells slots (pc) (lv') (st) (ws)) : Jg X own cc nL ret nm d CR SR (Q) ad cells slots (pc) (lv) (st) (ws) := by
  intro p e R s m args below meth c H locs ls hC hP hD hS hl
  refine k p e R s m args below meth c H locs ls hC hP hD hS ⟨hl.1, hl.2.1, fun q hq => hl.2.2 q ?_⟩
  rw [← h] at hq
  obtain ⟨r, hr, e⟩ := List.mem_map.mp hq
  obtain ⟨i, -, hi⟩ := List.mem_filterMap.mp hr
  exact List.mem_map.mpr ⟨r, List.mem_of_getElem? hi, e⟩
theorem J_widen {k n : Nat} (h1 : cells ≤ k) (h2 : slots ≤ n) (kk : Jg X own cc nL ret nm d CR SR (Q) ad k n (pc) (lv) (st) (ws)) : Jg X own cc nL ret nm d CR SR (Q) ad cells slots (pc) (lv) (st) (ws) := by
  intro p e R s m args below meth c H locs ls hC hP hD hS hl
  exact W.widen h1 h2 (kk p e R s m args below meth c H locs ls hC hP hD hS hl)
theorem J_iconst {n : Int} {v : Int32} (hdg : decode cc pc = .ok (.iconst n, 1)) (hv : Int32.ofInt n = v) (k : Jg X own cc nL ret nm d CR SR (Q) ad cells slots (pc + 1) (lv) (.int v :: st) (ws)) : Jg X own cc nL ret nm d CR SR (Q) ad cells slots (pc) (lv) (st) (ws) := by
  intro p e R s m args below meth c H locs ls hC hP hD hS hl
  exact lv_iconst hC.1 hC.2.1 hdg hv (k p e R s m args below meth c H locs ls hC hP hD hS hl)
theorem J_bipush {n : Int} {v : Int32} (hdg : decode cc pc = .ok (.bipush n, 2)) (hv : (Int8.ofInt n).toInt32 = v) (k : Jg X own cc nL ret nm d CR SR (Q) ad cells slots (pc + 2) (lv) (.int v :: st) (ws)) : Jg X own cc nL ret nm d CR SR (Q) ad cells slots (pc) (lv) (st) (ws) := by
  intro p e R s m args below meth c H locs ls hC hP hD hS hl
  exact lv_bipush hC.1 hC.2.1 hdg hv (k p e R s m args below meth c H locs ls hC hP hD hS hl)
theorem J_sipush {n : Int} {v : Int32} (hdg : decode cc pc = .ok (.sipush n, 3)) (hv : (Int16.ofInt n).toInt32 = v) (k : Jg X own cc nL ret nm d CR SR (Q) ad cells slots (pc + 3) (lv) (.int v :: st) (ws)) : Jg X own cc nL ret nm d CR SR (Q) ad cells slots (pc) (lv) (st) (ws) := by
  intro p e R s m args below meth c H locs ls hC hP hD hS hl
  exact lv_sipush hC.1 hC.2.1 hdg hv (k p e R s m args below meth c H locs ls hC hP hD hS hl)
theorem J_lconst {n : Fin 2} {v : Int64} (hdg : decode cc pc = .ok (.lconst n, 1)) (hv : Int64.ofNat (n : Nat) = v) (k : Jg X own cc nL ret nm d CR SR (Q) ad cells slots (pc + 1) (lv) (.long v :: st) (ws)) : Jg X own cc nL ret nm d CR SR (Q) ad cells slots (pc) (lv) (st) (ws) := by
  intro p e R s m args below meth c H locs ls hC hP hD hS hl
  exact lv_lconst hC.1 hC.2.1 hdg hv (k p e R s m args below meth c H locs ls hC hP hD hS hl)
theorem J_null  (hdg : decode cc pc = .ok (.aconst_null, 1))  (k : Jg X own cc nL ret nm d CR SR (Q) ad cells slots (pc + 1) (lv) (.null :: st) (ws)) : Jg X own cc nL ret nm d CR SR (Q) ad cells slots (pc) (lv) (st) (ws) := by
  intro p e R s m args below meth c H locs ls hC hP hD hS hl
  exact lv_null hC.1 hC.2.1 hdg  (k p e R s m args below meth c H locs ls hC hP hD hS hl)
theorem J_iload_n {k0 : Fin 4} {i : Nat} {x : Int32} (hdg : decode cc pc = .ok (.iload_n k0, 1)) (hi : (k0 : Nat) = i) (hk : lk lv i = some (.int x)) (k : Jg X own cc nL ret nm d CR SR (Q) ad cells slots (pc + 1) (lv) (.int x :: st) (ws)) : Jg X own cc nL ret nm d CR SR (Q) ad cells slots (pc) (lv) (st) (ws) := by
  intro p e R s m args below meth c H locs ls hC hP hD hS hl
  exact lv_iload_n hC.1 hC.2.1 hdg hi (lk_at hl hk) (k p e R s m args below meth c H locs ls hC hP hD hS hl)
theorem J_iload {i : Nat} {x : Int32} (hdg : decode cc pc = .ok (.iload i, 2)) (hk : lk lv i = some (.int x)) (k : Jg X own cc nL ret nm d CR SR (Q) ad cells slots (pc + 2) (lv) (.int x :: st) (ws)) : Jg X own cc nL ret nm d CR SR (Q) ad cells slots (pc) (lv) (st) (ws) := by
  intro p e R s m args below meth c H locs ls hC hP hD hS hl
  exact lv_iload hC.1 hC.2.1 hdg (lk_at hl hk) (k p e R s m args below meth c H locs ls hC hP hD hS hl)
theorem J_lload_n {k0 : Fin 4} {i : Nat} {x : Int64} (hdg : decode cc pc = .ok (.lload_n k0, 1)) (hi : (k0 : Nat) = i) (hk : lk lv i = some (.long x)) (k : Jg X own cc nL ret nm d CR SR (Q) ad cells slots (pc + 1) (lv) (.long x :: st) (ws)) : Jg X own cc nL ret nm d CR SR (Q) ad cells slots (pc) (lv) (st) (ws) := by
  intro p e R s m args below meth c H locs ls hC hP hD hS hl
  exact lv_lload_n hC.1 hC.2.1 hdg hi (lk_at hl hk) (k p e R s m args below meth c H locs ls hC hP hD hS hl)
theorem J_lload {i : Nat} {x : Int64} (hdg : decode cc pc = .ok (.lload i, 2)) (hk : lk lv i = some (.long x)) (k : Jg X own cc nL ret nm d CR SR (Q) ad cells slots (pc + 2) (lv) (.long x :: st) (ws)) : Jg X own cc nL ret nm d CR SR (Q) ad cells slots (pc) (lv) (st) (ws) := by
  intro p e R s m args below meth c H locs ls hC hP hD hS hl
  exact lv_lload hC.1 hC.2.1 hdg (lk_at hl hk) (k p e R s m args below meth c H locs ls hC hP hD hS hl)
theorem J_aload_n {k0 : Fin 4} {i : Nat} {x : Nat} (hdg : decode cc pc = .ok (.aload_n k0, 1)) (hi : (k0 : Nat) = i) (hk : lk lv i = some (.ref x)) (k : Jg X own cc nL ret nm d CR SR (Q) ad cells slots (pc + 1) (lv) (.ref x :: st) (ws)) : Jg X own cc nL ret nm d CR SR (Q) ad cells slots (pc) (lv) (st) (ws) := by
  intro p e R s m args below meth c H locs ls hC hP hD hS hl
  exact lv_aload_n hC.1 hC.2.1 hdg hi (lk_at hl hk) (k p e R s m args below meth c H locs ls hC hP hD hS hl)
theorem J_aload {i : Nat} {x : Nat} (hdg : decode cc pc = .ok (.aload i, 2)) (hk : lk lv i = some (.ref x)) (k : Jg X own cc nL ret nm d CR SR (Q) ad cells slots (pc + 2) (lv) (.ref x :: st) (ws)) : Jg X own cc nL ret nm d CR SR (Q) ad cells slots (pc) (lv) (st) (ws) := by
  intro p e R s m args below meth c H locs ls hC hP hD hS hl
  exact lv_aload hC.1 hC.2.1 hdg (lk_at hl hk) (k p e R s m args below meth c H locs ls hC hP hD hS hl)
theorem J_aload_nN {k0 : Fin 4} {i : Nat} (hdg : decode cc pc = .ok (.aload_n k0, 1)) (hi : (k0 : Nat) = i) (hk : lk lv i = some .null) (k : Jg X own cc nL ret nm d CR SR (Q) ad cells slots (pc + 1) (lv) (.null :: st) (ws)) : Jg X own cc nL ret nm d CR SR (Q) ad cells slots (pc) (lv) (st) (ws) := by
  intro p e R s m args below meth c H locs ls hC hP hD hS hl
  exact lv_aload_nN hC.1 hC.2.1 hdg hi (lk_at hl hk) (k p e R s m args below meth c H locs ls hC hP hD hS hl)
theorem J_aloadN {i : Nat} (hdg : decode cc pc = .ok (.aload i, 2)) (hk : lk lv i = some .null) (k : Jg X own cc nL ret nm d CR SR (Q) ad cells slots (pc + 2) (lv) (.null :: st) (ws)) : Jg X own cc nL ret nm d CR SR (Q) ad cells slots (pc) (lv) (st) (ws) := by
  intro p e R s m args below meth c H locs ls hC hP hD hS hl
  exact lv_aloadN hC.1 hC.2.1 hdg (lk_at hl hk) (k p e R s m args below meth c H locs ls hC hP hD hS hl)
theorem J_iadd {x y : Int32} (hdg : decode cc pc = .ok (.iadd, 1))  (k : Jg X own cc nL ret nm d CR SR (Q) ad cells slots (pc + 1) (lv) (.int (x + y) :: st) (ws)) : Jg X own cc nL ret nm d CR SR (Q) ad cells slots (pc) (lv) (.int y :: .int x :: st) (ws) := by
  intro p e R s m args below meth c H locs ls hC hP hD hS hl
  exact lv_iadd hC.1 hC.2.1 hdg  (k p e R s m args below meth c H locs ls hC hP hD hS hl)
theorem J_isub {x y : Int32} (hdg : decode cc pc = .ok (.isub, 1))  (k : Jg X own cc nL ret nm d CR SR (Q) ad cells slots (pc + 1) (lv) (.int (x - y) :: st) (ws)) : Jg X own cc nL ret nm d CR SR (Q) ad cells slots (pc) (lv) (.int y :: .int x :: st) (ws) := by
  intro p e R s m args below meth c H locs ls hC hP hD hS hl
  exact lv_isub hC.1 hC.2.1 hdg  (k p e R s m args below meth c H locs ls hC hP hD hS hl)
theorem J_imul {x y : Int32} (hdg : decode cc pc = .ok (.imul, 1))  (k : Jg X own cc nL ret nm d CR SR (Q) ad cells slots (pc + 1) (lv) (.int (x * y) :: st) (ws)) : Jg X own cc nL ret nm d CR SR (Q) ad cells slots (pc) (lv) (.int y :: .int x :: st) (ws) := by
  intro p e R s m args below meth c H locs ls hC hP hD hS hl
  exact lv_imul hC.1 hC.2.1 hdg  (k p e R s m args below meth c H locs ls hC hP hD hS hl)
theorem J_iand {x y : Int32} (hdg : decode cc pc = .ok (.iand, 1))  (k : Jg X own cc nL ret nm d CR SR (Q) ad cells slots (pc + 1) (lv) (.int (x &&& y) :: st) (ws)) : Jg X own cc nL ret nm d CR SR (Q) ad cells slots (pc) (lv) (.int y :: .int x :: st) (ws) := by
  intro p e R s m args below meth c H locs ls hC hP hD hS hl
  exact lv_iand hC.1 hC.2.1 hdg  (k p e R s m args below meth c H locs ls hC hP hD hS hl)
theorem J_ior {x y : Int32} (hdg : decode cc pc = .ok (.ior, 1))  (k : Jg X own cc nL ret nm d CR SR (Q) ad cells slots (pc + 1) (lv) (.int (x ||| y) :: st) (ws)) : Jg X own cc nL ret nm d CR SR (Q) ad cells slots (pc) (lv) (.int y :: .int x :: st) (ws) := by
  intro p e R s m args below meth c H locs ls hC hP hD hS hl
  exact lv_ior hC.1 hC.2.1 hdg  (k p e R s m args below meth c H locs ls hC hP hD hS hl)
theorem J_ixor {x y : Int32} (hdg : decode cc pc = .ok (.ixor, 1))  (k : Jg X own cc nL ret nm d CR SR (Q) ad cells slots (pc + 1) (lv) (.int (x ^^^ y) :: st) (ws)) : Jg X own cc nL ret nm d CR SR (Q) ad cells slots (pc) (lv) (.int y :: .int x :: st) (ws) := by
  intro p e R s m args below meth c H locs ls hC hP hD hS hl
  exact lv_ixor hC.1 hC.2.1 hdg  (k p e R s m args below meth c H locs ls hC hP hD hS hl)
theorem J_ishl {x y : Int32} (hdg : decode cc pc = .ok (.ishl, 1))  (k : Jg X own cc nL ret nm d CR SR (Q) ad cells slots (pc + 1) (lv) (.int (x <<< (y &&& 31)) :: st) (ws)) : Jg X own cc nL ret nm d CR SR (Q) ad cells slots (pc) (lv) (.int y :: .int x :: st) (ws) := by
  intro p e R s m args below meth c H locs ls hC hP hD hS hl
  exact lv_ishl hC.1 hC.2.1 hdg  (k p e R s m args below meth c H locs ls hC hP hD hS hl)
theorem J_ishr {x y : Int32} (hdg : decode cc pc = .ok (.ishr, 1))  (k : Jg X own cc nL ret nm d CR SR (Q) ad cells slots (pc + 1) (lv) (.int (x >>> (y &&& 31)) :: st) (ws)) : Jg X own cc nL ret nm d CR SR (Q) ad cells slots (pc) (lv) (.int y :: .int x :: st) (ws) := by
  intro p e R s m args below meth c H locs ls hC hP hD hS hl
  exact lv_ishr hC.1 hC.2.1 hdg  (k p e R s m args below meth c H locs ls hC hP hD hS hl)
theorem J_idiv {x y : Int32} (hdg : decode cc pc = .ok (.idiv, 1)) (hne : ¬ y = 0) (k : Jg X own cc nL ret nm d CR SR (Q) ad cells slots (pc + 1) (lv) (.int (x / y) :: st) (ws)) : Jg X own cc nL ret nm d CR SR (Q) ad cells slots (pc) (lv) (.int y :: .int x :: st) (ws) := by
  intro p e R s m args below meth c H locs ls hC hP hD hS hl
  exact lv_idiv hC.1 hC.2.1 hdg hne (k p e R s m args below meth c H locs ls hC hP hD hS hl)
theorem J_irem {x y : Int32} (hdg : decode cc pc = .ok (.irem, 1)) (hne : ¬ y = 0) (k : Jg X own cc nL ret nm d CR SR (Q) ad cells slots (pc + 1) (lv) (.int (x - x / y * y) :: st) (ws)) : Jg X own cc nL ret nm d CR SR (Q) ad cells slots (pc) (lv) (.int y :: .int x :: st) (ws) := by
  intro p e R s m args below meth c H locs ls hC hP hD hS hl
  exact lv_irem hC.1 hC.2.1 hdg hne (k p e R s m args below meth c H locs ls hC hP hD hS hl)
theorem J_ineg {x : Int32} (hdg : decode cc pc = .ok (.ineg, 1))  (k : Jg X own cc nL ret nm d CR SR (Q) ad cells slots (pc + 1) (lv) (.int (-x) :: st) (ws)) : Jg X own cc nL ret nm d CR SR (Q) ad cells slots (pc) (lv) (.int x :: st) (ws) := by
  intro p e R s m args below meth c H locs ls hC hP hD hS hl
  exact lv_ineg hC.1 hC.2.1 hdg  (k p e R s m args below meth c H locs ls hC hP hD hS hl)
theorem J_land {x y : Int64} (hdg : decode cc pc = .ok (.land, 1))  (k : Jg X own cc nL ret nm d CR SR (Q) ad cells slots (pc + 1) (lv) (.long (x &&& y) :: st) (ws)) : Jg X own cc nL ret nm d CR SR (Q) ad cells slots (pc) (lv) (.long y :: .long x :: st) (ws) := by
  intro p e R s m args below meth c H locs ls hC hP hD hS hl
  exact lv_land hC.1 hC.2.1 hdg  (k p e R s m args below meth c H locs ls hC hP hD hS hl)
theorem J_lor {x y : Int64} (hdg : decode cc pc = .ok (.lor, 1))  (k : Jg X own cc nL ret nm d CR SR (Q) ad cells slots (pc + 1) (lv) (.long (x ||| y) :: st) (ws)) : Jg X own cc nL ret nm d CR SR (Q) ad cells slots (pc) (lv) (.long y :: .long x :: st) (ws) := by
  intro p e R s m args below meth c H locs ls hC hP hD hS hl
  exact lv_lor hC.1 hC.2.1 hdg  (k p e R s m args below meth c H locs ls hC hP hD hS hl)
theorem J_i2l {x : Int32} {v : Int64} (hdg : decode cc pc = .ok (.i2l, 1)) (hv : x.toInt64 = v) (k : Jg X own cc nL ret nm d CR SR (Q) ad cells slots (pc + 1) (lv) (.long v :: st) (ws)) : Jg X own cc nL ret nm d CR SR (Q) ad cells slots (pc) (lv) (.int x :: st) (ws) := by
  intro p e R s m args below meth c H locs ls hC hP hD hS hl
  exact lv_i2l hC.1 hC.2.1 hdg hv (k p e R s m args below meth c H locs ls hC hP hD hS hl)
theorem J_l2i {x : Int64} {v : Int32} (hdg : decode cc pc = .ok (.l2i, 1)) (hv : x.toInt32 = v) (k : Jg X own cc nL ret nm d CR SR (Q) ad cells slots (pc + 1) (lv) (.int v :: st) (ws)) : Jg X own cc nL ret nm d CR SR (Q) ad cells slots (pc) (lv) (.long x :: st) (ws) := by
  intro p e R s m args below meth c H locs ls hC hP hD hS hl
  exact lv_l2i hC.1 hC.2.1 hdg hv (k p e R s m args below meth c H locs ls hC hP hD hS hl)
theorem J_i2c {x v : Int32} (hdg : decode cc pc = .ok (.i2c, 1)) (hv : (x.toUInt32 % 65536).toInt32 = v) (k : Jg X own cc nL ret nm d CR SR (Q) ad cells slots (pc + 1) (lv) (.int v :: st) (ws)) : Jg X own cc nL ret nm d CR SR (Q) ad cells slots (pc) (lv) (.int x :: st) (ws) := by
  intro p e R s m args below meth c H locs ls hC hP hD hS hl
  exact lv_i2c hC.1 hC.2.1 hdg hv (k p e R s m args below meth c H locs ls hC hP hD hS hl)
theorem J_lushr {x v : Int64} {y : Int32} (hdg : decode cc pc = .ok (.lushr, 1)) (hv : (x.toUInt64 >>> (y.toInt64.toUInt64 &&& Int64.toUInt64 63)).toInt64 = v) (k : Jg X own cc nL ret nm d CR SR (Q) ad cells slots (pc + 1) (lv) (.long v :: st) (ws)) : Jg X own cc nL ret nm d CR SR (Q) ad cells slots (pc) (lv) (.int y :: .long x :: st) (ws) := by
  intro p e R s m args below meth c H locs ls hC hP hD hS hl
  exact lv_lushr hC.1 hC.2.1 hdg hv (k p e R s m args below meth c H locs ls hC hP hD hS hl)
theorem J_lshl {x v : Int64} {y : Int32} (hdg : decode cc pc = .ok (.lshl, 1)) (hv : x <<< (y.toInt64 &&& 63) = v) (k : Jg X own cc nL ret nm d CR SR (Q) ad cells slots (pc + 1) (lv) (.long v :: st) (ws)) : Jg X own cc nL ret nm d CR SR (Q) ad cells slots (pc) (lv) (.int y :: .long x :: st) (ws) := by
  intro p e R s m args below meth c H locs ls hC hP hD hS hl
  exact lv_lshl hC.1 hC.2.1 hdg hv (k p e R s m args below meth c H locs ls hC hP hD hS hl)
theorem J_lshr {x v : Int64} {y : Int32} (hdg : decode cc pc = .ok (.lshr, 1)) (hv : x >>> (y.toInt64 &&& 63) = v) (k : Jg X own cc nL ret nm d CR SR (Q) ad cells slots (pc + 1) (lv) (.long v :: st) (ws)) : Jg X own cc nL ret nm d CR SR (Q) ad cells slots (pc) (lv) (.int y :: .long x :: st) (ws) := by
  intro p e R s m args below meth c H locs ls hC hP hD hS hl
  exact lv_lshr hC.1 hC.2.1 hdg hv (k p e R s m args below meth c H locs ls hC hP hD hS hl)
theorem J_lcmp {x y : Int64} (hdg : decode cc pc = .ok (.lcmp, 1))  (k : Jg X own cc nL ret nm d CR SR (Q) ad cells slots (pc + 1) (lv) (.int (lg_cmp x y) :: st) (ws)) : Jg X own cc nL ret nm d CR SR (Q) ad cells slots (pc) (lv) (.long y :: .long x :: st) (ws) := by
  intro p e R s m args below meth c H locs ls hC hP hD hS hl
  exact W.lcmp hC.1 hC.2.1 hdg  (k p e R s m args below meth c H locs ls hC hP hD hS hl)
theorem J_dup {v : Value} (hdg : decode cc pc = .ok (.dup, 1)) (hv : v.category = 1) (k : Jg X own cc nL ret nm d CR SR (Q) ad cells slots (pc + 1) (lv) (v :: v :: st) (ws)) : Jg X own cc nL ret nm d CR SR (Q) ad cells slots (pc) (lv) (v :: st) (ws) := by
  intro p e R s m args below meth c H locs ls hC hP hD hS hl
  exact lv_dup hC.1 hC.2.1 hdg (by rw [em_cat]; exact hv) (k p e R s m args below meth c H locs ls hC hP hD hS hl)
theorem J_pop {v : Value} (hdg : decode cc pc = .ok (.pop, 1)) (hv : v.category = 1) (k : Jg X own cc nL ret nm d CR SR (Q) ad cells slots (pc + 1) (lv) (st) (ws)) : Jg X own cc nL ret nm d CR SR (Q) ad cells slots (pc) (lv) (v :: st) (ws) := by
  intro p e R s m args below meth c H locs ls hC hP hD hS hl
  exact lv_pop hC.1 hC.2.1 hdg (by rw [em_cat]; exact hv) (k p e R s m args below meth c H locs ls hC hP hD hS hl)
theorem J_ldc2 {index : Nat} {v : Int64} (hw : Cond.constantLong own index v ∈ TW) (hdg : decode cc pc = .ok (.ldc2_w index, 3)) (k : Jg X own cc nL ret nm d CR SR (Q) ad cells slots (pc + 3) (lv) (.long v :: st) (ws)) : Jg X own cc nL ret nm d CR SR (Q) ad cells slots (pc) (lv) (st) (ws) := by
  intro p e R s m args below meth c H locs ls hC hP hD hS hl
  exact lv_ldc2 hC.1 hC.2.1 hC.2.2.2.2.2.1 (hC.2.2.2.2.2.2.1 _ hw) hdg (k p e R s m args below meth c H locs ls hC hP hD hS hl)
theorem J_istore_n {k0 : Fin 4} {i : Nat} {x : Int32} {lv' : List (Nat × Value)} (hdg : decode cc pc = .ok (.istore_n k0, 1)) (hi : (k0 : Nat) = i) (hn : Nat.blt i nL = true) (hst : stL lv i (.int x) = some lv') (k : Jg X own cc nL ret nm d CR SR (Q) ad cells slots (pc + 1) (lv') (st) (ws)) : Jg X own cc nL ret nm d CR SR (Q) ad cells slots (pc) (lv) (.int x :: st) (ws) := by
  intro p e R s m args below meth c H locs ls hC hP hD hS hl
  exact lv_istore_n hC.1 hC.2.1 hdg hi hl (Nat.le_of_ble_eq_true hn) rfl (fun ls' hl' => k p e R s m args below meth c H locs ls' hC hP hD hS (stL_has hst hl'))
theorem J_istore {i : Nat} {x : Int32} {lv' : List (Nat × Value)} (hdg : decode cc pc = .ok (.istore i, 2)) (hn : Nat.blt i nL = true) (hst : stL lv i (.int x) = some lv') (k : Jg X own cc nL ret nm d CR SR (Q) ad cells slots (pc + 2) (lv') (st) (ws)) : Jg X own cc nL ret nm d CR SR (Q) ad cells slots (pc) (lv) (.int x :: st) (ws) := by
  intro p e R s m args below meth c H locs ls hC hP hD hS hl
  exact lv_istore hC.1 hC.2.1 hdg hl (Nat.le_of_ble_eq_true hn) rfl (fun ls' hl' => k p e R s m args below meth c H locs ls' hC hP hD hS (stL_has hst hl'))
theorem J_astore_n {k0 : Fin 4} {i : Nat} {x : Nat} {lv' : List (Nat × Value)} (hdg : decode cc pc = .ok (.astore_n k0, 1)) (hi : (k0 : Nat) = i) (hn : Nat.blt i nL = true) (hst : stL lv i (.ref x) = some lv') (k : Jg X own cc nL ret nm d CR SR (Q) ad cells slots (pc + 1) (lv') (st) (ws)) : Jg X own cc nL ret nm d CR SR (Q) ad cells slots (pc) (lv) (.ref x :: st) (ws) := by
  intro p e R s m args below meth c H locs ls hC hP hD hS hl
  exact lv_astore_n hC.1 hC.2.1 hdg hi hl (Nat.le_of_ble_eq_true hn) rfl (fun ls' hl' => k p e R s m args below meth c H locs ls' hC hP hD hS (stL_has hst hl'))
theorem J_astore {i : Nat} {x : Nat} {lv' : List (Nat × Value)} (hdg : decode cc pc = .ok (.astore i, 2)) (hn : Nat.blt i nL = true) (hst : stL lv i (.ref x) = some lv') (k : Jg X own cc nL ret nm d CR SR (Q) ad cells slots (pc + 2) (lv') (st) (ws)) : Jg X own cc nL ret nm d CR SR (Q) ad cells slots (pc) (lv) (.ref x :: st) (ws) := by
  intro p e R s m args below meth c H locs ls hC hP hD hS hl
  exact lv_astore hC.1 hC.2.1 hdg hl (Nat.le_of_ble_eq_true hn) rfl (fun ls' hl' => k p e R s m args below meth c H locs ls' hC hP hD hS (stL_has hst hl'))
theorem J_astore_nN {k0 : Fin 4} {i : Nat}  {lv' : List (Nat × Value)} (hdg : decode cc pc = .ok (.astore_n k0, 1)) (hi : (k0 : Nat) = i) (hn : Nat.blt i nL = true) (hst : stL lv i (.null) = some lv') (k : Jg X own cc nL ret nm d CR SR (Q) ad cells slots (pc + 1) (lv') (st) (ws)) : Jg X own cc nL ret nm d CR SR (Q) ad cells slots (pc) (lv) (.null :: st) (ws) := by
  intro p e R s m args below meth c H locs ls hC hP hD hS hl
  exact lv_astore_nN hC.1 hC.2.1 hdg hi hl (Nat.le_of_ble_eq_true hn) rfl (fun ls' hl' => k p e R s m args below meth c H locs ls' hC hP hD hS (stL_has hst hl'))
theorem J_astoreN {i : Nat}  {lv' : List (Nat × Value)} (hdg : decode cc pc = .ok (.astore i, 2)) (hn : Nat.blt i nL = true) (hst : stL lv i (.null) = some lv') (k : Jg X own cc nL ret nm d CR SR (Q) ad cells slots (pc + 2) (lv') (st) (ws)) : Jg X own cc nL ret nm d CR SR (Q) ad cells slots (pc) (lv) (.null :: st) (ws) := by
  intro p e R s m args below meth c H locs ls hC hP hD hS hl
  exact lv_astoreN hC.1 hC.2.1 hdg hl (Nat.le_of_ble_eq_true hn) rfl (fun ls' hl' => k p e R s m args below meth c H locs ls' hC hP hD hS (stL_has hst hl'))
theorem J_iinc {i : Nat} {n : Int} {x v : Int32} {lv' : List (Nat × Value)} (hdg : decode cc pc = .ok (.iinc i n, 3)) (hk : lk lv i = some (.int x)) (hv : x + Int32.ofInt n = v) (hn : Nat.blt i nL = true) (hst : stL lv i (.int v) = some lv') (k : Jg X own cc nL ret nm d CR SR (Q) ad cells slots (pc + 3) (lv') (st) (ws)) : Jg X own cc nL ret nm d CR SR (Q) ad cells slots (pc) (lv) (st) (ws) := by
  intro p e R s m args below meth c H locs ls hC hP hD hS hl
  obtain ⟨j, hj⟩ := List.getElem?_of_mem (List.mem_map.mpr ⟨(i, Value.int x), lk_mem hk, rfl⟩ : (i, em ad (.int x)) ∈ lvm ad lv)
  exact lv_iinc hC.1 hC.2.1 hdg hl hj hv (Nat.le_of_ble_eq_true hn) rfl (fun ls' hl' => k p e R s m args below meth c H locs ls' hC hP hD hS (stL_has hst hl'))
def lvfree : List (Nat × Value) → Nat → Bool
  | [], _ => true
  | q :: t, i => match Nat.beq q.1 i with
    | true => false
    | false => lvfree t i
theorem lvfree_ok {ad : Nat → Nat} {t : List (Nat × Value)} {i : Nat} (h : lvfree t i = true) : ∀ q ∈ lvm ad t, (!(q.1 == i)) = true := by
  induction t with
  | nil => intro q hq; simp [lvm] at hq
  | cons r t ih =>
    intro q hq
    unfold lvfree at h
    cases h1 : Nat.beq r.1 i with
    | true => rw [h1] at h; cases h
    | false =>
      rw [h1] at h
      rcases List.mem_cons.mp hq with e | hq
      · have z1 := Nat.ne_of_beq_eq_false h1
        rw [e]; simp [z1]
      · exact ih h q hq
theorem stL_has2 {ls : Array Slot} {nL i : Nat} {ad : Nat → Nat} {lv lv' : List (Nat × Value)} {v : Value} (hf : lvfree lv (i + 1) = true) (hst : stL lv i v = some lv') (h : lv_has ls nL ((i, em ad v) :: (lvm ad lv).filter (fun q => !(q.1 == i) && (!(q.1 == i + 1) && !(q.1 + 1 == i && q.2.category == 2))))) : lv_has ls nL (lvm ad lv') := by
  refine stL_has hst ⟨h.1, h.2.1, fun q hq => h.2.2 q ?_⟩
  rcases List.mem_cons.mp hq with e | hq
  · rw [e]; exact List.mem_cons_self
  · obtain ⟨h1, h2⟩ := List.mem_filter.mp hq
    refine List.mem_cons_of_mem _ (List.mem_filter.mpr ⟨h1, ?_⟩)
    have h3 := lvfree_ok hf q h1
    simp only [Bool.and_eq_true] at h2 ⊢
    exact ⟨h2.1, h3, h2.2⟩
theorem J_lstore_n {k0 : Fin 4} {i : Nat} {x : Int64} {lv' : List (Nat × Value)} (hdg : decode cc pc = .ok (.lstore_n k0, 1)) (hi : (k0 : Nat) = i) (hn : Nat.blt (i + 1) nL = true) (hf : lvfree lv (i + 1) = true) (hst : stL lv i (.long x) = some lv') (k : Jg X own cc nL ret nm d CR SR (Q) ad cells slots (pc + 1) (lv') (st) (ws)) : Jg X own cc nL ret nm d CR SR (Q) ad cells slots (pc) (lv) (.long x :: st) (ws) := by
  intro p e R s m args below meth c H locs ls hC hP hD hS hl
  exact lv_lstore_n hC.1 hC.2.1 hdg hi hl (Nat.le_of_ble_eq_true hn) rfl (fun ls' hl' => k p e R s m args below meth c H locs ls' hC hP hD hS (stL_has2 hf hst hl'))
theorem J_topi {x : Int32} (k : ∀ y : Int32, y = x → Jg X own cc nL ret nm d CR SR (Q) ad cells slots (pc) (lv) (.int y :: st) (ws)) : Jg X own cc nL ret nm d CR SR (Q) ad cells slots (pc) (lv) (.int x :: st) (ws) := k x rfl
theorem J_topl {x : Int64} (k : ∀ y : Int64, y = x → Jg X own cc nL ret nm d CR SR (Q) ad cells slots (pc) (lv) (.long y :: st) (ws)) : Jg X own cc nL ret nm d CR SR (Q) ad cells slots (pc) (lv) (.long x :: st) (ws) := k x rfl
theorem J_if_eq {x : Int32} {off : Int} {tgt : Nat} (hdg : decode cc pc = .ok (.ifCond .eq off, 3)) (ht : (pc : Int) + off = (tgt : Int)) (kt : x = 0 → Jg X own cc nL ret nm d CR SR (Q) ad cells slots (tgt) (lv) (st) (ws)) (kf : ¬ x = 0 → Jg X own cc nL ret nm d CR SR (Q) ad cells slots (pc + 3) (lv) (st) (ws)) : Jg X own cc nL ret nm d CR SR (Q) ad cells slots (pc) (lv) (.int x :: st) (ws) := by
  intro p e R s m args below meth c H locs ls hC hP hD hS hl
  exact lv_if_eq hC.1 hC.2.1 hdg ht (fun h => kt h p e R s m args below meth c H locs ls hC hP hD hS hl) (fun h => kf h p e R s m args below meth c H locs ls hC hP hD hS hl)
theorem J_icmp_eq {x y : Int32} {off : Int} {tgt : Nat} (hdg : decode cc pc = .ok (.if_icmp .eq off, 3)) (ht : (pc : Int) + off = (tgt : Int)) (kt : x = y → Jg X own cc nL ret nm d CR SR (Q) ad cells slots (tgt) (lv) (st) (ws)) (kf : ¬ x = y → Jg X own cc nL ret nm d CR SR (Q) ad cells slots (pc + 3) (lv) (st) (ws)) : Jg X own cc nL ret nm d CR SR (Q) ad cells slots (pc) (lv) (.int y :: .int x :: st) (ws) := by
  intro p e R s m args below meth c H locs ls hC hP hD hS hl
  exact lv_icmp_eq hC.1 hC.2.1 hdg ht (fun h => kt h p e R s m args below meth c H locs ls hC hP hD hS hl) (fun h => kf h p e R s m args below meth c H locs ls hC hP hD hS hl)
theorem J_if_ne {x : Int32} {off : Int} {tgt : Nat} (hdg : decode cc pc = .ok (.ifCond .ne off, 3)) (ht : (pc : Int) + off = (tgt : Int)) (kt : ¬ x = 0 → Jg X own cc nL ret nm d CR SR (Q) ad cells slots (tgt) (lv) (st) (ws)) (kf : x = 0 → Jg X own cc nL ret nm d CR SR (Q) ad cells slots (pc + 3) (lv) (st) (ws)) : Jg X own cc nL ret nm d CR SR (Q) ad cells slots (pc) (lv) (.int x :: st) (ws) := by
  intro p e R s m args below meth c H locs ls hC hP hD hS hl
  exact lv_if_ne hC.1 hC.2.1 hdg ht (fun h => kt h p e R s m args below meth c H locs ls hC hP hD hS hl) (fun h => kf h p e R s m args below meth c H locs ls hC hP hD hS hl)
theorem J_icmp_ne {x y : Int32} {off : Int} {tgt : Nat} (hdg : decode cc pc = .ok (.if_icmp .ne off, 3)) (ht : (pc : Int) + off = (tgt : Int)) (kt : ¬ x = y → Jg X own cc nL ret nm d CR SR (Q) ad cells slots (tgt) (lv) (st) (ws)) (kf : x = y → Jg X own cc nL ret nm d CR SR (Q) ad cells slots (pc + 3) (lv) (st) (ws)) : Jg X own cc nL ret nm d CR SR (Q) ad cells slots (pc) (lv) (.int y :: .int x :: st) (ws) := by
  intro p e R s m args below meth c H locs ls hC hP hD hS hl
  exact lv_icmp_ne hC.1 hC.2.1 hdg ht (fun h => kt h p e R s m args below meth c H locs ls hC hP hD hS hl) (fun h => kf h p e R s m args below meth c H locs ls hC hP hD hS hl)
theorem J_if_lt {x : Int32} {off : Int} {tgt : Nat} (hdg : decode cc pc = .ok (.ifCond .lt off, 3)) (ht : (pc : Int) + off = (tgt : Int)) (kt : x < 0 → Jg X own cc nL ret nm d CR SR (Q) ad cells slots (tgt) (lv) (st) (ws)) (kf : ¬ x < 0 → Jg X own cc nL ret nm d CR SR (Q) ad cells slots (pc + 3) (lv) (st) (ws)) : Jg X own cc nL ret nm d CR SR (Q) ad cells slots (pc) (lv) (.int x :: st) (ws) := by
  intro p e R s m args below meth c H locs ls hC hP hD hS hl
  exact lv_if_lt hC.1 hC.2.1 hdg ht (fun h => kt h p e R s m args below meth c H locs ls hC hP hD hS hl) (fun h => kf h p e R s m args below meth c H locs ls hC hP hD hS hl)
theorem J_icmp_lt {x y : Int32} {off : Int} {tgt : Nat} (hdg : decode cc pc = .ok (.if_icmp .lt off, 3)) (ht : (pc : Int) + off = (tgt : Int)) (kt : x < y → Jg X own cc nL ret nm d CR SR (Q) ad cells slots (tgt) (lv) (st) (ws)) (kf : ¬ x < y → Jg X own cc nL ret nm d CR SR (Q) ad cells slots (pc + 3) (lv) (st) (ws)) : Jg X own cc nL ret nm d CR SR (Q) ad cells slots (pc) (lv) (.int y :: .int x :: st) (ws) := by
  intro p e R s m args below meth c H locs ls hC hP hD hS hl
  exact lv_icmp_lt hC.1 hC.2.1 hdg ht (fun h => kt h p e R s m args below meth c H locs ls hC hP hD hS hl) (fun h => kf h p e R s m args below meth c H locs ls hC hP hD hS hl)
theorem J_if_ge {x : Int32} {off : Int} {tgt : Nat} (hdg : decode cc pc = .ok (.ifCond .ge off, 3)) (ht : (pc : Int) + off = (tgt : Int)) (kt : 0 ≤ x → Jg X own cc nL ret nm d CR SR (Q) ad cells slots (tgt) (lv) (st) (ws)) (kf : ¬ 0 ≤ x → Jg X own cc nL ret nm d CR SR (Q) ad cells slots (pc + 3) (lv) (st) (ws)) : Jg X own cc nL ret nm d CR SR (Q) ad cells slots (pc) (lv) (.int x :: st) (ws) := by
  intro p e R s m args below meth c H locs ls hC hP hD hS hl
  exact lv_if_ge hC.1 hC.2.1 hdg ht (fun h => kt h p e R s m args below meth c H locs ls hC hP hD hS hl) (fun h => kf h p e R s m args below meth c H locs ls hC hP hD hS hl)
theorem J_icmp_ge {x y : Int32} {off : Int} {tgt : Nat} (hdg : decode cc pc = .ok (.if_icmp .ge off, 3)) (ht : (pc : Int) + off = (tgt : Int)) (kt : y ≤ x → Jg X own cc nL ret nm d CR SR (Q) ad cells slots (tgt) (lv) (st) (ws)) (kf : ¬ y ≤ x → Jg X own cc nL ret nm d CR SR (Q) ad cells slots (pc + 3) (lv) (st) (ws)) : Jg X own cc nL ret nm d CR SR (Q) ad cells slots (pc) (lv) (.int y :: .int x :: st) (ws) := by
  intro p e R s m args below meth c H locs ls hC hP hD hS hl
  exact lv_icmp_ge hC.1 hC.2.1 hdg ht (fun h => kt h p e R s m args below meth c H locs ls hC hP hD hS hl) (fun h => kf h p e R s m args below meth c H locs ls hC hP hD hS hl)
theorem J_if_gt {x : Int32} {off : Int} {tgt : Nat} (hdg : decode cc pc = .ok (.ifCond .gt off, 3)) (ht : (pc : Int) + off = (tgt : Int)) (kt : 0 < x → Jg X own cc nL ret nm d CR SR (Q) ad cells slots (tgt) (lv) (st) (ws)) (kf : ¬ 0 < x → Jg X own cc nL ret nm d CR SR (Q) ad cells slots (pc + 3) (lv) (st) (ws)) : Jg X own cc nL ret nm d CR SR (Q) ad cells slots (pc) (lv) (.int x :: st) (ws) := by
  intro p e R s m args below meth c H locs ls hC hP hD hS hl
  exact lv_if_gt hC.1 hC.2.1 hdg ht (fun h => kt h p e R s m args below meth c H locs ls hC hP hD hS hl) (fun h => kf h p e R s m args below meth c H locs ls hC hP hD hS hl)
theorem J_icmp_gt {x y : Int32} {off : Int} {tgt : Nat} (hdg : decode cc pc = .ok (.if_icmp .gt off, 3)) (ht : (pc : Int) + off = (tgt : Int)) (kt : y < x → Jg X own cc nL ret nm d CR SR (Q) ad cells slots (tgt) (lv) (st) (ws)) (kf : ¬ y < x → Jg X own cc nL ret nm d CR SR (Q) ad cells slots (pc + 3) (lv) (st) (ws)) : Jg X own cc nL ret nm d CR SR (Q) ad cells slots (pc) (lv) (.int y :: .int x :: st) (ws) := by
  intro p e R s m args below meth c H locs ls hC hP hD hS hl
  exact lv_icmp_gt hC.1 hC.2.1 hdg ht (fun h => kt h p e R s m args below meth c H locs ls hC hP hD hS hl) (fun h => kf h p e R s m args below meth c H locs ls hC hP hD hS hl)
theorem J_if_le {x : Int32} {off : Int} {tgt : Nat} (hdg : decode cc pc = .ok (.ifCond .le off, 3)) (ht : (pc : Int) + off = (tgt : Int)) (kt : x ≤ 0 → Jg X own cc nL ret nm d CR SR (Q) ad cells slots (tgt) (lv) (st) (ws)) (kf : ¬ x ≤ 0 → Jg X own cc nL ret nm d CR SR (Q) ad cells slots (pc + 3) (lv) (st) (ws)) : Jg X own cc nL ret nm d CR SR (Q) ad cells slots (pc) (lv) (.int x :: st) (ws) := by
  intro p e R s m args below meth c H locs ls hC hP hD hS hl
  exact lv_if_le hC.1 hC.2.1 hdg ht (fun h => kt h p e R s m args below meth c H locs ls hC hP hD hS hl) (fun h => kf h p e R s m args below meth c H locs ls hC hP hD hS hl)
theorem J_icmp_le {x y : Int32} {off : Int} {tgt : Nat} (hdg : decode cc pc = .ok (.if_icmp .le off, 3)) (ht : (pc : Int) + off = (tgt : Int)) (kt : x ≤ y → Jg X own cc nL ret nm d CR SR (Q) ad cells slots (tgt) (lv) (st) (ws)) (kf : ¬ x ≤ y → Jg X own cc nL ret nm d CR SR (Q) ad cells slots (pc + 3) (lv) (st) (ws)) : Jg X own cc nL ret nm d CR SR (Q) ad cells slots (pc) (lv) (.int y :: .int x :: st) (ws) := by
  intro p e R s m args below meth c H locs ls hC hP hD hS hl
  exact lv_icmp_le hC.1 hC.2.1 hdg ht (fun h => kt h p e R s m args below meth c H locs ls hC hP hD hS hl) (fun h => kf h p e R s m args below meth c H locs ls hC hP hD hS hl)
theorem J_goto {off : Int} {tgt : Nat} (hdg : decode cc pc = .ok (.goto off, 3)) (ht : (pc : Int) + off = (tgt : Int)) (k : Jg X own cc nL ret nm d CR SR (Q) ad cells slots (tgt) (lv) (st) (ws)) : Jg X own cc nL ret nm d CR SR (Q) ad cells slots (pc) (lv) (st) (ws) := by
  intro p e R s m args below meth c H locs ls hC hP hD hS hl
  exact lv_goto hC.1 hC.2.1 hdg ht (k p e R s m args below meth c H locs ls hC hP hD hS hl)
theorem J_ifnonnull {x : Nat} {off : Int} {tgt : Nat} (hdg : decode cc pc = .ok (.ifnonnull off, 3)) (ht : (pc : Int) + off = (tgt : Int)) (k : Jg X own cc nL ret nm d CR SR (Q) ad cells slots (tgt) (lv) (st) (ws)) : Jg X own cc nL ret nm d CR SR (Q) ad cells slots (pc) (lv) (.ref x :: st) (ws) := by
  intro p e R s m args below meth c H locs ls hC hP hD hS hl
  exact lv_ifnonnull hC.1 hC.2.1 hdg ht (k p e R s m args below meth c H locs ls hC hP hD hS hl)
theorem J_ifnonnullN {off : Int} (hdg : decode cc pc = .ok (.ifnonnull off, 3)) (k : Jg X own cc nL ret nm d CR SR (Q) ad cells slots (pc + 3) (lv) (st) (ws)) : Jg X own cc nL ret nm d CR SR (Q) ad cells slots (pc) (lv) (.null :: st) (ws) := by
  intro p e R s m args below meth c H locs ls hC hP hD hS hl
  exact lv_ifnonnullN hC.1 hC.2.1 hdg (k p e R s m args below meth c H locs ls hC hP hD hS hl)
theorem J_ifnull {x : Nat} {off : Int} (hdg : decode cc pc = .ok (.ifnull off, 3)) (k : Jg X own cc nL ret nm d CR SR (Q) ad cells slots (pc + 3) (lv) (st) (ws)) : Jg X own cc nL ret nm d CR SR (Q) ad cells slots (pc) (lv) (.ref x :: st) (ws) := by
  intro p e R s m args below meth c H locs ls hC hP hD hS hl
  exact lv_ifnull hC.1 hC.2.1 hdg (k p e R s m args below meth c H locs ls hC hP hD hS hl)
theorem J_ifnullN {off : Int} {tgt : Nat} (hdg : decode cc pc = .ok (.ifnull off, 3)) (ht : (pc : Int) + off = (tgt : Int)) (k : Jg X own cc nL ret nm d CR SR (Q) ad cells slots (tgt) (lv) (st) (ws)) : Jg X own cc nL ret nm d CR SR (Q) ad cells slots (pc) (lv) (.null :: st) (ws) := by
  intro p e R s m args below meth c H locs ls hC hP hD hS hl
  exact lv_ifnullN hC.1 hC.2.1 hdg ht (k p e R s m args below meth c H locs ls hC hP hD hS hl)
theorem J_tableOut {dflt lo hi : Int} {offs : Array Int} {len : Nat} {x : Int32} {tgt : Nat} (hdg : decode cc pc = .ok (.tableswitch dflt lo hi offs, len)) (h : x.toInt < lo ∨ hi < x.toInt) (ht : (pc : Int) + dflt = (tgt : Int)) (k : Jg X own cc nL ret nm d CR SR (Q) ad cells slots (tgt) (lv) (st) (ws)) : Jg X own cc nL ret nm d CR SR (Q) ad cells slots (pc) (lv) (.int x :: st) (ws) := by
  intro p e R s m args below meth c H locs ls hC hP hD hS hl
  exact lv_tableOut hC.1 hC.2.1 hdg h ht (k p e R s m args below meth c H locs ls hC hP hD hS hl)
theorem J_tableIn {dflt lo hi : Int} {offs : Array Int} {len : Nat} {x : Int32} {off : Int} {tgt : Nat} (hdg : decode cc pc = .ok (.tableswitch dflt lo hi offs, len)) (h1 : ¬ x.toInt < lo) (h2 : ¬ hi < x.toInt) (ho : offs[(x.toInt - lo).toNat]? = some off) (ht : (pc : Int) + off = (tgt : Int)) (k : Jg X own cc nL ret nm d CR SR (Q) ad cells slots (tgt) (lv) (st) (ws)) : Jg X own cc nL ret nm d CR SR (Q) ad cells slots (pc) (lv) (.int x :: st) (ws) := by
  intro p e R s m args below meth c H locs ls hC hP hD hS hl
  exact lv_tableIn hC.1 hC.2.1 hdg h1 h2 ho ht (k p e R s m args below meth c H locs ls hC hP hD hS hl)
theorem J_lookup {dflt : Int} {ps : Array (Int × Int)} {len : Nat} {x : Int32} {off : Int} {tgt : Nat} (hdg : decode cc pc = .ok (.lookupswitch dflt ps, len)) (hp : (ps.toList.zip (ps.toList.drop 1)).all (fun (a, next) => a.1 < next.1) = true) (ho : Op.lookupswitch.offset ps.toList dflt x.toInt = off) (ht : (pc : Int) + off = (tgt : Int)) (k : Jg X own cc nL ret nm d CR SR (Q) ad cells slots (tgt) (lv) (st) (ws)) : Jg X own cc nL ret nm d CR SR (Q) ad cells slots (pc) (lv) (.int x :: st) (ws) := by
  intro p e R s m args below meth c H locs ls hC hP hD hS hl
  exact lv_lookup hC.1 hC.2.1 hdg hp ho ht (k p e R s m args below meth c H locs ls hC hP hD hS hl)
end RULES
end
section
theorem inTX0 : ∀ w ∈ u_ws RX0 TX0 6, w ∈ TW := inTWs _ [203, 205, 207, 209, 211, 213] (by decide +kernel) (by decide +kernel)
theorem inTX1 : ∀ w ∈ u_ws RX1 TX1 10, w ∈ TW := inTWs _ [119, 121, 123, 125, 127, 129, 131, 133, 135, 137] (by decide +kernel) (by decide +kernel)
theorem inTX2 : ∀ w ∈ u_ws RX2 TX2 12, w ∈ TW := inTWs _ [167, 169, 171, 173, 175, 177, 179, 181, 183, 185, 187, 189] (by decide +kernel) (by decide +kernel)
theorem inTX3 : ∀ w ∈ u_ws RX3 TX3 3, w ∈ TW := inTWs _ [229, 231, 233] (by decide +kernel) (by decide +kernel)
theorem inTX4 : ∀ w ∈ u_ws RX4 TX4 5, w ∈ TW := inTWs _ [250, 252, 254, 256, 258] (by decide +kernel) (by decide +kernel)
theorem inTX5 : ∀ w ∈ u_ws RX5 TX5 6, w ∈ TW := inTWs _ [267, 269, 271, 273, 275, 277] (by decide +kernel) (by decide +kernel)
theorem inTX6 : ∀ w ∈ u_ws RX6 TX6 14, w ∈ TW := inTWs _ [779, 781, 783, 785, 787, 789, 791, 793, 795, 797, 799, 801, 803, 805] (by decide +kernel) (by decide +kernel)
section RULES
variable {X : jX} {own : String} {cc : ByteArray} {nL : Nat} {ret : Option FieldType} {nm : String} {d CR SR : Nat} {Q : List Frame → Array Value → State → State → Prop} {ad : Nat → Nat} {cells slots pc : Nat} {lv : List (Nat × Value)} {st : List Value} {ws : va_W}
theorem J_get {C : String} {T : u_T} {N ci index : Nat} (hc : vwCl[ci]? = some (C, T, N)) (hin : ∀ w ∈ u_ws C T N, w ∈ TW) (k : Nat) (hk : Nat.blt k N = true) (hlink : Cond.fieldLink own index (T k).1 (T k).2.1 (T k).2.2.1 ∈ TW) (hdg : decode cc pc = .ok (.getfield index, 3)) (q0 : Nat) {n : Nat} {fs : List Value} {v : Value} (he : ws[q0]? = some (ad n, .inr (ci, fs))) (hv : fs[k]? = some (em ad v)) (kk : Jg X own cc nL ret nm d CR SR (Q) ad (cells) (slots) (pc + 3) (lv) (v :: st) (ws)) : Jg X own cc nL ret nm d CR SR (Q) ad (cells) (slots) (pc) (lv) (.ref n :: st) (ws) := by
  intro p e R s m args below meth c H locs ls hC hP hD hS hl
  obtain ⟨hx, hb, hml, hr, hnm, hown, hts, hlk, hfr, hlo, hcr, hsr, hE, hz⟩ := id hC
  have hK := hE.2.1
  exact va_get hx hb hts hin hown hK hP q0 he hc k (Nat.le_of_ble_eq_true hk) (hts _ hlink) (fun _ h => h) hv hdg (kk p e R s m args below meth c H locs ls hC hP hD hS hl)
theorem J_put {C : String} {T : u_T} {N ci index : Nat} (hc : vwCl[ci]? = some (C, T, N)) (hin : ∀ w ∈ u_ws C T N, w ∈ TW) (ty0 : Nat → FieldType) (hty : ∀ k, k < N → parseFieldDescriptor (T k).2.2.1 = some (ty0 k)) (hnm1 : ∀ a, a < N → ∀ b, b < N → a ≠ b → (T a).2.1 ≠ (T b).2.1) (k : Nat) (hk : Nat.blt k N = true) (hlink : Cond.fieldLink own index (T k).1 (T k).2.1 (T k).2.2.1 ∈ TW) (hfin : (T k).2.2.2 = false) {ty : FieldType} {v : Value} (hd : parseFieldDescriptor (T k).2.2.1 = some ty) (hn : narrow ty (em ad v) = em ad v) (hfit : fits ty (em ad v) = true) (hdg : decode cc pc = .ok (.putfield index, 3)) (q0 : Nat) {n : Nat} {fs : List Value} (he : ws[q0]? = some (ad n, .inr (ci, fs))) (hlen : Nat.blt k fs.length = true) (kk : Jg X own cc nL ret nm d CR SR (Q) ad (cells) (slots) (pc + 3) (lv) (st) (ws.set q0 (ad n, .inr (ci, fs.set k (em ad v))))) : Jg X own cc nL ret nm d CR SR (Q) ad (cells) (slots) (pc) (lv) (v :: .ref n :: st) (ws) := by
  intro p e R s m args below meth c H locs ls hC hP hD hS hl
  obtain ⟨hx, hb, hml, hr, hnm, hown, hts, hlk, hfr, hlo, hcr, hsr, hE, hz⟩ := id hC
  have hK := hE.2.1
  exact va_put hx hb hts hin ty0 hty hnm1 hown hK hP hD hS q0 he hc k (Nat.le_of_ble_eq_true hk) (hts _ hlink) (fun _ h => h) hfin hd hn hfit (Nat.le_of_ble_eq_true hlen) hdg (fun H1 locs1 hP1 hD1 hS1 => kk p e R s m args below meth c H1 locs1 ls hC hP1 hD1 hS1 hl)
theorem J_putF {C : String} {T : u_T} {N ci index : Nat} (hc : vwCl[ci]? = some (C, T, N)) (hin : ∀ w ∈ u_ws C T N, w ∈ TW) (ty0 : Nat → FieldType) (hty : ∀ k, k < N → parseFieldDescriptor (T k).2.2.1 = some (ty0 k)) (hnm1 : ∀ a, a < N → ∀ b, b < N → a ≠ b → (T a).2.1 ≠ (T b).2.1) (k : Nat) (hk : Nat.blt k N = true) (hlink : Cond.fieldLink own index (T k).1 (T k).2.1 (T k).2.2.1 ∈ TW) (hfin : (T k).2.2.2 = true) (hnm0 : nm = "<init>") (hdecl : (T k).1 = own) {ty : FieldType} {v : Value} (hd : parseFieldDescriptor (T k).2.2.1 = some ty) (hn : narrow ty (em ad v) = em ad v) (hfit : fits ty (em ad v) = true) (hdg : decode cc pc = .ok (.putfield index, 3)) (q0 : Nat) {n : Nat} {fs : List Value} (he : ws[q0]? = some (ad n, .inr (ci, fs))) (hlen : Nat.blt k fs.length = true) (kk : Jg X own cc nL ret nm d CR SR (Q) ad (cells) (slots) (pc + 3) (lv) (st) (ws.set q0 (ad n, .inr (ci, fs.set k (em ad v))))) : Jg X own cc nL ret nm d CR SR (Q) ad (cells) (slots) (pc) (lv) (v :: .ref n :: st) (ws) := by
  intro p e R s m args below meth c H locs ls hC hP hD hS hl
  obtain ⟨hx, hb, hml, hr, hnm, hown, hts, hlk, hfr, hlo, hcr, hsr, hE, hz⟩ := id hC
  have hK := hE.2.1
  exact va_putF hx hb hts hin ty0 hty hnm1 hown hK hP hD hS q0 he hc k (Nat.le_of_ble_eq_true hk) (hts _ hlink) (fun _ h => h) hfin (hnm.trans hnm0) hdecl hd hn hfit (Nat.le_of_ble_eq_true hlen) hdg (fun H1 locs1 hP1 hD1 hS1 => kk p e R s m args below meth c H1 locs1 ls hC hP1 hD1 hS1 hl)
theorem J_iald {len : Nat} {f : Nat → Int32} {n : Nat} {i : Int32} (hdg : decode cc pc = .ok (.iaload, 1)) (q0 : Nat) (he : ws[q0]? = some (ad n, .inl (jcA X 0, len, .inl f))) (hi : vp_in i len) (kk : Jg X own cc nL ret nm d CR SR (Q) ad (cells) (slots) (pc + 1) (lv) (.int (f i.toNatClampNeg) :: st) (ws)) : Jg X own cc nL ret nm d CR SR (Q) ad (cells) (slots) (pc) (lv) (.int i :: .ref n :: st) (ws) := by
  intro p e R s m args below meth c H locs ls hC hP hD hS hl
  obtain ⟨hx, hb, hml, hr, hnm, hown, hts, hlk, hfr, hlo, hcr, hsr, hE, hz⟩ := id hC
  have hK := hE.2.1
  exact va_iald hx hb hK hP q0 0 he rfl hi hdg (kk p e R s m args below meth c H locs ls hC hP hD hS hl)
theorem J_zald {len : Nat} {f : Nat → Int32} {n : Nat} {i : Int32} (hdg : decode cc pc = .ok (.baload, 1)) (q0 : Nat) (he : ws[q0]? = some (ad n, .inl (jcA X 1, len, .inl f))) (hi : vp_in i len) (kk : Jg X own cc nL ret nm d CR SR (Q) ad (cells) (slots) (pc + 1) (lv) (.int (f i.toNatClampNeg) :: st) (ws)) : Jg X own cc nL ret nm d CR SR (Q) ad (cells) (slots) (pc) (lv) (.int i :: .ref n :: st) (ws) := by
  intro p e R s m args below meth c H locs ls hC hP hD hS hl
  obtain ⟨hx, hb, hml, hr, hnm, hown, hts, hlk, hfr, hlo, hcr, hsr, hE, hz⟩ := id hC
  have hK := hE.2.1
  exact va_zald hx hb hK hP q0 1 he rfl hi hdg (kk p e R s m args below meth c H locs ls hC hP hD hS hl)
theorem J_iast {len : Nat} {f : Nat → Int32} {n : Nat} {i x : Int32} (hdg : decode cc pc = .ok (.iastore, 1)) (q0 : Nat) (he : ws[q0]? = some (ad n, .inl (jcA X 0, len, .inl f))) (hi : vp_in i len) (kk : Jg X own cc nL ret nm d CR SR (Q) ad (cells) (slots) (pc + 1) (lv) (st) (ws.set q0 (ad n, .inl (jcA X 0, len, .inl (upd f i.toNatClampNeg x))))) : Jg X own cc nL ret nm d CR SR (Q) ad (cells) (slots) (pc) (lv) (.int x :: .int i :: .ref n :: st) (ws) := by
  intro p e R s m args below meth c H locs ls hC hP hD hS hl
  obtain ⟨hx, hb, hml, hr, hnm, hown, hts, hlk, hfr, hlo, hcr, hsr, hE, hz⟩ := id hC
  have hK := hE.2.1
  exact va_iast hx hb hK hP hD hS q0 0 he rfl hi hdg (fun H1 locs1 hP1 hD1 hS1 => kk p e R s m args below meth c H1 locs1 ls hC hP1 hD1 hS1 hl)
theorem J_zast {len : Nat} {f : Nat → Int32} {n : Nat} {i x : Int32} (hdg : decode cc pc = .ok (.bastore, 1)) (q0 : Nat) (he : ws[q0]? = some (ad n, .inl (jcA X 1, len, .inl f))) (hi : vp_in i len) (kk : Jg X own cc nL ret nm d CR SR (Q) ad (cells) (slots) (pc + 1) (lv) (st) (ws.set q0 (ad n, .inl (jcA X 1, len, .inl (upd f i.toNatClampNeg (vp_nar .boolean x)))))) : Jg X own cc nL ret nm d CR SR (Q) ad (cells) (slots) (pc) (lv) (.int x :: .int i :: .ref n :: st) (ws) := by
  intro p e R s m args below meth c H locs ls hC hP hD hS hl
  obtain ⟨hx, hb, hml, hr, hnm, hown, hts, hlk, hfr, hlo, hcr, hsr, hE, hz⟩ := id hC
  have hK := hE.2.1
  exact va_zast hx hb hK hP hD hS q0 1 he rfl hi hdg (fun H1 locs1 hP1 hD1 hS1 => kk p e R s m args below meth c H1 locs1 ls hC hP1 hD1 hS1 hl)
theorem J_aald2 {len : Nat} {f : Nat → Option Nat} {n : Nat} {i : Int32} {v : Value} (hdg : decode cc pc = .ok (.aaload, 1)) (q0 : Nat) (he : ws[q0]? = some (ad n, .inl (jcA X 2, len, .inr (.inr (.inr (.inr f)))))) (hi : vp_in i len) (hv : va_rf (f i.toNatClampNeg) = em ad v) (kk : Jg X own cc nL ret nm d CR SR (Q) ad (cells) (slots) (pc + 1) (lv) (v :: st) (ws)) : Jg X own cc nL ret nm d CR SR (Q) ad (cells) (slots) (pc) (lv) (.int i :: .ref n :: st) (ws) := by
  intro p e R s m args below meth c H locs ls hC hP hD hS hl
  obtain ⟨hx, hb, hml, hr, hnm, hown, hts, hlk, hfr, hlo, hcr, hsr, hE, hz⟩ := id hC
  have hK := hE.2.1
  refine va_aldq hx hb hK hP q0 2 (C := RX1) he rfl hi hdg ?_
  rw [hv]
  exact kk p e R s m args below meth c H locs ls hC hP hD hS hl
theorem J_aast2 {len : Nat} {f : Nat → Option Nat} {n v : Nat} {vs : List Value} {i : Int32} (hdg : decode cc pc = .ok (.aastore, 1)) (q0 qk : Nat) (he : ws[q0]? = some (ad n, .inl (jcA X 2, len, .inr (.inr (.inr (.inr f)))))) (hv : ws[qk]? = some (ad v, .inr (1, vs))) (hi : vp_in i len) (kk : Jg X own cc nL ret nm d CR SR (Q) ad (cells) (slots) (pc + 1) (lv) (st) (ws.set q0 (ad n, .inl (jcA X 2, len, .inr (.inr (.inr (.inr (va_up f i.toNatClampNeg (some (ad v)))))))))) : Jg X own cc nL ret nm d CR SR (Q) ad (cells) (slots) (pc) (lv) (.ref v :: .int i :: .ref n :: st) (ws) := by
  intro p e R s m args below meth c H locs ls hC hP hD hS hl
  obtain ⟨hx, hb, hml, hr, hnm, hown, hts, hlk, hfr, hlo, hcr, hsr, hE, hz⟩ := id hC
  have hK := hE.2.1
  exact va_astq hx hb hK hP hD hS q0 2 qk 1 he rfl hv rfl hi hdg (fun H1 locs1 hP1 hD1 hS1 => kk p e R s m args below meth c H1 locs1 ls hC hP1 hD1 hS1 hl)
theorem J_aald3 {len : Nat} {f : Nat → Option Nat} {n : Nat} {i : Int32} {v : Value} (hdg : decode cc pc = .ok (.aaload, 1)) (q0 : Nat) (he : ws[q0]? = some (ad n, .inl (jcA X 3, len, .inr (.inr (.inr (.inr f)))))) (hi : vp_in i len) (hv : va_rf (f i.toNatClampNeg) = em ad v) (kk : Jg X own cc nL ret nm d CR SR (Q) ad (cells) (slots) (pc + 1) (lv) (v :: st) (ws)) : Jg X own cc nL ret nm d CR SR (Q) ad (cells) (slots) (pc) (lv) (.int i :: .ref n :: st) (ws) := by
  intro p e R s m args below meth c H locs ls hC hP hD hS hl
  obtain ⟨hx, hb, hml, hr, hnm, hown, hts, hlk, hfr, hlo, hcr, hsr, hE, hz⟩ := id hC
  have hK := hE.2.1
  refine va_aldq hx hb hK hP q0 3 (C := RX0) he rfl hi hdg ?_
  rw [hv]
  exact kk p e R s m args below meth c H locs ls hC hP hD hS hl
theorem J_aast3 {len : Nat} {f : Nat → Option Nat} {n v : Nat} {vs : List Value} {i : Int32} (hdg : decode cc pc = .ok (.aastore, 1)) (q0 qk : Nat) (he : ws[q0]? = some (ad n, .inl (jcA X 3, len, .inr (.inr (.inr (.inr f)))))) (hv : ws[qk]? = some (ad v, .inr (0, vs))) (hi : vp_in i len) (kk : Jg X own cc nL ret nm d CR SR (Q) ad (cells) (slots) (pc + 1) (lv) (st) (ws.set q0 (ad n, .inl (jcA X 3, len, .inr (.inr (.inr (.inr (va_up f i.toNatClampNeg (some (ad v)))))))))) : Jg X own cc nL ret nm d CR SR (Q) ad (cells) (slots) (pc) (lv) (.ref v :: .int i :: .ref n :: st) (ws) := by
  intro p e R s m args below meth c H locs ls hC hP hD hS hl
  obtain ⟨hx, hb, hml, hr, hnm, hown, hts, hlk, hfr, hlo, hcr, hsr, hE, hz⟩ := id hC
  have hK := hE.2.1
  exact va_astq hx hb hK hP hD hS q0 3 qk 0 he rfl hv rfl hi hdg (fun H1 locs1 hP1 hD1 hS1 => kk p e R s m args below meth c H1 locs1 ls hC hP1 hD1 hS1 hl)
theorem J_new {C : String} {T : u_T} {N ci index : Nat} (hc : vwCl[ci]? = some (C, T, N)) (hin : ∀ w ∈ u_ws C T N, w ∈ TW) (ty : Nat → FieldType) (hty : ∀ k, k < N → parseFieldDescriptor (T k).2.2.1 = some (ty k)) (hcl : Cond.classLink own index C ∈ TW) (hinst : Cond.instantiable C N ∈ TW) (hini : Cond.initialized C ∈ TW) {fs : List Value} (hfs : ∀ j, j < N → defaultValue (ty j) = vp_V fs j) (hf : cells + 1 ≤ CR ∧ slots + N ≤ SR) (hdg : decode cc pc = .ok (.new index, 3)) (kk : ∀ q : Nat, Jg X own cc nL ret nm d CR SR (Q) (fun n => n) (cells + 1) (slots + N) (pc + 3) (lv) (.ref q :: st) (ws ++ [(q, .inr (ci, fs))])) : Jg X own cc nL ret nm d CR SR (Q) (fun n => n) (cells) (slots) (pc) (lv) (st) (ws) := by
  intro p e R s m args below meth c H locs ls hC hP hD hS hl
  obtain ⟨hx, hb, hml, hr, hnm, hown, hts, hlk, hfr, hlo, hcr, hsr, hE, hz⟩ := id hC
  have hK := hE.2.1
  exact va_new hx hb hts hin ty hty hown (hts _ hcl) (hts _ hinst) (hts _ hini) hK hP hD hS (fun q h => Nat.le_trans hz h) hc hfs (Nat.le_trans hf.1 hcr) (Nat.le_trans hf.2 hsr) hdg (fun q H1 hP1 hD1 hS1 => kk q p e R s m args below meth c H1 locs ls hC hP1 hD1 hS1 hl)
theorem jRA_one {U : State} {c1 c2 : ClassId} {ty : FieldType} (h1 : va_RA U c1 ty) (h2 : va_RA U c2 ty) : c1 = c2 := by
  cases ty with
  | object C =>
    obtain ⟨_, _, _, _, _, e1⟩ := h1
    obtain ⟨_, _, _, _, _, e2⟩ := h2
    exact Option.some.inj (e1.symm.trans e2)
  | _ => exact Option.some.inj (h1.symm.trans h2)
theorem jK_one {X : jX} {U : State} {cA : ClassId} {ty : FieldType} (h : va_K (jD X) vwCl (jT X ++ [(cA, ty)]) U) (t : Nat) (ht : (jT X)[t]? = some (jcA X t, ty)) : cA = jcA X t := by
  have h1 := (h.2 4 (cA, ty) rfl).2
  have h2 := (h.2 t (jcA X t, ty) (by rw [List.getElem?_append_left (List.getElem?_eq_some_iff.mp ht).1]; exact ht)).2
  exact jRA_one h1 h2
theorem J_newi {n : Int32} {N : Nat} (harr : Cond.arrayClass .int ∈ TW) (hn : ¬ n < 0) (hN : n.toNatClampNeg = N) (hbytes : N * 4 ≤ 536870912) (hf : cells + 1 ≤ CR ∧ slots + N ≤ SR) (hdg : decode cc pc = .ok (.newarray .int, 2)) (kk : ∀ q : Nat, Jg X own cc nL ret nm d CR SR (Q) (fun n => n) (cells + 1) (slots + N) (pc + 2) (lv) (.ref q :: st) (ws ++ [(q, .inl (jcA X 0, N, .inl (fun _ => 0)))])) : Jg X own cc nL ret nm d CR SR (Q) (fun n => n) (cells) (slots) (pc) (lv) (.int n :: st) (ws) := by
  intro p e R s m args below meth c H locs ls hC hP hD hS hl
  obtain ⟨hx, hb, hml, hr, hnm, hown, hts, hlk, hfr, hlo, hcr, hsr, hE, hz⟩ := id hC
  have hK := hE.2.1
  refine va_newa (atype := .int) hx hb (hts _ harr) rfl hK hP hD hS (fun q h => Nat.le_trans hz h) (a0 := (N, .inl (fun _ => 0))) (fun cA => rfl) hn hN hbytes (Nat.le_trans hf.1 hcr) (Nat.le_trans hf.2 hsr) hdg (fun q cA H1 hK1 hP1 hD1 hS1 => ?_)
  have e : cA = jcA X 0 := jK_one hK1 0 rfl
  subst e
  exact kk q p e R s m args below meth c H1 locs ls hC hP1 hD1 hS1 hl
theorem J_newz {n : Int32} {N : Nat} (harr : Cond.arrayClass .boolean ∈ TW) (hn : ¬ n < 0) (hN : n.toNatClampNeg = N) (hbytes : N * 1 ≤ 536870912) (hf : cells + 1 ≤ CR ∧ slots + N ≤ SR) (hdg : decode cc pc = .ok (.newarray .boolean, 2)) (kk : ∀ q : Nat, Jg X own cc nL ret nm d CR SR (Q) (fun n => n) (cells + 1) (slots + N) (pc + 2) (lv) (.ref q :: st) (ws ++ [(q, .inl (jcA X 1, N, .inl (fun _ => 0)))])) : Jg X own cc nL ret nm d CR SR (Q) (fun n => n) (cells) (slots) (pc) (lv) (.int n :: st) (ws) := by
  intro p e R s m args below meth c H locs ls hC hP hD hS hl
  obtain ⟨hx, hb, hml, hr, hnm, hown, hts, hlk, hfr, hlo, hcr, hsr, hE, hz⟩ := id hC
  have hK := hE.2.1
  refine va_newa (atype := .boolean) hx hb (hts _ harr) rfl hK hP hD hS (fun q h => Nat.le_trans hz h) (a0 := (N, .inl (fun _ => 0))) (fun cA => rfl) hn hN hbytes (Nat.le_trans hf.1 hcr) (Nat.le_trans hf.2 hsr) hdg (fun q cA H1 hK1 hP1 hD1 hS1 => ?_)
  have e : cA = jcA X 1 := jK_one hK1 1 rfl
  subst e
  exact kk q p e R s m args below meth c H1 locs ls hC hP1 hD1 hS1 hl
theorem J_newq2 {index : Nat} {n : Int32} {N : Nat} (hcl : Cond.classLink own index RX1 ∈ TW) (hn : ¬ n < 0) (hN : n.toNatClampNeg = N) (hbytes : N * 4 ≤ 536870912) (hf : cells + 1 ≤ CR ∧ slots + N ≤ SR) (hdg : decode cc pc = .ok (.anewarray index, 3)) (kk : ∀ q : Nat, Jg X own cc nL ret nm d CR SR (Q) (fun n => n) (cells + 1) (slots + N) (pc + 3) (lv) (.ref q :: st) (ws ++ [(q, .inl (jcA X 2, N, .inr (.inr (.inr (.inr (fun _ => none))))))])) : Jg X own cc nL ret nm d CR SR (Q) (fun n => n) (cells) (slots) (pc) (lv) (.int n :: st) (ws) := by
  intro p e R s m args below meth c H locs ls hC hP hD hS hl
  obtain ⟨hx, hb, hml, hr, hnm, hown, hts, hlk, hfr, hlo, hcr, hsr, hE, hz⟩ := id hC
  have hK := hE.2.1
  refine va_newq hx hb hown (hts _ hcl) (hE.2.2.2.1) hK hP hD hS (fun q h => Nat.le_trans hz h) hn hN hbytes (Nat.le_trans hf.1 hcr) (Nat.le_trans hf.2 hsr) hdg (fun q cA H1 hK1 hP1 hD1 hS1 => ?_)
  have e : cA = jcA X 2 := jK_one hK1 2 rfl
  subst e
  exact kk q p e R s m args below meth c H1 locs ls hC hP1 hD1 hS1 hl
theorem J_newq3 {index : Nat} {n : Int32} {N : Nat} (hcl : Cond.classLink own index RX0 ∈ TW) (hn : ¬ n < 0) (hN : n.toNatClampNeg = N) (hbytes : N * 4 ≤ 536870912) (hf : cells + 1 ≤ CR ∧ slots + N ≤ SR) (hdg : decode cc pc = .ok (.anewarray index, 3)) (kk : ∀ q : Nat, Jg X own cc nL ret nm d CR SR (Q) (fun n => n) (cells + 1) (slots + N) (pc + 3) (lv) (.ref q :: st) (ws ++ [(q, .inl (jcA X 3, N, .inr (.inr (.inr (.inr (fun _ => none))))))])) : Jg X own cc nL ret nm d CR SR (Q) (fun n => n) (cells) (slots) (pc) (lv) (.int n :: st) (ws) := by
  intro p e R s m args below meth c H locs ls hC hP hD hS hl
  obtain ⟨hx, hb, hml, hr, hnm, hown, hts, hlk, hfr, hlo, hcr, hsr, hE, hz⟩ := id hC
  have hK := hE.2.1
  refine va_newq hx hb hown (hts _ hcl) (hE.2.2.2.2.1) hK hP hD hS (fun q h => Nat.le_trans hz h) hn hN hbytes (Nat.le_trans hf.1 hcr) (Nat.le_trans hf.2 hsr) hdg (fun q cA H1 hK1 hP1 hD1 hS1 => ?_)
  have e : cA = jcA X 3 := jK_one hK1 3 rfl
  subst e
  exact kk q p e R s m args below meth c H1 locs ls hC hP1 hD1 hS1 hl
theorem J_objInit {idx n : Nat} (hl1 : Cond.methodLink own idx Lib.objectInit ∈ TW) (hi1 : Cond.instanceMethod Lib.objectInit ∈ TW) (hc1 : Cond.code Lib.objectInit ⟨#[0xb1]⟩ 1 none ∈ TW) (hdg : decode cc pc = .ok (.invokespecial idx, 3)) (hd : 1 ≤ d) (hcat : (st.map fun v => v.category).sum ≤ 8) (kk : Jg X own cc nL ret nm d CR SR (Q) ad (cells) (slots) (pc + 3) (lv) (st) (ws)) : Jg X own cc nL ret nm d CR SR (Q) ad (cells) (slots) (pc) (lv) (.ref n :: st) (ws) := by
  intro p e R s m args below meth c H locs ls hC hP hD hS hl
  obtain ⟨hx, hb, hml, hr, hnm, hown, hts, hlk, hfr, hlo, hcr, hsr, hE, hz⟩ := id hC
  have hK := hE.2.1
  have hcat' : ((st.map (em ad)).map fun v => v.category).sum ≤ 8 := by rw [List.map_map]; simpa [Function.comp_def, em_cat] using hcat
  exact W.objInit hx hb hown (hts _ hl1) (hts _ hi1) (hts _ hc1) rfl (by rw [hml]; exact hl.1) rfl hdg (by omega) (by show 2 * 0 + _ + 12 ≤ _; omega) (kk p e R s m args below meth c H locs ls hC hP hD hS hl)
end RULES
end
section
section RULES
variable {X : jX} {own : String} {cc : ByteArray} {nL : Nat} {ret : Option FieldType} {nm : String} {d CR SR : Nat} {Q : List Frame → Array Value → State → State → Prop} {ad : Nat → Nat} {cells slots pc : Nat} {lv : List (Nat × Value)} {st : List Value} {ws : va_W}
theorem em_sum (ad : Nat → Nat) (st : List Value) : ((st.map (em ad)).map fun v => v.category).sum = (st.map fun v => v.category).sum := by rw [List.map_map]; simp [Function.comp_def, em_cat]
theorem J_getsN {index n : Nat} {nme : String} (k : Nat) (hst : (jStat X)[k]? = some (RX5, nme, "[I", .ref (ad n))) (hlink : Cond.fieldLinkNest own index RX5 nme "[I" RX5 ∈ jNest) (hdg : decode cc pc = .ok (.getstatic index, 3)) (kk : Jg X own cc nL ret nm d CR SR (Q) ad (cells) (slots) (pc + 3) (lv) (.ref n :: st) (ws)) : Jg X own cc nL ret nm d CR SR (Q) ad (cells) (slots) (pc) (lv) (st) (ws) := by
  intro p e R s m args below meth c H locs ls hC hP hD hS hl
  obtain ⟨hx, hb, hml, hr, hnm, hown, hts, hlk, hfr, hlo, hcr, hsr, hE, hz⟩ := id hC
  have hK := hE.2.1
  have hZ := hE.2.2.2.2.2.1 _ (List.mem_of_getElem? hst)
  exact va_getsN hx hb hZ hS hown (va_Nw.use rfl (hE.1 _ hlink)) (fun _ h => h) hdg (kk p e R s m args below meth c H locs ls hC hP hD hS hl)
theorem J_getsCompact {index : Nat} (hlink : Cond.fieldLink own index "java/lang/String" "COMPACT_STRINGS" "Z" ∈ TW) (hdg : decode cc pc = .ok (.getstatic index, 3)) (kk : Jg X own cc nL ret nm d CR SR (Q) ad (cells) (slots) (pc + 3) (lv) (.int 1 :: st) (ws)) : Jg X own cc nL ret nm d CR SR (Q) ad (cells) (slots) (pc) (lv) (st) (ws) := by
  intro p e R s m args below meth c H locs ls hC hP hD hS hl
  obtain ⟨hx, hb, hml, hr, hnm, hown, hts, hlk, hfr, hlo, hcr, hsr, hE, hz⟩ := id hC
  have hK := hE.2.1
  have hZ := hE.2.2.2.2.2.1 ("java/lang/String", "COMPACT_STRINGS", "Z", .int 1) (List.mem_of_getElem? (i := 3) rfl)
  exact va_gets hx hb hZ hS hown (hts _ hlink) (fun _ h => h) hdg (kk p e R s m args below meth c H locs ls hC hP hD hS hl)
/-- a static that holds a reference or null -/
theorem J_getsForm {index n : Nat} (ha : ad n = jx X 3) (hlink : Cond.fieldLink own index "jdk/internal/util/Preconditions" "SIOOBE_FORMATTER" "Ljava/util/function/BiFunction;" ∈ TW) (hdg : decode cc pc = .ok (.getstatic index, 3)) (kk : ∀ v : Value, v = .null ∨ v = .ref n → Jg X own cc nL ret nm d CR SR (Q) ad (cells) (slots) (pc + 3) (lv) (v :: st) (ws)) : Jg X own cc nL ret nm d CR SR (Q) ad (cells) (slots) (pc) (lv) (st) (ws) := by
  intro p e R s m args below meth c H locs ls hC hP hD hS hl
  obtain ⟨hx, hb, hml, hr, hnm, hown, hts, hlk, hfr, hlo, hcr, hsr, hE, hz⟩ := id hC
  have hK := hE.2.1
  rcases hE.2.2.2.2.2.2.2.2.1 with hZ | hZ
  · exact va_gets hx hb hZ hS hown (hts _ hlink) (fun _ h => h) hdg (kk _ (Or.inl rfl) p e R s m args below meth c H locs ls hC hP hD hS hl)
  · rw [← ha] at hZ
    exact va_gets hx hb hZ hS hown (hts _ hlink) (fun _ h => h) hdg (kk _ (Or.inr rfl) p e R s m args below meth c H locs ls hC hP hD hS hl)
theorem J_ti {n : Nat} {i x : Int32} {xs : List Int32} (k : Nat) (ha : (jArr X)[k]? = some (ad n, xs)) (hi : vp_in i 5) (hv : xs.getD i.toNatClampNeg 0 = x) (hdg : decode cc pc = .ok (.iaload, 1)) (kk : Jg X own cc nL ret nm d CR SR (Q) ad (cells) (slots) (pc + 1) (lv) (.int x :: st) (ws)) : Jg X own cc nL ret nm d CR SR (Q) ad (cells) (slots) (pc) (lv) (.int i :: .ref n :: st) (ws) := by
  intro p e R s m args below meth c H locs ls hC hP hD hS hl
  obtain ⟨hx, hb, hml, hr, hnm, hown, hts, hlk, hfr, hlo, hcr, hsr, hE, hz⟩ := id hC
  have hK := hE.2.1
  have hT := hE.2.2.2.2.2.2.1 _ (List.mem_of_getElem? ha)
  exact va_ti hx hb hT hS hi (v := .int x) (by rw [hv]) hdg (kk p e R s m args below meth c H locs ls hC hP hD hS hl)
theorem J_sld {n : Nat} {i : Int32} (ha : ad n = jb X) (hi : vp_in i (jL X)) (hdg : decode cc pc = .ok (.iaload, 1)) (kk : Jg X own cc nL ret nm d CR SR (Q) ad (cells) (slots) (pc + 1) (lv) (.int (jxs X i.toNatClampNeg) :: st) (ws)) : Jg X own cc nL ret nm d CR SR (Q) ad (cells) (slots) (pc) (lv) (.int i :: .ref n :: st) (ws) := by
  intro p e R s m args below meth c H locs ls hC hP hD hS hl
  obtain ⟨hx, hb, hml, hr, hnm, hown, hts, hlk, hfr, hlo, hcr, hsr, hE, hz⟩ := id hC
  have hK := hE.2.1
  obtain ⟨hXs, hb1⟩ := hE.2.2.2.2.2.2.2.2.2.2.2
  have h0 := va_sld (rest := st.map (em ad)) (ls := ls) (pc := pc) (cells := cells) (slots := slots) (Q := Q below args s) (e := e) (R := R) (below := below) (meth := meth) (l := jl X) hx hb hXs (Nat.lt_of_lt_of_le hb1 hz) (Nat.not_le.mpr hb1) hS hi hdg (kk p e R s m args below meth c H locs ls hC hP hD hS hl)
  rw [← ha] at h0
  exact h0
theorem J_slen {n : Nat} (ha : ad n = jb X) (hdg : decode cc pc = .ok (.arraylength, 1)) (kk : Jg X own cc nL ret nm d CR SR (Q) ad (cells) (slots) (pc + 1) (lv) (.int (nI (jL X)) :: st) (ws)) : Jg X own cc nL ret nm d CR SR (Q) ad (cells) (slots) (pc) (lv) (.ref n :: st) (ws) := by
  intro p e R s m args below meth c H locs ls hC hP hD hS hl
  obtain ⟨hx, hb, hml, hr, hnm, hown, hts, hlk, hfr, hlo, hcr, hsr, hE, hz⟩ := id hC
  have hK := hE.2.1
  obtain ⟨hXs, hb1⟩ := hE.2.2.2.2.2.2.2.2.2.2.2
  have h0 := va_slen (rest := st.map (em ad)) (ls := ls) (pc := pc) (cells := cells) (slots := slots) (Q := Q below args s) (e := e) (R := R) (below := below) (meth := meth) (l := jl X) hx hb hXs (Nat.lt_of_lt_of_le hb1 hz) (Nat.not_le.mpr hb1) hS hdg (kk p e R s m args below meth c H locs ls hC hP hD hS hl)
  rw [← ha] at h0
  exact h0
theorem J_ldcS {index n : Nat} (hown1 : own = RX4) (i : Nat) (hi : i < 7) (hix : index = 77 + 2 * i) (ha : ad n = jx X (10 + i)) (hdg : decode cc pc = .ok (.ldc index, 2)) (kk : Jg X own cc nL ret nm d CR SR (Q) ad (cells) (slots) (pc + 2) (lv) (.ref n :: st) (ws)) : Jg X own cc nL ret nm d CR SR (Q) ad (cells) (slots) (pc) (lv) (st) (ws) := by
  intro p e R s m args below meth c H locs ls hC hP hD hS hl
  obtain ⟨hx, hb, hml, hr, hnm, hown, hts, hlk, hfr, hlo, hcr, hsr, hE, hz⟩ := id hC
  have hK := hE.2.1
  have hR := hE.2.2.2.2.2.2.2.2.2.1 i hi
  subst hix
  subst hown1
  rw [← ha] at hR
  exact va_ldcS hx hb hown hR hdg (kk p e R s m args below meth c H locs ls hC hP hD hS hl)
theorem J_sval {index n q : Nat} (i : Nat) (hi : i < 7) (ha : ad n = jx X (10 + i)) (hq : ad q = jx X (20 + i)) (hlink : Cond.fieldLink own index "java/lang/String" "value" "[B" ∈ TW) (hdg : decode cc pc = .ok (.getfield index, 3)) (kk : Jg X own cc nL ret nm d CR SR (Q) ad (cells) (slots) (pc + 3) (lv) (.ref q :: st) (ws)) : Jg X own cc nL ret nm d CR SR (Q) ad (cells) (slots) (pc) (lv) (.ref n :: st) (ws) := by
  intro p e R s m args below meth c H locs ls hC hP hD hS hl
  obtain ⟨hx, hb, hml, hr, hnm, hown, hts, hlk, hfr, hlo, hcr, hsr, hE, hz⟩ := id hC
  have hK := hE.2.1
  have h1 := ((hE.2.2.2.2.2.2.2.2.2.2.1).1 i hi).2.2.1
  dsimp only at h1
  rw [← ha, ← hq] at h1
  exact vk_getf hx hb h1 hS hown (hts _ hlink) (fun _ h => h) hdg (kk p e R s m args below meth c H locs ls hC hP hD hS hl)
theorem J_scoder {index n : Nat} (i : Nat) (hi : i < 7) (ha : ad n = jx X (10 + i)) (hlink : Cond.fieldLink own index "java/lang/String" "coder" "B" ∈ TW) (hdg : decode cc pc = .ok (.getfield index, 3)) (kk : Jg X own cc nL ret nm d CR SR (Q) ad (cells) (slots) (pc + 3) (lv) (.int 0 :: st) (ws)) : Jg X own cc nL ret nm d CR SR (Q) ad (cells) (slots) (pc) (lv) (.ref n :: st) (ws) := by
  intro p e R s m args below meth c H locs ls hC hP hD hS hl
  obtain ⟨hx, hb, hml, hr, hnm, hown, hts, hlk, hfr, hlo, hcr, hsr, hE, hz⟩ := id hC
  have hK := hE.2.1
  have h1 := ((hE.2.2.2.2.2.2.2.2.2.2.1).1 i hi).2.1
  dsimp only at h1
  rw [← ha] at h1
  exact vk_getf hx hb h1 hS hown (hts _ hlink) (fun _ h => h) hdg (kk p e R s m args below meth c H locs ls hC hP hD hS hl)
theorem J_slenb {n : Nat} {v : Int32} (i : Nat) (hi : i < 7) (ha : ad n = jx X (20 + i)) (hv : Int32.ofNat (jLen.getD i 0) = v) (hdg : decode cc pc = .ok (.arraylength, 1)) (kk : Jg X own cc nL ret nm d CR SR (Q) ad (cells) (slots) (pc + 1) (lv) (.int v :: st) (ws)) : Jg X own cc nL ret nm d CR SR (Q) ad (cells) (slots) (pc) (lv) (.ref n :: st) (ws) := by
  intro p e R s m args below meth c H locs ls hC hP hD hS hl
  obtain ⟨hx, hb, hml, hr, hnm, hown, hts, hlk, hfr, hlo, hcr, hsr, hE, hz⟩ := id hC
  have hK := hE.2.1
  have h1 := ((hE.2.2.2.2.2.2.2.2.2.2.1).1 i hi).2.2.2
  dsimp only at h1
  rw [← ha] at h1
  exact va_tlen hx hb h1 hS hv hdg (kk p e R s m args below meth c H locs ls hC hP hD hS hl)
theorem J_sbyte {n : Nat} {k x : Int32} (i : Nat) (hi : i < 7) (ha : ad n = jx X (20 + i)) (hk : vp_in k (jLen.getD i 0)) (hv : (jByt.getD i []).getD k.toNatClampNeg 0 = x) (hdg : decode cc pc = .ok (.baload, 1)) (kk : Jg X own cc nL ret nm d CR SR (Q) ad (cells) (slots) (pc + 1) (lv) (.int x :: st) (ws)) : Jg X own cc nL ret nm d CR SR (Q) ad (cells) (slots) (pc) (lv) (.int k :: .ref n :: st) (ws) := by
  intro p e R s m args below meth c H locs ls hC hP hD hS hl
  obtain ⟨hx, hb, hml, hr, hnm, hown, hts, hlk, hfr, hlo, hcr, hsr, hE, hz⟩ := id hC
  have hK := hE.2.1
  have h1 := ((hE.2.2.2.2.2.2.2.2.2.2.1).1 i hi).2.2.2
  dsimp only at h1
  rw [← ha] at h1
  exact va_tb hx hb h1 hS hk (v := .int x) (by rw [hv]) hdg (kk p e R s m args below meth c H locs ls hC hP hD hS hl)
theorem J_copy {index : Nat} {n0 n1 len0 len1 : Nat} {f g : Nat → Int32} {sp dp n : Int32} (hlink : Cond.methodLink own index arraycopyName ∈ TW) (hnat : Cond.native arraycopyName ∈ TW) (hstat : Cond.static arraycopyName ∈ TW) (hini : Cond.initialized "java/lang/System" ∈ TW) (hdg : decode cc pc = .ok (.invokestatic index, 3)) (hd : 1 ≤ d) (hst : st.length ≤ 1) (q0 q1 : Nat) (h0 : ws[q0]? = some (ad n0, .inl (jcA X 0, len0, .inl f))) (h1 : ws[q1]? = some (ad n1, .inl (jcA X 0, len1, .inl g))) (hs : ¬ sp < 0) (hp : ¬ dp < 0) (hn : ¬ n < 0) (h4 : sp.toNatClampNeg + n.toNatClampNeg ≤ len0) (h5 : dp.toNatClampNeg + n.toNatClampNeg ≤ len1) (kk : Jg X own cc nL ret nm d CR SR (Q) ad (cells) (slots) (pc + 3) (lv) (st) (ws.set q1 (ad n1, .inl (jcA X 0, len1, .inl (va_cpy f g sp.toNatClampNeg dp.toNatClampNeg n.toNatClampNeg))))) : Jg X own cc nL ret nm d CR SR (Q) ad (cells) (slots) (pc) (lv) (.int n :: .int dp :: .ref n1 :: .int sp :: .ref n0 :: st) (ws) := by
  intro p e R s m args below meth c H locs ls hC hP hD hS hl
  obtain ⟨hx, hb, hml, hr, hnm, hown, hts, hlk, hfr, hlo, hcr, hsr, hE, hz⟩ := id hC
  have hK := hE.2.1
  have hcat : ((st.map (em ad)).map fun v => v.category).sum ≤ 2 := by
    rw [em_sum]
    match st, hst with
    | [], _ => simp
    | [v], _ => rcases lv_cat v with h | h <;> simp [h]
  have hw0 : nativeFrameWords "java/lang/System" "arraycopy" 5 ≤ 25 := by decide +kernel
  exact va_copyi hx hb (by rw [hml]; exact hl.1.symm) hown (hts _ hlink) (hts _ hnat) (hts _ hstat) (hts _ hini) hK hP hD hS q0 q1 0 0 h0 h1 rfl rfl rfl hs hp hn h4 h5 (fun _ _ => rfl) (by omega) (by omega) hdg (fun H1 locs1 hP1 hD1 hS1 => kk p e R s m args below meth c H1 locs1 ls hC hP1 hD1 hS1 hl)
theorem J_mmax {index : Nat} {x y : Int32} (hlink : Cond.methodLink own index Lib.Math.max.name ∈ TW) (hstat : Cond.static Lib.Math.max.name ∈ TW) (hini : Cond.initialized "java/lang/Math" ∈ TW) (hcode : Cond.code Lib.Math.max.name Lib.Math.max.code 2 (some .int) ∈ TW) (hdg : decode cc pc = .ok (.invokestatic index, 3)) (hd : 1 ≤ d) (hc1 : cells ≤ CR) (hs1 : slots ≤ SR) (hcat : (st.map fun v => v.category).sum ≤ 8) (kk : Jg X own cc nL ret nm d CR SR (Q) ad (cells) (slots) (pc + 3) (lv) (.int (if x < y then y else x) :: st) (ws)) : Jg X own cc nL ret nm d CR SR (Q) ad (cells) (slots) (pc) (lv) (.int y :: .int x :: st) (ws) := by
  intro p e R s m args below meth c H locs ls hC hP hD hS hl
  obtain ⟨hx, hb, hml, hr, hnm, hown, hts, hlk, hfr, hlo, hcr, hsr, hE, hz⟩ := id hC
  have hK := hE.2.1
  rw [← em_sum ad] at hcat
  exact va_mmax hx hb (by rw [hml]; exact hl.1.symm) hown (hts _ hlink) (hts _ hstat) (hts _ hini) (hts _ hcode) (by omega) (by omega) (Nat.le_trans hc1 hcr) (Nat.le_trans hs1 hsr) hdg (kk p e R s m args below meth c H locs ls hC hP hD hS hl)
theorem J_mmin {index : Nat} {x y : Int32} (hlink : Cond.methodLink own index Lib.Math.min.name ∈ TW) (hstat : Cond.static Lib.Math.min.name ∈ TW) (hini : Cond.initialized "java/lang/Math" ∈ TW) (hcode : Cond.code Lib.Math.min.name Lib.Math.min.code 2 (some .int) ∈ TW) (hdg : decode cc pc = .ok (.invokestatic index, 3)) (hd : 1 ≤ d) (hc1 : cells ≤ CR) (hs1 : slots ≤ SR) (hcat : (st.map fun v => v.category).sum ≤ 8) (kk : Jg X own cc nL ret nm d CR SR (Q) ad (cells) (slots) (pc + 3) (lv) (.int (if y < x then y else x) :: st) (ws)) : Jg X own cc nL ret nm d CR SR (Q) ad (cells) (slots) (pc) (lv) (.int y :: .int x :: st) (ws) := by
  intro p e R s m args below meth c H locs ls hC hP hD hS hl
  obtain ⟨hx, hb, hml, hr, hnm, hown, hts, hlk, hfr, hlo, hcr, hsr, hE, hz⟩ := id hC
  have hK := hE.2.1
  rw [← em_sum ad] at hcat
  exact va_mmin hx hb (by rw [hml]; exact hl.1.symm) hown (hts _ hlink) (hts _ hstat) (hts _ hini) (hts _ hcode) (by omega) (by omega) (Nat.le_trans hc1 hcr) (Nat.le_trans hs1 hsr) hdg (kk p e R s m args below meth c H locs ls hC hP hD hS hl)
/-- the first settings, cloned -/
theorem J_clone {index : Nat} {n : Nat} (ha : n = jx X 0) (hlink : Cond.methodLink own index ⟨"[I", "clone", "()Ljava/lang/Object;"⟩ ∈ TW) (hsame : Cond.sameMethod "[I" "java/lang/Object" "clone" "()Ljava/lang/Object;" ∈ TW) (hnat : Cond.native ⟨"java/lang/Object", "clone", "()Ljava/lang/Object;"⟩ ∈ TW) (hinst : Cond.instanceMethod ⟨"java/lang/Object", "clone", "()Ljava/lang/Object;"⟩ ∈ TW) (hsel : Cond.selects "[I" ⟨"[I", "clone", "()Ljava/lang/Object;"⟩ ⟨"java/lang/Object", "clone", "()Ljava/lang/Object;"⟩ ∈ TW) (hdg : decode cc pc = .ok (.invokevirtual index, 3)) (hd : 1 ≤ d) (hf : cells + 1 ≤ CR ∧ slots + 5 ≤ SR) (hcat : (st.map fun v => v.category).sum ≤ 8) (kk : ∀ q : Nat, Jg X own cc nL ret nm d CR SR (Q) (fun n => n) (cells + 1) (slots + 5) (pc + 3) (lv) (.ref q :: st) (ws ++ [(q, .inl (jcA X 0, 5, .inl (fun j => [1, 20, 3, 2, 120].getD j 0)))])) : Jg X own cc nL ret nm d CR SR (Q) (fun n => n) (cells) (slots) (pc) (lv) (.ref n :: st) (ws) := by
  intro p e R s m args below meth c H locs ls hC hP hD hS hl
  obtain ⟨hx, hb, hml, hr, hnm, hown, hts, hlk, hfr, hlo, hcr, hsr, hE, hz⟩ := id hC
  have hK := hE.2.1
  rw [← em_sum (fun n => n)] at hcat
  subst ha
  obtain ⟨cell, f1, f2, f3, f4, f5, f6, f7⟩ := hE.2.2.2.2.2.2.2.1
  have hcH : H[jx X 0]? = some cell := by rw [hS.2.1 _ (Array.getElem?_eq_some_iff.mp f1).1 f7]; exact f1
  obtain ⟨c0, t0, g1, g2, g3⟩ := Cond.castable_spec (va_Nw.use (A := args) rfl hE.2.2.1)
  have hRA : s.vm.findClass "[I" = some (jcA X 0) := (hK.2 0 _ rfl).2
  intro T hT Y
  have hcT : T.heap[jx X 0]? = some cell := by rw [hT]; exact hcH
  obtain ⟨-, kA, hkA, comp, hkind⟩ := State.isArrayOf_alike Y.warmed.alike f2
  obtain ⟨-, kS, hkS, compS, hkindS⟩ := f2
  have e0 : c0 = cell.cls := by rw [f6]; exact Option.some.inj (g1.symm.trans hRA)
  obtain ⟨vm', Y', stp⟩ := Y.cloneArray hx hown (hts _ hlink) (hts _ hsame) (hts _ hnat) (hts _ hinst) (hts _ hsel) (a := jx X 0) (cell := cell) hcT (fun k h => by rw [h] at f4; cases f4) f3 (by rw [f6]; exact hRA) g2 (by rw [← e0]; exact g3)
    (fun i v hv => by
      have hk' : T.vm.classes[cell.cls]? = some kA := hkA
      have hv' : ∃ x : Int32, v = .int x := by
        rw [f5] at hv
        have hlt : i < 5 := (Array.getElem?_eq_some_iff.mp hv).1
        match i, hlt, hv with
        | 0, _, hv => exact ⟨1, (Option.some.inj hv).symm⟩
        | 1, _, hv => exact ⟨20, (Option.some.inj hv).symm⟩
        | 2, _, hv => exact ⟨3, (Option.some.inj hv).symm⟩
        | 3, _, hv => exact ⟨2, (Option.some.inj hv).symm⟩
        | 4, _, hv => exact ⟨120, (Option.some.inj hv).symm⟩
      obtain ⟨x, rfl⟩ := hv'
      simp [State.fitsSlot, State.slotType?, hk', hkind, fits])
    (g := F0 m pc ls (.ref (jx X 0) :: st.map (em fun n => n))) rfl (by rw [hml]; exact hl.1) rfl (by rw [hb]; exact hdg) (by omega) (by show 2 * 0 + _ + 14 ≤ _; omega) (Nat.le_trans hf.1 hcr) (by rw [f5]; exact Nat.le_trans hf.2 hsr) (hloader := Vm.clonesLoader_of_array hkS hkindS)
  have hce : ({ cls := cell.cls, slots := cell.slots } : Cell) = vp_cell (jcA X 0) (5, .inl (fun j => [1, 20, 3, 2, 120].getD j 0)) := by
    rw [f5, f6]
    rfl
  have hs5 : cell.slots.size = 5 := by rw [f5]; rfl
  rw [hce, hs5] at Y'
  rw [hce] at stp
  generalize hx0 : ((5, Sum.inl (fun j => [1, 20, 3, 2, 120].getD j 0)) : vp_A) = x0 at Y' stp
  generalize hH1 : H.push (vp_cell (jcA X 0) x0) = H1
  have z1 : H1.size = H.size + 1 := by rw [← hH1, Array.size_push]
  have e1 : H1[H.size]? = some (vp_cell (jcA X 0) x0) := by rw [← hH1, Array.getElem?_push_size]
  have o1 : ∀ q : Nat, q < H.size → H1[q]? = H[q]? := fun q hq => by rw [← hH1, Array.getElem?_push, if_neg (Nat.ne_of_lt hq)]
  have hk : ∀ (k : Nat) (y : Nat × va_E), ws[k]? = some y → H1[y.1]? = H[y.1]? := fun k y hy => o1 y.1 ((hP k y hy).lt)
  have hP1 : va_P (jD X) vwCl (ws ++ [(H.size, .inl (jcA X 0, x0))]) H1 := (hP.kept hk).app (fun k y hy => by
      have hz : k < 1 := (List.getElem?_eq_some_iff.mp hy).1
      rw [show k = 0 by omega] at hy
      cases hy
      exact e1)
  subst hx0
  obtain ⟨t, b1, b2⟩ := kk H.size p e R s m args below meth c H1 locs ls hC hP1 (hD.push hP rfl (Nat.le_trans hz hS.1)) ⟨Nat.le_trans hS.1 (by omega), fun y h1 h2 => (o1 y (Nat.lt_of_lt_of_le h1 hS.1)).trans (hS.2.1 y h1 h2), hS.2.2⟩ hl
    ((T.setVm vm').pushCell (vp_cell (jcA X 0) (5, .inl (fun j => [1, 20, 3, 2, 120].getD j 0)))) (by rw [← hH1, ← hT]; rfl) Y'
  refine ⟨t, stp t ?_, b2⟩
  rw [hT]
  exact b1
theorem J_castI {index n : Nat} {x : vp_A} (hlink : Cond.classLink own index "[I" ∈ TW) (q0 : Nat) (he : ws[q0]? = some (ad n, .inl (jcA X 0, x))) (hdg : decode cc pc = .ok (.checkcast index, 3)) (kk : Jg X own cc nL ret nm d CR SR (Q) ad (cells) (slots) (pc + 3) (lv) (.ref n :: st) (ws)) : Jg X own cc nL ret nm d CR SR (Q) ad (cells) (slots) (pc) (lv) (.ref n :: st) (ws) := by
  intro p e R s m args below meth c H locs ls hC hP hD hS hl
  obtain ⟨hx, hb, hml, hr, hnm, hown, hts, hlk, hfr, hlo, hcr, hsr, hE, hz⟩ := id hC
  have hK := hE.2.1
  have hRA : s.vm.findClass "[I" = some (jcA X 0) := (hK.2 0 _ rfl).2
  exact va_castA hx hb hown (hts _ hlink) hP q0 he hRA hdg (kk p e R s m args below meth c H locs ls hC hP hD hS hl)
end RULES
/-- what a method answers, and the world behind it -/
def jQ (X : jX) (ad : Nat → Nat) (fin : Option Value → va_W → Prop) : Array Value → State → Outcome → State → Prop := fun _ st oc t => (∃ (v : Option Value) (ws' : va_W), oc = .returned (v.map (em ad)) ∧ fin v ws' ∧ va_P (jD X) vwCl ws' t.heap ∧ va_D (jA X) ws') ∧ va_F (jA X) st t
/-- a method's contract: from this world and these arguments it comes to an end that fin allows -/
def Ct (X : jX) (y : MethodName) (cc : ByteArray) (nL : Nat) (ret : Option FieldType) (d mc ms : Nat) (ad : Nat → Nat) (args : List Value) (ws : va_W) (fin : Option Value → va_W → Prop) : Prop :=
  Met (jl X) y (Cond.code y cc nL ret :: TW) ({ frames := d, cells := mc, slots := ms, locals := 40 * d } : Room) (va_Pc (args.map (em ad)) (fun U => jE X U U.heap ∧ jSZ X ≤ U.heap.size ∧ va_P (jD X) vwCl ws U.heap ∧ va_D (jA X) ws)) (jQ X ad fin) mc ms (jA X)
def QM (X : jX) (ad : Nat → Nat) (fin : Option Value → va_W → Prop) (mc ms : Nat) : List Frame → Array Value → State → State → Prop := fun below a s => MQ below (jQ X ad fin) a s mc ms (jA X)
theorem lg_sl_em (ad : Nat → Nat) (vs : List Value) : (lg_sl (vs.map (em ad))).length = (lg_sl vs).length := by
  induction vs with
  | nil => rfl
  | cons v t ih =>
    simp only [lg_sl, List.map_cons, List.flatMap_cons, List.length_append, em_cat] at ih ⊢
    rw [ih]
    split <;> rfl
theorem lv_args_em (ad : Nat → Nat) (vs : List Value) : ∀ i, lv_args i (vs.map (em ad)) = lvm ad (lv_args i vs) := by
  induction vs with
  | nil => intro i; rfl
  | cons v t ih =>
    intro i
    simp only [lv_args, List.map_cons, em_cat, ih, lvm]
theorem MetW {l : Launch} {y : MethodName} {ws ws' : List Cond} {rm : Room} {Pc : Array Value → State → Prop} {Qc : Array Value → State → Outcome → State → Prop} {mc ms : Nat} {free : Addr → Prop} {cc : ByteArray} {maxL : Nat} {ret : Option FieldType}
    (hy : plainFor y = true) (hw : ws = Cond.code y cc maxL ret :: ws')
    (body : ∀ p e s m args below meth c s₁, BodyLoose p l y (headSpec ws rm) cc maxL ret e s m args below meth c s₁ → c.maxLocals = maxL → Pc args s →
      W p l e (headSpec ws rm).room s m args below meth c s.heap [] 0 0 (MQ below Qc args s mc ms free) (entryFrame m args maxL)) : Met l y ws rm Pc Qc mc ms free := by
  refine MetFree.of_bodySF (code := cc) (maxLocals := maxL) (ret := ret) hy ?_ ?_
  · intro args s m h hn
    obtain ⟨meth, c, h1, h2, h3, h4, h5, h6, -, -⟩ := Cond.code_spec hn (atoms_spec (ws := ws) h _ (by rw [hw]; exact List.mem_cons_self))
    exact ⟨meth, c, h1, h2, h3, h4, h5, h6⟩
  · intro p e s m args below meth c s₁ B hml hP _
    have hh0 : s₁.heap = s.heap := by rw [B.state]; rfl
    obtain ⟨t, a1, o, b1, b2, b3⟩ := body p e s m args below meth c s₁ B hml hP s₁ hh0 (Stand.of_body B)
    exact ⟨t, o, a1, b1, b2, ⟨b3.1, b3.2⟩⟩
theorem Ct.of {X : jX} {y : MethodName} {cc : ByteArray} {nL : Nat} {ret : Option FieldType} {d mc ms : Nat} {ad : Nat → Nat} {args : List Value} {ws : va_W} {fin : Option Value → va_W → Prop} {own nm : String} {lv : List (Nat × Value)} (hy : plainFor y = true) (hown : y.cls = own) (hnm : y.name = nm) (hlen : Nat.ble (lg_sl args).length nL = true) (hlv : lv_args 0 args = lv)
    (h : Jg X own cc nL ret nm d mc ms (QM X ad fin mc ms) ad 0 0 0 lv [] ws) : Ct X y cc nL ret d mc ms ad args ws fin := by
  subst hown
  subst hnm
  subst hlv
  refine MetW (cc := cc) (maxL := nL) (ret := ret) hy rfl ?_
  intro p e s m args' below meth c s₁ B hml hv
  obtain ⟨rfl, hE, hz, hP, hD⟩ := hv
  have hts := atoms_spec (ws := Cond.code y cc nL ret :: TW) B.pre
  have hl := lv_entry (args.map (em ad)) (n := nL) (by rw [lg_sl_em]; exact Nat.le_of_ble_eq_true hlen)
  rw [lg_entry_eq]
  generalize (lg_sl (args.map (em ad)) ++ List.replicate (nL - (lg_sl (args.map (em ad))).length) Slot.unset).toArray = ls at hl ⊢
  rw [lv_args_em] at hl
  exact h p e _ s m _ below meth c s.heap [] ls ⟨B.exec, B.bytes, hml, B.returns, (name_of_methodNamed B.named B.method).1, findClass_of_methodNamed B.named, fun w hw => hts w (List.mem_cons_of_mem _ hw), B.notSynchronized, Nat.le_refl _, Nat.le_refl _, Nat.le_refl _, Nat.le_refl _, hE, hz⟩ hP hD va_S.rf hl
section ENDS
variable {X : jX} {own : String} {cc : ByteArray} {nL : Nat} {ret : Option FieldType} {nm : String} {d CR SR : Nat} {Q : List Frame → Array Value → State → State → Prop} {ad : Nat → Nat} {cells slots pc : Nat} {lv : List (Nat × Value)} {st : List Value} {ws : va_W}
theorem J_ireturn {fin : Option Value → va_W → Prop} {mc ms : Nat} {x : Int32} {ty : FieldType} (hdg : decode cc pc = .ok (.ireturn, 1)) (hn : narrow ty (.int x) = .int x) (hc1 : Nat.ble cells mc = true) (hs1 : Nat.ble slots ms = true) (hfin : fin (some (.int x)) ws) : Jg X own cc nL (some ty) nm d CR SR (QM X ad fin mc ms) ad (cells) (slots) (pc) (lv) ([.int x]) (ws) := by
  intro p e R s m args below meth c H locs ls hC hP hD hS hl
  obtain ⟨hx, hb, hml, hr, hnm, hown, hts, hlk, hfr, hlo, hcr, hsr, hE, hz⟩ := id hC
  have hK := hE.2.1
  refine W.widen (Nat.le_of_ble_eq_true hc1) (Nat.le_of_ble_eq_true hs1) ?_
  exact W.zret hx hb hr hn (fun t ht hW => ⟨⟨some (.int x), ws, rfl, hfin, by rw [ht]; exact hP, hD⟩, hS.F ht⟩) hS.2.2 hdg hlk
theorem J_areturn {fin : Option Value → va_W → Prop} {mc ms : Nat} {v : Value} {C : String} (hdg : decode cc pc = .ok (.areturn, 1)) (hv : v = .null ∨ ∃ a, v = .ref a) (hc1 : Nat.ble cells mc = true) (hs1 : Nat.ble slots ms = true) (hfin : fin (some v) ws) : Jg X own cc nL (some (.object C)) nm d CR SR (QM X ad fin mc ms) ad (cells) (slots) (pc) (lv) ([v]) (ws) := by
  intro p e R s m args below meth c H locs ls hC hP hD hS hl
  obtain ⟨hx, hb, hml, hr, hnm, hown, hts, hlk, hfr, hlo, hcr, hsr, hE, hz⟩ := id hC
  have hK := hE.2.1
  refine W.widen (Nat.le_of_ble_eq_true hc1) (Nat.le_of_ble_eq_true hs1) ?_
  exact W.aret hx hb hr (Or.inl ⟨_, rfl⟩) (by rcases hv with rfl | ⟨a, rfl⟩; exact Or.inl rfl; exact Or.inr ⟨_, rfl⟩) (fun t ht hW => ⟨⟨some v, ws, rfl, hfin, by rw [ht]; exact hP, hD⟩, hS.F ht⟩) hS.2.2 hdg hlk
theorem J_return {fin : Option Value → va_W → Prop} {mc ms : Nat} (hdg : decode cc pc = .ok (.return_, 1)) (hc1 : Nat.ble cells mc = true) (hs1 : Nat.ble slots ms = true) (hfin : fin none ws) : Jg X own cc nL none nm d CR SR (QM X ad fin mc ms) ad (cells) (slots) (pc) (lv) ([]) (ws) := by
  intro p e R s m args below meth c H locs ls hC hP hD hS hl
  obtain ⟨hx, hb, hml, hr, hnm, hown, hts, hlk, hfr, hlo, hcr, hsr, hE, hz⟩ := id hC
  have hK := hE.2.1
  refine W.widen (Nat.le_of_ble_eq_true hc1) (Nat.le_of_ble_eq_true hs1) ?_
  exact W.vret hx hb hr (fun t ht hW => ⟨⟨none, ws, rfl, hfin, by rw [ht]; exact hP, hD⟩, hS.F ht⟩) hS.2.2 hdg hlk
end ENDS
/-- the words of a call -/
def jWV (own : String) (idx : Nat) (C : String) (y : MethodName) (cc : ByteArray) (nL : Nat) (ret : Option FieldType) (n : Nat) : Prop := (Cond.methodLink own idx y ∈ TW ∧ Cond.instanceMethod y ∈ TW ∧ Cond.selects C y y ∈ TW ∧ Cond.initialized C ∈ TW ∧ Cond.code y cc nL ret ∈ TW) ∧ (y.cls = C ∧ y.cls ≠ "java/lang/invoke/MethodHandle" ∧ y.cls ≠ "java/lang/invoke/VarHandle" ∧ (parseMethodDescriptor y.desc).map (fun d => d.parameters.length) = some n) ∧ nL ≤ 21
def jWS (own : String) (idx : Nat) (y : MethodName) (cc : ByteArray) (nL : Nat) (ret : Option FieldType) (n : Nat) : Prop := (Cond.methodLink own idx y ∈ TW ∧ Cond.static y ∈ TW ∧ Cond.initialized y.cls ∈ TW ∧ Cond.code y cc nL ret ∈ TW) ∧ (y.cls ≠ "java/lang/invoke/MethodHandle" ∧ y.cls ≠ "java/lang/invoke/VarHandle" ∧ (parseMethodDescriptor y.desc).map (fun d => d.parameters.length) = some n) ∧ nL ≤ 21
def jWSN (own : String) (idx : Nat) (y : MethodName) (cc : ByteArray) (nL : Nat) (ret : Option FieldType) (n : Nat) : Prop := (Cond.methodLinkNest own idx y RX5 ∈ jNest ∧ Cond.static y ∈ TW ∧ Cond.initialized y.cls ∈ TW ∧ Cond.code y cc nL ret ∈ TW) ∧ (y.cls ≠ "java/lang/invoke/MethodHandle" ∧ y.cls ≠ "java/lang/invoke/VarHandle" ∧ (parseMethodDescriptor y.desc).map (fun d => d.parameters.length) = some n) ∧ nL ≤ 21
def jWI (own : String) (idx : Nat) (y : MethodName) (cc : ByteArray) (nL : Nat) (n : Nat) : Prop := (Cond.methodLink own idx y ∈ TW ∧ Cond.instanceMethod y ∈ TW ∧ Cond.initialized y.cls ∈ TW ∧ Cond.code y cc nL none ∈ TW) ∧ (y.cls ≠ "java/lang/invoke/MethodHandle" ∧ y.cls ≠ "java/lang/invoke/VarHandle" ∧ (parseMethodDescriptor y.desc).map (fun d => d.parameters.length) = some n) ∧ nL ≤ 21 ∧ y.name = "<init>"
def jWIN (own : String) (idx : Nat) (y : MethodName) (cc : ByteArray) (nL : Nat) (n : Nat) : Prop := (Cond.methodLinkNest own idx y RX5 ∈ jNest ∧ Cond.instanceMethod y ∈ TW ∧ Cond.initialized y.cls ∈ TW ∧ Cond.code y cc nL none ∈ TW) ∧ (y.cls ≠ "java/lang/invoke/MethodHandle" ∧ y.cls ≠ "java/lang/invoke/VarHandle" ∧ (parseMethodDescriptor y.desc).map (fun d => d.parameters.length) = some n) ∧ nL ≤ 21 ∧ y.name = "<init>"
theorem jBlind {X : jX} {av : List Value} {ws : va_W} : FrameBlind (va_Pc av (fun U => jE X U U.heap ∧ jSZ X ≤ U.heap.size ∧ va_P (jD X) vwCl ws U.heap ∧ va_D (jA X) ws)) := fun a U g mk q => by
  obtain ⟨e1, hE, hz, hP, hD⟩ := q
  exact ⟨e1, hE.same rfl rfl, hz, hP, hD⟩
theorem jCons {y : MethodName} {cc : ByteArray} {nL : Nat} {ret : Option FieldType} (h : Cond.code y cc nL ret ∈ TW) : ∀ w ∈ Cond.code y cc nL ret :: TW, w ∈ TW := fun w hw => by
  rcases List.mem_cons.mp hw with rfl | hw
  · exact h
  · exact hw
section CALLS
variable {X : jX} {own : String} {cc : ByteArray} {nL : Nat} {ret : Option FieldType} {nm : String} {d CR SR : Nat} {Q : List Frame → Array Value → State → State → Prop} {ad : Nat → Nat} {cells slots pc : Nat} {lv : List (Nat × Value)} {st : List Value} {ws : va_W}
theorem jRun {p : Program} {e : Env} {R : Room} {s : State} {m : MethodId} {args : Array Value} {below : List Frame} {meth : Method} {c : Code} {H : Heap} {locs : List Loc} {ls : Array Slot} {mc ms : Nat} {st0 rest : List Value} {a : Array Value} {fin : Option Value → va_W → Prop} {Q0 : State → Prop} (hr : va_Run p (jl X) e R s m args below meth c H locs cells slots mc ms (F0 m pc ls st0) rest (jQ X ad fin a) (jA X)) (hS : va_S (jA X) s.heap H locs)
    (kk : ∀ (v : Option Value) (ws' : va_W) (H1 : Heap) (locs1 : List Loc), fin v ws' → va_P (jD X) vwCl ws' H1 → va_D (jA X) ws' → va_S (jA X) s.heap H1 locs1 → W p (jl X) e R s m args below meth c H1 locs1 (cells + mc) (slots + ms) Q0 (F0 m (pc + 3) ls ((v.map (em ad)).toList ++ rest))) : W p (jl X) e R s m args below meth c H locs cells slots Q0 (F0 m pc ls st0) := by
  intro T hT Y
  obtain ⟨v, st₀, t, T', L, h0, Y', hL, e1, e2, ⟨⟨v1, ws', hv, hp, hP1, hD1⟩, hz, hk⟩, st⟩ := hr T hT Y
  cases hv
  rw [h0] at hz hk
  obtain ⟨t2, a1, b1⟩ := kk v1 ws' T'.heap (locs ++ L) hp (by rw [e1]; exact hP1) hD1
    ⟨Nat.le_trans hS.1 (by rw [e1]; exact hz), fun q h1 h2 => by rw [e1, hk q (Nat.lt_of_lt_of_le h1 hS.1) h2]; exact hS.2.1 q h1 h2, fun q hq => by
      rcases List.mem_append.mp hq with h | h
      · exact hS.2.2 q h
      · exact hL q h⟩ T' rfl Y'
  exact ⟨t2, st t2 a1, b1⟩
theorem J_callV {index : Nat} {y : MethodName} {cc' : ByteArray} {nL' : Nat} {C : String} {ret' : Option FieldType} {b ci : Nat} {fs : List Value} {r : vw_C} {d' mc ms n : Nat} {As : List Value} {st0 : List Value} {fin : Option Value → va_W → Prop} (hw : jWV own index C y cc' nL' ret' n) (hM : Ct X y cc' nL' ret' d' mc ms ad (.ref b :: As) ws fin) (hlen : As.length = n) (hst : st0 = As.reverse ++ .ref b :: st) (hdg : decode cc pc = .ok (.invokevirtual index, 3)) (q0 : Nat) (hrec : ws[q0]? = some (ad b, .inr (ci, fs))) (hcl : vwCl[ci]? = some r) (hrC : r.1 = C) (hd : Nat.ble (d' + 1) d = true) (hf : Nat.ble (cells + mc) CR = true ∧ Nat.ble (slots + ms) SR = true) (hcat : Nat.ble (st.map fun v => v.category).sum 8 = true) (kk : ∀ (v : Option Value) (ws' : va_W), fin v ws' → Jg X own cc nL ret nm d CR SR (Q) ad (cells + mc) (slots + ms) (pc + 3) (lv) (v.toList ++ st) (ws')) : Jg X own cc nL ret nm d CR SR (Q) ad (cells) (slots) (pc) (lv) (st0) (ws) := by
  intro p e R s m args below meth c H locs ls hC hP hD hS hl
  obtain ⟨hx, hb, hml, hr, hnm, hown, hts, hlk, hfr, hlo, hcr, hsr, hE, hz⟩ := id hC
  have hK := hE.2.1
  subst hst
  have hdd := Nat.le_of_ble_eq_true hd
  have hcat1 := Nat.le_of_ble_eq_true hcat
  rw [← em_sum ad] at hcat1
  have hpre : ∀ U : State, U.heap = H → s.WarmedH U.vm → va_Pc ((.ref b :: As).map (em ad)) (fun U => jE X U U.heap ∧ jSZ X ≤ U.heap.size ∧ va_P (jD X) vwCl ws U.heap ∧ va_D (jA X) ws) ((.ref b :: As).map (em ad)).toArray U := fun U hU hW => ⟨rfl, hE.go hz hS hU hW, by rw [hU]; exact Nat.le_trans hz hS.1, by rw [hU]; exact hP, hD⟩
  have hl8 : 8 + (nL' + 11) + 40 * d' ≤ R.locals := by have := hw.2.2; omega
  refine jRun (ad := ad) (va_runV (As := As.map (em ad)) (rest := st.map (em ad)) ⟨hx, hb, hml, hown, hts⟩ hM (cwV n hts (goodTW (fun w hw1 => by rcases List.mem_append.mp hw1 with h | h; rotate_left; exact jCons hw.1.2.2.2.2 w h; simp only [List.mem_cons, List.not_mem_nil, or_false] at h; rcases h with rfl | rfl | rfl | rfl; exact hw.1.1; exact hw.1.2.1; exact hw.1.2.2.1; exact hw.1.2.2.2.1)) rfl rfl rfl hw.2.1 ⟨by show d' + 1 ≤ _; omega, hl8⟩) ⟨jBlind, by rw [← hrC]; exact va_recv hK hP hcl hrec, hpre⟩ rfl (by rw [List.length_map]; exact hlen) hl.1 (by simp [em]) (lv_room hcat1) hdg ⟨Nat.le_trans (Nat.le_of_ble_eq_true hf.1) hcr, Nat.le_trans (Nat.le_of_ble_eq_true hf.2) hsr⟩) hS (fun v ws' H1 locs1 hv hP1 hD1 hS1 => ?_)
  have h9 := kk v ws' hv p e R s m args below meth c H1 locs1 ls hC hP1 hD1 hS1 hl
  rw [List.map_append] at h9
  cases v <;> exact h9
theorem J_callS {index : Nat} {y : MethodName} {cc' : ByteArray} {nL' : Nat} {ret' : Option FieldType} {d' mc ms n : Nat} {As : List Value} {st0 : List Value} {fin : Option Value → va_W → Prop} (hw : jWS own index y cc' nL' ret' n) (hM : Ct X y cc' nL' ret' d' mc ms ad As ws fin) (hlen : As.length = n) (hst : st0 = As.reverse ++ st) (hdg : decode cc pc = .ok (.invokestatic index, 3)) (hd : Nat.ble (d' + 1) d = true) (hf : Nat.ble (cells + mc) CR = true ∧ Nat.ble (slots + ms) SR = true) (hcat : Nat.ble (st.map fun v => v.category).sum 8 = true) (kk : ∀ (v : Option Value) (ws' : va_W), fin v ws' → Jg X own cc nL ret nm d CR SR (Q) ad (cells + mc) (slots + ms) (pc + 3) (lv) (v.toList ++ st) (ws')) : Jg X own cc nL ret nm d CR SR (Q) ad (cells) (slots) (pc) (lv) (st0) (ws) := by
  intro p e R s m args below meth c H locs ls hC hP hD hS hl
  obtain ⟨hx, hb, hml, hr, hnm, hown, hts, hlk, hfr, hlo, hcr, hsr, hE, hz⟩ := id hC
  have hK := hE.2.1
  subst hst
  have hdd := Nat.le_of_ble_eq_true hd
  have hcat1 := Nat.le_of_ble_eq_true hcat
  rw [← em_sum ad] at hcat1
  have hpre : ∀ U : State, U.heap = H → s.WarmedH U.vm → va_Pc (As.map (em ad)) (fun U => jE X U U.heap ∧ jSZ X ≤ U.heap.size ∧ va_P (jD X) vwCl ws U.heap ∧ va_D (jA X) ws) (As.map (em ad)).toArray U := fun U hU hW => ⟨rfl, hE.go hz hS hU hW, by rw [hU]; exact Nat.le_trans hz hS.1, by rw [hU]; exact hP, hD⟩
  have hl8 : 8 + (nL' + 11) + 40 * d' ≤ R.locals := by have := hw.2.2; omega
  refine jRun (ad := ad) (va_runS (As := As.map (em ad)) (rest := st.map (em ad)) ⟨hx, hb, hml, hown, hts⟩ hM (va_cwS n hts (goodTW (fun w hw1 => by rcases List.mem_append.mp hw1 with h | h; rotate_left; exact jCons hw.1.2.2.2 w h; simp only [List.mem_cons, List.not_mem_nil, or_false] at h; rcases h with rfl | rfl | rfl; exact hw.1.1; exact hw.1.2.1; exact hw.1.2.2.1)) rfl rfl rfl hw.2.1 ⟨by show d' + 1 ≤ _; omega, hl8⟩) ⟨jBlind, hpre⟩ rfl (by rw [List.length_map]; exact hlen) hl.1 (by simp []) (lv_room hcat1) hdg ⟨Nat.le_trans (Nat.le_of_ble_eq_true hf.1) hcr, Nat.le_trans (Nat.le_of_ble_eq_true hf.2) hsr⟩) hS (fun v ws' H1 locs1 hv hP1 hD1 hS1 => ?_)
  have h9 := kk v ws' hv p e R s m args below meth c H1 locs1 ls hC hP1 hD1 hS1 hl
  rw [List.map_append] at h9
  cases v <;> exact h9
theorem J_callSN {index : Nat} {y : MethodName} {cc' : ByteArray} {nL' : Nat} {ret' : Option FieldType} {d' mc ms n : Nat} {As : List Value} {st0 : List Value} {fin : Option Value → va_W → Prop} (hw : jWSN own index y cc' nL' ret' n) (hM : Ct X y cc' nL' ret' d' mc ms ad As ws fin) (hlen : As.length = n) (hst : st0 = As.reverse ++ st) (hdg : decode cc pc = .ok (.invokestatic index, 3)) (hd : Nat.ble (d' + 1) d = true) (hf : Nat.ble (cells + mc) CR = true ∧ Nat.ble (slots + ms) SR = true) (hcat : Nat.ble (st.map fun v => v.category).sum 8 = true) (kk : ∀ (v : Option Value) (ws' : va_W), fin v ws' → Jg X own cc nL ret nm d CR SR (Q) ad (cells + mc) (slots + ms) (pc + 3) (lv) (v.toList ++ st) (ws')) : Jg X own cc nL ret nm d CR SR (Q) ad (cells) (slots) (pc) (lv) (st0) (ws) := by
  intro p e R s m args below meth c H locs ls hC hP hD hS hl
  obtain ⟨hx, hb, hml, hr, hnm, hown, hts, hlk, hfr, hlo, hcr, hsr, hE, hz⟩ := id hC
  have hK := hE.2.1
  subst hst
  have hdd := Nat.le_of_ble_eq_true hd
  have hcat1 := Nat.le_of_ble_eq_true hcat
  rw [← em_sum ad] at hcat1
  have hpre : ∀ U : State, U.heap = H → s.WarmedH U.vm → va_Pc (As.map (em ad)) (fun U => jE X U U.heap ∧ jSZ X ≤ U.heap.size ∧ va_P (jD X) vwCl ws U.heap ∧ va_D (jA X) ws) (As.map (em ad)).toArray U := fun U hU hW => ⟨rfl, hE.go hz hS hU hW, by rw [hU]; exact Nat.le_trans hz hS.1, by rw [hU]; exact hP, hD⟩
  have hl8 : 8 + (nL' + 11) + 40 * d' ≤ R.locals := by have := hw.2.2; omega
  refine jRun (ad := ad) (va_runSN (As := As.map (em ad)) (rest := st.map (em ad)) ⟨hx, hb, hml, hown, hts⟩ hM ⟨va_cnB n hts (goodTW (jCons hw.1.2.2.2)) rfl rfl rfl (hE.1 _ hw.1.1) (hts _ hw.1.2.2.1) hw.2.1 ⟨by show d' + 1 ≤ _; omega, hl8⟩, hts _ hw.1.2.1, trivial⟩ ⟨jBlind, hpre⟩ rfl (by rw [List.length_map]; exact hlen) hl.1 (by simp []) (lv_room hcat1) hdg ⟨Nat.le_trans (Nat.le_of_ble_eq_true hf.1) hcr, Nat.le_trans (Nat.le_of_ble_eq_true hf.2) hsr⟩) hS (fun v ws' H1 locs1 hv hP1 hD1 hS1 => ?_)
  have h9 := kk v ws' hv p e R s m args below meth c H1 locs1 ls hC hP1 hD1 hS1 hl
  rw [List.map_append] at h9
  cases v <;> exact h9
theorem J_callI {index : Nat} {y : MethodName} {cc' : ByteArray} {nL' : Nat} {b : Nat} {d' mc ms n : Nat} {As : List Value} {st0 : List Value} {fin : Option Value → va_W → Prop} (hw : jWI own index y cc' nL' n) (hM : Ct X y cc' nL' none d' mc ms ad (.ref b :: As) ws fin) (hlen : As.length = n) (hst : st0 = As.reverse ++ .ref b :: st) (hdg : decode cc pc = .ok (.invokespecial index, 3)) (hd : Nat.ble (d' + 1) d = true) (hf : Nat.ble (cells + mc) CR = true ∧ Nat.ble (slots + ms) SR = true) (hcat : Nat.ble (st.map fun v => v.category).sum 8 = true) (kk : ∀ (v : Option Value) (ws' : va_W), fin v ws' → Jg X own cc nL ret nm d CR SR (Q) ad (cells + mc) (slots + ms) (pc + 3) (lv) (v.toList ++ st) (ws')) : Jg X own cc nL ret nm d CR SR (Q) ad (cells) (slots) (pc) (lv) (st0) (ws) := by
  intro p e R s m args below meth c H locs ls hC hP hD hS hl
  obtain ⟨hx, hb, hml, hr, hnm, hown, hts, hlk, hfr, hlo, hcr, hsr, hE, hz⟩ := id hC
  have hK := hE.2.1
  subst hst
  have hdd := Nat.le_of_ble_eq_true hd
  have hcat1 := Nat.le_of_ble_eq_true hcat
  rw [← em_sum ad] at hcat1
  have hpre : ∀ U : State, U.heap = H → s.WarmedH U.vm → va_Pc ((.ref b :: As).map (em ad)) (fun U => jE X U U.heap ∧ jSZ X ≤ U.heap.size ∧ va_P (jD X) vwCl ws U.heap ∧ va_D (jA X) ws) ((.ref b :: As).map (em ad)).toArray U := fun U hU hW => ⟨rfl, hE.go hz hS hU hW, by rw [hU]; exact Nat.le_trans hz hS.1, by rw [hU]; exact hP, hD⟩
  have hl8 : 8 + (nL' + 11) + 40 * d' ≤ R.locals := by have := hw.2.2.1; omega
  refine jRun (ad := ad) (va_runI (As := As.map (em ad)) (rest := st.map (em ad)) ⟨hx, hb, hml, hown, hts⟩ hM (cwI n hts (goodTW (jCons hw.1.2.2.2)) rfl rfl rfl (hts _ hw.1.2.2.1) (hts _ hw.1.1) (hts _ hw.1.2.1) hw.2.2.2 hw.2.1 ⟨by show d' + 1 ≤ _; omega, hl8⟩) ⟨jBlind, hpre⟩ rfl (by rw [List.length_map]; exact hlen) hl.1 (by simp [em]) (lv_room hcat1) hdg ⟨Nat.le_trans (Nat.le_of_ble_eq_true hf.1) hcr, Nat.le_trans (Nat.le_of_ble_eq_true hf.2) hsr⟩) hS (fun v ws' H1 locs1 hv hP1 hD1 hS1 => ?_)
  have h9 := kk v ws' hv p e R s m args below meth c H1 locs1 ls hC hP1 hD1 hS1 hl
  rw [List.map_append] at h9
  cases v <;> exact h9
theorem J_callIN {index : Nat} {y : MethodName} {cc' : ByteArray} {nL' : Nat} {b : Nat} {d' mc ms n : Nat} {As : List Value} {st0 : List Value} {fin : Option Value → va_W → Prop} (hw : jWIN own index y cc' nL' n) (hM : Ct X y cc' nL' none d' mc ms ad (.ref b :: As) ws fin) (hlen : As.length = n) (hst : st0 = As.reverse ++ .ref b :: st) (hdg : decode cc pc = .ok (.invokespecial index, 3)) (hd : Nat.ble (d' + 1) d = true) (hf : Nat.ble (cells + mc) CR = true ∧ Nat.ble (slots + ms) SR = true) (hcat : Nat.ble (st.map fun v => v.category).sum 8 = true) (kk : ∀ (v : Option Value) (ws' : va_W), fin v ws' → Jg X own cc nL ret nm d CR SR (Q) ad (cells + mc) (slots + ms) (pc + 3) (lv) (v.toList ++ st) (ws')) : Jg X own cc nL ret nm d CR SR (Q) ad (cells) (slots) (pc) (lv) (st0) (ws) := by
  intro p e R s m args below meth c H locs ls hC hP hD hS hl
  obtain ⟨hx, hb, hml, hr, hnm, hown, hts, hlk, hfr, hlo, hcr, hsr, hE, hz⟩ := id hC
  have hK := hE.2.1
  subst hst
  have hdd := Nat.le_of_ble_eq_true hd
  have hcat1 := Nat.le_of_ble_eq_true hcat
  rw [← em_sum ad] at hcat1
  have hpre : ∀ U : State, U.heap = H → s.WarmedH U.vm → va_Pc ((.ref b :: As).map (em ad)) (fun U => jE X U U.heap ∧ jSZ X ≤ U.heap.size ∧ va_P (jD X) vwCl ws U.heap ∧ va_D (jA X) ws) ((.ref b :: As).map (em ad)).toArray U := fun U hU hW => ⟨rfl, hE.go hz hS hU hW, by rw [hU]; exact Nat.le_trans hz hS.1, by rw [hU]; exact hP, hD⟩
  have hl8 : 8 + (nL' + 11) + 40 * d' ≤ R.locals := by have := hw.2.2.1; omega
  refine jRun (ad := ad) (va_runIN (As := As.map (em ad)) (rest := st.map (em ad)) ⟨hx, hb, hml, hown, hts⟩ hM ⟨va_cnB n hts (goodTW (jCons hw.1.2.2.2)) rfl rfl rfl (hE.1 _ hw.1.1) (hts _ hw.1.2.2.1) hw.2.1 ⟨by show d' + 1 ≤ _; omega, hl8⟩, hw.2.2.2, hts _ hw.1.2.1⟩ ⟨jBlind, hpre⟩ rfl (by rw [List.length_map]; exact hlen) hl.1 (by simp [em]) (lv_room hcat1) hdg ⟨Nat.le_trans (Nat.le_of_ble_eq_true hf.1) hcr, Nat.le_trans (Nat.le_of_ble_eq_true hf.2) hsr⟩) hS (fun v ws' H1 locs1 hv hP1 hD1 hS1 => ?_)
  have h9 := kk v ws' hv p e R s m args below meth c H1 locs1 ls hC hP1 hD1 hS1 hl
  rw [List.map_append] at h9
  cases v <;> exact h9
theorem J_callStr {index : Nat} {y : MethodName} {cc' : ByteArray} {nL' : Nat} {ret' : Option FieldType} {b : Nat} {d' mc ms n : Nat} {As : List Value} {st0 : List Value} {fin : Option Value → va_W → Prop} (hw : jWV own index "java/lang/String" y cc' nL' ret' n) (hM : Ct X y cc' nL' ret' d' mc ms ad (.ref b :: As) ws fin) (hlen : As.length = n) (hst : st0 = As.reverse ++ .ref b :: st) (hdg : decode cc pc = .ok (.invokevirtual index, 3)) (i : Nat) (hi : i < 7) (ha : ad b = jx X (10 + i)) (hd : Nat.ble (d' + 1) d = true) (hf : Nat.ble (cells + mc) CR = true ∧ Nat.ble (slots + ms) SR = true) (hcat : Nat.ble (st.map fun v => v.category).sum 8 = true) (kk : ∀ (v : Option Value) (ws' : va_W), fin v ws' → Jg X own cc nL ret nm d CR SR (Q) ad (cells + mc) (slots + ms) (pc + 3) (lv) (v.toList ++ st) (ws')) : Jg X own cc nL ret nm d CR SR (Q) ad (cells) (slots) (pc) (lv) (st0) (ws) := by
  intro p e R s m args below meth c H locs ls hC hP hD hS hl
  obtain ⟨hx, hb, hml, hr, hnm, hown, hts, hlk, hfr, hlo, hcr, hsr, hE, hz⟩ := id hC
  have hK := hE.2.1
  subst hst
  have hdd := Nat.le_of_ble_eq_true hd
  have hcat1 := Nat.le_of_ble_eq_true hcat
  rw [← em_sum ad] at hcat1
  have hpre : ∀ U : State, U.heap = H → s.WarmedH U.vm → va_Pc ((.ref b :: As).map (em ad)) (fun U => jE X U U.heap ∧ jSZ X ≤ U.heap.size ∧ va_P (jD X) vwCl ws U.heap ∧ va_D (jA X) ws) ((.ref b :: As).map (em ad)).toArray U := fun U hU hW => ⟨rfl, hE.go hz hS hU hW, by rw [hU]; exact Nat.le_trans hz hS.1, by rw [hU]; exact hP, hD⟩
  have hl8 : 8 + (nL' + 11) + 40 * d' ≤ R.locals := by have := hw.2.2; omega
  refine jRun (ad := ad) (va_runV (As := As.map (em ad)) (rest := st.map (em ad)) ⟨hx, hb, hml, hown, hts⟩ hM (cwV n hts (goodTW (fun w hw1 => by rcases List.mem_append.mp hw1 with h | h; rotate_left; exact jCons hw.1.2.2.2.2 w h; simp only [List.mem_cons, List.not_mem_nil, or_false] at h; rcases h with rfl | rfl | rfl | rfl; exact hw.1.1; exact hw.1.2.1; exact hw.1.2.2.1; exact hw.1.2.2.2.1)) rfl rfl rfl hw.2.1 ⟨by show d' + 1 ≤ _; omega, hl8⟩) ⟨jBlind, (by have hv9 := vk_recv (i := i) hE.2.2.2.2.2.2.2.2.2.2.1 hi hS; rw [← ha] at hv9; exact hv9), hpre⟩ rfl (by rw [List.length_map]; exact hlen) hl.1 (by simp [em]) (lv_room hcat1) hdg ⟨Nat.le_trans (Nat.le_of_ble_eq_true hf.1) hcr, Nat.le_trans (Nat.le_of_ble_eq_true hf.2) hsr⟩) hS (fun v ws' H1 locs1 hv hP1 hD1 hS1 => ?_)
  have h9 := kk v ws' hv p e R s m args below meth c H1 locs1 ls hC hP1 hD1 hS1 hl
  rw [List.map_append] at h9
  cases v <;> exact h9
end CALLS
end
section
theorem wt_L : Cond.initialized RL ∈ TW := inTW 54 (by decide +kernel) rfl
theorem wt_X5 : Cond.initialized RX5 ∈ TW := inTW 55 (by decide +kernel) rfl
theorem wt_X0 : Cond.initialized RX0 ∈ TW := inTW 56 (by decide +kernel) rfl
theorem wt_X1 : Cond.initialized RX1 ∈ TW := inTW 57 (by decide +kernel) rfl
theorem wt_X2 : Cond.initialized RX2 ∈ TW := inTW 58 (by decide +kernel) rfl
theorem wt_X3 : Cond.initialized RX3 ∈ TW := inTW 59 (by decide +kernel) rfl
theorem wt_X4 : Cond.initialized RX4 ∈ TW := inTW 60 (by decide +kernel) rfl
theorem wt_X6 : Cond.initialized RX6 ∈ TW := inTW 61 (by decide +kernel) rfl
theorem wt_J9 : Cond.initialized RJ9 ∈ TW := inTW 62 (by decide +kernel) rfl
theorem wt_J10 : Cond.initialized RJ10 ∈ TW := inTW 63 (by decide +kernel) rfl
theorem wt_J0 : Cond.initialized RJ0 ∈ TW := inTW 64 (by decide +kernel) rfl
theorem wt_J1 : Cond.initialized RJ1 ∈ TW := inTW 65 (by decide +kernel) rfl
theorem wt_J3 : Cond.initialized RJ3 ∈ TW := inTW 66 (by decide +kernel) rfl
theorem wt_J2 : Cond.initialized RJ2 ∈ TW := inTW 67 (by decide +kernel) rfl
theorem wc_L_7 : Cond.classLink RL 7 RX5 ∈ TW := inTW 68 (by decide +kernel) rfl
theorem wi_X5 : Cond.instantiable RX5 6 ∈ TW := inTW 69 (by decide +kernel) rfl
theorem wc_X5_7 : Cond.classLink RX5 7 RX0 ∈ TW := inTW 76 (by decide +kernel) rfl
theorem wi_X0 : Cond.instantiable RX0 6 ∈ TW := inTW 77 (by decide +kernel) rfl
theorem wn_X0_9 : Cond.fieldLinkNest RX0 9 RX5 "FIRST_SETTINGS" "[I" RX5 ∈ jNest := by decide +kernel
theorem wc_X0_14 : Cond.classLink RX0 14 "[I" ∈ TW := inTW 90 (by decide +kernel) rfl
theorem wc_X0_23 : Cond.classLink RX0 23 RX1 ∈ TW := inTW 91 (by decide +kernel) rfl
theorem wi_X1 : Cond.instantiable RX1 10 ∈ TW := inTW 93 (by decide +kernel) rfl
theorem wf_X1_9 : Cond.fieldLink RX1 9 "PlugPins$Board" "code" "I" ∈ TW := inTW 98 (by decide +kernel) rfl
theorem wf_X0_67 : Cond.fieldLink RX0 67 "PlugPins$Board" "code" "I" ∈ TW := inTW 99 (by decide +kernel) rfl
theorem wf_X1_15 : Cond.fieldLink RX1 15 "PlugPins$Board" "current" "I" ∈ TW := inTW 100 (by decide +kernel) rfl
theorem wf_X0_70 : Cond.fieldLink RX0 70 "PlugPins$Board" "current" "I" ∈ TW := inTW 101 (by decide +kernel) rfl
theorem wf_X1_18 : Cond.fieldLink RX1 18 "PlugPins$Board" "slot" "I" ∈ TW := inTW 102 (by decide +kernel) rfl
theorem wf_X0_60 : Cond.fieldLink RX0 60 "PlugPins$Board" "slot" "I" ∈ TW := inTW 103 (by decide +kernel) rfl
theorem wf_X5_160 : Cond.fieldLink RX5 160 "PlugPins$Board" "slot" "I" ∈ TW := inTW 104 (by decide +kernel) rfl
theorem wf_X1_21 : Cond.fieldLink RX1 21 "PlugPins$Board" "depth" "I" ∈ TW := inTW 105 (by decide +kernel) rfl
theorem wf_X0_87 : Cond.fieldLink RX0 87 "PlugPins$Board" "depth" "I" ∈ TW := inTW 106 (by decide +kernel) rfl
theorem wf_X1_24 : Cond.fieldLink RX1 24 "PlugPins$Board" "speed" "I" ∈ TW := inTW 107 (by decide +kernel) rfl
theorem wf_X0_90 : Cond.fieldLink RX0 90 "PlugPins$Board" "speed" "I" ∈ TW := inTW 108 (by decide +kernel) rfl
theorem wf_X1_27 : Cond.fieldLink RX1 27 "PlugPins$Board" "power" "I" ∈ TW := inTW 109 (by decide +kernel) rfl
theorem wf_X0_73 : Cond.fieldLink RX0 73 "PlugPins$Board" "power" "I" ∈ TW := inTW 110 (by decide +kernel) rfl
theorem wf_X1_30 : Cond.fieldLink RX1 30 "PlugPins$Board" "isKnown" "Z" ∈ TW := inTW 111 (by decide +kernel) rfl
theorem wf_X0_63 : Cond.fieldLink RX0 63 "PlugPins$Board" "isKnown" "Z" ∈ TW := inTW 112 (by decide +kernel) rfl
theorem wf_X1_34 : Cond.fieldLink RX1 34 "PlugPins$Board" "hasAsked" "Z" ∈ TW := inTW 113 (by decide +kernel) rfl
theorem wf_X0_93 : Cond.fieldLink RX0 93 "PlugPins$Board" "hasAsked" "Z" ∈ TW := inTW 114 (by decide +kernel) rfl
theorem wf_X1_37 : Cond.fieldLink RX1 37 "PlugPins$Board" "greeted" "I" ∈ TW := inTW 115 (by decide +kernel) rfl
theorem wf_X0_96 : Cond.fieldLink RX0 96 "PlugPins$Board" "greeted" "I" ∈ TW := inTW 116 (by decide +kernel) rfl
theorem wf_X1_40 : Cond.fieldLink RX1 40 "PlugPins$Board" "pulledTooSoon" "I" ∈ TW := inTW 117 (by decide +kernel) rfl
theorem wf_X0_76 : Cond.fieldLink RX0 76 "PlugPins$Board" "pulledTooSoon" "I" ∈ TW := inTW 118 (by decide +kernel) rfl
theorem wa_int : Cond.arrayClass .int ∈ TW := inTW 140 (by decide +kernel) rfl
theorem wc_X0_30 : Cond.classLink RX0 30 RX2 ∈ TW := inTW 141 (by decide +kernel) rfl
theorem wi_X2 : Cond.instantiable RX2 12 ∈ TW := inTW 142 (by decide +kernel) rfl
theorem wf_X2_9 : Cond.fieldLink RX2 9 "PlugPins$Bus" "senders" "[I" ∈ TW := inTW 147 (by decide +kernel) rfl
theorem wf_X2_15 : Cond.fieldLink RX2 15 "PlugPins$Bus" "receivers" "[I" ∈ TW := inTW 148 (by decide +kernel) rfl
theorem wf_X2_18 : Cond.fieldLink RX2 18 "PlugPins$Bus" "conditions" "[I" ∈ TW := inTW 149 (by decide +kernel) rfl
theorem wf_X2_21 : Cond.fieldLink RX2 21 "PlugPins$Bus" "hurts" "[I" ∈ TW := inTW 150 (by decide +kernel) rfl
theorem wf_X2_31 : Cond.fieldLink RX2 31 "PlugPins$Bus" "sent" "I" ∈ TW := inTW 151 (by decide +kernel) rfl
theorem wf_X5_108 : Cond.fieldLink RX5 108 "PlugPins$Bus" "sent" "I" ∈ TW := inTW 152 (by decide +kernel) rfl
theorem wf_X2_24 : Cond.fieldLink RX2 24 "PlugPins$Bus" "queue" "[I" ∈ TW := inTW 153 (by decide +kernel) rfl
theorem wf_X2_40 : Cond.fieldLink RX2 40 "PlugPins$Bus" "queued" "I" ∈ TW := inTW 154 (by decide +kernel) rfl
theorem wf_X2_27 : Cond.fieldLink RX2 27 "PlugPins$Bus" "onBus" "I" ∈ TW := inTW 155 (by decide +kernel) rfl
theorem wf_X5_117 : Cond.fieldLink RX5 117 "PlugPins$Bus" "onBus" "I" ∈ TW := inTW 156 (by decide +kernel) rfl
theorem wf_X0_167 : Cond.fieldLink RX0 167 "PlugPins$Bus" "onBus" "I" ∈ TW := inTW 157 (by decide +kernel) rfl
theorem wf_X2_43 : Cond.fieldLink RX2 43 "PlugPins$Bus" "ticksLeft" "I" ∈ TW := inTW 158 (by decide +kernel) rfl
theorem wf_X2_46 : Cond.fieldLink RX2 46 "PlugPins$Bus" "delivered" "I" ∈ TW := inTW 159 (by decide +kernel) rfl
theorem wf_X5_111 : Cond.fieldLink RX5 111 "PlugPins$Bus" "delivered" "I" ∈ TW := inTW 160 (by decide +kernel) rfl
theorem wf_X0_138 : Cond.fieldLink RX0 138 "PlugPins$Bus" "delivered" "I" ∈ TW := inTW 161 (by decide +kernel) rfl
theorem wf_X2_49 : Cond.fieldLink RX2 49 "PlugPins$Bus" "lost" "I" ∈ TW := inTW 162 (by decide +kernel) rfl
theorem wf_X5_114 : Cond.fieldLink RX5 114 "PlugPins$Bus" "lost" "I" ∈ TW := inTW 163 (by decide +kernel) rfl
theorem wf_X2_52 : Cond.fieldLink RX2 52 "PlugPins$Bus" "hurtSoFar" "I" ∈ TW := inTW 164 (by decide +kernel) rfl
theorem wf_X5_130 : Cond.fieldLink RX5 130 "PlugPins$Bus" "hurtSoFar" "I" ∈ TW := inTW 165 (by decide +kernel) rfl
theorem wf_X0_148 : Cond.fieldLink RX0 148 "PlugPins$Bus" "hurtSoFar" "I" ∈ TW := inTW 166 (by decide +kernel) rfl
theorem wf_X0_18 : Cond.fieldLink RX0 18 "PlugPins$Backplane" "settings" "[I" ∈ TW := inTW 192 (by decide +kernel) rfl
theorem wf_X5_136 : Cond.fieldLink RX5 136 "PlugPins$Backplane" "settings" "[I" ∈ TW := inTW 193 (by decide +kernel) rfl
theorem wf_X0_25 : Cond.fieldLink RX0 25 "PlugPins$Backplane" "boards" "[LPlugPins$Board;" ∈ TW := inTW 194 (by decide +kernel) rfl
theorem wf_X0_33 : Cond.fieldLink RX0 33 "PlugPins$Backplane" "bus" "LPlugPins$Bus;" ∈ TW := inTW 195 (by decide +kernel) rfl
theorem wf_X5_82 : Cond.fieldLink RX5 82 "PlugPins$Backplane" "bus" "LPlugPins$Bus;" ∈ TW := inTW 196 (by decide +kernel) rfl
theorem wf_X0_43 : Cond.fieldLink RX0 43 "PlugPins$Backplane" "boardCount" "I" ∈ TW := inTW 197 (by decide +kernel) rfl
theorem wf_X5_206 : Cond.fieldLink RX5 206 "PlugPins$Backplane" "boardCount" "I" ∈ TW := inTW 198 (by decide +kernel) rfl
theorem wf_X0_54 : Cond.fieldLink RX0 54 "PlugPins$Backplane" "time" "I" ∈ TW := inTW 199 (by decide +kernel) rfl
theorem wf_X5_94 : Cond.fieldLink RX5 94 "PlugPins$Backplane" "time" "I" ∈ TW := inTW 200 (by decide +kernel) rfl
theorem wf_X0_57 : Cond.fieldLink RX0 57 "PlugPins$Backplane" "plugs" "I" ∈ TW := inTW 201 (by decide +kernel) rfl
theorem wf_X5_127 : Cond.fieldLink RX5 127 "PlugPins$Backplane" "plugs" "I" ∈ TW := inTW 202 (by decide +kernel) rfl
theorem wc_X5_19 : Cond.classLink RX5 19 RX3 ∈ TW := inTW 216 (by decide +kernel) rfl
theorem wi_X3 : Cond.instantiable RX3 3 ∈ TW := inTW 217 (by decide +kernel) rfl
theorem wc_X3_11 : Cond.classLink RX3 11 RX0 ∈ TW := inTW 222 (by decide +kernel) rfl
theorem wf_X3_13 : Cond.fieldLink RX3 13 "PlugPins$History" "states" "[LPlugPins$Backplane;" ∈ TW := inTW 225 (by decide +kernel) rfl
theorem wf_X3_18 : Cond.fieldLink RX3 18 "PlugPins$History" "oldest" "I" ∈ TW := inTW 226 (by decide +kernel) rfl
theorem wf_X3_28 : Cond.fieldLink RX3 28 "PlugPins$History" "size" "I" ∈ TW := inTW 227 (by decide +kernel) rfl
theorem wf_X5_143 : Cond.fieldLink RX5 143 "PlugPins$History" "size" "I" ∈ TW := inTW 228 (by decide +kernel) rfl
theorem wc_X5_26 : Cond.classLink RX5 26 RX4 ∈ TW := inTW 236 (by decide +kernel) rfl
theorem wi_X4 : Cond.instantiable RX4 5 ∈ TW := inTW 237 (by decide +kernel) rfl
theorem wf_X4_9 : Cond.fieldLink RX4 9 "PlugPins$Pad" "signs" "[I" ∈ TW := inTW 242 (by decide +kernel) rfl
theorem wf_X4_22 : Cond.fieldLink RX4 22 "PlugPins$Pad" "length" "I" ∈ TW := inTW 243 (by decide +kernel) rfl
theorem wf_X5_140 : Cond.fieldLink RX5 140 "PlugPins$Pad" "length" "I" ∈ TW := inTW 244 (by decide +kernel) rfl
theorem wf_X4_39 : Cond.fieldLink RX4 39 "PlugPins$Pad" "place" "I" ∈ TW := inTW 245 (by decide +kernel) rfl
theorem wf_X4_53 : Cond.fieldLink RX4 53 "PlugPins$Pad" "kind" "I" ∈ TW := inTW 246 (by decide +kernel) rfl
theorem wf_X5_215 : Cond.fieldLink RX5 215 "PlugPins$Pad" "kind" "I" ∈ TW := inTW 247 (by decide +kernel) rfl
theorem wf_X4_15 : Cond.fieldLink RX4 15 "PlugPins$Pad" "values" "[I" ∈ TW := inTW 248 (by decide +kernel) rfl
theorem wf_X5_212 : Cond.fieldLink RX5 212 "PlugPins$Pad" "values" "[I" ∈ TW := inTW 249 (by decide +kernel) rfl
theorem wf_X5_10 : Cond.fieldLink RX5 10 "PlugPins" "backplane" "LPlugPins$Backplane;" ∈ TW := inTW 261 (by decide +kernel) rfl
theorem wf_X5_16 : Cond.fieldLink RX5 16 "PlugPins" "trial" "LPlugPins$Backplane;" ∈ TW := inTW 262 (by decide +kernel) rfl
theorem wf_X5_22 : Cond.fieldLink RX5 22 "PlugPins" "history" "LPlugPins$History;" ∈ TW := inTW 263 (by decide +kernel) rfl
theorem wf_X5_29 : Cond.fieldLink RX5 29 "PlugPins" "pad" "LPlugPins$Pad;" ∈ TW := inTW 264 (by decide +kernel) rfl
theorem wf_X5_33 : Cond.fieldLink RX5 33 "PlugPins" "saved" "[LPlugPins$Backplane;" ∈ TW := inTW 265 (by decide +kernel) rfl
theorem wf_X5_37 : Cond.fieldLink RX5 37 "PlugPins" "isSaved" "[Z" ∈ TW := inTW 266 (by decide +kernel) rfl
theorem wa_boolean : Cond.arrayClass .boolean ∈ TW := inTW 280 (by decide +kernel) rfl
theorem wn_X0_107 : Cond.fieldLinkNest RX0 107 RX5 "LOWEST_SETTINGS" "[I" RX5 ∈ jNest := by decide +kernel
theorem wn_X0_110 : Cond.fieldLinkNest RX0 110 RX5 "HIGHEST_SETTINGS" "[I" RX5 ∈ jNest := by decide +kernel
theorem wl_X4_26 : Cond.constantLong RX4 26 255 ∈ TW := inTW 623 (by decide +kernel) rfl
theorem wf_J0_38 : Cond.fieldLink RJ0 38 "java/lang/String" "COMPACT_STRINGS" "Z" ∈ TW := inTW 675 (by decide +kernel) rfl
theorem wf_J0_1053 : Cond.fieldLink RJ0 1053 "jdk/internal/util/Preconditions" "SIOOBE_FORMATTER" "Ljava/util/function/BiFunction;" ∈ TW := inTW 691 (by decide +kernel) rfl
theorem wf_J2_44 : Cond.fieldLink RJ2 44 "java/lang/StringUTF16" "$assertionsDisabled" "Z" ∈ TW := inTW 709 (by decide +kernel) rfl
theorem wf_J2_59 : Cond.fieldLink RJ2 59 "java/lang/StringUTF16" "HI_BYTE_SHIFT" "I" ∈ TW := inTW 711 (by decide +kernel) rfl
theorem wf_J2_63 : Cond.fieldLink RJ2 63 "java/lang/StringUTF16" "LO_BYTE_SHIFT" "I" ∈ TW := inTW 713 (by decide +kernel) rfl
theorem wa_byte : Cond.arrayClass .byte ∈ TW := inTW 731 (by decide +kernel) rfl
theorem wc_L_10 : Cond.classLink RL 10 RX6 ∈ TW := inTW 759 (by decide +kernel) rfl
theorem wi_X6 : Cond.instantiable RX6 14 ∈ TW := inTW 760 (by decide +kernel) rfl
theorem wf_X6_7 : Cond.fieldLink RX6 7 "PlugPinsModel" "s" "[I" ∈ TW := inTW 765 (by decide +kernel) rfl
theorem wf_X6_13 : Cond.fieldLink RX6 13 "PlugPinsModel" "aside" "[I" ∈ TW := inTW 766 (by decide +kernel) rfl
theorem wf_X6_16 : Cond.fieldLink RX6 16 "PlugPinsModel" "history" "[I" ∈ TW := inTW 767 (by decide +kernel) rfl
theorem wf_X6_51 : Cond.fieldLink RX6 51 "PlugPinsModel" "known" "I" ∈ TW := inTW 768 (by decide +kernel) rfl
theorem wf_X6_19 : Cond.fieldLink RX6 19 "PlugPinsModel" "slots" "[I" ∈ TW := inTW 769 (by decide +kernel) rfl
theorem wf_X6_206 : Cond.fieldLink RX6 206 "PlugPinsModel" "kept" "I" ∈ TW := inTW 770 (by decide +kernel) rfl
theorem wf_X6_22 : Cond.fieldLink RX6 22 "PlugPinsModel" "pad" "[I" ∈ TW := inTW 771 (by decide +kernel) rfl
theorem wf_X6_152 : Cond.fieldLink RX6 152 "PlugPinsModel" "length" "I" ∈ TW := inTW 772 (by decide +kernel) rfl
theorem wf_X6_167 : Cond.fieldLink RX6 167 "PlugPinsModel" "spot" "I" ∈ TW := inTW 773 (by decide +kernel) rfl
theorem wf_X6_163 : Cond.fieldLink RX6 163 "PlugPinsModel" "isFaulty" "Z" ∈ TW := inTW 774 (by decide +kernel) rfl
theorem wf_X6_176 : Cond.fieldLink RX6 176 "PlugPinsModel" "letter" "I" ∈ TW := inTW 775 (by decide +kernel) rfl
theorem wf_X6_182 : Cond.fieldLink RX6 182 "PlugPinsModel" "first" "I" ∈ TW := inTW 776 (by decide +kernel) rfl
theorem wf_X6_188 : Cond.fieldLink RX6 188 "PlugPinsModel" "second" "I" ∈ TW := inTW 777 (by decide +kernel) rfl
theorem wf_X6_191 : Cond.fieldLink RX6 191 "PlugPinsModel" "third" "I" ∈ TW := inTW 778 (by decide +kernel) rfl
theorem wl_X6_161 : Cond.constantLong RX6 161 255 ∈ TW := inTW 1035 (by decide +kernel) rfl
theorem wl_L_89 : Cond.constantLong RL 89 4294967295 ∈ TW := inTW 1088 (by decide +kernel) rfl
theorem wf_J0_9 : Cond.fieldLink RJ0 9 "java/lang/String" "value" "[B" ∈ TW := inTW 1089 (by decide +kernel) rfl
theorem wf_J0_15 : Cond.fieldLink RJ0 15 "java/lang/String" "coder" "B" ∈ TW := inTW 1090 (by decide +kernel) rfl
theorem wk_same : Cond.sameMethod "[I" "java/lang/Object" "clone" "()Ljava/lang/Object;" ∈ TW := inTW 85 (by decide +kernel) rfl
theorem wk_nat : Cond.native ⟨"java/lang/Object", "clone", "()Ljava/lang/Object;"⟩ ∈ TW := inTW 86 (by decide +kernel) rfl
theorem wk_inst : Cond.instanceMethod ⟨"java/lang/Object", "clone", "()Ljava/lang/Object;"⟩ ∈ TW := inTW 87 (by decide +kernel) rfl
theorem wk_sel : Cond.selects "[I" ⟨"[I", "clone", "()Ljava/lang/Object;"⟩ ⟨"java/lang/Object", "clone", "()Ljava/lang/Object;"⟩ ∈ TW := inTW 88 (by decide +kernel) rfl
theorem wk_acn : Cond.native arraycopyName ∈ TW := inTW 302 (by decide +kernel) rfl
theorem wk_acs : Cond.static arraycopyName ∈ TW := inTW 301 (by decide +kernel) rfl
theorem wk_sys : Cond.initialized "java/lang/System" ∈ TW := inTW 63 (by decide +kernel) rfl
theorem wk_math : Cond.initialized "java/lang/Math" ∈ TW := inTW 62 (by decide +kernel) rfl
theorem wk_obi : Cond.instanceMethod Lib.objectInit ∈ TW := inTW 74 (by decide +kernel) rfl
theorem wk_obc : Cond.code Lib.objectInit ⟨#[0xb1]⟩ 1 none ∈ TW := inTW 75 (by decide +kernel) rfl
theorem wk_maxs : Cond.static Lib.Math.max.name ∈ TW := inTW 439 (by decide +kernel) rfl
theorem wk_maxc : Cond.code Lib.Math.max.name Lib.Math.max.code 2 (some .int) ∈ TW := inTW 440 (by decide +kernel) rfl
theorem wk_mins : Cond.static Lib.Math.min.name ∈ TW := inTW 436 (by decide +kernel) rfl
theorem wk_minc : Cond.code Lib.Math.min.name Lib.Math.min.code 2 (some .int) ∈ TW := inTW 437 (by decide +kernel) rfl
theorem wm_X0_3 : Cond.methodLink RX0 3 Lib.objectInit ∈ TW := inTW 81 (by decide +kernel) rfl
theorem wm_X0_13 : Cond.methodLink RX0 13 ⟨"[I", "clone", "()Ljava/lang/Object;"⟩ ∈ TW := inTW 84 (by decide +kernel) rfl
theorem wj_X0_29 : jWIN RX0 29 yX1_init cX1_init 1 0 := ⟨⟨by decide +kernel, inTW 95 (by decide +kernel) rfl, inTW 57 (by decide +kernel) rfl, inTW 96 (by decide +kernel) rfl⟩, by decide +kernel, by decide +kernel, rfl⟩
theorem wj_X0_32 : jWI RX0 32 yX2_init cX2_init 1 0 := ⟨⟨inTW 143 (by decide +kernel) rfl, inTW 144 (by decide +kernel) rfl, inTW 58 (by decide +kernel) rfl, inTW 145 (by decide +kernel) rfl⟩, by decide +kernel, by decide +kernel, rfl⟩
theorem wm_X0_37 : Cond.methodLink RX0 37 arraycopyName ∈ TW := inTW 300 (by decide +kernel) rfl
theorem wv_X0_47 : jWV RX0 47 RX1 yX1_copyFrom cX1_copyFrom 2 (none) 1 := ⟨⟨inTW 303 (by decide +kernel) rfl, inTW 304 (by decide +kernel) rfl, inTW 305 (by decide +kernel) rfl, inTW 57 (by decide +kernel) rfl, inTW 306 (by decide +kernel) rfl⟩, by decide +kernel, by decide +kernel⟩
theorem wv_X0_51 : jWV RX0 51 RX2 yX2_copyFrom cX2_copyFrom 2 (none) 1 := ⟨⟨inTW 307 (by decide +kernel) rfl, inTW 308 (by decide +kernel) rfl, inTW 309 (by decide +kernel) rfl, inTW 58 (by decide +kernel) rfl, inTW 310 (by decide +kernel) rfl⟩, by decide +kernel, by decide +kernel⟩
theorem wv_X0_79 : jWV RX0 79 RX1 yX1_holdsBus cX1_holdsBus 1 (some .boolean) 0 := ⟨⟨inTW 491 (by decide +kernel) rfl, inTW 492 (by decide +kernel) rfl, inTW 493 (by decide +kernel) rfl, inTW 57 (by decide +kernel) rfl, inTW 494 (by decide +kernel) rfl⟩, by decide +kernel, by decide +kernel⟩
theorem wv_X0_83 : jWV RX0 83 RX0 yX0_boardAt cX0_boardAt 2 (some (.object "PlugPins$Board")) 1 := ⟨⟨inTW 351 (by decide +kernel) rfl, inTW 352 (by decide +kernel) rfl, inTW 353 (by decide +kernel) rfl, inTW 56 (by decide +kernel) rfl, inTW 354 (by decide +kernel) rfl⟩, by decide +kernel, by decide +kernel⟩
theorem wv_X0_99 : jWV RX0 99 RX2 yX2_deliveredFrom cX2_deliveredFrom 4 (some .int) 1 := ⟨⟨inTW 518 (by decide +kernel) rfl, inTW 519 (by decide +kernel) rfl, inTW 520 (by decide +kernel) rfl, inTW 58 (by decide +kernel) rfl, inTW 521 (by decide +kernel) rfl⟩, by decide +kernel, by decide +kernel⟩
theorem ws_X0_103 : jWSN RX0 103 yX5_isIn cX5_isIn 3 (some .boolean) 3 := ⟨⟨by decide +kernel, inTW 317 (by decide +kernel) rfl, inTW 55 (by decide +kernel) rfl, inTW 318 (by decide +kernel) rfl⟩, by decide +kernel, by decide +kernel⟩
theorem wv_X0_113 : jWV RX0 113 RX1 yX1_begin cX1_begin 3 (none) 2 := ⟨⟨inTW 335 (by decide +kernel) rfl, inTW 336 (by decide +kernel) rfl, inTW 337 (by decide +kernel) rfl, inTW 57 (by decide +kernel) rfl, inTW 338 (by decide +kernel) rfl⟩, by decide +kernel, by decide +kernel⟩
theorem ws_X0_117 : jWSN RX0 117 yX5_isSlot cX5_isSlot 1 (some .boolean) 1 := ⟨⟨by decide +kernel, inTW 356 (by decide +kernel) rfl, inTW 55 (by decide +kernel) rfl, inTW 357 (by decide +kernel) rfl⟩, by decide +kernel, by decide +kernel⟩
theorem wv_X0_121 : jWV RX0 121 RX0 yX0_boardIn cX0_boardIn 3 (some .int) 1 := ⟨⟨inTW 359 (by decide +kernel) rfl, inTW 360 (by decide +kernel) rfl, inTW 361 (by decide +kernel) rfl, inTW 56 (by decide +kernel) rfl, inTW 362 (by decide +kernel) rfl⟩, by decide +kernel, by decide +kernel⟩
theorem wv_X0_124 : jWV RX0 124 RX0 yX0_inwardError cX0_inwardError 8 (some .int) 3 := ⟨⟨inTW 347 (by decide +kernel) rfl, inTW 348 (by decide +kernel) rfl, inTW 349 (by decide +kernel) rfl, inTW 56 (by decide +kernel) rfl, inTW 350 (by decide +kernel) rfl⟩, by decide +kernel, by decide +kernel⟩
theorem wv_X0_128 : jWV RX0 128 RX2 yX2_openWordsOf cX2_openWordsOf 4 (some .int) 1 := ⟨⟨inTW 379 (by decide +kernel) rfl, inTW 380 (by decide +kernel) rfl, inTW 381 (by decide +kernel) rfl, inTW 58 (by decide +kernel) rfl, inTW 382 (by decide +kernel) rfl⟩, by decide +kernel, by decide +kernel⟩
theorem wv_X0_131 : jWV RX0 131 RX0 yX0_whyNot cX0_whyNot 5 (some .int) 2 := ⟨⟨inTW 395 (by decide +kernel) rfl, inTW 396 (by decide +kernel) rfl, inTW 397 (by decide +kernel) rfl, inTW 56 (by decide +kernel) rfl, inTW 398 (by decide +kernel) rfl⟩, by decide +kernel, by decide +kernel⟩
theorem wv_X0_135 : jWV RX0 135 RX2 yX2_queueWord cX2_queueWord 4 (some .int) 2 := ⟨⟨inTW 399 (by decide +kernel) rfl, inTW 400 (by decide +kernel) rfl, inTW 401 (by decide +kernel) rfl, inTW 58 (by decide +kernel) rfl, inTW 402 (by decide +kernel) rfl⟩, by decide +kernel, by decide +kernel⟩
theorem wv_X0_141 : jWV RX0 141 RX0 yX0_tick cX0_tick 2 (none) 0 := ⟨⟨inTW 419 (by decide +kernel) rfl, inTW 420 (by decide +kernel) rfl, inTW 421 (by decide +kernel) rfl, inTW 56 (by decide +kernel) rfl, inTW 422 (by decide +kernel) rfl⟩, by decide +kernel, by decide +kernel⟩
theorem wv_X0_144 : jWV RX0 144 RX2 yX2_openWords cX2_openWords 1 (some .int) 0 := ⟨⟨inTW 611 (by decide +kernel) rfl, inTW 404 (by decide +kernel) rfl, inTW 405 (by decide +kernel) rfl, inTW 58 (by decide +kernel) rfl, inTW 406 (by decide +kernel) rfl⟩, by decide +kernel, by decide +kernel⟩
theorem wv_X0_151 : jWV RX0 151 RX0 yX0_moveBoards cX0_moveBoards 4 (some .boolean) 0 := ⟨⟨inTW 423 (by decide +kernel) rfl, inTW 425 (by decide +kernel) rfl, inTW 1 (by decide +kernel) rfl, inTW 56 (by decide +kernel) rfl, inTW 426 (by decide +kernel) rfl⟩, by decide +kernel, by decide +kernel⟩
theorem wv_X0_154 : jWV RX0 154 RX0 yX0_powerBoards cX0_powerBoards 3 (none) 0 := ⟨⟨inTW 445 (by decide +kernel) rfl, inTW 447 (by decide +kernel) rfl, inTW 3 (by decide +kernel) rfl, inTW 56 (by decide +kernel) rfl, inTW 448 (by decide +kernel) rfl⟩, by decide +kernel, by decide +kernel⟩
theorem wv_X0_157 : jWV RX0 157 RX0 yX0_greetBoards cX0_greetBoards 2 (none) 0 := ⟨⟨inTW 459 (by decide +kernel) rfl, inTW 461 (by decide +kernel) rfl, inTW 5 (by decide +kernel) rfl, inTW 56 (by decide +kernel) rfl, inTW 462 (by decide +kernel) rfl⟩, by decide +kernel, by decide +kernel⟩
theorem wv_X0_160 : jWV RX0 160 RX2 yX2_hurtWordOnBus cX2_hurtWordOnBus 2 (none) 1 := ⟨⟨inTW 479 (by decide +kernel) rfl, inTW 480 (by decide +kernel) rfl, inTW 481 (by decide +kernel) rfl, inTW 58 (by decide +kernel) rfl, inTW 482 (by decide +kernel) rfl⟩, by decide +kernel, by decide +kernel⟩
theorem wv_X0_164 : jWV RX0 164 RX2 yX2_carryWordOnBus cX2_carryWordOnBus 1 (none) 0 := ⟨⟨inTW 483 (by decide +kernel) rfl, inTW 484 (by decide +kernel) rfl, inTW 485 (by decide +kernel) rfl, inTW 58 (by decide +kernel) rfl, inTW 486 (by decide +kernel) rfl⟩, by decide +kernel, by decide +kernel⟩
theorem wv_X0_170 : jWV RX0 170 RX0 yX0_isHeld cX0_isHeld 2 (some .boolean) 0 := ⟨⟨inTW 487 (by decide +kernel) rfl, inTW 488 (by decide +kernel) rfl, inTW 489 (by decide +kernel) rfl, inTW 56 (by decide +kernel) rfl, inTW 490 (by decide +kernel) rfl⟩, by decide +kernel, by decide +kernel⟩
theorem wv_X0_173 : jWV RX0 173 RX0 yX0_knownSet cX0_knownSet 3 (some .int) 0 := ⟨⟨inTW 495 (by decide +kernel) rfl, inTW 496 (by decide +kernel) rfl, inTW 497 (by decide +kernel) rfl, inTW 56 (by decide +kernel) rfl, inTW 498 (by decide +kernel) rfl⟩, by decide +kernel, by decide +kernel⟩
theorem wv_X0_176 : jWV RX0 176 RX2 yX2_takeNextWord cX2_takeNextWord 5 (none) 2 := ⟨⟨inTW 499 (by decide +kernel) rfl, inTW 500 (by decide +kernel) rfl, inTW 501 (by decide +kernel) rfl, inTW 58 (by decide +kernel) rfl, inTW 502 (by decide +kernel) rfl⟩, by decide +kernel, by decide +kernel⟩
theorem wv_X0_179 : jWV RX0 179 RX1 yX1_move cX1_move 2 (some .boolean) 0 := ⟨⟨inTW 427 (by decide +kernel) rfl, inTW 428 (by decide +kernel) rfl, inTW 429 (by decide +kernel) rfl, inTW 57 (by decide +kernel) rfl, inTW 430 (by decide +kernel) rfl⟩, by decide +kernel, by decide +kernel⟩
theorem wv_X0_182 : jWV RX0 182 RX0 yX0_powerBoard cX0_powerBoard 3 (none) 1 := ⟨⟨inTW 449 (by decide +kernel) rfl, inTW 451 (by decide +kernel) rfl, inTW 4 (by decide +kernel) rfl, inTW 56 (by decide +kernel) rfl, inTW 452 (by decide +kernel) rfl⟩, by decide +kernel, by decide +kernel⟩
theorem wv_X0_185 : jWV RX0 185 RX1 yX1_touches cX1_touches 2 (some .boolean) 1 := ⟨⟨inTW 453 (by decide +kernel) rfl, inTW 432 (by decide +kernel) rfl, inTW 433 (by decide +kernel) rfl, inTW 57 (by decide +kernel) rfl, inTW 434 (by decide +kernel) rfl⟩, by decide +kernel, by decide +kernel⟩
theorem wm_X0_188 : Cond.methodLink RX0 188 Lib.Math.min.name ∈ TW := inTW 454 (by decide +kernel) rfl
theorem wv_X0_193 : jWV RX0 193 RX0 yX0_drawn cX0_drawn 3 (some .int) 0 := ⟨⟨inTW 455 (by decide +kernel) rfl, inTW 456 (by decide +kernel) rfl, inTW 457 (by decide +kernel) rfl, inTW 56 (by decide +kernel) rfl, inTW 458 (by decide +kernel) rfl⟩, by decide +kernel, by decide +kernel⟩
theorem wv_X0_196 : jWV RX0 196 RX1 yX1_greetForTick cX1_greetForTick 2 (none) 1 := ⟨⟨inTW 463 (by decide +kernel) rfl, inTW 464 (by decide +kernel) rfl, inTW 465 (by decide +kernel) rfl, inTW 57 (by decide +kernel) rfl, inTW 466 (by decide +kernel) rfl⟩, by decide +kernel, by decide +kernel⟩
theorem wv_X0_199 : jWV RX0 199 RX2 yX2_loseWordsOf cX2_loseWordsOf 5 (none) 1 := ⟨⟨inTW 467 (by decide +kernel) rfl, inTW 468 (by decide +kernel) rfl, inTW 469 (by decide +kernel) rfl, inTW 58 (by decide +kernel) rfl, inTW 470 (by decide +kernel) rfl⟩, by decide +kernel, by decide +kernel⟩
theorem wv_X0_202 : jWV RX0 202 RX1 yX1_becomeUnknown cX1_becomeUnknown 1 (none) 0 := ⟨⟨inTW 475 (by decide +kernel) rfl, inTW 476 (by decide +kernel) rfl, inTW 477 (by decide +kernel) rfl, inTW 57 (by decide +kernel) rfl, inTW 478 (by decide +kernel) rfl⟩, by decide +kernel, by decide +kernel⟩
theorem wm_X1_3 : Cond.methodLink RX1 3 Lib.objectInit ∈ TW := inTW 97 (by decide +kernel) rfl
theorem wv_X1_43 : jWV RX1 43 RX1 yX1_touches cX1_touches 2 (some .boolean) 1 := ⟨⟨inTW 431 (by decide +kernel) rfl, inTW 432 (by decide +kernel) rfl, inTW 433 (by decide +kernel) rfl, inTW 57 (by decide +kernel) rfl, inTW 434 (by decide +kernel) rfl⟩, by decide +kernel, by decide +kernel⟩
theorem wm_X1_47 : Cond.methodLink RX1 47 Lib.Math.min.name ∈ TW := inTW 435 (by decide +kernel) rfl
theorem wm_X1_53 : Cond.methodLink RX1 53 Lib.Math.max.name ∈ TW := inTW 438 (by decide +kernel) rfl
theorem wv_X1_56 : jWV RX1 56 RX1 yX1_leaveSlot cX1_leaveSlot 1 (none) 0 := ⟨⟨inTW 441 (by decide +kernel) rfl, inTW 443 (by decide +kernel) rfl, inTW 2 (by decide +kernel) rfl, inTW 57 (by decide +kernel) rfl, inTW 444 (by decide +kernel) rfl⟩, by decide +kernel, by decide +kernel⟩
theorem wm_X2_3 : Cond.methodLink RX2 3 Lib.objectInit ∈ TW := inTW 146 (by decide +kernel) rfl
theorem wm_X2_34 : Cond.methodLink RX2 34 arraycopyName ∈ TW := inTW 311 (by decide +kernel) rfl
theorem wv_X2_55 : jWV RX2 55 RX2 yX2_isWord cX2_isWord 2 (some .boolean) 1 := ⟨⟨inTW 407 (by decide +kernel) rfl, inTW 408 (by decide +kernel) rfl, inTW 409 (by decide +kernel) rfl, inTW 58 (by decide +kernel) rfl, inTW 410 (by decide +kernel) rfl⟩, by decide +kernel, by decide +kernel⟩
theorem wv_X2_59 : jWV RX2 59 RX2 yX2_isBetween cX2_isBetween 3 (some .boolean) 2 := ⟨⟨inTW 383 (by decide +kernel) rfl, inTW 384 (by decide +kernel) rfl, inTW 385 (by decide +kernel) rfl, inTW 58 (by decide +kernel) rfl, inTW 386 (by decide +kernel) rfl⟩, by decide +kernel, by decide +kernel⟩
theorem wv_X2_63 : jWV RX2 63 RX2 yX2_openWords cX2_openWords 1 (some .int) 0 := ⟨⟨inTW 403 (by decide +kernel) rfl, inTW 404 (by decide +kernel) rfl, inTW 405 (by decide +kernel) rfl, inTW 58 (by decide +kernel) rfl, inTW 406 (by decide +kernel) rfl⟩, by decide +kernel, by decide +kernel⟩
theorem wv_X2_67 : jWV RX2 67 RX2 yX2_freeBus cX2_freeBus 2 (none) 1 := ⟨⟨inTW 471 (by decide +kernel) rfl, inTW 473 (by decide +kernel) rfl, inTW 6 (by decide +kernel) rfl, inTW 58 (by decide +kernel) rfl, inTW 474 (by decide +kernel) rfl⟩, by decide +kernel, by decide +kernel⟩
theorem ws_X2_71 : jWS RX2 71 yX2_isInSet cX2_isInSet 2 (some .boolean) 2 := ⟨⟨inTW 503 (by decide +kernel) rfl, inTW 504 (by decide +kernel) rfl, inTW 58 (by decide +kernel) rfl, inTW 505 (by decide +kernel) rfl⟩, by decide +kernel, by decide +kernel⟩
theorem wv_X2_74 : jWV RX2 74 RX2 yX2_removeFromQueue cX2_removeFromQueue 3 (none) 1 := ⟨⟨inTW 506 (by decide +kernel) rfl, inTW 508 (by decide +kernel) rfl, inTW 7 (by decide +kernel) rfl, inTW 58 (by decide +kernel) rfl, inTW 509 (by decide +kernel) rfl⟩, by decide +kernel, by decide +kernel⟩
theorem wm_X3_3 : Cond.methodLink RX3 3 Lib.objectInit ∈ TW := inTW 221 (by decide +kernel) rfl
theorem wj_X3_17 : jWI RX3 17 yX0_init cX0_init 2 0 := ⟨⟨inTW 224 (by decide +kernel) rfl, inTW 79 (by decide +kernel) rfl, inTW 56 (by decide +kernel) rfl, inTW 80 (by decide +kernel) rfl⟩, by decide +kernel, by decide +kernel, rfl⟩
theorem ws_X3_22 : jWS RX3 22 yJ9_floorMod_7cf53 cJ9_floorMod_7cf53 3 (some .int) 2 := ⟨⟨inTW 293 (by decide +kernel) rfl, inTW 294 (by decide +kernel) rfl, inTW 62 (by decide +kernel) rfl, inTW 295 (by decide +kernel) rfl⟩, by decide +kernel, by decide +kernel⟩
theorem wv_X3_31 : jWV RX3 31 RX3 yX3_stateAt cX3_stateAt 2 (some (.object "PlugPins$Backplane")) 1 := ⟨⟨inTW 289 (by decide +kernel) rfl, inTW 291 (by decide +kernel) rfl, inTW 0 (by decide +kernel) rfl, inTW 59 (by decide +kernel) rfl, inTW 292 (by decide +kernel) rfl⟩, by decide +kernel, by decide +kernel⟩
theorem wv_X3_35 : jWV RX3 35 RX0 yX0_copyFrom cX0_copyFrom 3 (none) 1 := ⟨⟨inTW 296 (by decide +kernel) rfl, inTW 297 (by decide +kernel) rfl, inTW 298 (by decide +kernel) rfl, inTW 56 (by decide +kernel) rfl, inTW 299 (by decide +kernel) rfl⟩, by decide +kernel, by decide +kernel⟩
theorem wm_X4_3 : Cond.methodLink RX4 3 Lib.objectInit ∈ TW := inTW 241 (by decide +kernel) rfl
theorem ws_X4_18 : jWS RX4 18 yX4_charactersIn cX4_charactersIn 5 (some .int) 1 := ⟨⟨inTW 620 (by decide +kernel) rfl, inTW 621 (by decide +kernel) rfl, inTW 60 (by decide +kernel) rfl, inTW 622 (by decide +kernel) rfl⟩, by decide +kernel, by decide +kernel⟩
theorem ws_X4_28 : jWSN RX4 28 yX5_isIn cX5_isIn 3 (some .boolean) 3 := ⟨⟨by decide +kernel, inTW 317 (by decide +kernel) rfl, inTW 55 (by decide +kernel) rfl, inTW 318 (by decide +kernel) rfl⟩, by decide +kernel, by decide +kernel⟩
theorem wv_X4_32 : jWV RX4 32 RX4 yX4_startReading cX4_startReading 1 (none) 0 := ⟨⟨inTW 641 (by decide +kernel) rfl, inTW 642 (by decide +kernel) rfl, inTW 643 (by decide +kernel) rfl, inTW 60 (by decide +kernel) rfl, inTW 644 (by decide +kernel) rfl⟩, by decide +kernel, by decide +kernel⟩
theorem wv_X4_35 : jWV RX4 35 RX4 yX4_readOrder cX4_readOrder 6 (some .boolean) 0 := ⟨⟨inTW 645 (by decide +kernel) rfl, inTW 646 (by decide +kernel) rfl, inTW 647 (by decide +kernel) rfl, inTW 60 (by decide +kernel) rfl, inTW 648 (by decide +kernel) rfl⟩, by decide +kernel, by decide +kernel⟩
theorem wv_X4_42 : jWV RX4 42 RX4 yX4_readSeparator cX4_readSeparator 1 (some .boolean) 0 := ⟨⟨inTW 727 (by decide +kernel) rfl, inTW 728 (by decide +kernel) rfl, inTW 729 (by decide +kernel) rfl, inTW 60 (by decide +kernel) rfl, inTW 730 (by decide +kernel) rfl⟩, by decide +kernel, by decide +kernel⟩
theorem wv_X4_45 : jWV RX4 45 RX4 yX4_readSign cX4_readSign 2 (some .boolean) 1 := ⟨⟨inTW 715 (by decide +kernel) rfl, inTW 717 (by decide +kernel) rfl, inTW 10 (by decide +kernel) rfl, inTW 60 (by decide +kernel) rfl, inTW 718 (by decide +kernel) rfl⟩, by decide +kernel, by decide +kernel⟩
theorem wv_X4_49 : jWV RX4 49 RX4 yX4_signHere cX4_signHere 1 (some .int) 0 := ⟨⟨inTW 649 (by decide +kernel) rfl, inTW 651 (by decide +kernel) rfl, inTW 9 (by decide +kernel) rfl, inTW 60 (by decide +kernel) rfl, inTW 652 (by decide +kernel) rfl⟩, by decide +kernel, by decide +kernel⟩
theorem ws_X4_56 : jWS RX4 56 yX4_formOf cX4_formOf 1 (some (.object "java/lang/String")) 1 := ⟨⟨inTW 653 (by decide +kernel) rfl, inTW 654 (by decide +kernel) rfl, inTW 60 (by decide +kernel) rfl, inTW 655 (by decide +kernel) rfl⟩, by decide +kernel, by decide +kernel⟩
theorem wv_X4_60 : jWV RX4 60 "java/lang/String" yJ0_isEmpty_aae02 cJ0_isEmpty_aae02 1 (some .boolean) 0 := ⟨⟨inTW 663 (by decide +kernel) rfl, inTW 664 (by decide +kernel) rfl, inTW 665 (by decide +kernel) rfl, inTW 64 (by decide +kernel) rfl, inTW 666 (by decide +kernel) rfl⟩, by decide +kernel, by decide +kernel⟩
theorem wv_X4_65 : jWV RX4 65 "java/lang/String" yJ0_length_8abf5 cJ0_length_8abf5 1 (some .int) 0 := ⟨⟨inTW 667 (by decide +kernel) rfl, inTW 668 (by decide +kernel) rfl, inTW 669 (by decide +kernel) rfl, inTW 64 (by decide +kernel) rfl, inTW 670 (by decide +kernel) rfl⟩, by decide +kernel, by decide +kernel⟩
theorem wv_X4_67 : jWV RX4 67 "java/lang/String" yJ0_charAt_5068e cJ0_charAt_5068e 2 (some .char) 1 := ⟨⟨inTW 677 (by decide +kernel) rfl, inTW 678 (by decide +kernel) rfl, inTW 679 (by decide +kernel) rfl, inTW 64 (by decide +kernel) rfl, inTW 680 (by decide +kernel) rfl⟩, by decide +kernel, by decide +kernel⟩
theorem wv_X4_71 : jWV RX4 71 RX4 yX4_readDigit cX4_readDigit 2 (some .int) 0 := ⟨⟨inTW 719 (by decide +kernel) rfl, inTW 721 (by decide +kernel) rfl, inTW 11 (by decide +kernel) rfl, inTW 60 (by decide +kernel) rfl, inTW 722 (by decide +kernel) rfl⟩, by decide +kernel, by decide +kernel⟩
theorem wv_X4_74 : jWV RX4 74 RX4 yX4_readNumber cX4_readNumber 3 (some .int) 0 := ⟨⟨inTW 723 (by decide +kernel) rfl, inTW 725 (by decide +kernel) rfl, inTW 12 (by decide +kernel) rfl, inTW 60 (by decide +kernel) rfl, inTW 726 (by decide +kernel) rfl⟩, by decide +kernel, by decide +kernel⟩
theorem wm_X5_1 : Cond.methodLink RX5 1 Lib.objectInit ∈ TW := inTW 73 (by decide +kernel) rfl
theorem wj_X5_9 : jWI RX5 9 yX0_init cX0_init 2 0 := ⟨⟨inTW 78 (by decide +kernel) rfl, inTW 79 (by decide +kernel) rfl, inTW 56 (by decide +kernel) rfl, inTW 80 (by decide +kernel) rfl⟩, by decide +kernel, by decide +kernel, rfl⟩
theorem wj_X5_21 : jWI RX5 21 yX3_init cX3_init 2 0 := ⟨⟨inTW 218 (by decide +kernel) rfl, inTW 219 (by decide +kernel) rfl, inTW 59 (by decide +kernel) rfl, inTW 220 (by decide +kernel) rfl⟩, by decide +kernel, by decide +kernel, rfl⟩
theorem wj_X5_28 : jWI RX5 28 yX4_init cX4_init 1 0 := ⟨⟨inTW 238 (by decide +kernel) rfl, inTW 239 (by decide +kernel) rfl, inTW 60 (by decide +kernel) rfl, inTW 240 (by decide +kernel) rfl⟩, by decide +kernel, by decide +kernel, rfl⟩
theorem wv_X5_41 : jWV RX5 41 RX3 yX3_prepare cX3_prepare 2 (none) 1 := ⟨⟨inTW 285 (by decide +kernel) rfl, inTW 286 (by decide +kernel) rfl, inTW 287 (by decide +kernel) rfl, inTW 59 (by decide +kernel) rfl, inTW 288 (by decide +kernel) rfl⟩, by decide +kernel, by decide +kernel⟩
theorem wv_X5_45 : jWV RX5 45 RX0 yX0_changeSetting cX0_changeSetting 4 (some .int) 2 := ⟨⟨inTW 312 (by decide +kernel) rfl, inTW 313 (by decide +kernel) rfl, inTW 314 (by decide +kernel) rfl, inTW 56 (by decide +kernel) rfl, inTW 315 (by decide +kernel) rfl⟩, by decide +kernel, by decide +kernel⟩
theorem wv_X5_49 : jWV RX5 49 RX3 yX3_settle cX3_settle 2 (some .int) 1 := ⟨⟨inTW 323 (by decide +kernel) rfl, inTW 324 (by decide +kernel) rfl, inTW 325 (by decide +kernel) rfl, inTW 59 (by decide +kernel) rfl, inTW 326 (by decide +kernel) rfl⟩, by decide +kernel, by decide +kernel⟩
theorem wv_X5_53 : jWV RX5 53 RX0 yX0_addBoard cX0_addBoard 4 (some .int) 2 := ⟨⟨inTW 331 (by decide +kernel) rfl, inTW 332 (by decide +kernel) rfl, inTW 333 (by decide +kernel) rfl, inTW 56 (by decide +kernel) rfl, inTW 334 (by decide +kernel) rfl⟩, by decide +kernel, by decide +kernel⟩
theorem wv_X5_56 : jWV RX5 56 RX0 yX0_moveInward cX0_moveInward 6 (some .int) 3 := ⟨⟨inTW 343 (by decide +kernel) rfl, inTW 344 (by decide +kernel) rfl, inTW 345 (by decide +kernel) rfl, inTW 56 (by decide +kernel) rfl, inTW 346 (by decide +kernel) rfl⟩, by decide +kernel, by decide +kernel⟩
theorem wv_X5_60 : jWV RX5 60 RX0 yX0_moveOutward cX0_moveOutward 4 (some .int) 2 := ⟨⟨inTW 367 (by decide +kernel) rfl, inTW 368 (by decide +kernel) rfl, inTW 369 (by decide +kernel) rfl, inTW 56 (by decide +kernel) rfl, inTW 370 (by decide +kernel) rfl⟩, by decide +kernel, by decide +kernel⟩
theorem wv_X5_63 : jWV RX5 63 RX0 yX0_askToLeave cX0_askToLeave 3 (some .int) 1 := ⟨⟨inTW 375 (by decide +kernel) rfl, inTW 376 (by decide +kernel) rfl, inTW 377 (by decide +kernel) rfl, inTW 56 (by decide +kernel) rfl, inTW 378 (by decide +kernel) rfl⟩, by decide +kernel, by decide +kernel⟩
theorem wv_X5_66 : jWV RX5 66 RX0 yX0_sendWord cX0_sendWord 4 (some .int) 2 := ⟨⟨inTW 391 (by decide +kernel) rfl, inTW 392 (by decide +kernel) rfl, inTW 393 (by decide +kernel) rfl, inTW 56 (by decide +kernel) rfl, inTW 394 (by decide +kernel) rfl⟩, by decide +kernel, by decide +kernel⟩
theorem wv_X5_69 : jWV RX5 69 RX0 yX0_passTicks cX0_passTicks 4 (some .int) 1 := ⟨⟨inTW 415 (by decide +kernel) rfl, inTW 416 (by decide +kernel) rfl, inTW 417 (by decide +kernel) rfl, inTW 56 (by decide +kernel) rfl, inTW 418 (by decide +kernel) rfl⟩, by decide +kernel, by decide +kernel⟩
theorem wv_X5_72 : jWV RX5 72 RX0 yX0_aboutBoard cX0_aboutBoard 4 (some .int) 2 := ⟨⟨inTW 514 (by decide +kernel) rfl, inTW 515 (by decide +kernel) rfl, inTW 516 (by decide +kernel) rfl, inTW 56 (by decide +kernel) rfl, inTW 517 (by decide +kernel) rfl⟩, by decide +kernel, by decide +kernel⟩
theorem ws_X5_75 : jWS RX5 75 yX5_isSlot cX5_isSlot 1 (some .boolean) 1 := ⟨⟨inTW 526 (by decide +kernel) rfl, inTW 356 (by decide +kernel) rfl, inTW 55 (by decide +kernel) rfl, inTW 357 (by decide +kernel) rfl⟩, by decide +kernel, by decide +kernel⟩
theorem wv_X5_79 : jWV RX5 79 RX0 yX0_boardIn cX0_boardIn 3 (some .int) 1 := ⟨⟨inTW 527 (by decide +kernel) rfl, inTW 360 (by decide +kernel) rfl, inTW 361 (by decide +kernel) rfl, inTW 56 (by decide +kernel) rfl, inTW 362 (by decide +kernel) rfl⟩, by decide +kernel, by decide +kernel⟩
theorem wv_X5_86 : jWV RX5 86 RX2 yX2_aboutWord cX2_aboutWord 3 (some .int) 2 := ⟨⟨inTW 532 (by decide +kernel) rfl, inTW 533 (by decide +kernel) rfl, inTW 534 (by decide +kernel) rfl, inTW 58 (by decide +kernel) rfl, inTW 535 (by decide +kernel) rfl⟩, by decide +kernel, by decide +kernel⟩
theorem wv_X5_91 : jWV RX5 91 RX2 yX2_wordAtRank cX2_wordAtRank 2 (some .int) 1 := ⟨⟨inTW 540 (by decide +kernel) rfl, inTW 541 (by decide +kernel) rfl, inTW 542 (by decide +kernel) rfl, inTW 58 (by decide +kernel) rfl, inTW 543 (by decide +kernel) rfl⟩, by decide +kernel, by decide +kernel⟩
theorem wv_X5_98 : jWV RX5 98 RX0 yX0_boardSet cX0_boardSet 1 (some .int) 0 := ⟨⟨inTW 548 (by decide +kernel) rfl, inTW 549 (by decide +kernel) rfl, inTW 550 (by decide +kernel) rfl, inTW 56 (by decide +kernel) rfl, inTW 551 (by decide +kernel) rfl⟩, by decide +kernel, by decide +kernel⟩
theorem wv_X5_102 : jWV RX5 102 RX0 yX0_pluggedSet cX0_pluggedSet 3 (some .int) 0 := ⟨⟨inTW 552 (by decide +kernel) rfl, inTW 553 (by decide +kernel) rfl, inTW 554 (by decide +kernel) rfl, inTW 56 (by decide +kernel) rfl, inTW 555 (by decide +kernel) rfl⟩, by decide +kernel, by decide +kernel⟩
theorem wv_X5_105 : jWV RX5 105 RX0 yX0_knownSet cX0_knownSet 3 (some .int) 0 := ⟨⟨inTW 556 (by decide +kernel) rfl, inTW 496 (by decide +kernel) rfl, inTW 497 (by decide +kernel) rfl, inTW 56 (by decide +kernel) rfl, inTW 498 (by decide +kernel) rfl⟩, by decide +kernel, by decide +kernel⟩
theorem wv_X5_120 : jWV RX5 120 RX0 yX0_isHeld cX0_isHeld 2 (some .boolean) 0 := ⟨⟨inTW 557 (by decide +kernel) rfl, inTW 488 (by decide +kernel) rfl, inTW 489 (by decide +kernel) rfl, inTW 56 (by decide +kernel) rfl, inTW 490 (by decide +kernel) rfl⟩, by decide +kernel, by decide +kernel⟩
theorem wv_X5_124 : jWV RX5 124 RX0 yX0_drawn cX0_drawn 3 (some .int) 0 := ⟨⟨inTW 558 (by decide +kernel) rfl, inTW 456 (by decide +kernel) rfl, inTW 457 (by decide +kernel) rfl, inTW 56 (by decide +kernel) rfl, inTW 458 (by decide +kernel) rfl⟩, by decide +kernel, by decide +kernel⟩
theorem wv_X5_133 : jWV RX5 133 RX0 yX0_pulledTooSoon cX0_pulledTooSoon 3 (some .int) 0 := ⟨⟨inTW 559 (by decide +kernel) rfl, inTW 560 (by decide +kernel) rfl, inTW 561 (by decide +kernel) rfl, inTW 56 (by decide +kernel) rfl, inTW 562 (by decide +kernel) rfl⟩, by decide +kernel, by decide +kernel⟩
theorem ws_X5_146 : jWS RX5 146 yX5_isIn cX5_isIn 3 (some .boolean) 3 := ⟨⟨inTW 358 (by decide +kernel) rfl, inTW 317 (by decide +kernel) rfl, inTW 55 (by decide +kernel) rfl, inTW 318 (by decide +kernel) rfl⟩, by decide +kernel, by decide +kernel⟩
theorem wv_X5_150 : jWV RX5 150 RX0 yX0_knownWithCode cX0_knownWithCode 3 (some .int) 1 := ⟨⟨inTW 567 (by decide +kernel) rfl, inTW 568 (by decide +kernel) rfl, inTW 569 (by decide +kernel) rfl, inTW 56 (by decide +kernel) rfl, inTW 570 (by decide +kernel) rfl⟩, by decide +kernel, by decide +kernel⟩
theorem wv_X5_153 : jWV RX5 153 RX0 yX0_whyNot cX0_whyNot 5 (some .int) 2 := ⟨⟨inTW 575 (by decide +kernel) rfl, inTW 396 (by decide +kernel) rfl, inTW 397 (by decide +kernel) rfl, inTW 56 (by decide +kernel) rfl, inTW 398 (by decide +kernel) rfl⟩, by decide +kernel, by decide +kernel⟩
theorem wv_X5_156 : jWV RX5 156 RX0 yX0_boardAt cX0_boardAt 2 (some (.object "PlugPins$Board")) 1 := ⟨⟨inTW 580 (by decide +kernel) rfl, inTW 352 (by decide +kernel) rfl, inTW 353 (by decide +kernel) rfl, inTW 56 (by decide +kernel) rfl, inTW 354 (by decide +kernel) rfl⟩, by decide +kernel, by decide +kernel⟩
theorem wv_X5_165 : jWV RX5 165 RX0 yX0_copyFrom cX0_copyFrom 3 (none) 1 := ⟨⟨inTW 581 (by decide +kernel) rfl, inTW 297 (by decide +kernel) rfl, inTW 298 (by decide +kernel) rfl, inTW 56 (by decide +kernel) rfl, inTW 299 (by decide +kernel) rfl⟩, by decide +kernel, by decide +kernel⟩
theorem wv_X5_168 : jWV RX5 168 RX0 yX0_ticksUntilKnown cX0_ticksUntilKnown 4 (some .int) 1 := ⟨⟨inTW 582 (by decide +kernel) rfl, inTW 583 (by decide +kernel) rfl, inTW 584 (by decide +kernel) rfl, inTW 56 (by decide +kernel) rfl, inTW 585 (by decide +kernel) rfl⟩, by decide +kernel, by decide +kernel⟩
theorem wv_X5_171 : jWV RX5 171 RX0 yX0_inwardError cX0_inwardError 8 (some .int) 3 := ⟨⟨inTW 590 (by decide +kernel) rfl, inTW 348 (by decide +kernel) rfl, inTW 349 (by decide +kernel) rfl, inTW 56 (by decide +kernel) rfl, inTW 350 (by decide +kernel) rfl⟩, by decide +kernel, by decide +kernel⟩
theorem wv_X5_174 : jWV RX5 174 RX5 yX5_hurtsByPlug cX5_hurtsByPlug 4 (some .int) 3 := ⟨⟨inTW 591 (by decide +kernel) rfl, inTW 593 (by decide +kernel) rfl, inTW 8 (by decide +kernel) rfl, inTW 55 (by decide +kernel) rfl, inTW 594 (by decide +kernel) rfl⟩, by decide +kernel, by decide +kernel⟩
theorem wv_X5_177 : jWV RX5 177 RX0 yX0_ticksUntilQuiet cX0_ticksUntilQuiet 2 (some .int) 0 := ⟨⟨inTW 607 (by decide +kernel) rfl, inTW 608 (by decide +kernel) rfl, inTW 609 (by decide +kernel) rfl, inTW 56 (by decide +kernel) rfl, inTW 610 (by decide +kernel) rfl⟩, by decide +kernel, by decide +kernel⟩
theorem wv_X5_180 : jWV RX5 180 RX4 yX4_append cX4_append 5 (some .int) 1 := ⟨⟨inTW 616 (by decide +kernel) rfl, inTW 617 (by decide +kernel) rfl, inTW 618 (by decide +kernel) rfl, inTW 60 (by decide +kernel) rfl, inTW 619 (by decide +kernel) rfl⟩, by decide +kernel, by decide +kernel⟩
theorem wv_X5_184 : jWV RX5 184 RX4 yX4_clear cX4_clear 2 (some .int) 0 := ⟨⟨inTW 629 (by decide +kernel) rfl, inTW 630 (by decide +kernel) rfl, inTW 631 (by decide +kernel) rfl, inTW 60 (by decide +kernel) rfl, inTW 632 (by decide +kernel) rfl⟩, by decide +kernel, by decide +kernel⟩
theorem wv_X5_187 : jWV RX5 187 RX4 yX4_faultPlace cX4_faultPlace 2 (some .int) 0 := ⟨⟨inTW 637 (by decide +kernel) rfl, inTW 638 (by decide +kernel) rfl, inTW 639 (by decide +kernel) rfl, inTW 60 (by decide +kernel) rfl, inTW 640 (by decide +kernel) rfl⟩, by decide +kernel, by decide +kernel⟩
theorem wv_X5_190 : jWV RX5 190 RX4 yX4_startReading cX4_startReading 1 (none) 0 := ⟨⟨inTW 736 (by decide +kernel) rfl, inTW 642 (by decide +kernel) rfl, inTW 643 (by decide +kernel) rfl, inTW 60 (by decide +kernel) rfl, inTW 644 (by decide +kernel) rfl⟩, by decide +kernel, by decide +kernel⟩
theorem wv_X5_193 : jWV RX5 193 RX4 yX4_readOrder cX4_readOrder 6 (some .boolean) 0 := ⟨⟨inTW 737 (by decide +kernel) rfl, inTW 646 (by decide +kernel) rfl, inTW 647 (by decide +kernel) rfl, inTW 60 (by decide +kernel) rfl, inTW 648 (by decide +kernel) rfl⟩, by decide +kernel, by decide +kernel⟩
theorem wv_X5_196 : jWV RX5 196 RX5 yX5_carryOutOrder cX5_carryOutOrder 4 (some .int) 0 := ⟨⟨inTW 738 (by decide +kernel) rfl, inTW 740 (by decide +kernel) rfl, inTW 13 (by decide +kernel) rfl, inTW 55 (by decide +kernel) rfl, inTW 741 (by decide +kernel) rfl⟩, by decide +kernel, by decide +kernel⟩
theorem wv_X5_199 : jWV RX5 199 RX4 yX4_readSeparator cX4_readSeparator 1 (some .boolean) 0 := ⟨⟨inTW 742 (by decide +kernel) rfl, inTW 728 (by decide +kernel) rfl, inTW 729 (by decide +kernel) rfl, inTW 60 (by decide +kernel) rfl, inTW 730 (by decide +kernel) rfl⟩, by decide +kernel, by decide +kernel⟩
theorem wv_X5_202 : jWV RX5 202 RX3 yX3_takeBack cX3_takeBack 2 (some .int) 1 := ⟨⟨inTW 747 (by decide +kernel) rfl, inTW 748 (by decide +kernel) rfl, inTW 749 (by decide +kernel) rfl, inTW 59 (by decide +kernel) rfl, inTW 750 (by decide +kernel) rfl⟩, by decide +kernel, by decide +kernel⟩
theorem wv_X5_209 : jWV RX5 209 RX0 yX0_hurtsUntilStanding cX0_hurtsUntilStanding 5 (some .int) 1 := ⟨⟨inTW 595 (by decide +kernel) rfl, inTW 596 (by decide +kernel) rfl, inTW 597 (by decide +kernel) rfl, inTW 56 (by decide +kernel) rfl, inTW 598 (by decide +kernel) rfl⟩, by decide +kernel, by decide +kernel⟩
theorem wm_X6_1 : Cond.methodLink RX6 1 Lib.objectInit ∈ TW := inTW 764 (by decide +kernel) rfl
theorem ws_X6_25 : jWS RX6 25 yX6_in cX6_in 3 (some .boolean) 3 := ⟨⟨inTW 816 (by decide +kernel) rfl, inTW 817 (by decide +kernel) rfl, inTW 61 (by decide +kernel) rfl, inTW 818 (by decide +kernel) rfl⟩, by decide +kernel, by decide +kernel⟩
theorem wv_X6_29 : jWV RX6 29 RX6 yX6_stateOf cX6_stateOf 2 (some .int) 1 := ⟨⟨inTW 887 (by decide +kernel) rfl, inTW 889 (by decide +kernel) rfl, inTW 25 (by decide +kernel) rfl, inTW 61 (by decide +kernel) rfl, inTW 890 (by decide +kernel) rfl⟩, by decide +kernel, by decide +kernel⟩
theorem wv_X6_33 : jWV RX6 33 RX6 yX6_fromOf cX6_fromOf 2 (some .int) 1 := ⟨⟨inTW 895 (by decide +kernel) rfl, inTW 897 (by decide +kernel) rfl, inTW 27 (by decide +kernel) rfl, inTW 61 (by decide +kernel) rfl, inTW 898 (by decide +kernel) rfl⟩, by decide +kernel, by decide +kernel⟩
theorem wv_X6_36 : jWV RX6 36 RX6 yX6_toOf cX6_toOf 2 (some .int) 1 := ⟨⟨inTW 899 (by decide +kernel) rfl, inTW 901 (by decide +kernel) rfl, inTW 28 (by decide +kernel) rfl, inTW 61 (by decide +kernel) rfl, inTW 902 (by decide +kernel) rfl⟩, by decide +kernel, by decide +kernel⟩
theorem wv_X6_39 : jWV RX6 39 RX6 yX6_becomes cX6_becomes 3 (none) 2 := ⟨⟨inTW 951 (by decide +kernel) rfl, inTW 953 (by decide +kernel) rfl, inTW 39 (by decide +kernel) rfl, inTW 61 (by decide +kernel) rfl, inTW 954 (by decide +kernel) rfl⟩, by decide +kernel, by decide +kernel⟩
theorem wv_X6_43 : jWV RX6 43 RX6 yX6_isGoing cX6_isGoing 2 (some .boolean) 1 := ⟨⟨inTW 883 (by decide +kernel) rfl, inTW 885 (by decide +kernel) rfl, inTW 24 (by decide +kernel) rfl, inTW 61 (by decide +kernel) rfl, inTW 886 (by decide +kernel) rfl⟩, by decide +kernel, by decide +kernel⟩
theorem wv_X6_47 : jWV RX6 47 RX6 yX6_isOf cX6_isOf 3 (some .boolean) 2 := ⟨⟨inTW 891 (by decide +kernel) rfl, inTW 893 (by decide +kernel) rfl, inTW 26 (by decide +kernel) rfl, inTW 61 (by decide +kernel) rfl, inTW 894 (by decide +kernel) rfl⟩, by decide +kernel, by decide +kernel⟩
theorem wv_X6_55 : jWV RX6 55 RX6 yX6_record cX6_record 2 (none) 0 := ⟨⟨inTW 829 (by decide +kernel) rfl, inTW 831 (by decide +kernel) rfl, inTW 16 (by decide +kernel) rfl, inTW 61 (by decide +kernel) rfl, inTW 832 (by decide +kernel) rfl⟩, by decide +kernel, by decide +kernel⟩
theorem ws_X6_58 : jWS RX6 58 yX6_ofBoard cX6_ofBoard 2 (some .int) 2 := ⟨⟨inTW 841 (by decide +kernel) rfl, inTW 842 (by decide +kernel) rfl, inTW 61 (by decide +kernel) rfl, inTW 843 (by decide +kernel) rfl⟩, by decide +kernel, by decide +kernel⟩
theorem wv_X6_62 : jWV RX6 62 RX6 yX6_draw cX6_draw 3 (some .int) 0 := ⟨⟨inTW 935 (by decide +kernel) rfl, inTW 937 (by decide +kernel) rfl, inTW 35 (by decide +kernel) rfl, inTW 61 (by decide +kernel) rfl, inTW 938 (by decide +kernel) rfl⟩, by decide +kernel, by decide +kernel⟩
theorem wv_X6_66 : jWV RX6 66 RX6 yX6_isLost cX6_isLost 2 (none) 1 := ⟨⟨inTW 947 (by decide +kernel) rfl, inTW 949 (by decide +kernel) rfl, inTW 38 (by decide +kernel) rfl, inTW 61 (by decide +kernel) rfl, inTW 950 (by decide +kernel) rfl⟩, by decide +kernel, by decide +kernel⟩
theorem wv_X6_70 : jWV RX6 70 RX6 yX6_forgets cX6_forgets 3 (none) 1 := ⟨⟨inTW 943 (by decide +kernel) rfl, inTW 945 (by decide +kernel) rfl, inTW 37 (by decide +kernel) rfl, inTW 61 (by decide +kernel) rfl, inTW 946 (by decide +kernel) rfl⟩, by decide +kernel, by decide +kernel⟩
theorem wv_X6_73 : jWV RX6 73 RX6 yX6_isReady cX6_isReady 2 (some .boolean) 1 := ⟨⟨inTW 967 (by decide +kernel) rfl, inTW 969 (by decide +kernel) rfl, inTW 43 (by decide +kernel) rfl, inTW 61 (by decide +kernel) rfl, inTW 970 (by decide +kernel) rfl⟩, by decide +kernel, by decide +kernel⟩
theorem wv_X6_76 : jWV RX6 76 RX6 yX6_boardIn cX6_boardIn 4 (some .int) 1 := ⟨⟨inTW 859 (by decide +kernel) rfl, inTW 861 (by decide +kernel) rfl, inTW 20 (by decide +kernel) rfl, inTW 61 (by decide +kernel) rfl, inTW 862 (by decide +kernel) rfl⟩, by decide +kernel, by decide +kernel⟩
theorem wv_X6_79 : jWV RX6 79 RX6 yX6_goes cX6_goes 4 (some .boolean) 1 := ⟨⟨inTW 927 (by decide +kernel) rfl, inTW 929 (by decide +kernel) rfl, inTW 33 (by decide +kernel) rfl, inTW 61 (by decide +kernel) rfl, inTW 930 (by decide +kernel) rfl⟩, by decide +kernel, by decide +kernel⟩
theorem wv_X6_82 : jWV RX6 82 RX6 yX6_powers cX6_powers 3 (none) 1 := ⟨⟨inTW 931 (by decide +kernel) rfl, inTW 933 (by decide +kernel) rfl, inTW 34 (by decide +kernel) rfl, inTW 61 (by decide +kernel) rfl, inTW 934 (by decide +kernel) rfl⟩, by decide +kernel, by decide +kernel⟩
theorem wv_X6_85 : jWV RX6 85 RX6 yX6_greets cX6_greets 5 (none) 1 := ⟨⟨inTW 939 (by decide +kernel) rfl, inTW 941 (by decide +kernel) rfl, inTW 36 (by decide +kernel) rfl, inTW 61 (by decide +kernel) rfl, inTW 942 (by decide +kernel) rfl⟩, by decide +kernel, by decide +kernel⟩
theorem wv_X6_88 : jWV RX6 88 RX6 yX6_serves cX6_serves 3 (none) 1 := ⟨⟨inTW 955 (by decide +kernel) rfl, inTW 957 (by decide +kernel) rfl, inTW 40 (by decide +kernel) rfl, inTW 61 (by decide +kernel) rfl, inTW 958 (by decide +kernel) rfl⟩, by decide +kernel, by decide +kernel⟩
theorem wv_X6_92 : jWV RX6 92 RX6 yX6_isHeld cX6_isHeld 5 (some .boolean) 0 := ⟨⟨inTW 959 (by decide +kernel) rfl, inTW 961 (by decide +kernel) rfl, inTW 41 (by decide +kernel) rfl, inTW 61 (by decide +kernel) rfl, inTW 962 (by decide +kernel) rfl⟩, by decide +kernel, by decide +kernel⟩
theorem wv_X6_96 : jWV RX6 96 RX6 yX6_getsOn cX6_getsOn 3 (none) 0 := ⟨⟨inTW 963 (by decide +kernel) rfl, inTW 965 (by decide +kernel) rfl, inTW 42 (by decide +kernel) rfl, inTW 61 (by decide +kernel) rfl, inTW 966 (by decide +kernel) rfl⟩, by decide +kernel, by decide +kernel⟩
theorem wv_X6_99 : jWV RX6 99 RX6 yX6_tick cX6_tick 5 (none) 0 := ⟨⟨inTW 923 (by decide +kernel) rfl, inTW 925 (by decide +kernel) rfl, inTW 32 (by decide +kernel) rfl, inTW 61 (by decide +kernel) rfl, inTW 926 (by decide +kernel) rfl⟩, by decide +kernel, by decide +kernel⟩
theorem wv_X6_102 : jWV RX6 102 RX6 yX6_putAside cX6_putAside 2 (none) 0 := ⟨⟨inTW 812 (by decide +kernel) rfl, inTW 814 (by decide +kernel) rfl, inTW 14 (by decide +kernel) rfl, inTW 61 (by decide +kernel) rfl, inTW 815 (by decide +kernel) rfl⟩, by decide +kernel, by decide +kernel⟩
theorem ws_X6_105 : jWS RX6 105 yX6_least cX6_least 1 (some .int) 1 := ⟨⟨inTW 819 (by decide +kernel) rfl, inTW 820 (by decide +kernel) rfl, inTW 61 (by decide +kernel) rfl, inTW 821 (by decide +kernel) rfl⟩, by decide +kernel, by decide +kernel⟩
theorem ws_X6_108 : jWS RX6 108 yX6_most cX6_most 1 (some .int) 1 := ⟨⟨inTW 822 (by decide +kernel) rfl, inTW 823 (by decide +kernel) rfl, inTW 61 (by decide +kernel) rfl, inTW 824 (by decide +kernel) rfl⟩, by decide +kernel, by decide +kernel⟩
theorem wv_X6_111 : jWV RX6 111 RX6 yX6_changed cX6_changed 2 (some .int) 1 := ⟨⟨inTW 825 (by decide +kernel) rfl, inTW 827 (by decide +kernel) rfl, inTW 15 (by decide +kernel) rfl, inTW 61 (by decide +kernel) rfl, inTW 828 (by decide +kernel) rfl⟩, by decide +kernel, by decide +kernel⟩
theorem wv_X6_114 : jWV RX6 114 RX6 yX6_comes cX6_comes 4 (some .int) 2 := ⟨⟨inTW 837 (by decide +kernel) rfl, inTW 839 (by decide +kernel) rfl, inTW 17 (by decide +kernel) rfl, inTW 61 (by decide +kernel) rfl, inTW 840 (by decide +kernel) rfl⟩, by decide +kernel, by decide +kernel⟩
theorem wv_X6_117 : jWV RX6 117 RX6 yX6_isBoard cX6_isBoard 2 (some .boolean) 1 := ⟨⟨inTW 852 (by decide +kernel) rfl, inTW 854 (by decide +kernel) rfl, inTW 19 (by decide +kernel) rfl, inTW 61 (by decide +kernel) rfl, inTW 855 (by decide +kernel) rfl⟩, by decide +kernel, by decide +kernel⟩
theorem ws_X6_120 : jWS RX6 120 yX6_isSlot cX6_isSlot 1 (some .boolean) 1 := ⟨⟨inTW 856 (by decide +kernel) rfl, inTW 857 (by decide +kernel) rfl, inTW 61 (by decide +kernel) rfl, inTW 858 (by decide +kernel) rfl⟩, by decide +kernel, by decide +kernel⟩
theorem wv_X6_123 : jWV RX6 123 RX6 yX6_plugs cX6_plugs 7 (some .int) 3 := ⟨⟨inTW 848 (by decide +kernel) rfl, inTW 850 (by decide +kernel) rfl, inTW 18 (by decide +kernel) rfl, inTW 61 (by decide +kernel) rfl, inTW 851 (by decide +kernel) rfl⟩, by decide +kernel, by decide +kernel⟩
theorem wv_X6_127 : jWV RX6 127 RX6 yX6_pulls cX6_pulls 3 (some .int) 2 := ⟨⟨inTW 867 (by decide +kernel) rfl, inTW 869 (by decide +kernel) rfl, inTW 21 (by decide +kernel) rfl, inTW 61 (by decide +kernel) rfl, inTW 870 (by decide +kernel) rfl⟩, by decide +kernel, by decide +kernel⟩
theorem wv_X6_130 : jWV RX6 130 RX6 yX6_going cX6_going 4 (some .int) 1 := ⟨⟨inTW 879 (by decide +kernel) rfl, inTW 881 (by decide +kernel) rfl, inTW 23 (by decide +kernel) rfl, inTW 61 (by decide +kernel) rfl, inTW 882 (by decide +kernel) rfl⟩, by decide +kernel, by decide +kernel⟩
theorem wv_X6_133 : jWV RX6 133 RX6 yX6_asks cX6_asks 2 (some .int) 1 := ⟨⟨inTW 875 (by decide +kernel) rfl, inTW 877 (by decide +kernel) rfl, inTW 22 (by decide +kernel) rfl, inTW 61 (by decide +kernel) rfl, inTW 878 (by decide +kernel) rfl⟩, by decide +kernel, by decide +kernel⟩
theorem wv_X6_136 : jWV RX6 136 RX6 yX6_hindrance cX6_hindrance 3 (some .int) 2 := ⟨⟨inTW 911 (by decide +kernel) rfl, inTW 913 (by decide +kernel) rfl, inTW 30 (by decide +kernel) rfl, inTW 61 (by decide +kernel) rfl, inTW 914 (by decide +kernel) rfl⟩, by decide +kernel, by decide +kernel⟩
theorem wv_X6_139 : jWV RX6 139 RX6 yX6_sends cX6_sends 4 (some .int) 2 := ⟨⟨inTW 907 (by decide +kernel) rfl, inTW 909 (by decide +kernel) rfl, inTW 29 (by decide +kernel) rfl, inTW 61 (by decide +kernel) rfl, inTW 910 (by decide +kernel) rfl⟩, by decide +kernel, by decide +kernel⟩
theorem wv_X6_142 : jWV RX6 142 RX6 yX6_passes cX6_passes 4 (some .int) 1 := ⟨⟨inTW 919 (by decide +kernel) rfl, inTW 921 (by decide +kernel) rfl, inTW 31 (by decide +kernel) rfl, inTW 61 (by decide +kernel) rfl, inTW 922 (by decide +kernel) rfl⟩, by decide +kernel, by decide +kernel⟩
theorem wv_X6_145 : jWV RX6 145 RX6 yX6_boards cX6_boards 5 (some .int) 1 := ⟨⟨inTW 991 (by decide +kernel) rfl, inTW 993 (by decide +kernel) rfl, inTW 44 (by decide +kernel) rfl, inTW 61 (by decide +kernel) rfl, inTW 994 (by decide +kernel) rfl⟩, by decide +kernel, by decide +kernel⟩
theorem wv_X6_149 : jWV RX6 149 RX6 yX6_tooSoon cX6_tooSoon 3 (some .int) 0 := ⟨⟨inTW 995 (by decide +kernel) rfl, inTW 997 (by decide +kernel) rfl, inTW 45 (by decide +kernel) rfl, inTW 61 (by decide +kernel) rfl, inTW 998 (by decide +kernel) rfl⟩, by decide +kernel, by decide +kernel⟩
theorem wv_X6_155 : jWV RX6 155 RX6 yX6_putBack cX6_putBack 2 (none) 0 := ⟨⟨inTW 1011 (by decide +kernel) rfl, inTW 1013 (by decide +kernel) rfl, inTW 46 (by decide +kernel) rfl, inTW 61 (by decide +kernel) rfl, inTW 1014 (by decide +kernel) rfl⟩, by decide +kernel, by decide +kernel⟩
theorem wv_X6_158 : jWV RX6 158 RX6 yX6_hurtsBy cX6_hurtsBy 7 (some .int) 3 := ⟨⟨inTW 1019 (by decide +kernel) rfl, inTW 1021 (by decide +kernel) rfl, inTW 47 (by decide +kernel) rfl, inTW 61 (by decide +kernel) rfl, inTW 1022 (by decide +kernel) rfl⟩, by decide +kernel, by decide +kernel⟩
theorem wv_X6_170 : jWV RX6 170 RX6 yX6_isNext cX6_isNext 3 (some .boolean) 2 := ⟨⟨inTW 1060 (by decide +kernel) rfl, inTW 1062 (by decide +kernel) rfl, inTW 52 (by decide +kernel) rfl, inTW 61 (by decide +kernel) rfl, inTW 1063 (by decide +kernel) rfl⟩, by decide +kernel, by decide +kernel⟩
theorem wv_X6_173 : jWV RX6 173 RX6 yX6_takes cX6_takes 5 (some .int) 2 := ⟨⟨inTW 1056 (by decide +kernel) rfl, inTW 1058 (by decide +kernel) rfl, inTW 51 (by decide +kernel) rfl, inTW 61 (by decide +kernel) rfl, inTW 1059 (by decide +kernel) rfl⟩, by decide +kernel, by decide +kernel⟩
theorem wv_X6_179 : jWV RX6 179 RX6 yX6_number cX6_number 2 (some .int) 0 := ⟨⟨inTW 1052 (by decide +kernel) rfl, inTW 1054 (by decide +kernel) rfl, inTW 50 (by decide +kernel) rfl, inTW 61 (by decide +kernel) rfl, inTW 1055 (by decide +kernel) rfl⟩, by decide +kernel, by decide +kernel⟩
theorem ws_X6_185 : jWS RX6 185 yX6_between cX6_between 1 (some .int) 1 := ⟨⟨inTW 1064 (by decide +kernel) rfl, inTW 1065 (by decide +kernel) rfl, inTW 61 (by decide +kernel) rfl, inTW 1066 (by decide +kernel) rfl⟩, by decide +kernel, by decide +kernel⟩
theorem wv_X6_194 : jWV RX6 194 RX6 yX6_readOrder cX6_readOrder 2 (none) 0 := ⟨⟨inTW 1048 (by decide +kernel) rfl, inTW 1050 (by decide +kernel) rfl, inTW 49 (by decide +kernel) rfl, inTW 61 (by decide +kernel) rfl, inTW 1051 (by decide +kernel) rfl⟩, by decide +kernel, by decide +kernel⟩
theorem wv_X6_197 : jWV RX6 197 RX6 yX6_does cX6_does 1 (some .int) 0 := ⟨⟨inTW 1067 (by decide +kernel) rfl, inTW 1069 (by decide +kernel) rfl, inTW 53 (by decide +kernel) rfl, inTW 61 (by decide +kernel) rfl, inTW 1070 (by decide +kernel) rfl⟩, by decide +kernel, by decide +kernel⟩
theorem wv_X6_200 : jWV RX6 200 RX6 yX6_goesThrough cX6_goesThrough 5 (some .int) 1 := ⟨⟨inTW 1044 (by decide +kernel) rfl, inTW 1046 (by decide +kernel) rfl, inTW 48 (by decide +kernel) rfl, inTW 61 (by decide +kernel) rfl, inTW 1047 (by decide +kernel) rfl⟩, by decide +kernel, by decide +kernel⟩
theorem wv_X6_203 : jWV RX6 203 RX6 yX6_fault cX6_fault 2 (some .int) 0 := ⟨⟨inTW 1075 (by decide +kernel) rfl, inTW 1041 (by decide +kernel) rfl, inTW 1042 (by decide +kernel) rfl, inTW 61 (by decide +kernel) rfl, inTW 1043 (by decide +kernel) rfl⟩, by decide +kernel, by decide +kernel⟩
theorem wv_J0_335 : jWV RJ0 335 "java/lang/String" yJ0_coder_7d493 cJ0_coder_7d493 1 (some .byte) 0 := ⟨⟨inTW 671 (by decide +kernel) rfl, inTW 672 (by decide +kernel) rfl, inTW 673 (by decide +kernel) rfl, inTW 64 (by decide +kernel) rfl, inTW 674 (by decide +kernel) rfl⟩, by decide +kernel, by decide +kernel⟩
theorem wv_J0_492 : jWV RJ0 492 "java/lang/String" yJ0_isLatin1_aae02 cJ0_isLatin1_aae02 1 (some .boolean) 0 := ⟨⟨inTW 681 (by decide +kernel) rfl, inTW 682 (by decide +kernel) rfl, inTW 683 (by decide +kernel) rfl, inTW 64 (by decide +kernel) rfl, inTW 684 (by decide +kernel) rfl⟩, by decide +kernel, by decide +kernel⟩
theorem ws_J0_495 : jWS RJ0 495 yJ1_charAt_3b067 cJ1_charAt_3b067 2 (some .char) 2 := ⟨⟨inTW 685 (by decide +kernel) rfl, inTW 686 (by decide +kernel) rfl, inTW 65 (by decide +kernel) rfl, inTW 687 (by decide +kernel) rfl⟩, by decide +kernel, by decide +kernel⟩
theorem ws_J0_498 : jWS RJ0 498 yJ2_charAt_3b067 cJ2_charAt_3b067 2 (some .char) 2 := ⟨⟨inTW 696 (by decide +kernel) rfl, inTW 697 (by decide +kernel) rfl, inTW 67 (by decide +kernel) rfl, inTW 698 (by decide +kernel) rfl⟩, by decide +kernel, by decide +kernel⟩
theorem ws_J0_1059 : jWS RJ0 1059 yJ3_checkIndex_8e157 cJ3_checkIndex_8e157 3 (some .int) 3 := ⟨⟨inTW 693 (by decide +kernel) rfl, inTW 694 (by decide +kernel) rfl, inTW 66 (by decide +kernel) rfl, inTW 695 (by decide +kernel) rfl⟩, by decide +kernel, by decide +kernel⟩
theorem ws_J1_9 : jWS RJ1 9 yJ0_checkIndex_df160 cJ0_checkIndex_df160 2 (none) 2 := ⟨⟨inTW 688 (by decide +kernel) rfl, inTW 689 (by decide +kernel) rfl, inTW 64 (by decide +kernel) rfl, inTW 690 (by decide +kernel) rfl⟩, by decide +kernel, by decide +kernel⟩
theorem ws_J2_48 : jWS RJ2 48 yJ2_length_9d52b cJ2_length_9d52b 1 (some .int) 1 := ⟨⟨inTW 702 (by decide +kernel) rfl, inTW 703 (by decide +kernel) rfl, inTW 67 (by decide +kernel) rfl, inTW 704 (by decide +kernel) rfl⟩, by decide +kernel, by decide +kernel⟩
theorem ws_J2_67 : jWS RJ2 67 yJ2_checkIndex_2214a cJ2_checkIndex_2214a 2 (none) 2 := ⟨⟨inTW 699 (by decide +kernel) rfl, inTW 700 (by decide +kernel) rfl, inTW 67 (by decide +kernel) rfl, inTW 701 (by decide +kernel) rfl⟩, by decide +kernel, by decide +kernel⟩
theorem ws_J2_71 : jWS RJ2 71 yJ2_getChar_3b067 cJ2_getChar_3b067 2 (some .char) 2 := ⟨⟨inTW 706 (by decide +kernel) rfl, inTW 707 (by decide +kernel) rfl, inTW 67 (by decide +kernel) rfl, inTW 708 (by decide +kernel) rfl⟩, by decide +kernel, by decide +kernel⟩
theorem ws_J2_414 : jWS RJ2 414 yJ0_checkIndex_df160 cJ0_checkIndex_df160 2 (none) 2 := ⟨⟨inTW 705 (by decide +kernel) rfl, inTW 689 (by decide +kernel) rfl, inTW 64 (by decide +kernel) rfl, inTW 690 (by decide +kernel) rfl⟩, by decide +kernel, by decide +kernel⟩
theorem wj_L_9 : jWI RL 9 yX5_init cX5_init 2 0 := ⟨⟨inTW 70 (by decide +kernel) rfl, inTW 71 (by decide +kernel) rfl, inTW 55 (by decide +kernel) rfl, inTW 72 (by decide +kernel) rfl⟩, by decide +kernel, by decide +kernel, rfl⟩
theorem wj_L_12 : jWI RL 12 yX6_init cX6_init 1 0 := ⟨⟨inTW 761 (by decide +kernel) rfl, inTW 762 (by decide +kernel) rfl, inTW 61 (by decide +kernel) rfl, inTW 763 (by decide +kernel) rfl⟩, by decide +kernel, by decide +kernel, rfl⟩
theorem wv_L_13 : jWV RL 13 RX5 yX5_set cX5_set 3 (some .int) 2 := ⟨⟨inTW 281 (by decide +kernel) rfl, inTW 282 (by decide +kernel) rfl, inTW 283 (by decide +kernel) rfl, inTW 55 (by decide +kernel) rfl, inTW 284 (by decide +kernel) rfl⟩, by decide +kernel, by decide +kernel⟩
theorem wv_L_17 : jWV RL 17 RX6 yX6_set cX6_set 4 (some .int) 2 := ⟨⟨inTW 808 (by decide +kernel) rfl, inTW 809 (by decide +kernel) rfl, inTW 810 (by decide +kernel) rfl, inTW 61 (by decide +kernel) rfl, inTW 811 (by decide +kernel) rfl⟩, by decide +kernel, by decide +kernel⟩
theorem wv_L_18 : jWV RL 18 RX5 yX5_board cX5_board 3 (some .int) 2 := ⟨⟨inTW 327 (by decide +kernel) rfl, inTW 328 (by decide +kernel) rfl, inTW 329 (by decide +kernel) rfl, inTW 55 (by decide +kernel) rfl, inTW 330 (by decide +kernel) rfl⟩, by decide +kernel, by decide +kernel⟩
theorem wv_L_21 : jWV RL 21 RX6 yX6_board cX6_board 3 (some .int) 2 := ⟨⟨inTW 833 (by decide +kernel) rfl, inTW 834 (by decide +kernel) rfl, inTW 835 (by decide +kernel) rfl, inTW 61 (by decide +kernel) rfl, inTW 836 (by decide +kernel) rfl⟩, by decide +kernel, by decide +kernel⟩
theorem wv_L_22 : jWV RL 22 RX5 yX5_plug cX5_plug 4 (some .int) 3 := ⟨⟨inTW 339 (by decide +kernel) rfl, inTW 340 (by decide +kernel) rfl, inTW 341 (by decide +kernel) rfl, inTW 55 (by decide +kernel) rfl, inTW 342 (by decide +kernel) rfl⟩, by decide +kernel, by decide +kernel⟩
theorem wv_L_26 : jWV RL 26 RX6 yX6_plug cX6_plug 4 (some .int) 3 := ⟨⟨inTW 844 (by decide +kernel) rfl, inTW 845 (by decide +kernel) rfl, inTW 846 (by decide +kernel) rfl, inTW 61 (by decide +kernel) rfl, inTW 847 (by decide +kernel) rfl⟩, by decide +kernel, by decide +kernel⟩
theorem wv_L_27 : jWV RL 27 RX5 yX5_pull cX5_pull 3 (some .int) 2 := ⟨⟨inTW 363 (by decide +kernel) rfl, inTW 364 (by decide +kernel) rfl, inTW 365 (by decide +kernel) rfl, inTW 55 (by decide +kernel) rfl, inTW 366 (by decide +kernel) rfl⟩, by decide +kernel, by decide +kernel⟩
theorem wv_L_30 : jWV RL 30 RX6 yX6_pull cX6_pull 3 (some .int) 2 := ⟨⟨inTW 863 (by decide +kernel) rfl, inTW 864 (by decide +kernel) rfl, inTW 865 (by decide +kernel) rfl, inTW 61 (by decide +kernel) rfl, inTW 866 (by decide +kernel) rfl⟩, by decide +kernel, by decide +kernel⟩
theorem wv_L_31 : jWV RL 31 RX5 yX5_ask cX5_ask 2 (some .int) 1 := ⟨⟨inTW 371 (by decide +kernel) rfl, inTW 372 (by decide +kernel) rfl, inTW 373 (by decide +kernel) rfl, inTW 55 (by decide +kernel) rfl, inTW 374 (by decide +kernel) rfl⟩, by decide +kernel, by decide +kernel⟩
theorem wv_L_35 : jWV RL 35 RX6 yX6_ask cX6_ask 2 (some .int) 1 := ⟨⟨inTW 871 (by decide +kernel) rfl, inTW 872 (by decide +kernel) rfl, inTW 873 (by decide +kernel) rfl, inTW 61 (by decide +kernel) rfl, inTW 874 (by decide +kernel) rfl⟩, by decide +kernel, by decide +kernel⟩
theorem wv_L_36 : jWV RL 36 RX5 yX5_send cX5_send 3 (some .int) 2 := ⟨⟨inTW 387 (by decide +kernel) rfl, inTW 388 (by decide +kernel) rfl, inTW 389 (by decide +kernel) rfl, inTW 55 (by decide +kernel) rfl, inTW 390 (by decide +kernel) rfl⟩, by decide +kernel, by decide +kernel⟩
theorem wv_L_39 : jWV RL 39 RX6 yX6_send cX6_send 3 (some .int) 2 := ⟨⟨inTW 903 (by decide +kernel) rfl, inTW 904 (by decide +kernel) rfl, inTW 905 (by decide +kernel) rfl, inTW 61 (by decide +kernel) rfl, inTW 906 (by decide +kernel) rfl⟩, by decide +kernel, by decide +kernel⟩
theorem wv_L_40 : jWV RL 40 RX5 yX5_pass cX5_pass 2 (some .int) 1 := ⟨⟨inTW 411 (by decide +kernel) rfl, inTW 412 (by decide +kernel) rfl, inTW 413 (by decide +kernel) rfl, inTW 55 (by decide +kernel) rfl, inTW 414 (by decide +kernel) rfl⟩, by decide +kernel, by decide +kernel⟩
theorem wv_L_43 : jWV RL 43 RX6 yX6_pass cX6_pass 2 (some .int) 1 := ⟨⟨inTW 915 (by decide +kernel) rfl, inTW 916 (by decide +kernel) rfl, inTW 917 (by decide +kernel) rfl, inTW 61 (by decide +kernel) rfl, inTW 918 (by decide +kernel) rfl⟩, by decide +kernel, by decide +kernel⟩
theorem wv_L_44 : jWV RL 44 RX5 yX5_of cX5_of 3 (some .int) 2 := ⟨⟨inTW 510 (by decide +kernel) rfl, inTW 511 (by decide +kernel) rfl, inTW 512 (by decide +kernel) rfl, inTW 55 (by decide +kernel) rfl, inTW 513 (by decide +kernel) rfl⟩, by decide +kernel, by decide +kernel⟩
theorem wv_L_47 : jWV RL 47 RX6 yX6_of cX6_of 3 (some .int) 2 := ⟨⟨inTW 971 (by decide +kernel) rfl, inTW 972 (by decide +kernel) rfl, inTW 973 (by decide +kernel) rfl, inTW 61 (by decide +kernel) rfl, inTW 974 (by decide +kernel) rfl⟩, by decide +kernel, by decide +kernel⟩
theorem wv_L_48 : jWV RL 48 RX5 yX5_slot cX5_slot 2 (some .int) 1 := ⟨⟨inTW 522 (by decide +kernel) rfl, inTW 523 (by decide +kernel) rfl, inTW 524 (by decide +kernel) rfl, inTW 55 (by decide +kernel) rfl, inTW 525 (by decide +kernel) rfl⟩, by decide +kernel, by decide +kernel⟩
theorem wv_L_51 : jWV RL 51 RX6 yX6_slot cX6_slot 2 (some .int) 1 := ⟨⟨inTW 975 (by decide +kernel) rfl, inTW 976 (by decide +kernel) rfl, inTW 977 (by decide +kernel) rfl, inTW 61 (by decide +kernel) rfl, inTW 978 (by decide +kernel) rfl⟩, by decide +kernel, by decide +kernel⟩
theorem wv_L_52 : jWV RL 52 RX5 yX5_word cX5_word 3 (some .int) 2 := ⟨⟨inTW 528 (by decide +kernel) rfl, inTW 529 (by decide +kernel) rfl, inTW 530 (by decide +kernel) rfl, inTW 55 (by decide +kernel) rfl, inTW 531 (by decide +kernel) rfl⟩, by decide +kernel, by decide +kernel⟩
theorem wv_L_55 : jWV RL 55 RX6 yX6_word cX6_word 3 (some .int) 2 := ⟨⟨inTW 979 (by decide +kernel) rfl, inTW 980 (by decide +kernel) rfl, inTW 981 (by decide +kernel) rfl, inTW 61 (by decide +kernel) rfl, inTW 982 (by decide +kernel) rfl⟩, by decide +kernel, by decide +kernel⟩
theorem wv_L_56 : jWV RL 56 RX5 yX5_waiting cX5_waiting 3 (some .int) 1 := ⟨⟨inTW 536 (by decide +kernel) rfl, inTW 537 (by decide +kernel) rfl, inTW 538 (by decide +kernel) rfl, inTW 55 (by decide +kernel) rfl, inTW 539 (by decide +kernel) rfl⟩, by decide +kernel, by decide +kernel⟩
theorem wv_L_59 : jWV RL 59 RX6 yX6_waiting cX6_waiting 6 (some .int) 1 := ⟨⟨inTW 983 (by decide +kernel) rfl, inTW 984 (by decide +kernel) rfl, inTW 985 (by decide +kernel) rfl, inTW 61 (by decide +kernel) rfl, inTW 986 (by decide +kernel) rfl⟩, by decide +kernel, by decide +kernel⟩
theorem wv_L_60 : jWV RL 60 RX5 yX5_count cX5_count 2 (some .int) 1 := ⟨⟨inTW 544 (by decide +kernel) rfl, inTW 545 (by decide +kernel) rfl, inTW 546 (by decide +kernel) rfl, inTW 55 (by decide +kernel) rfl, inTW 547 (by decide +kernel) rfl⟩, by decide +kernel, by decide +kernel⟩
theorem wv_L_63 : jWV RL 63 RX6 yX6_count cX6_count 2 (some .int) 1 := ⟨⟨inTW 987 (by decide +kernel) rfl, inTW 988 (by decide +kernel) rfl, inTW 989 (by decide +kernel) rfl, inTW 61 (by decide +kernel) rfl, inTW 990 (by decide +kernel) rfl⟩, by decide +kernel, by decide +kernel⟩
theorem wv_L_64 : jWV RL 64 RX5 yX5_known cX5_known 2 (some .int) 1 := ⟨⟨inTW 563 (by decide +kernel) rfl, inTW 564 (by decide +kernel) rfl, inTW 565 (by decide +kernel) rfl, inTW 55 (by decide +kernel) rfl, inTW 566 (by decide +kernel) rfl⟩, by decide +kernel, by decide +kernel⟩
theorem wv_L_67 : jWV RL 67 RX6 yX6_known cX6_known 4 (some .int) 1 := ⟨⟨inTW 999 (by decide +kernel) rfl, inTW 1000 (by decide +kernel) rfl, inTW 1001 (by decide +kernel) rfl, inTW 61 (by decide +kernel) rfl, inTW 1002 (by decide +kernel) rfl⟩, by decide +kernel, by decide +kernel⟩
theorem wv_L_68 : jWV RL 68 RX5 yX5_why cX5_why 3 (some .int) 2 := ⟨⟨inTW 571 (by decide +kernel) rfl, inTW 572 (by decide +kernel) rfl, inTW 573 (by decide +kernel) rfl, inTW 55 (by decide +kernel) rfl, inTW 574 (by decide +kernel) rfl⟩, by decide +kernel, by decide +kernel⟩
theorem wv_L_71 : jWV RL 71 RX6 yX6_why cX6_why 3 (some .int) 2 := ⟨⟨inTW 1003 (by decide +kernel) rfl, inTW 1004 (by decide +kernel) rfl, inTW 1005 (by decide +kernel) rfl, inTW 61 (by decide +kernel) rfl, inTW 1006 (by decide +kernel) rfl⟩, by decide +kernel, by decide +kernel⟩
theorem wv_L_72 : jWV RL 72 RX5 yX5_knownIn cX5_knownIn 3 (some .int) 1 := ⟨⟨inTW 576 (by decide +kernel) rfl, inTW 577 (by decide +kernel) rfl, inTW 578 (by decide +kernel) rfl, inTW 55 (by decide +kernel) rfl, inTW 579 (by decide +kernel) rfl⟩, by decide +kernel, by decide +kernel⟩
theorem wv_L_75 : jWV RL 75 RX6 yX6_knownIn cX6_knownIn 3 (some .int) 1 := ⟨⟨inTW 1007 (by decide +kernel) rfl, inTW 1008 (by decide +kernel) rfl, inTW 1009 (by decide +kernel) rfl, inTW 61 (by decide +kernel) rfl, inTW 1010 (by decide +kernel) rfl⟩, by decide +kernel, by decide +kernel⟩
theorem wv_L_76 : jWV RL 76 RX5 yX5_wouldHurt cX5_wouldHurt 5 (some .int) 3 := ⟨⟨inTW 586 (by decide +kernel) rfl, inTW 587 (by decide +kernel) rfl, inTW 588 (by decide +kernel) rfl, inTW 55 (by decide +kernel) rfl, inTW 589 (by decide +kernel) rfl⟩, by decide +kernel, by decide +kernel⟩
theorem wv_L_79 : jWV RL 79 RX6 yX6_wouldHurt cX6_wouldHurt 4 (some .int) 3 := ⟨⟨inTW 1015 (by decide +kernel) rfl, inTW 1016 (by decide +kernel) rfl, inTW 1017 (by decide +kernel) rfl, inTW 61 (by decide +kernel) rfl, inTW 1018 (by decide +kernel) rfl⟩, by decide +kernel, by decide +kernel⟩
theorem wv_L_80 : jWV RL 80 RX5 yX5_safeSpeed cX5_safeSpeed 5 (some .int) 2 := ⟨⟨inTW 599 (by decide +kernel) rfl, inTW 600 (by decide +kernel) rfl, inTW 601 (by decide +kernel) rfl, inTW 55 (by decide +kernel) rfl, inTW 602 (by decide +kernel) rfl⟩, by decide +kernel, by decide +kernel⟩
theorem wv_L_83 : jWV RL 83 RX6 yX6_safeSpeed cX6_safeSpeed 6 (some .int) 2 := ⟨⟨inTW 1023 (by decide +kernel) rfl, inTW 1024 (by decide +kernel) rfl, inTW 1025 (by decide +kernel) rfl, inTW 61 (by decide +kernel) rfl, inTW 1026 (by decide +kernel) rfl⟩, by decide +kernel, by decide +kernel⟩
theorem wv_L_84 : jWV RL 84 RX5 yX5_quietIn cX5_quietIn 1 (some .int) 0 := ⟨⟨inTW 603 (by decide +kernel) rfl, inTW 604 (by decide +kernel) rfl, inTW 605 (by decide +kernel) rfl, inTW 55 (by decide +kernel) rfl, inTW 606 (by decide +kernel) rfl⟩, by decide +kernel, by decide +kernel⟩
theorem wv_L_88 : jWV RL 88 RX6 yX6_quietIn cX6_quietIn 2 (some .int) 0 := ⟨⟨inTW 1027 (by decide +kernel) rfl, inTW 1028 (by decide +kernel) rfl, inTW 1029 (by decide +kernel) rfl, inTW 61 (by decide +kernel) rfl, inTW 1030 (by decide +kernel) rfl⟩, by decide +kernel, by decide +kernel⟩
theorem wv_L_91 : jWV RL 91 RX5 yX5_put cX5_put 3 (some .int) 1 := ⟨⟨inTW 612 (by decide +kernel) rfl, inTW 613 (by decide +kernel) rfl, inTW 614 (by decide +kernel) rfl, inTW 55 (by decide +kernel) rfl, inTW 615 (by decide +kernel) rfl⟩, by decide +kernel, by decide +kernel⟩
theorem wv_L_95 : jWV RL 95 RX6 yX6_put cX6_put 8 (some .int) 1 := ⟨⟨inTW 1031 (by decide +kernel) rfl, inTW 1032 (by decide +kernel) rfl, inTW 1033 (by decide +kernel) rfl, inTW 61 (by decide +kernel) rfl, inTW 1034 (by decide +kernel) rfl⟩, by decide +kernel, by decide +kernel⟩
theorem wv_L_96 : jWV RL 96 RX5 yX5_wipe cX5_wipe 1 (some .int) 0 := ⟨⟨inTW 625 (by decide +kernel) rfl, inTW 626 (by decide +kernel) rfl, inTW 627 (by decide +kernel) rfl, inTW 55 (by decide +kernel) rfl, inTW 628 (by decide +kernel) rfl⟩, by decide +kernel, by decide +kernel⟩
theorem wv_L_99 : jWV RL 99 RX6 yX6_wipe cX6_wipe 2 (some .int) 0 := ⟨⟨inTW 1036 (by decide +kernel) rfl, inTW 1037 (by decide +kernel) rfl, inTW 1038 (by decide +kernel) rfl, inTW 61 (by decide +kernel) rfl, inTW 1039 (by decide +kernel) rfl⟩, by decide +kernel, by decide +kernel⟩
theorem wv_L_100 : jWV RL 100 RX5 yX5_fault cX5_fault 1 (some .int) 0 := ⟨⟨inTW 633 (by decide +kernel) rfl, inTW 634 (by decide +kernel) rfl, inTW 635 (by decide +kernel) rfl, inTW 55 (by decide +kernel) rfl, inTW 636 (by decide +kernel) rfl⟩, by decide +kernel, by decide +kernel⟩
theorem wv_L_103 : jWV RL 103 RX6 yX6_fault cX6_fault 2 (some .int) 0 := ⟨⟨inTW 1040 (by decide +kernel) rfl, inTW 1041 (by decide +kernel) rfl, inTW 1042 (by decide +kernel) rfl, inTW 61 (by decide +kernel) rfl, inTW 1043 (by decide +kernel) rfl⟩, by decide +kernel, by decide +kernel⟩
theorem wv_L_104 : jWV RL 104 RX5 yX5_carryOut cX5_carryOut 2 (some .int) 0 := ⟨⟨inTW 732 (by decide +kernel) rfl, inTW 733 (by decide +kernel) rfl, inTW 734 (by decide +kernel) rfl, inTW 55 (by decide +kernel) rfl, inTW 735 (by decide +kernel) rfl⟩, by decide +kernel, by decide +kernel⟩
theorem wv_L_107 : jWV RL 107 RX6 yX6_carryOut cX6_carryOut 2 (some .int) 0 := ⟨⟨inTW 1071 (by decide +kernel) rfl, inTW 1072 (by decide +kernel) rfl, inTW 1073 (by decide +kernel) rfl, inTW 61 (by decide +kernel) rfl, inTW 1074 (by decide +kernel) rfl⟩, by decide +kernel, by decide +kernel⟩
theorem wv_L_108 : jWV RL 108 RX5 yX5_undo cX5_undo 1 (some .int) 0 := ⟨⟨inTW 743 (by decide +kernel) rfl, inTW 744 (by decide +kernel) rfl, inTW 745 (by decide +kernel) rfl, inTW 55 (by decide +kernel) rfl, inTW 746 (by decide +kernel) rfl⟩, by decide +kernel, by decide +kernel⟩
theorem wv_L_111 : jWV RL 111 RX6 yX6_undo cX6_undo 2 (some .int) 0 := ⟨⟨inTW 1076 (by decide +kernel) rfl, inTW 1077 (by decide +kernel) rfl, inTW 1078 (by decide +kernel) rfl, inTW 61 (by decide +kernel) rfl, inTW 1079 (by decide +kernel) rfl⟩, by decide +kernel, by decide +kernel⟩
theorem wv_L_112 : jWV RL 112 RX5 yX5_save cX5_save 2 (some .int) 1 := ⟨⟨inTW 751 (by decide +kernel) rfl, inTW 752 (by decide +kernel) rfl, inTW 753 (by decide +kernel) rfl, inTW 55 (by decide +kernel) rfl, inTW 754 (by decide +kernel) rfl⟩, by decide +kernel, by decide +kernel⟩
theorem wv_L_115 : jWV RL 115 RX6 yX6_save cX6_save 3 (some .int) 1 := ⟨⟨inTW 1080 (by decide +kernel) rfl, inTW 1081 (by decide +kernel) rfl, inTW 1082 (by decide +kernel) rfl, inTW 61 (by decide +kernel) rfl, inTW 1083 (by decide +kernel) rfl⟩, by decide +kernel, by decide +kernel⟩
theorem wv_L_116 : jWV RL 116 RX5 yX5_restore cX5_restore 2 (some .int) 1 := ⟨⟨inTW 755 (by decide +kernel) rfl, inTW 756 (by decide +kernel) rfl, inTW 757 (by decide +kernel) rfl, inTW 55 (by decide +kernel) rfl, inTW 758 (by decide +kernel) rfl⟩, by decide +kernel, by decide +kernel⟩
theorem wv_L_119 : jWV RL 119 RX6 yX6_restore cX6_restore 3 (some .int) 1 := ⟨⟨inTW 1084 (by decide +kernel) rfl, inTW 1085 (by decide +kernel) rfl, inTW 1086 (by decide +kernel) rfl, inTW 61 (by decide +kernel) rfl, inTW 1087 (by decide +kernel) rfl⟩, by decide +kernel, by decide +kernel⟩
end
section
/-! THE CELLS: 0 the object; blocks of 17 cells at 1 + 17 j, j < 11 (a backplane, its settings, its row of boards, 8 boards, its bus, five rows): 0 the one at hand, 1 the trial, 2 to 8 the history's, 9 and 10 the saved; 188 the history, 189 its row; 190 the pad, 191 its signs, 192 its values; 193 the saved, 194 which are saved; 195 the reference, 196 to 200 its rows. -/
abbrev Mem : Type := Nat → Nat → Int32
def CB (X : jX) (ad : Nat → Nat) (r c : Nat) (f : Nat → Int32) : va_E := match r with
  | 0 => .inr (0, [.ref (ad (c + 1)), .ref (ad (c + 2)), .ref (ad (c + 11)), .int (f 3), .int (f 4), .int (f 5)])
  | 1 => .inl (jcA X 0, 5, .inl f)
  | 2 => .inl (jcA X 2, 8, .inr (.inr (.inr (.inr (fun j => [some (ad (c + 1)), some (ad (c + 2)), some (ad (c + 3)), some (ad (c + 4)), some (ad (c + 5)), some (ad (c + 6)), some (ad (c + 7)), some (ad (c + 8))].getD j none)))))
  | 11 => .inr (2, [.ref (ad (c + 1)), .ref (ad (c + 2)), .ref (ad (c + 3)), .ref (ad (c + 4)), .int (f 4), .ref (ad (c + 5)), .int (f 6), .int (f 7), .int (f 8), .int (f 9), .int (f 10), .int (f 11)])
  | 12 => .inl (jcA X 0, 200, .inl f)
  | 13 => .inl (jcA X 0, 200, .inl f)
  | 14 => .inl (jcA X 0, 200, .inl f)
  | 15 => .inl (jcA X 0, 200, .inl f)
  | 16 => .inl (jcA X 0, 10, .inl f)
  | _ => .inr (1, [.int (f 0), .int (f 1), .int (f 2), .int (f 3), .int (f 4), .int (f 5), .int (f 6), .int (f 7), .int (f 8), .int (f 9)])
def CT (X : jX) (ad : Nat → Nat) (r c : Nat) (f : Nat → Int32) : va_E := match r with
  | 0 => .inr (3, [.ref (ad (189)), .int (f 1), .int (f 2)])
  | 1 => .inl (jcA X 3, 7, .inr (.inr (.inr (.inr (fun j => [some (ad (35)), some (ad (52)), some (ad (69)), some (ad (86)), some (ad (103)), some (ad (120)), some (ad (137))].getD j none)))))
  | 2 => .inr (4, [.ref (ad (191)), .int (f 1), .int (f 2), .int (f 3), .ref (ad (192))])
  | 3 => .inl (jcA X 0, 80, .inl f)
  | 4 => .inl (jcA X 0, 3, .inl f)
  | 5 => .inl (jcA X 3, 2, .inr (.inr (.inr (.inr (fun j => [some (ad (154)), some (ad (171))].getD j none)))))
  | 6 => .inl (jcA X 1, 2, .inl f)
  | 7 => .inr (6, [.ref (ad (196)), .ref (ad (197)), .ref (ad (198)), .int (f 3), .ref (ad (199)), .int (f 5), .ref (ad (200)), .int (f 7), .int (f 8), .int (f 9), .int (f 10), .int (f 11), .int (f 12), .int (f 13)])
  | 8 => .inl (jcA X 0, 302, .inl f)
  | 9 => .inl (jcA X 0, 302, .inl f)
  | 10 => .inl (jcA X 0, 1812, .inl f)
  | 11 => .inl (jcA X 0, 604, .inl f)
  | _ => .inl (jcA X 0, 80, .inl f)
def CE (X : jX) (ad : Nat → Nat) (c : Nat) (f : Nat → Int32) : va_E := match c with
  | 0 => .inr (5, [.ref (ad (1)), .ref (ad (18)), .ref (ad (188)), .ref (ad (190)), .ref (ad (193)), .ref (ad (194))])
  | k + 1 => if k < 187 then CB X ad (k % 17) c f else CT X ad (k - 187) c f
def WS (X : jX) (ad : Nat → Nat) (mem : Mem) : va_W := (List.range 201).map (fun c => (ad c, CE X ad c (mem c)))
def upC (mem : Mem) (c : Nat) (F : Nat → Int32) : Mem := fun c' => if c' = c then F else mem c'
def up (mem : Mem) (c k : Nat) (v : Int32) : Mem := upC mem c (upd (mem c) k v)
theorem WS_get {X : jX} {ad : Nat → Nat} {mem : Mem} {c : Nat} (h : c < 201) : (WS X ad mem)[c]? = some (ad c, CE X ad c (mem c)) := by
  simp [WS, List.getElem?_map, List.getElem?_range h]
theorem WS_set {X : jX} {ad : Nat → Nat} {mem : Mem} {c : Nat} {E : va_E} (F : Nat → Int32) (hE : CE X ad c F = E) : (WS X ad mem).set c (ad c, E) = WS X ad (upC mem c F) := by
  apply List.ext_getElem?
  intro i
  by_cases hi : i < 201
  · by_cases hc : i = c
    · subst hc
      rw [List.getElem?_set_self (by simp [WS]; exact hi), WS_get hi, ← hE]
      simp [upC]
    · rw [List.getElem?_set_ne (Ne.symm hc), WS_get hi, WS_get hi]
      simp [upC, hc]
  · rw [List.getElem?_eq_none (by simp [WS]; omega), List.getElem?_eq_none (by simp [WS]; omega)]
/-- a block's first cell -/
def isB (b : Nat) : Prop := ∃ j, j < 11 ∧ b = 1 + 17 * j
theorem isB.lt {b : Nat} (h : isB b) : b + 16 < 201 := by obtain ⟨j, h1, h2⟩ := h; omega
theorem CE_block {X : jX} {ad : Nat → Nat} {b : Nat} (h : isB b) (r : Nat) (hr : r < 17) (f : Nat → Int32) : CE X ad (b + r) f = CB X ad r (b + r) f := by
  obtain ⟨j, h1, rfl⟩ := h
  rw [show 1 + 17 * j + r = (17 * j + r) + 1 by omega]
  show (if 17 * j + r < 187 then CB X ad ((17 * j + r) % 17) _ f else _) = _
  rw [if_pos (by omega), show (17 * j + r) % 17 = r by omega]
theorem CE_bp {X : jX} {ad : Nat → Nat} {b : Nat} (h : isB b) (f : Nat → Int32) : CE X ad b f = CB X ad 0 b f := CE_block h 0 (by decide) f
theorem CE_bd {X : jX} {ad : Nat → Nat} {b i : Nat} (h : isB b) (hi : i < 8) (f : Nat → Int32) : CE X ad (b + (3 + i)) f = CB X ad 3 (b + (3 + i)) f := by
  rw [CE_block h (3 + i) (by omega)]
  match i, hi with
  | 0, _ => rfl
  | 1, _ => rfl
  | 2, _ => rfl
  | 3, _ => rfl
  | 4, _ => rfl
  | 5, _ => rfl
  | 6, _ => rfl
  | 7, _ => rfl
theorem J_ws {X : jX} {own : String} {cc : ByteArray} {nL : Nat} {ret : Option FieldType} {nm : String} {d CR SR : Nat} {Q : List Frame → Array Value → State → State → Prop} {ad : Nat → Nat} {cells slots pc : Nat} {lv : List (Nat × Value)} {st : List Value} {ws ws' : va_W} (h : ws = ws') (k : Jg X own cc nL ret nm d CR SR Q ad cells slots pc lv st ws') : Jg X own cc nL ret nm d CR SR Q ad cells slots pc lv st ws := by
  rw [h]
  exact k
section WORLD
variable {X : jX} {own : String} {cc : ByteArray} {nL : Nat} {ret : Option FieldType} {nm : String} {d CR SR : Nat} {Q : List Frame → Array Value → State → State → Prop} {ad : Nat → Nat} {cells slots pc : Nat} {lv : List (Nat × Value)} {st : List Value} {mem : Mem}
theorem gX0_settings {b : Nat} (h : isB b) {index : Nat} (hw : Cond.fieldLink own index "PlugPins$Backplane" "settings" "[I" ∈ TW) (hdg : decode cc pc = .ok (.getfield index, 3)) (kk : Jg X own cc nL ret nm d CR SR (Q) ad (cells) (slots) (pc + 3) (lv) (.ref (b + 1) :: st) (WS X ad (mem))) : Jg X own cc nL ret nm d CR SR (Q) ad (cells) (slots) (pc) (lv) (.ref (b) :: st) (WS X ad (mem)) :=
  J_get (T := TX0) (ci := 0) (N := 6) rfl inTX0 0 rfl hw hdg (b) ((WS_get (by have := h.lt; omega)).trans (congrArg some (congrArg (Prod.mk _) (CE_bp h (mem (b)))))) rfl kk
theorem gX0_boards {b : Nat} (h : isB b) {index : Nat} (hw : Cond.fieldLink own index "PlugPins$Backplane" "boards" "[LPlugPins$Board;" ∈ TW) (hdg : decode cc pc = .ok (.getfield index, 3)) (kk : Jg X own cc nL ret nm d CR SR (Q) ad (cells) (slots) (pc + 3) (lv) (.ref (b + 2) :: st) (WS X ad (mem))) : Jg X own cc nL ret nm d CR SR (Q) ad (cells) (slots) (pc) (lv) (.ref (b) :: st) (WS X ad (mem)) :=
  J_get (T := TX0) (ci := 0) (N := 6) rfl inTX0 1 rfl hw hdg (b) ((WS_get (by have := h.lt; omega)).trans (congrArg some (congrArg (Prod.mk _) (CE_bp h (mem (b)))))) rfl kk
theorem gX0_bus {b : Nat} (h : isB b) {index : Nat} (hw : Cond.fieldLink own index "PlugPins$Backplane" "bus" "LPlugPins$Bus;" ∈ TW) (hdg : decode cc pc = .ok (.getfield index, 3)) (kk : Jg X own cc nL ret nm d CR SR (Q) ad (cells) (slots) (pc + 3) (lv) (.ref (b + 11) :: st) (WS X ad (mem))) : Jg X own cc nL ret nm d CR SR (Q) ad (cells) (slots) (pc) (lv) (.ref (b) :: st) (WS X ad (mem)) :=
  J_get (T := TX0) (ci := 0) (N := 6) rfl inTX0 2 rfl hw hdg (b) ((WS_get (by have := h.lt; omega)).trans (congrArg some (congrArg (Prod.mk _) (CE_bp h (mem (b)))))) rfl kk
theorem gX0_boardCount {b : Nat} (h : isB b) {index : Nat} (hw : Cond.fieldLink own index "PlugPins$Backplane" "boardCount" "I" ∈ TW) (hdg : decode cc pc = .ok (.getfield index, 3)) (kk : Jg X own cc nL ret nm d CR SR (Q) ad (cells) (slots) (pc + 3) (lv) (.int (mem (b) 3) :: st) (WS X ad (mem))) : Jg X own cc nL ret nm d CR SR (Q) ad (cells) (slots) (pc) (lv) (.ref (b) :: st) (WS X ad (mem)) :=
  J_get (T := TX0) (ci := 0) (N := 6) rfl inTX0 3 rfl hw hdg (b) ((WS_get (by have := h.lt; omega)).trans (congrArg some (congrArg (Prod.mk _) (CE_bp h (mem (b)))))) rfl kk
theorem pX0_boardCount {b : Nat} (h : isB b) {index : Nat} {x : Int32} (hw : Cond.fieldLink own index "PlugPins$Backplane" "boardCount" "I" ∈ TW) (hdg : decode cc pc = .ok (.putfield index, 3)) (kk : Jg X own cc nL ret nm d CR SR (Q) ad (cells) (slots) (pc + 3) (lv) (st) (WS X ad (up mem (b) 3 x))) : Jg X own cc nL ret nm d CR SR (Q) ad (cells) (slots) (pc) (lv) (.int x :: .ref (b) :: st) (WS X ad (mem)) := by
  refine J_put (T := TX0) (ci := 0) (N := 6) (ty := .int) (ad := ad) (v := .int x) rfl inTX0 tyX0 tyX0_ok nmX0 3 rfl hw rfl (by decide +kernel) rfl rfl hdg (b) ((WS_get (by have := h.lt; omega)).trans (congrArg some (congrArg (Prod.mk _) (CE_bp h (mem (b)))))) rfl ?_
  exact J_ws (WS_set (upd (mem (b)) 3 x) (CE_bp h (upd (mem (b)) 3 x))) kk
theorem gX0_time {b : Nat} (h : isB b) {index : Nat} (hw : Cond.fieldLink own index "PlugPins$Backplane" "time" "I" ∈ TW) (hdg : decode cc pc = .ok (.getfield index, 3)) (kk : Jg X own cc nL ret nm d CR SR (Q) ad (cells) (slots) (pc + 3) (lv) (.int (mem (b) 4) :: st) (WS X ad (mem))) : Jg X own cc nL ret nm d CR SR (Q) ad (cells) (slots) (pc) (lv) (.ref (b) :: st) (WS X ad (mem)) :=
  J_get (T := TX0) (ci := 0) (N := 6) rfl inTX0 4 rfl hw hdg (b) ((WS_get (by have := h.lt; omega)).trans (congrArg some (congrArg (Prod.mk _) (CE_bp h (mem (b)))))) rfl kk
theorem pX0_time {b : Nat} (h : isB b) {index : Nat} {x : Int32} (hw : Cond.fieldLink own index "PlugPins$Backplane" "time" "I" ∈ TW) (hdg : decode cc pc = .ok (.putfield index, 3)) (kk : Jg X own cc nL ret nm d CR SR (Q) ad (cells) (slots) (pc + 3) (lv) (st) (WS X ad (up mem (b) 4 x))) : Jg X own cc nL ret nm d CR SR (Q) ad (cells) (slots) (pc) (lv) (.int x :: .ref (b) :: st) (WS X ad (mem)) := by
  refine J_put (T := TX0) (ci := 0) (N := 6) (ty := .int) (ad := ad) (v := .int x) rfl inTX0 tyX0 tyX0_ok nmX0 4 rfl hw rfl (by decide +kernel) rfl rfl hdg (b) ((WS_get (by have := h.lt; omega)).trans (congrArg some (congrArg (Prod.mk _) (CE_bp h (mem (b)))))) rfl ?_
  exact J_ws (WS_set (upd (mem (b)) 4 x) (CE_bp h (upd (mem (b)) 4 x))) kk
theorem gX0_plugs {b : Nat} (h : isB b) {index : Nat} (hw : Cond.fieldLink own index "PlugPins$Backplane" "plugs" "I" ∈ TW) (hdg : decode cc pc = .ok (.getfield index, 3)) (kk : Jg X own cc nL ret nm d CR SR (Q) ad (cells) (slots) (pc + 3) (lv) (.int (mem (b) 5) :: st) (WS X ad (mem))) : Jg X own cc nL ret nm d CR SR (Q) ad (cells) (slots) (pc) (lv) (.ref (b) :: st) (WS X ad (mem)) :=
  J_get (T := TX0) (ci := 0) (N := 6) rfl inTX0 5 rfl hw hdg (b) ((WS_get (by have := h.lt; omega)).trans (congrArg some (congrArg (Prod.mk _) (CE_bp h (mem (b)))))) rfl kk
theorem pX0_plugs {b : Nat} (h : isB b) {index : Nat} {x : Int32} (hw : Cond.fieldLink own index "PlugPins$Backplane" "plugs" "I" ∈ TW) (hdg : decode cc pc = .ok (.putfield index, 3)) (kk : Jg X own cc nL ret nm d CR SR (Q) ad (cells) (slots) (pc + 3) (lv) (st) (WS X ad (up mem (b) 5 x))) : Jg X own cc nL ret nm d CR SR (Q) ad (cells) (slots) (pc) (lv) (.int x :: .ref (b) :: st) (WS X ad (mem)) := by
  refine J_put (T := TX0) (ci := 0) (N := 6) (ty := .int) (ad := ad) (v := .int x) rfl inTX0 tyX0 tyX0_ok nmX0 5 rfl hw rfl (by decide +kernel) rfl rfl hdg (b) ((WS_get (by have := h.lt; omega)).trans (congrArg some (congrArg (Prod.mk _) (CE_bp h (mem (b)))))) rfl ?_
  exact J_ws (WS_set (upd (mem (b)) 5 x) (CE_bp h (upd (mem (b)) 5 x))) kk
theorem gX1_code {b i : Nat} (h : isB b) (hi : i < 8) {index : Nat} (hw : Cond.fieldLink own index "PlugPins$Board" "code" "I" ∈ TW) (hdg : decode cc pc = .ok (.getfield index, 3)) (kk : Jg X own cc nL ret nm d CR SR (Q) ad (cells) (slots) (pc + 3) (lv) (.int (mem (b + (3 + i)) 0) :: st) (WS X ad (mem))) : Jg X own cc nL ret nm d CR SR (Q) ad (cells) (slots) (pc) (lv) (.ref (b + (3 + i)) :: st) (WS X ad (mem)) :=
  J_get (T := TX1) (ci := 1) (N := 10) rfl inTX1 0 rfl hw hdg (b + (3 + i)) ((WS_get (by have := h.lt; omega)).trans (congrArg some (congrArg (Prod.mk _) (CE_bd h hi (mem (b + (3 + i))))))) rfl kk
theorem pX1_code {b i : Nat} (h : isB b) (hi : i < 8) {index : Nat} {x : Int32} (hw : Cond.fieldLink own index "PlugPins$Board" "code" "I" ∈ TW) (hdg : decode cc pc = .ok (.putfield index, 3)) (kk : Jg X own cc nL ret nm d CR SR (Q) ad (cells) (slots) (pc + 3) (lv) (st) (WS X ad (up mem (b + (3 + i)) 0 x))) : Jg X own cc nL ret nm d CR SR (Q) ad (cells) (slots) (pc) (lv) (.int x :: .ref (b + (3 + i)) :: st) (WS X ad (mem)) := by
  refine J_put (T := TX1) (ci := 1) (N := 10) (ty := .int) (ad := ad) (v := .int x) rfl inTX1 tyX1 tyX1_ok nmX1 0 rfl hw rfl (by decide +kernel) rfl rfl hdg (b + (3 + i)) ((WS_get (by have := h.lt; omega)).trans (congrArg some (congrArg (Prod.mk _) (CE_bd h hi (mem (b + (3 + i))))))) rfl ?_
  exact J_ws (WS_set (upd (mem (b + (3 + i))) 0 x) (CE_bd h hi (upd (mem (b + (3 + i))) 0 x))) kk
theorem gX1_current {b i : Nat} (h : isB b) (hi : i < 8) {index : Nat} (hw : Cond.fieldLink own index "PlugPins$Board" "current" "I" ∈ TW) (hdg : decode cc pc = .ok (.getfield index, 3)) (kk : Jg X own cc nL ret nm d CR SR (Q) ad (cells) (slots) (pc + 3) (lv) (.int (mem (b + (3 + i)) 1) :: st) (WS X ad (mem))) : Jg X own cc nL ret nm d CR SR (Q) ad (cells) (slots) (pc) (lv) (.ref (b + (3 + i)) :: st) (WS X ad (mem)) :=
  J_get (T := TX1) (ci := 1) (N := 10) rfl inTX1 1 rfl hw hdg (b + (3 + i)) ((WS_get (by have := h.lt; omega)).trans (congrArg some (congrArg (Prod.mk _) (CE_bd h hi (mem (b + (3 + i))))))) rfl kk
theorem pX1_current {b i : Nat} (h : isB b) (hi : i < 8) {index : Nat} {x : Int32} (hw : Cond.fieldLink own index "PlugPins$Board" "current" "I" ∈ TW) (hdg : decode cc pc = .ok (.putfield index, 3)) (kk : Jg X own cc nL ret nm d CR SR (Q) ad (cells) (slots) (pc + 3) (lv) (st) (WS X ad (up mem (b + (3 + i)) 1 x))) : Jg X own cc nL ret nm d CR SR (Q) ad (cells) (slots) (pc) (lv) (.int x :: .ref (b + (3 + i)) :: st) (WS X ad (mem)) := by
  refine J_put (T := TX1) (ci := 1) (N := 10) (ty := .int) (ad := ad) (v := .int x) rfl inTX1 tyX1 tyX1_ok nmX1 1 rfl hw rfl (by decide +kernel) rfl rfl hdg (b + (3 + i)) ((WS_get (by have := h.lt; omega)).trans (congrArg some (congrArg (Prod.mk _) (CE_bd h hi (mem (b + (3 + i))))))) rfl ?_
  exact J_ws (WS_set (upd (mem (b + (3 + i))) 1 x) (CE_bd h hi (upd (mem (b + (3 + i))) 1 x))) kk
theorem gX1_slot {b i : Nat} (h : isB b) (hi : i < 8) {index : Nat} (hw : Cond.fieldLink own index "PlugPins$Board" "slot" "I" ∈ TW) (hdg : decode cc pc = .ok (.getfield index, 3)) (kk : Jg X own cc nL ret nm d CR SR (Q) ad (cells) (slots) (pc + 3) (lv) (.int (mem (b + (3 + i)) 2) :: st) (WS X ad (mem))) : Jg X own cc nL ret nm d CR SR (Q) ad (cells) (slots) (pc) (lv) (.ref (b + (3 + i)) :: st) (WS X ad (mem)) :=
  J_get (T := TX1) (ci := 1) (N := 10) rfl inTX1 2 rfl hw hdg (b + (3 + i)) ((WS_get (by have := h.lt; omega)).trans (congrArg some (congrArg (Prod.mk _) (CE_bd h hi (mem (b + (3 + i))))))) rfl kk
theorem pX1_slot {b i : Nat} (h : isB b) (hi : i < 8) {index : Nat} {x : Int32} (hw : Cond.fieldLink own index "PlugPins$Board" "slot" "I" ∈ TW) (hdg : decode cc pc = .ok (.putfield index, 3)) (kk : Jg X own cc nL ret nm d CR SR (Q) ad (cells) (slots) (pc + 3) (lv) (st) (WS X ad (up mem (b + (3 + i)) 2 x))) : Jg X own cc nL ret nm d CR SR (Q) ad (cells) (slots) (pc) (lv) (.int x :: .ref (b + (3 + i)) :: st) (WS X ad (mem)) := by
  refine J_put (T := TX1) (ci := 1) (N := 10) (ty := .int) (ad := ad) (v := .int x) rfl inTX1 tyX1 tyX1_ok nmX1 2 rfl hw rfl (by decide +kernel) rfl rfl hdg (b + (3 + i)) ((WS_get (by have := h.lt; omega)).trans (congrArg some (congrArg (Prod.mk _) (CE_bd h hi (mem (b + (3 + i))))))) rfl ?_
  exact J_ws (WS_set (upd (mem (b + (3 + i))) 2 x) (CE_bd h hi (upd (mem (b + (3 + i))) 2 x))) kk
theorem gX1_depth {b i : Nat} (h : isB b) (hi : i < 8) {index : Nat} (hw : Cond.fieldLink own index "PlugPins$Board" "depth" "I" ∈ TW) (hdg : decode cc pc = .ok (.getfield index, 3)) (kk : Jg X own cc nL ret nm d CR SR (Q) ad (cells) (slots) (pc + 3) (lv) (.int (mem (b + (3 + i)) 3) :: st) (WS X ad (mem))) : Jg X own cc nL ret nm d CR SR (Q) ad (cells) (slots) (pc) (lv) (.ref (b + (3 + i)) :: st) (WS X ad (mem)) :=
  J_get (T := TX1) (ci := 1) (N := 10) rfl inTX1 3 rfl hw hdg (b + (3 + i)) ((WS_get (by have := h.lt; omega)).trans (congrArg some (congrArg (Prod.mk _) (CE_bd h hi (mem (b + (3 + i))))))) rfl kk
theorem pX1_depth {b i : Nat} (h : isB b) (hi : i < 8) {index : Nat} {x : Int32} (hw : Cond.fieldLink own index "PlugPins$Board" "depth" "I" ∈ TW) (hdg : decode cc pc = .ok (.putfield index, 3)) (kk : Jg X own cc nL ret nm d CR SR (Q) ad (cells) (slots) (pc + 3) (lv) (st) (WS X ad (up mem (b + (3 + i)) 3 x))) : Jg X own cc nL ret nm d CR SR (Q) ad (cells) (slots) (pc) (lv) (.int x :: .ref (b + (3 + i)) :: st) (WS X ad (mem)) := by
  refine J_put (T := TX1) (ci := 1) (N := 10) (ty := .int) (ad := ad) (v := .int x) rfl inTX1 tyX1 tyX1_ok nmX1 3 rfl hw rfl (by decide +kernel) rfl rfl hdg (b + (3 + i)) ((WS_get (by have := h.lt; omega)).trans (congrArg some (congrArg (Prod.mk _) (CE_bd h hi (mem (b + (3 + i))))))) rfl ?_
  exact J_ws (WS_set (upd (mem (b + (3 + i))) 3 x) (CE_bd h hi (upd (mem (b + (3 + i))) 3 x))) kk
theorem gX1_speed {b i : Nat} (h : isB b) (hi : i < 8) {index : Nat} (hw : Cond.fieldLink own index "PlugPins$Board" "speed" "I" ∈ TW) (hdg : decode cc pc = .ok (.getfield index, 3)) (kk : Jg X own cc nL ret nm d CR SR (Q) ad (cells) (slots) (pc + 3) (lv) (.int (mem (b + (3 + i)) 4) :: st) (WS X ad (mem))) : Jg X own cc nL ret nm d CR SR (Q) ad (cells) (slots) (pc) (lv) (.ref (b + (3 + i)) :: st) (WS X ad (mem)) :=
  J_get (T := TX1) (ci := 1) (N := 10) rfl inTX1 4 rfl hw hdg (b + (3 + i)) ((WS_get (by have := h.lt; omega)).trans (congrArg some (congrArg (Prod.mk _) (CE_bd h hi (mem (b + (3 + i))))))) rfl kk
theorem pX1_speed {b i : Nat} (h : isB b) (hi : i < 8) {index : Nat} {x : Int32} (hw : Cond.fieldLink own index "PlugPins$Board" "speed" "I" ∈ TW) (hdg : decode cc pc = .ok (.putfield index, 3)) (kk : Jg X own cc nL ret nm d CR SR (Q) ad (cells) (slots) (pc + 3) (lv) (st) (WS X ad (up mem (b + (3 + i)) 4 x))) : Jg X own cc nL ret nm d CR SR (Q) ad (cells) (slots) (pc) (lv) (.int x :: .ref (b + (3 + i)) :: st) (WS X ad (mem)) := by
  refine J_put (T := TX1) (ci := 1) (N := 10) (ty := .int) (ad := ad) (v := .int x) rfl inTX1 tyX1 tyX1_ok nmX1 4 rfl hw rfl (by decide +kernel) rfl rfl hdg (b + (3 + i)) ((WS_get (by have := h.lt; omega)).trans (congrArg some (congrArg (Prod.mk _) (CE_bd h hi (mem (b + (3 + i))))))) rfl ?_
  exact J_ws (WS_set (upd (mem (b + (3 + i))) 4 x) (CE_bd h hi (upd (mem (b + (3 + i))) 4 x))) kk
theorem gX1_power {b i : Nat} (h : isB b) (hi : i < 8) {index : Nat} (hw : Cond.fieldLink own index "PlugPins$Board" "power" "I" ∈ TW) (hdg : decode cc pc = .ok (.getfield index, 3)) (kk : Jg X own cc nL ret nm d CR SR (Q) ad (cells) (slots) (pc + 3) (lv) (.int (mem (b + (3 + i)) 5) :: st) (WS X ad (mem))) : Jg X own cc nL ret nm d CR SR (Q) ad (cells) (slots) (pc) (lv) (.ref (b + (3 + i)) :: st) (WS X ad (mem)) :=
  J_get (T := TX1) (ci := 1) (N := 10) rfl inTX1 5 rfl hw hdg (b + (3 + i)) ((WS_get (by have := h.lt; omega)).trans (congrArg some (congrArg (Prod.mk _) (CE_bd h hi (mem (b + (3 + i))))))) rfl kk
theorem pX1_power {b i : Nat} (h : isB b) (hi : i < 8) {index : Nat} {x : Int32} (hw : Cond.fieldLink own index "PlugPins$Board" "power" "I" ∈ TW) (hdg : decode cc pc = .ok (.putfield index, 3)) (kk : Jg X own cc nL ret nm d CR SR (Q) ad (cells) (slots) (pc + 3) (lv) (st) (WS X ad (up mem (b + (3 + i)) 5 x))) : Jg X own cc nL ret nm d CR SR (Q) ad (cells) (slots) (pc) (lv) (.int x :: .ref (b + (3 + i)) :: st) (WS X ad (mem)) := by
  refine J_put (T := TX1) (ci := 1) (N := 10) (ty := .int) (ad := ad) (v := .int x) rfl inTX1 tyX1 tyX1_ok nmX1 5 rfl hw rfl (by decide +kernel) rfl rfl hdg (b + (3 + i)) ((WS_get (by have := h.lt; omega)).trans (congrArg some (congrArg (Prod.mk _) (CE_bd h hi (mem (b + (3 + i))))))) rfl ?_
  exact J_ws (WS_set (upd (mem (b + (3 + i))) 5 x) (CE_bd h hi (upd (mem (b + (3 + i))) 5 x))) kk
theorem gX1_isKnown {b i : Nat} (h : isB b) (hi : i < 8) {index : Nat} (hw : Cond.fieldLink own index "PlugPins$Board" "isKnown" "Z" ∈ TW) (hdg : decode cc pc = .ok (.getfield index, 3)) (kk : Jg X own cc nL ret nm d CR SR (Q) ad (cells) (slots) (pc + 3) (lv) (.int (mem (b + (3 + i)) 6) :: st) (WS X ad (mem))) : Jg X own cc nL ret nm d CR SR (Q) ad (cells) (slots) (pc) (lv) (.ref (b + (3 + i)) :: st) (WS X ad (mem)) :=
  J_get (T := TX1) (ci := 1) (N := 10) rfl inTX1 6 rfl hw hdg (b + (3 + i)) ((WS_get (by have := h.lt; omega)).trans (congrArg some (congrArg (Prod.mk _) (CE_bd h hi (mem (b + (3 + i))))))) rfl kk
theorem pX1_isKnown {b i : Nat} (h : isB b) (hi : i < 8) {index : Nat} {x : Int32} (hw : Cond.fieldLink own index "PlugPins$Board" "isKnown" "Z" ∈ TW) (hdg : decode cc pc = .ok (.putfield index, 3)) (hz : x = 0 ∨ x = 1) (kk : Jg X own cc nL ret nm d CR SR (Q) ad (cells) (slots) (pc + 3) (lv) (st) (WS X ad (up mem (b + (3 + i)) 6 x))) : Jg X own cc nL ret nm d CR SR (Q) ad (cells) (slots) (pc) (lv) (.int x :: .ref (b + (3 + i)) :: st) (WS X ad (mem)) := by
  refine J_put (T := TX1) (ci := 1) (N := 10) (ty := .boolean) (ad := ad) (v := .int x) rfl inTX1 tyX1 tyX1_ok nmX1 6 rfl hw rfl (by decide +kernel) (by rcases hz with rfl | rfl <;> rfl) (by rcases hz with rfl | rfl <;> rfl) hdg (b + (3 + i)) ((WS_get (by have := h.lt; omega)).trans (congrArg some (congrArg (Prod.mk _) (CE_bd h hi (mem (b + (3 + i))))))) rfl ?_
  exact J_ws (WS_set (upd (mem (b + (3 + i))) 6 x) (CE_bd h hi (upd (mem (b + (3 + i))) 6 x))) kk
theorem gX1_hasAsked {b i : Nat} (h : isB b) (hi : i < 8) {index : Nat} (hw : Cond.fieldLink own index "PlugPins$Board" "hasAsked" "Z" ∈ TW) (hdg : decode cc pc = .ok (.getfield index, 3)) (kk : Jg X own cc nL ret nm d CR SR (Q) ad (cells) (slots) (pc + 3) (lv) (.int (mem (b + (3 + i)) 7) :: st) (WS X ad (mem))) : Jg X own cc nL ret nm d CR SR (Q) ad (cells) (slots) (pc) (lv) (.ref (b + (3 + i)) :: st) (WS X ad (mem)) :=
  J_get (T := TX1) (ci := 1) (N := 10) rfl inTX1 7 rfl hw hdg (b + (3 + i)) ((WS_get (by have := h.lt; omega)).trans (congrArg some (congrArg (Prod.mk _) (CE_bd h hi (mem (b + (3 + i))))))) rfl kk
theorem pX1_hasAsked {b i : Nat} (h : isB b) (hi : i < 8) {index : Nat} {x : Int32} (hw : Cond.fieldLink own index "PlugPins$Board" "hasAsked" "Z" ∈ TW) (hdg : decode cc pc = .ok (.putfield index, 3)) (hz : x = 0 ∨ x = 1) (kk : Jg X own cc nL ret nm d CR SR (Q) ad (cells) (slots) (pc + 3) (lv) (st) (WS X ad (up mem (b + (3 + i)) 7 x))) : Jg X own cc nL ret nm d CR SR (Q) ad (cells) (slots) (pc) (lv) (.int x :: .ref (b + (3 + i)) :: st) (WS X ad (mem)) := by
  refine J_put (T := TX1) (ci := 1) (N := 10) (ty := .boolean) (ad := ad) (v := .int x) rfl inTX1 tyX1 tyX1_ok nmX1 7 rfl hw rfl (by decide +kernel) (by rcases hz with rfl | rfl <;> rfl) (by rcases hz with rfl | rfl <;> rfl) hdg (b + (3 + i)) ((WS_get (by have := h.lt; omega)).trans (congrArg some (congrArg (Prod.mk _) (CE_bd h hi (mem (b + (3 + i))))))) rfl ?_
  exact J_ws (WS_set (upd (mem (b + (3 + i))) 7 x) (CE_bd h hi (upd (mem (b + (3 + i))) 7 x))) kk
theorem gX1_greeted {b i : Nat} (h : isB b) (hi : i < 8) {index : Nat} (hw : Cond.fieldLink own index "PlugPins$Board" "greeted" "I" ∈ TW) (hdg : decode cc pc = .ok (.getfield index, 3)) (kk : Jg X own cc nL ret nm d CR SR (Q) ad (cells) (slots) (pc + 3) (lv) (.int (mem (b + (3 + i)) 8) :: st) (WS X ad (mem))) : Jg X own cc nL ret nm d CR SR (Q) ad (cells) (slots) (pc) (lv) (.ref (b + (3 + i)) :: st) (WS X ad (mem)) :=
  J_get (T := TX1) (ci := 1) (N := 10) rfl inTX1 8 rfl hw hdg (b + (3 + i)) ((WS_get (by have := h.lt; omega)).trans (congrArg some (congrArg (Prod.mk _) (CE_bd h hi (mem (b + (3 + i))))))) rfl kk
theorem pX1_greeted {b i : Nat} (h : isB b) (hi : i < 8) {index : Nat} {x : Int32} (hw : Cond.fieldLink own index "PlugPins$Board" "greeted" "I" ∈ TW) (hdg : decode cc pc = .ok (.putfield index, 3)) (kk : Jg X own cc nL ret nm d CR SR (Q) ad (cells) (slots) (pc + 3) (lv) (st) (WS X ad (up mem (b + (3 + i)) 8 x))) : Jg X own cc nL ret nm d CR SR (Q) ad (cells) (slots) (pc) (lv) (.int x :: .ref (b + (3 + i)) :: st) (WS X ad (mem)) := by
  refine J_put (T := TX1) (ci := 1) (N := 10) (ty := .int) (ad := ad) (v := .int x) rfl inTX1 tyX1 tyX1_ok nmX1 8 rfl hw rfl (by decide +kernel) rfl rfl hdg (b + (3 + i)) ((WS_get (by have := h.lt; omega)).trans (congrArg some (congrArg (Prod.mk _) (CE_bd h hi (mem (b + (3 + i))))))) rfl ?_
  exact J_ws (WS_set (upd (mem (b + (3 + i))) 8 x) (CE_bd h hi (upd (mem (b + (3 + i))) 8 x))) kk
theorem gX1_pulledTooSoon {b i : Nat} (h : isB b) (hi : i < 8) {index : Nat} (hw : Cond.fieldLink own index "PlugPins$Board" "pulledTooSoon" "I" ∈ TW) (hdg : decode cc pc = .ok (.getfield index, 3)) (kk : Jg X own cc nL ret nm d CR SR (Q) ad (cells) (slots) (pc + 3) (lv) (.int (mem (b + (3 + i)) 9) :: st) (WS X ad (mem))) : Jg X own cc nL ret nm d CR SR (Q) ad (cells) (slots) (pc) (lv) (.ref (b + (3 + i)) :: st) (WS X ad (mem)) :=
  J_get (T := TX1) (ci := 1) (N := 10) rfl inTX1 9 rfl hw hdg (b + (3 + i)) ((WS_get (by have := h.lt; omega)).trans (congrArg some (congrArg (Prod.mk _) (CE_bd h hi (mem (b + (3 + i))))))) rfl kk
theorem pX1_pulledTooSoon {b i : Nat} (h : isB b) (hi : i < 8) {index : Nat} {x : Int32} (hw : Cond.fieldLink own index "PlugPins$Board" "pulledTooSoon" "I" ∈ TW) (hdg : decode cc pc = .ok (.putfield index, 3)) (kk : Jg X own cc nL ret nm d CR SR (Q) ad (cells) (slots) (pc + 3) (lv) (st) (WS X ad (up mem (b + (3 + i)) 9 x))) : Jg X own cc nL ret nm d CR SR (Q) ad (cells) (slots) (pc) (lv) (.int x :: .ref (b + (3 + i)) :: st) (WS X ad (mem)) := by
  refine J_put (T := TX1) (ci := 1) (N := 10) (ty := .int) (ad := ad) (v := .int x) rfl inTX1 tyX1 tyX1_ok nmX1 9 rfl hw rfl (by decide +kernel) rfl rfl hdg (b + (3 + i)) ((WS_get (by have := h.lt; omega)).trans (congrArg some (congrArg (Prod.mk _) (CE_bd h hi (mem (b + (3 + i))))))) rfl ?_
  exact J_ws (WS_set (upd (mem (b + (3 + i))) 9 x) (CE_bd h hi (upd (mem (b + (3 + i))) 9 x))) kk
theorem gX2_senders {b : Nat} (h : isB b) {index : Nat} (hw : Cond.fieldLink own index "PlugPins$Bus" "senders" "[I" ∈ TW) (hdg : decode cc pc = .ok (.getfield index, 3)) (kk : Jg X own cc nL ret nm d CR SR (Q) ad (cells) (slots) (pc + 3) (lv) (.ref (b + 11 + 1) :: st) (WS X ad (mem))) : Jg X own cc nL ret nm d CR SR (Q) ad (cells) (slots) (pc) (lv) (.ref (b + 11) :: st) (WS X ad (mem)) :=
  J_get (T := TX2) (ci := 2) (N := 12) rfl inTX2 0 rfl hw hdg (b + 11) ((WS_get (by have := h.lt; omega)).trans (congrArg some (congrArg (Prod.mk _) (CE_block h 11 (by decide) (mem (b + 11)))))) rfl kk
theorem gX2_receivers {b : Nat} (h : isB b) {index : Nat} (hw : Cond.fieldLink own index "PlugPins$Bus" "receivers" "[I" ∈ TW) (hdg : decode cc pc = .ok (.getfield index, 3)) (kk : Jg X own cc nL ret nm d CR SR (Q) ad (cells) (slots) (pc + 3) (lv) (.ref (b + 11 + 2) :: st) (WS X ad (mem))) : Jg X own cc nL ret nm d CR SR (Q) ad (cells) (slots) (pc) (lv) (.ref (b + 11) :: st) (WS X ad (mem)) :=
  J_get (T := TX2) (ci := 2) (N := 12) rfl inTX2 1 rfl hw hdg (b + 11) ((WS_get (by have := h.lt; omega)).trans (congrArg some (congrArg (Prod.mk _) (CE_block h 11 (by decide) (mem (b + 11)))))) rfl kk
theorem gX2_conditions {b : Nat} (h : isB b) {index : Nat} (hw : Cond.fieldLink own index "PlugPins$Bus" "conditions" "[I" ∈ TW) (hdg : decode cc pc = .ok (.getfield index, 3)) (kk : Jg X own cc nL ret nm d CR SR (Q) ad (cells) (slots) (pc + 3) (lv) (.ref (b + 11 + 3) :: st) (WS X ad (mem))) : Jg X own cc nL ret nm d CR SR (Q) ad (cells) (slots) (pc) (lv) (.ref (b + 11) :: st) (WS X ad (mem)) :=
  J_get (T := TX2) (ci := 2) (N := 12) rfl inTX2 2 rfl hw hdg (b + 11) ((WS_get (by have := h.lt; omega)).trans (congrArg some (congrArg (Prod.mk _) (CE_block h 11 (by decide) (mem (b + 11)))))) rfl kk
theorem gX2_hurts {b : Nat} (h : isB b) {index : Nat} (hw : Cond.fieldLink own index "PlugPins$Bus" "hurts" "[I" ∈ TW) (hdg : decode cc pc = .ok (.getfield index, 3)) (kk : Jg X own cc nL ret nm d CR SR (Q) ad (cells) (slots) (pc + 3) (lv) (.ref (b + 11 + 4) :: st) (WS X ad (mem))) : Jg X own cc nL ret nm d CR SR (Q) ad (cells) (slots) (pc) (lv) (.ref (b + 11) :: st) (WS X ad (mem)) :=
  J_get (T := TX2) (ci := 2) (N := 12) rfl inTX2 3 rfl hw hdg (b + 11) ((WS_get (by have := h.lt; omega)).trans (congrArg some (congrArg (Prod.mk _) (CE_block h 11 (by decide) (mem (b + 11)))))) rfl kk
theorem gX2_sent {b : Nat} (h : isB b) {index : Nat} (hw : Cond.fieldLink own index "PlugPins$Bus" "sent" "I" ∈ TW) (hdg : decode cc pc = .ok (.getfield index, 3)) (kk : Jg X own cc nL ret nm d CR SR (Q) ad (cells) (slots) (pc + 3) (lv) (.int (mem (b + 11) 4) :: st) (WS X ad (mem))) : Jg X own cc nL ret nm d CR SR (Q) ad (cells) (slots) (pc) (lv) (.ref (b + 11) :: st) (WS X ad (mem)) :=
  J_get (T := TX2) (ci := 2) (N := 12) rfl inTX2 4 rfl hw hdg (b + 11) ((WS_get (by have := h.lt; omega)).trans (congrArg some (congrArg (Prod.mk _) (CE_block h 11 (by decide) (mem (b + 11)))))) rfl kk
theorem pX2_sent {b : Nat} (h : isB b) {index : Nat} {x : Int32} (hw : Cond.fieldLink own index "PlugPins$Bus" "sent" "I" ∈ TW) (hdg : decode cc pc = .ok (.putfield index, 3)) (kk : Jg X own cc nL ret nm d CR SR (Q) ad (cells) (slots) (pc + 3) (lv) (st) (WS X ad (up mem (b + 11) 4 x))) : Jg X own cc nL ret nm d CR SR (Q) ad (cells) (slots) (pc) (lv) (.int x :: .ref (b + 11) :: st) (WS X ad (mem)) := by
  refine J_put (T := TX2) (ci := 2) (N := 12) (ty := .int) (ad := ad) (v := .int x) rfl inTX2 tyX2 tyX2_ok nmX2 4 rfl hw rfl (by decide +kernel) rfl rfl hdg (b + 11) ((WS_get (by have := h.lt; omega)).trans (congrArg some (congrArg (Prod.mk _) (CE_block h 11 (by decide) (mem (b + 11)))))) rfl ?_
  exact J_ws (WS_set (upd (mem (b + 11)) 4 x) (CE_block h 11 (by decide) (upd (mem (b + 11)) 4 x))) kk
theorem gX2_queue {b : Nat} (h : isB b) {index : Nat} (hw : Cond.fieldLink own index "PlugPins$Bus" "queue" "[I" ∈ TW) (hdg : decode cc pc = .ok (.getfield index, 3)) (kk : Jg X own cc nL ret nm d CR SR (Q) ad (cells) (slots) (pc + 3) (lv) (.ref (b + 11 + 5) :: st) (WS X ad (mem))) : Jg X own cc nL ret nm d CR SR (Q) ad (cells) (slots) (pc) (lv) (.ref (b + 11) :: st) (WS X ad (mem)) :=
  J_get (T := TX2) (ci := 2) (N := 12) rfl inTX2 5 rfl hw hdg (b + 11) ((WS_get (by have := h.lt; omega)).trans (congrArg some (congrArg (Prod.mk _) (CE_block h 11 (by decide) (mem (b + 11)))))) rfl kk
theorem gX2_queued {b : Nat} (h : isB b) {index : Nat} (hw : Cond.fieldLink own index "PlugPins$Bus" "queued" "I" ∈ TW) (hdg : decode cc pc = .ok (.getfield index, 3)) (kk : Jg X own cc nL ret nm d CR SR (Q) ad (cells) (slots) (pc + 3) (lv) (.int (mem (b + 11) 6) :: st) (WS X ad (mem))) : Jg X own cc nL ret nm d CR SR (Q) ad (cells) (slots) (pc) (lv) (.ref (b + 11) :: st) (WS X ad (mem)) :=
  J_get (T := TX2) (ci := 2) (N := 12) rfl inTX2 6 rfl hw hdg (b + 11) ((WS_get (by have := h.lt; omega)).trans (congrArg some (congrArg (Prod.mk _) (CE_block h 11 (by decide) (mem (b + 11)))))) rfl kk
theorem pX2_queued {b : Nat} (h : isB b) {index : Nat} {x : Int32} (hw : Cond.fieldLink own index "PlugPins$Bus" "queued" "I" ∈ TW) (hdg : decode cc pc = .ok (.putfield index, 3)) (kk : Jg X own cc nL ret nm d CR SR (Q) ad (cells) (slots) (pc + 3) (lv) (st) (WS X ad (up mem (b + 11) 6 x))) : Jg X own cc nL ret nm d CR SR (Q) ad (cells) (slots) (pc) (lv) (.int x :: .ref (b + 11) :: st) (WS X ad (mem)) := by
  refine J_put (T := TX2) (ci := 2) (N := 12) (ty := .int) (ad := ad) (v := .int x) rfl inTX2 tyX2 tyX2_ok nmX2 6 rfl hw rfl (by decide +kernel) rfl rfl hdg (b + 11) ((WS_get (by have := h.lt; omega)).trans (congrArg some (congrArg (Prod.mk _) (CE_block h 11 (by decide) (mem (b + 11)))))) rfl ?_
  exact J_ws (WS_set (upd (mem (b + 11)) 6 x) (CE_block h 11 (by decide) (upd (mem (b + 11)) 6 x))) kk
theorem gX2_onBus {b : Nat} (h : isB b) {index : Nat} (hw : Cond.fieldLink own index "PlugPins$Bus" "onBus" "I" ∈ TW) (hdg : decode cc pc = .ok (.getfield index, 3)) (kk : Jg X own cc nL ret nm d CR SR (Q) ad (cells) (slots) (pc + 3) (lv) (.int (mem (b + 11) 7) :: st) (WS X ad (mem))) : Jg X own cc nL ret nm d CR SR (Q) ad (cells) (slots) (pc) (lv) (.ref (b + 11) :: st) (WS X ad (mem)) :=
  J_get (T := TX2) (ci := 2) (N := 12) rfl inTX2 7 rfl hw hdg (b + 11) ((WS_get (by have := h.lt; omega)).trans (congrArg some (congrArg (Prod.mk _) (CE_block h 11 (by decide) (mem (b + 11)))))) rfl kk
theorem pX2_onBus {b : Nat} (h : isB b) {index : Nat} {x : Int32} (hw : Cond.fieldLink own index "PlugPins$Bus" "onBus" "I" ∈ TW) (hdg : decode cc pc = .ok (.putfield index, 3)) (kk : Jg X own cc nL ret nm d CR SR (Q) ad (cells) (slots) (pc + 3) (lv) (st) (WS X ad (up mem (b + 11) 7 x))) : Jg X own cc nL ret nm d CR SR (Q) ad (cells) (slots) (pc) (lv) (.int x :: .ref (b + 11) :: st) (WS X ad (mem)) := by
  refine J_put (T := TX2) (ci := 2) (N := 12) (ty := .int) (ad := ad) (v := .int x) rfl inTX2 tyX2 tyX2_ok nmX2 7 rfl hw rfl (by decide +kernel) rfl rfl hdg (b + 11) ((WS_get (by have := h.lt; omega)).trans (congrArg some (congrArg (Prod.mk _) (CE_block h 11 (by decide) (mem (b + 11)))))) rfl ?_
  exact J_ws (WS_set (upd (mem (b + 11)) 7 x) (CE_block h 11 (by decide) (upd (mem (b + 11)) 7 x))) kk
theorem gX2_ticksLeft {b : Nat} (h : isB b) {index : Nat} (hw : Cond.fieldLink own index "PlugPins$Bus" "ticksLeft" "I" ∈ TW) (hdg : decode cc pc = .ok (.getfield index, 3)) (kk : Jg X own cc nL ret nm d CR SR (Q) ad (cells) (slots) (pc + 3) (lv) (.int (mem (b + 11) 8) :: st) (WS X ad (mem))) : Jg X own cc nL ret nm d CR SR (Q) ad (cells) (slots) (pc) (lv) (.ref (b + 11) :: st) (WS X ad (mem)) :=
  J_get (T := TX2) (ci := 2) (N := 12) rfl inTX2 8 rfl hw hdg (b + 11) ((WS_get (by have := h.lt; omega)).trans (congrArg some (congrArg (Prod.mk _) (CE_block h 11 (by decide) (mem (b + 11)))))) rfl kk
theorem pX2_ticksLeft {b : Nat} (h : isB b) {index : Nat} {x : Int32} (hw : Cond.fieldLink own index "PlugPins$Bus" "ticksLeft" "I" ∈ TW) (hdg : decode cc pc = .ok (.putfield index, 3)) (kk : Jg X own cc nL ret nm d CR SR (Q) ad (cells) (slots) (pc + 3) (lv) (st) (WS X ad (up mem (b + 11) 8 x))) : Jg X own cc nL ret nm d CR SR (Q) ad (cells) (slots) (pc) (lv) (.int x :: .ref (b + 11) :: st) (WS X ad (mem)) := by
  refine J_put (T := TX2) (ci := 2) (N := 12) (ty := .int) (ad := ad) (v := .int x) rfl inTX2 tyX2 tyX2_ok nmX2 8 rfl hw rfl (by decide +kernel) rfl rfl hdg (b + 11) ((WS_get (by have := h.lt; omega)).trans (congrArg some (congrArg (Prod.mk _) (CE_block h 11 (by decide) (mem (b + 11)))))) rfl ?_
  exact J_ws (WS_set (upd (mem (b + 11)) 8 x) (CE_block h 11 (by decide) (upd (mem (b + 11)) 8 x))) kk
theorem gX2_delivered {b : Nat} (h : isB b) {index : Nat} (hw : Cond.fieldLink own index "PlugPins$Bus" "delivered" "I" ∈ TW) (hdg : decode cc pc = .ok (.getfield index, 3)) (kk : Jg X own cc nL ret nm d CR SR (Q) ad (cells) (slots) (pc + 3) (lv) (.int (mem (b + 11) 9) :: st) (WS X ad (mem))) : Jg X own cc nL ret nm d CR SR (Q) ad (cells) (slots) (pc) (lv) (.ref (b + 11) :: st) (WS X ad (mem)) :=
  J_get (T := TX2) (ci := 2) (N := 12) rfl inTX2 9 rfl hw hdg (b + 11) ((WS_get (by have := h.lt; omega)).trans (congrArg some (congrArg (Prod.mk _) (CE_block h 11 (by decide) (mem (b + 11)))))) rfl kk
theorem pX2_delivered {b : Nat} (h : isB b) {index : Nat} {x : Int32} (hw : Cond.fieldLink own index "PlugPins$Bus" "delivered" "I" ∈ TW) (hdg : decode cc pc = .ok (.putfield index, 3)) (kk : Jg X own cc nL ret nm d CR SR (Q) ad (cells) (slots) (pc + 3) (lv) (st) (WS X ad (up mem (b + 11) 9 x))) : Jg X own cc nL ret nm d CR SR (Q) ad (cells) (slots) (pc) (lv) (.int x :: .ref (b + 11) :: st) (WS X ad (mem)) := by
  refine J_put (T := TX2) (ci := 2) (N := 12) (ty := .int) (ad := ad) (v := .int x) rfl inTX2 tyX2 tyX2_ok nmX2 9 rfl hw rfl (by decide +kernel) rfl rfl hdg (b + 11) ((WS_get (by have := h.lt; omega)).trans (congrArg some (congrArg (Prod.mk _) (CE_block h 11 (by decide) (mem (b + 11)))))) rfl ?_
  exact J_ws (WS_set (upd (mem (b + 11)) 9 x) (CE_block h 11 (by decide) (upd (mem (b + 11)) 9 x))) kk
theorem gX2_lost {b : Nat} (h : isB b) {index : Nat} (hw : Cond.fieldLink own index "PlugPins$Bus" "lost" "I" ∈ TW) (hdg : decode cc pc = .ok (.getfield index, 3)) (kk : Jg X own cc nL ret nm d CR SR (Q) ad (cells) (slots) (pc + 3) (lv) (.int (mem (b + 11) 10) :: st) (WS X ad (mem))) : Jg X own cc nL ret nm d CR SR (Q) ad (cells) (slots) (pc) (lv) (.ref (b + 11) :: st) (WS X ad (mem)) :=
  J_get (T := TX2) (ci := 2) (N := 12) rfl inTX2 10 rfl hw hdg (b + 11) ((WS_get (by have := h.lt; omega)).trans (congrArg some (congrArg (Prod.mk _) (CE_block h 11 (by decide) (mem (b + 11)))))) rfl kk
theorem pX2_lost {b : Nat} (h : isB b) {index : Nat} {x : Int32} (hw : Cond.fieldLink own index "PlugPins$Bus" "lost" "I" ∈ TW) (hdg : decode cc pc = .ok (.putfield index, 3)) (kk : Jg X own cc nL ret nm d CR SR (Q) ad (cells) (slots) (pc + 3) (lv) (st) (WS X ad (up mem (b + 11) 10 x))) : Jg X own cc nL ret nm d CR SR (Q) ad (cells) (slots) (pc) (lv) (.int x :: .ref (b + 11) :: st) (WS X ad (mem)) := by
  refine J_put (T := TX2) (ci := 2) (N := 12) (ty := .int) (ad := ad) (v := .int x) rfl inTX2 tyX2 tyX2_ok nmX2 10 rfl hw rfl (by decide +kernel) rfl rfl hdg (b + 11) ((WS_get (by have := h.lt; omega)).trans (congrArg some (congrArg (Prod.mk _) (CE_block h 11 (by decide) (mem (b + 11)))))) rfl ?_
  exact J_ws (WS_set (upd (mem (b + 11)) 10 x) (CE_block h 11 (by decide) (upd (mem (b + 11)) 10 x))) kk
theorem gX2_hurtSoFar {b : Nat} (h : isB b) {index : Nat} (hw : Cond.fieldLink own index "PlugPins$Bus" "hurtSoFar" "I" ∈ TW) (hdg : decode cc pc = .ok (.getfield index, 3)) (kk : Jg X own cc nL ret nm d CR SR (Q) ad (cells) (slots) (pc + 3) (lv) (.int (mem (b + 11) 11) :: st) (WS X ad (mem))) : Jg X own cc nL ret nm d CR SR (Q) ad (cells) (slots) (pc) (lv) (.ref (b + 11) :: st) (WS X ad (mem)) :=
  J_get (T := TX2) (ci := 2) (N := 12) rfl inTX2 11 rfl hw hdg (b + 11) ((WS_get (by have := h.lt; omega)).trans (congrArg some (congrArg (Prod.mk _) (CE_block h 11 (by decide) (mem (b + 11)))))) rfl kk
theorem pX2_hurtSoFar {b : Nat} (h : isB b) {index : Nat} {x : Int32} (hw : Cond.fieldLink own index "PlugPins$Bus" "hurtSoFar" "I" ∈ TW) (hdg : decode cc pc = .ok (.putfield index, 3)) (kk : Jg X own cc nL ret nm d CR SR (Q) ad (cells) (slots) (pc + 3) (lv) (st) (WS X ad (up mem (b + 11) 11 x))) : Jg X own cc nL ret nm d CR SR (Q) ad (cells) (slots) (pc) (lv) (.int x :: .ref (b + 11) :: st) (WS X ad (mem)) := by
  refine J_put (T := TX2) (ci := 2) (N := 12) (ty := .int) (ad := ad) (v := .int x) rfl inTX2 tyX2 tyX2_ok nmX2 11 rfl hw rfl (by decide +kernel) rfl rfl hdg (b + 11) ((WS_get (by have := h.lt; omega)).trans (congrArg some (congrArg (Prod.mk _) (CE_block h 11 (by decide) (mem (b + 11)))))) rfl ?_
  exact J_ws (WS_set (upd (mem (b + 11)) 11 x) (CE_block h 11 (by decide) (upd (mem (b + 11)) 11 x))) kk
theorem gX3_states  {index : Nat} (hw : Cond.fieldLink own index "PlugPins$History" "states" "[LPlugPins$Backplane;" ∈ TW) (hdg : decode cc pc = .ok (.getfield index, 3)) (kk : Jg X own cc nL ret nm d CR SR (Q) ad (cells) (slots) (pc + 3) (lv) (.ref (189) :: st) (WS X ad (mem))) : Jg X own cc nL ret nm d CR SR (Q) ad (cells) (slots) (pc) (lv) (.ref (188) :: st) (WS X ad (mem)) :=
  J_get (T := TX3) (ci := 3) (N := 3) rfl inTX3 0 rfl hw hdg (188) ((WS_get (by decide)).trans (congrArg some (congrArg (Prod.mk _) ((fun _ => rfl) (mem (188)))))) rfl kk
theorem gX3_oldest  {index : Nat} (hw : Cond.fieldLink own index "PlugPins$History" "oldest" "I" ∈ TW) (hdg : decode cc pc = .ok (.getfield index, 3)) (kk : Jg X own cc nL ret nm d CR SR (Q) ad (cells) (slots) (pc + 3) (lv) (.int (mem (188) 1) :: st) (WS X ad (mem))) : Jg X own cc nL ret nm d CR SR (Q) ad (cells) (slots) (pc) (lv) (.ref (188) :: st) (WS X ad (mem)) :=
  J_get (T := TX3) (ci := 3) (N := 3) rfl inTX3 1 rfl hw hdg (188) ((WS_get (by decide)).trans (congrArg some (congrArg (Prod.mk _) ((fun _ => rfl) (mem (188)))))) rfl kk
theorem pX3_oldest  {index : Nat} {x : Int32} (hw : Cond.fieldLink own index "PlugPins$History" "oldest" "I" ∈ TW) (hdg : decode cc pc = .ok (.putfield index, 3)) (kk : Jg X own cc nL ret nm d CR SR (Q) ad (cells) (slots) (pc + 3) (lv) (st) (WS X ad (up mem (188) 1 x))) : Jg X own cc nL ret nm d CR SR (Q) ad (cells) (slots) (pc) (lv) (.int x :: .ref (188) :: st) (WS X ad (mem)) := by
  refine J_put (T := TX3) (ci := 3) (N := 3) (ty := .int) (ad := ad) (v := .int x) rfl inTX3 tyX3 tyX3_ok nmX3 1 rfl hw rfl (by decide +kernel) rfl rfl hdg (188) ((WS_get (by decide)).trans (congrArg some (congrArg (Prod.mk _) ((fun _ => rfl) (mem (188)))))) rfl ?_
  exact J_ws (WS_set (upd (mem (188)) 1 x) ((fun _ => rfl) (upd (mem (188)) 1 x))) kk
theorem gX3_size  {index : Nat} (hw : Cond.fieldLink own index "PlugPins$History" "size" "I" ∈ TW) (hdg : decode cc pc = .ok (.getfield index, 3)) (kk : Jg X own cc nL ret nm d CR SR (Q) ad (cells) (slots) (pc + 3) (lv) (.int (mem (188) 2) :: st) (WS X ad (mem))) : Jg X own cc nL ret nm d CR SR (Q) ad (cells) (slots) (pc) (lv) (.ref (188) :: st) (WS X ad (mem)) :=
  J_get (T := TX3) (ci := 3) (N := 3) rfl inTX3 2 rfl hw hdg (188) ((WS_get (by decide)).trans (congrArg some (congrArg (Prod.mk _) ((fun _ => rfl) (mem (188)))))) rfl kk
theorem pX3_size  {index : Nat} {x : Int32} (hw : Cond.fieldLink own index "PlugPins$History" "size" "I" ∈ TW) (hdg : decode cc pc = .ok (.putfield index, 3)) (kk : Jg X own cc nL ret nm d CR SR (Q) ad (cells) (slots) (pc + 3) (lv) (st) (WS X ad (up mem (188) 2 x))) : Jg X own cc nL ret nm d CR SR (Q) ad (cells) (slots) (pc) (lv) (.int x :: .ref (188) :: st) (WS X ad (mem)) := by
  refine J_put (T := TX3) (ci := 3) (N := 3) (ty := .int) (ad := ad) (v := .int x) rfl inTX3 tyX3 tyX3_ok nmX3 2 rfl hw rfl (by decide +kernel) rfl rfl hdg (188) ((WS_get (by decide)).trans (congrArg some (congrArg (Prod.mk _) ((fun _ => rfl) (mem (188)))))) rfl ?_
  exact J_ws (WS_set (upd (mem (188)) 2 x) ((fun _ => rfl) (upd (mem (188)) 2 x))) kk
theorem gX4_signs  {index : Nat} (hw : Cond.fieldLink own index "PlugPins$Pad" "signs" "[I" ∈ TW) (hdg : decode cc pc = .ok (.getfield index, 3)) (kk : Jg X own cc nL ret nm d CR SR (Q) ad (cells) (slots) (pc + 3) (lv) (.ref (191) :: st) (WS X ad (mem))) : Jg X own cc nL ret nm d CR SR (Q) ad (cells) (slots) (pc) (lv) (.ref (190) :: st) (WS X ad (mem)) :=
  J_get (T := TX4) (ci := 4) (N := 5) rfl inTX4 0 rfl hw hdg (190) ((WS_get (by decide)).trans (congrArg some (congrArg (Prod.mk _) ((fun _ => rfl) (mem (190)))))) rfl kk
theorem gX4_length  {index : Nat} (hw : Cond.fieldLink own index "PlugPins$Pad" "length" "I" ∈ TW) (hdg : decode cc pc = .ok (.getfield index, 3)) (kk : Jg X own cc nL ret nm d CR SR (Q) ad (cells) (slots) (pc + 3) (lv) (.int (mem (190) 1) :: st) (WS X ad (mem))) : Jg X own cc nL ret nm d CR SR (Q) ad (cells) (slots) (pc) (lv) (.ref (190) :: st) (WS X ad (mem)) :=
  J_get (T := TX4) (ci := 4) (N := 5) rfl inTX4 1 rfl hw hdg (190) ((WS_get (by decide)).trans (congrArg some (congrArg (Prod.mk _) ((fun _ => rfl) (mem (190)))))) rfl kk
theorem pX4_length  {index : Nat} {x : Int32} (hw : Cond.fieldLink own index "PlugPins$Pad" "length" "I" ∈ TW) (hdg : decode cc pc = .ok (.putfield index, 3)) (kk : Jg X own cc nL ret nm d CR SR (Q) ad (cells) (slots) (pc + 3) (lv) (st) (WS X ad (up mem (190) 1 x))) : Jg X own cc nL ret nm d CR SR (Q) ad (cells) (slots) (pc) (lv) (.int x :: .ref (190) :: st) (WS X ad (mem)) := by
  refine J_put (T := TX4) (ci := 4) (N := 5) (ty := .int) (ad := ad) (v := .int x) rfl inTX4 tyX4 tyX4_ok nmX4 1 rfl hw rfl (by decide +kernel) rfl rfl hdg (190) ((WS_get (by decide)).trans (congrArg some (congrArg (Prod.mk _) ((fun _ => rfl) (mem (190)))))) rfl ?_
  exact J_ws (WS_set (upd (mem (190)) 1 x) ((fun _ => rfl) (upd (mem (190)) 1 x))) kk
theorem gX4_place  {index : Nat} (hw : Cond.fieldLink own index "PlugPins$Pad" "place" "I" ∈ TW) (hdg : decode cc pc = .ok (.getfield index, 3)) (kk : Jg X own cc nL ret nm d CR SR (Q) ad (cells) (slots) (pc + 3) (lv) (.int (mem (190) 2) :: st) (WS X ad (mem))) : Jg X own cc nL ret nm d CR SR (Q) ad (cells) (slots) (pc) (lv) (.ref (190) :: st) (WS X ad (mem)) :=
  J_get (T := TX4) (ci := 4) (N := 5) rfl inTX4 2 rfl hw hdg (190) ((WS_get (by decide)).trans (congrArg some (congrArg (Prod.mk _) ((fun _ => rfl) (mem (190)))))) rfl kk
theorem pX4_place  {index : Nat} {x : Int32} (hw : Cond.fieldLink own index "PlugPins$Pad" "place" "I" ∈ TW) (hdg : decode cc pc = .ok (.putfield index, 3)) (kk : Jg X own cc nL ret nm d CR SR (Q) ad (cells) (slots) (pc + 3) (lv) (st) (WS X ad (up mem (190) 2 x))) : Jg X own cc nL ret nm d CR SR (Q) ad (cells) (slots) (pc) (lv) (.int x :: .ref (190) :: st) (WS X ad (mem)) := by
  refine J_put (T := TX4) (ci := 4) (N := 5) (ty := .int) (ad := ad) (v := .int x) rfl inTX4 tyX4 tyX4_ok nmX4 2 rfl hw rfl (by decide +kernel) rfl rfl hdg (190) ((WS_get (by decide)).trans (congrArg some (congrArg (Prod.mk _) ((fun _ => rfl) (mem (190)))))) rfl ?_
  exact J_ws (WS_set (upd (mem (190)) 2 x) ((fun _ => rfl) (upd (mem (190)) 2 x))) kk
theorem gX4_kind  {index : Nat} (hw : Cond.fieldLink own index "PlugPins$Pad" "kind" "I" ∈ TW) (hdg : decode cc pc = .ok (.getfield index, 3)) (kk : Jg X own cc nL ret nm d CR SR (Q) ad (cells) (slots) (pc + 3) (lv) (.int (mem (190) 3) :: st) (WS X ad (mem))) : Jg X own cc nL ret nm d CR SR (Q) ad (cells) (slots) (pc) (lv) (.ref (190) :: st) (WS X ad (mem)) :=
  J_get (T := TX4) (ci := 4) (N := 5) rfl inTX4 3 rfl hw hdg (190) ((WS_get (by decide)).trans (congrArg some (congrArg (Prod.mk _) ((fun _ => rfl) (mem (190)))))) rfl kk
theorem pX4_kind  {index : Nat} {x : Int32} (hw : Cond.fieldLink own index "PlugPins$Pad" "kind" "I" ∈ TW) (hdg : decode cc pc = .ok (.putfield index, 3)) (kk : Jg X own cc nL ret nm d CR SR (Q) ad (cells) (slots) (pc + 3) (lv) (st) (WS X ad (up mem (190) 3 x))) : Jg X own cc nL ret nm d CR SR (Q) ad (cells) (slots) (pc) (lv) (.int x :: .ref (190) :: st) (WS X ad (mem)) := by
  refine J_put (T := TX4) (ci := 4) (N := 5) (ty := .int) (ad := ad) (v := .int x) rfl inTX4 tyX4 tyX4_ok nmX4 3 rfl hw rfl (by decide +kernel) rfl rfl hdg (190) ((WS_get (by decide)).trans (congrArg some (congrArg (Prod.mk _) ((fun _ => rfl) (mem (190)))))) rfl ?_
  exact J_ws (WS_set (upd (mem (190)) 3 x) ((fun _ => rfl) (upd (mem (190)) 3 x))) kk
theorem gX4_values  {index : Nat} (hw : Cond.fieldLink own index "PlugPins$Pad" "values" "[I" ∈ TW) (hdg : decode cc pc = .ok (.getfield index, 3)) (kk : Jg X own cc nL ret nm d CR SR (Q) ad (cells) (slots) (pc + 3) (lv) (.ref (192) :: st) (WS X ad (mem))) : Jg X own cc nL ret nm d CR SR (Q) ad (cells) (slots) (pc) (lv) (.ref (190) :: st) (WS X ad (mem)) :=
  J_get (T := TX4) (ci := 4) (N := 5) rfl inTX4 4 rfl hw hdg (190) ((WS_get (by decide)).trans (congrArg some (congrArg (Prod.mk _) ((fun _ => rfl) (mem (190)))))) rfl kk
theorem gX5_backplane  {index : Nat} (hw : Cond.fieldLink own index "PlugPins" "backplane" "LPlugPins$Backplane;" ∈ TW) (hdg : decode cc pc = .ok (.getfield index, 3)) (kk : Jg X own cc nL ret nm d CR SR (Q) ad (cells) (slots) (pc + 3) (lv) (.ref (1) :: st) (WS X ad (mem))) : Jg X own cc nL ret nm d CR SR (Q) ad (cells) (slots) (pc) (lv) (.ref (0) :: st) (WS X ad (mem)) :=
  J_get (T := TX5) (ci := 5) (N := 6) rfl inTX5 0 rfl hw hdg (0) ((WS_get (by decide)).trans (congrArg some (congrArg (Prod.mk _) ((fun _ => rfl) (mem (0)))))) rfl kk
theorem gX5_trial  {index : Nat} (hw : Cond.fieldLink own index "PlugPins" "trial" "LPlugPins$Backplane;" ∈ TW) (hdg : decode cc pc = .ok (.getfield index, 3)) (kk : Jg X own cc nL ret nm d CR SR (Q) ad (cells) (slots) (pc + 3) (lv) (.ref (18) :: st) (WS X ad (mem))) : Jg X own cc nL ret nm d CR SR (Q) ad (cells) (slots) (pc) (lv) (.ref (0) :: st) (WS X ad (mem)) :=
  J_get (T := TX5) (ci := 5) (N := 6) rfl inTX5 1 rfl hw hdg (0) ((WS_get (by decide)).trans (congrArg some (congrArg (Prod.mk _) ((fun _ => rfl) (mem (0)))))) rfl kk
theorem gX5_history  {index : Nat} (hw : Cond.fieldLink own index "PlugPins" "history" "LPlugPins$History;" ∈ TW) (hdg : decode cc pc = .ok (.getfield index, 3)) (kk : Jg X own cc nL ret nm d CR SR (Q) ad (cells) (slots) (pc + 3) (lv) (.ref (188) :: st) (WS X ad (mem))) : Jg X own cc nL ret nm d CR SR (Q) ad (cells) (slots) (pc) (lv) (.ref (0) :: st) (WS X ad (mem)) :=
  J_get (T := TX5) (ci := 5) (N := 6) rfl inTX5 2 rfl hw hdg (0) ((WS_get (by decide)).trans (congrArg some (congrArg (Prod.mk _) ((fun _ => rfl) (mem (0)))))) rfl kk
theorem gX5_pad  {index : Nat} (hw : Cond.fieldLink own index "PlugPins" "pad" "LPlugPins$Pad;" ∈ TW) (hdg : decode cc pc = .ok (.getfield index, 3)) (kk : Jg X own cc nL ret nm d CR SR (Q) ad (cells) (slots) (pc + 3) (lv) (.ref (190) :: st) (WS X ad (mem))) : Jg X own cc nL ret nm d CR SR (Q) ad (cells) (slots) (pc) (lv) (.ref (0) :: st) (WS X ad (mem)) :=
  J_get (T := TX5) (ci := 5) (N := 6) rfl inTX5 3 rfl hw hdg (0) ((WS_get (by decide)).trans (congrArg some (congrArg (Prod.mk _) ((fun _ => rfl) (mem (0)))))) rfl kk
theorem gX5_saved  {index : Nat} (hw : Cond.fieldLink own index "PlugPins" "saved" "[LPlugPins$Backplane;" ∈ TW) (hdg : decode cc pc = .ok (.getfield index, 3)) (kk : Jg X own cc nL ret nm d CR SR (Q) ad (cells) (slots) (pc + 3) (lv) (.ref (193) :: st) (WS X ad (mem))) : Jg X own cc nL ret nm d CR SR (Q) ad (cells) (slots) (pc) (lv) (.ref (0) :: st) (WS X ad (mem)) :=
  J_get (T := TX5) (ci := 5) (N := 6) rfl inTX5 4 rfl hw hdg (0) ((WS_get (by decide)).trans (congrArg some (congrArg (Prod.mk _) ((fun _ => rfl) (mem (0)))))) rfl kk
theorem gX5_isSaved  {index : Nat} (hw : Cond.fieldLink own index "PlugPins" "isSaved" "[Z" ∈ TW) (hdg : decode cc pc = .ok (.getfield index, 3)) (kk : Jg X own cc nL ret nm d CR SR (Q) ad (cells) (slots) (pc + 3) (lv) (.ref (194) :: st) (WS X ad (mem))) : Jg X own cc nL ret nm d CR SR (Q) ad (cells) (slots) (pc) (lv) (.ref (0) :: st) (WS X ad (mem)) :=
  J_get (T := TX5) (ci := 5) (N := 6) rfl inTX5 5 rfl hw hdg (0) ((WS_get (by decide)).trans (congrArg some (congrArg (Prod.mk _) ((fun _ => rfl) (mem (0)))))) rfl kk
theorem gX6_s  {index : Nat} (hw : Cond.fieldLink own index "PlugPinsModel" "s" "[I" ∈ TW) (hdg : decode cc pc = .ok (.getfield index, 3)) (kk : Jg X own cc nL ret nm d CR SR (Q) ad (cells) (slots) (pc + 3) (lv) (.ref (196) :: st) (WS X ad (mem))) : Jg X own cc nL ret nm d CR SR (Q) ad (cells) (slots) (pc) (lv) (.ref (195) :: st) (WS X ad (mem)) :=
  J_get (T := TX6) (ci := 6) (N := 14) rfl inTX6 0 rfl hw hdg (195) ((WS_get (by decide)).trans (congrArg some (congrArg (Prod.mk _) ((fun _ => rfl) (mem (195)))))) rfl kk
theorem gX6_aside  {index : Nat} (hw : Cond.fieldLink own index "PlugPinsModel" "aside" "[I" ∈ TW) (hdg : decode cc pc = .ok (.getfield index, 3)) (kk : Jg X own cc nL ret nm d CR SR (Q) ad (cells) (slots) (pc + 3) (lv) (.ref (197) :: st) (WS X ad (mem))) : Jg X own cc nL ret nm d CR SR (Q) ad (cells) (slots) (pc) (lv) (.ref (195) :: st) (WS X ad (mem)) :=
  J_get (T := TX6) (ci := 6) (N := 14) rfl inTX6 1 rfl hw hdg (195) ((WS_get (by decide)).trans (congrArg some (congrArg (Prod.mk _) ((fun _ => rfl) (mem (195)))))) rfl kk
theorem gX6_history  {index : Nat} (hw : Cond.fieldLink own index "PlugPinsModel" "history" "[I" ∈ TW) (hdg : decode cc pc = .ok (.getfield index, 3)) (kk : Jg X own cc nL ret nm d CR SR (Q) ad (cells) (slots) (pc + 3) (lv) (.ref (198) :: st) (WS X ad (mem))) : Jg X own cc nL ret nm d CR SR (Q) ad (cells) (slots) (pc) (lv) (.ref (195) :: st) (WS X ad (mem)) :=
  J_get (T := TX6) (ci := 6) (N := 14) rfl inTX6 2 rfl hw hdg (195) ((WS_get (by decide)).trans (congrArg some (congrArg (Prod.mk _) ((fun _ => rfl) (mem (195)))))) rfl kk
theorem gX6_known  {index : Nat} (hw : Cond.fieldLink own index "PlugPinsModel" "known" "I" ∈ TW) (hdg : decode cc pc = .ok (.getfield index, 3)) (kk : Jg X own cc nL ret nm d CR SR (Q) ad (cells) (slots) (pc + 3) (lv) (.int (mem (195) 3) :: st) (WS X ad (mem))) : Jg X own cc nL ret nm d CR SR (Q) ad (cells) (slots) (pc) (lv) (.ref (195) :: st) (WS X ad (mem)) :=
  J_get (T := TX6) (ci := 6) (N := 14) rfl inTX6 3 rfl hw hdg (195) ((WS_get (by decide)).trans (congrArg some (congrArg (Prod.mk _) ((fun _ => rfl) (mem (195)))))) rfl kk
theorem pX6_known  {index : Nat} {x : Int32} (hw : Cond.fieldLink own index "PlugPinsModel" "known" "I" ∈ TW) (hdg : decode cc pc = .ok (.putfield index, 3)) (kk : Jg X own cc nL ret nm d CR SR (Q) ad (cells) (slots) (pc + 3) (lv) (st) (WS X ad (up mem (195) 3 x))) : Jg X own cc nL ret nm d CR SR (Q) ad (cells) (slots) (pc) (lv) (.int x :: .ref (195) :: st) (WS X ad (mem)) := by
  refine J_put (T := TX6) (ci := 6) (N := 14) (ty := .int) (ad := ad) (v := .int x) rfl inTX6 tyX6 tyX6_ok nmX6 3 rfl hw rfl (by decide +kernel) rfl rfl hdg (195) ((WS_get (by decide)).trans (congrArg some (congrArg (Prod.mk _) ((fun _ => rfl) (mem (195)))))) rfl ?_
  exact J_ws (WS_set (upd (mem (195)) 3 x) ((fun _ => rfl) (upd (mem (195)) 3 x))) kk
theorem gX6_slots  {index : Nat} (hw : Cond.fieldLink own index "PlugPinsModel" "slots" "[I" ∈ TW) (hdg : decode cc pc = .ok (.getfield index, 3)) (kk : Jg X own cc nL ret nm d CR SR (Q) ad (cells) (slots) (pc + 3) (lv) (.ref (199) :: st) (WS X ad (mem))) : Jg X own cc nL ret nm d CR SR (Q) ad (cells) (slots) (pc) (lv) (.ref (195) :: st) (WS X ad (mem)) :=
  J_get (T := TX6) (ci := 6) (N := 14) rfl inTX6 4 rfl hw hdg (195) ((WS_get (by decide)).trans (congrArg some (congrArg (Prod.mk _) ((fun _ => rfl) (mem (195)))))) rfl kk
theorem gX6_kept  {index : Nat} (hw : Cond.fieldLink own index "PlugPinsModel" "kept" "I" ∈ TW) (hdg : decode cc pc = .ok (.getfield index, 3)) (kk : Jg X own cc nL ret nm d CR SR (Q) ad (cells) (slots) (pc + 3) (lv) (.int (mem (195) 5) :: st) (WS X ad (mem))) : Jg X own cc nL ret nm d CR SR (Q) ad (cells) (slots) (pc) (lv) (.ref (195) :: st) (WS X ad (mem)) :=
  J_get (T := TX6) (ci := 6) (N := 14) rfl inTX6 5 rfl hw hdg (195) ((WS_get (by decide)).trans (congrArg some (congrArg (Prod.mk _) ((fun _ => rfl) (mem (195)))))) rfl kk
theorem pX6_kept  {index : Nat} {x : Int32} (hw : Cond.fieldLink own index "PlugPinsModel" "kept" "I" ∈ TW) (hdg : decode cc pc = .ok (.putfield index, 3)) (kk : Jg X own cc nL ret nm d CR SR (Q) ad (cells) (slots) (pc + 3) (lv) (st) (WS X ad (up mem (195) 5 x))) : Jg X own cc nL ret nm d CR SR (Q) ad (cells) (slots) (pc) (lv) (.int x :: .ref (195) :: st) (WS X ad (mem)) := by
  refine J_put (T := TX6) (ci := 6) (N := 14) (ty := .int) (ad := ad) (v := .int x) rfl inTX6 tyX6 tyX6_ok nmX6 5 rfl hw rfl (by decide +kernel) rfl rfl hdg (195) ((WS_get (by decide)).trans (congrArg some (congrArg (Prod.mk _) ((fun _ => rfl) (mem (195)))))) rfl ?_
  exact J_ws (WS_set (upd (mem (195)) 5 x) ((fun _ => rfl) (upd (mem (195)) 5 x))) kk
theorem gX6_pad  {index : Nat} (hw : Cond.fieldLink own index "PlugPinsModel" "pad" "[I" ∈ TW) (hdg : decode cc pc = .ok (.getfield index, 3)) (kk : Jg X own cc nL ret nm d CR SR (Q) ad (cells) (slots) (pc + 3) (lv) (.ref (200) :: st) (WS X ad (mem))) : Jg X own cc nL ret nm d CR SR (Q) ad (cells) (slots) (pc) (lv) (.ref (195) :: st) (WS X ad (mem)) :=
  J_get (T := TX6) (ci := 6) (N := 14) rfl inTX6 6 rfl hw hdg (195) ((WS_get (by decide)).trans (congrArg some (congrArg (Prod.mk _) ((fun _ => rfl) (mem (195)))))) rfl kk
theorem gX6_length  {index : Nat} (hw : Cond.fieldLink own index "PlugPinsModel" "length" "I" ∈ TW) (hdg : decode cc pc = .ok (.getfield index, 3)) (kk : Jg X own cc nL ret nm d CR SR (Q) ad (cells) (slots) (pc + 3) (lv) (.int (mem (195) 7) :: st) (WS X ad (mem))) : Jg X own cc nL ret nm d CR SR (Q) ad (cells) (slots) (pc) (lv) (.ref (195) :: st) (WS X ad (mem)) :=
  J_get (T := TX6) (ci := 6) (N := 14) rfl inTX6 7 rfl hw hdg (195) ((WS_get (by decide)).trans (congrArg some (congrArg (Prod.mk _) ((fun _ => rfl) (mem (195)))))) rfl kk
theorem pX6_length  {index : Nat} {x : Int32} (hw : Cond.fieldLink own index "PlugPinsModel" "length" "I" ∈ TW) (hdg : decode cc pc = .ok (.putfield index, 3)) (kk : Jg X own cc nL ret nm d CR SR (Q) ad (cells) (slots) (pc + 3) (lv) (st) (WS X ad (up mem (195) 7 x))) : Jg X own cc nL ret nm d CR SR (Q) ad (cells) (slots) (pc) (lv) (.int x :: .ref (195) :: st) (WS X ad (mem)) := by
  refine J_put (T := TX6) (ci := 6) (N := 14) (ty := .int) (ad := ad) (v := .int x) rfl inTX6 tyX6 tyX6_ok nmX6 7 rfl hw rfl (by decide +kernel) rfl rfl hdg (195) ((WS_get (by decide)).trans (congrArg some (congrArg (Prod.mk _) ((fun _ => rfl) (mem (195)))))) rfl ?_
  exact J_ws (WS_set (upd (mem (195)) 7 x) ((fun _ => rfl) (upd (mem (195)) 7 x))) kk
theorem gX6_spot  {index : Nat} (hw : Cond.fieldLink own index "PlugPinsModel" "spot" "I" ∈ TW) (hdg : decode cc pc = .ok (.getfield index, 3)) (kk : Jg X own cc nL ret nm d CR SR (Q) ad (cells) (slots) (pc + 3) (lv) (.int (mem (195) 8) :: st) (WS X ad (mem))) : Jg X own cc nL ret nm d CR SR (Q) ad (cells) (slots) (pc) (lv) (.ref (195) :: st) (WS X ad (mem)) :=
  J_get (T := TX6) (ci := 6) (N := 14) rfl inTX6 8 rfl hw hdg (195) ((WS_get (by decide)).trans (congrArg some (congrArg (Prod.mk _) ((fun _ => rfl) (mem (195)))))) rfl kk
theorem pX6_spot  {index : Nat} {x : Int32} (hw : Cond.fieldLink own index "PlugPinsModel" "spot" "I" ∈ TW) (hdg : decode cc pc = .ok (.putfield index, 3)) (kk : Jg X own cc nL ret nm d CR SR (Q) ad (cells) (slots) (pc + 3) (lv) (st) (WS X ad (up mem (195) 8 x))) : Jg X own cc nL ret nm d CR SR (Q) ad (cells) (slots) (pc) (lv) (.int x :: .ref (195) :: st) (WS X ad (mem)) := by
  refine J_put (T := TX6) (ci := 6) (N := 14) (ty := .int) (ad := ad) (v := .int x) rfl inTX6 tyX6 tyX6_ok nmX6 8 rfl hw rfl (by decide +kernel) rfl rfl hdg (195) ((WS_get (by decide)).trans (congrArg some (congrArg (Prod.mk _) ((fun _ => rfl) (mem (195)))))) rfl ?_
  exact J_ws (WS_set (upd (mem (195)) 8 x) ((fun _ => rfl) (upd (mem (195)) 8 x))) kk
theorem gX6_isFaulty  {index : Nat} (hw : Cond.fieldLink own index "PlugPinsModel" "isFaulty" "Z" ∈ TW) (hdg : decode cc pc = .ok (.getfield index, 3)) (kk : Jg X own cc nL ret nm d CR SR (Q) ad (cells) (slots) (pc + 3) (lv) (.int (mem (195) 9) :: st) (WS X ad (mem))) : Jg X own cc nL ret nm d CR SR (Q) ad (cells) (slots) (pc) (lv) (.ref (195) :: st) (WS X ad (mem)) :=
  J_get (T := TX6) (ci := 6) (N := 14) rfl inTX6 9 rfl hw hdg (195) ((WS_get (by decide)).trans (congrArg some (congrArg (Prod.mk _) ((fun _ => rfl) (mem (195)))))) rfl kk
theorem pX6_isFaulty  {index : Nat} {x : Int32} (hw : Cond.fieldLink own index "PlugPinsModel" "isFaulty" "Z" ∈ TW) (hdg : decode cc pc = .ok (.putfield index, 3)) (hz : x = 0 ∨ x = 1) (kk : Jg X own cc nL ret nm d CR SR (Q) ad (cells) (slots) (pc + 3) (lv) (st) (WS X ad (up mem (195) 9 x))) : Jg X own cc nL ret nm d CR SR (Q) ad (cells) (slots) (pc) (lv) (.int x :: .ref (195) :: st) (WS X ad (mem)) := by
  refine J_put (T := TX6) (ci := 6) (N := 14) (ty := .boolean) (ad := ad) (v := .int x) rfl inTX6 tyX6 tyX6_ok nmX6 9 rfl hw rfl (by decide +kernel) (by rcases hz with rfl | rfl <;> rfl) (by rcases hz with rfl | rfl <;> rfl) hdg (195) ((WS_get (by decide)).trans (congrArg some (congrArg (Prod.mk _) ((fun _ => rfl) (mem (195)))))) rfl ?_
  exact J_ws (WS_set (upd (mem (195)) 9 x) ((fun _ => rfl) (upd (mem (195)) 9 x))) kk
theorem gX6_letter  {index : Nat} (hw : Cond.fieldLink own index "PlugPinsModel" "letter" "I" ∈ TW) (hdg : decode cc pc = .ok (.getfield index, 3)) (kk : Jg X own cc nL ret nm d CR SR (Q) ad (cells) (slots) (pc + 3) (lv) (.int (mem (195) 10) :: st) (WS X ad (mem))) : Jg X own cc nL ret nm d CR SR (Q) ad (cells) (slots) (pc) (lv) (.ref (195) :: st) (WS X ad (mem)) :=
  J_get (T := TX6) (ci := 6) (N := 14) rfl inTX6 10 rfl hw hdg (195) ((WS_get (by decide)).trans (congrArg some (congrArg (Prod.mk _) ((fun _ => rfl) (mem (195)))))) rfl kk
theorem pX6_letter  {index : Nat} {x : Int32} (hw : Cond.fieldLink own index "PlugPinsModel" "letter" "I" ∈ TW) (hdg : decode cc pc = .ok (.putfield index, 3)) (kk : Jg X own cc nL ret nm d CR SR (Q) ad (cells) (slots) (pc + 3) (lv) (st) (WS X ad (up mem (195) 10 x))) : Jg X own cc nL ret nm d CR SR (Q) ad (cells) (slots) (pc) (lv) (.int x :: .ref (195) :: st) (WS X ad (mem)) := by
  refine J_put (T := TX6) (ci := 6) (N := 14) (ty := .int) (ad := ad) (v := .int x) rfl inTX6 tyX6 tyX6_ok nmX6 10 rfl hw rfl (by decide +kernel) rfl rfl hdg (195) ((WS_get (by decide)).trans (congrArg some (congrArg (Prod.mk _) ((fun _ => rfl) (mem (195)))))) rfl ?_
  exact J_ws (WS_set (upd (mem (195)) 10 x) ((fun _ => rfl) (upd (mem (195)) 10 x))) kk
theorem gX6_first  {index : Nat} (hw : Cond.fieldLink own index "PlugPinsModel" "first" "I" ∈ TW) (hdg : decode cc pc = .ok (.getfield index, 3)) (kk : Jg X own cc nL ret nm d CR SR (Q) ad (cells) (slots) (pc + 3) (lv) (.int (mem (195) 11) :: st) (WS X ad (mem))) : Jg X own cc nL ret nm d CR SR (Q) ad (cells) (slots) (pc) (lv) (.ref (195) :: st) (WS X ad (mem)) :=
  J_get (T := TX6) (ci := 6) (N := 14) rfl inTX6 11 rfl hw hdg (195) ((WS_get (by decide)).trans (congrArg some (congrArg (Prod.mk _) ((fun _ => rfl) (mem (195)))))) rfl kk
theorem pX6_first  {index : Nat} {x : Int32} (hw : Cond.fieldLink own index "PlugPinsModel" "first" "I" ∈ TW) (hdg : decode cc pc = .ok (.putfield index, 3)) (kk : Jg X own cc nL ret nm d CR SR (Q) ad (cells) (slots) (pc + 3) (lv) (st) (WS X ad (up mem (195) 11 x))) : Jg X own cc nL ret nm d CR SR (Q) ad (cells) (slots) (pc) (lv) (.int x :: .ref (195) :: st) (WS X ad (mem)) := by
  refine J_put (T := TX6) (ci := 6) (N := 14) (ty := .int) (ad := ad) (v := .int x) rfl inTX6 tyX6 tyX6_ok nmX6 11 rfl hw rfl (by decide +kernel) rfl rfl hdg (195) ((WS_get (by decide)).trans (congrArg some (congrArg (Prod.mk _) ((fun _ => rfl) (mem (195)))))) rfl ?_
  exact J_ws (WS_set (upd (mem (195)) 11 x) ((fun _ => rfl) (upd (mem (195)) 11 x))) kk
theorem gX6_second  {index : Nat} (hw : Cond.fieldLink own index "PlugPinsModel" "second" "I" ∈ TW) (hdg : decode cc pc = .ok (.getfield index, 3)) (kk : Jg X own cc nL ret nm d CR SR (Q) ad (cells) (slots) (pc + 3) (lv) (.int (mem (195) 12) :: st) (WS X ad (mem))) : Jg X own cc nL ret nm d CR SR (Q) ad (cells) (slots) (pc) (lv) (.ref (195) :: st) (WS X ad (mem)) :=
  J_get (T := TX6) (ci := 6) (N := 14) rfl inTX6 12 rfl hw hdg (195) ((WS_get (by decide)).trans (congrArg some (congrArg (Prod.mk _) ((fun _ => rfl) (mem (195)))))) rfl kk
theorem pX6_second  {index : Nat} {x : Int32} (hw : Cond.fieldLink own index "PlugPinsModel" "second" "I" ∈ TW) (hdg : decode cc pc = .ok (.putfield index, 3)) (kk : Jg X own cc nL ret nm d CR SR (Q) ad (cells) (slots) (pc + 3) (lv) (st) (WS X ad (up mem (195) 12 x))) : Jg X own cc nL ret nm d CR SR (Q) ad (cells) (slots) (pc) (lv) (.int x :: .ref (195) :: st) (WS X ad (mem)) := by
  refine J_put (T := TX6) (ci := 6) (N := 14) (ty := .int) (ad := ad) (v := .int x) rfl inTX6 tyX6 tyX6_ok nmX6 12 rfl hw rfl (by decide +kernel) rfl rfl hdg (195) ((WS_get (by decide)).trans (congrArg some (congrArg (Prod.mk _) ((fun _ => rfl) (mem (195)))))) rfl ?_
  exact J_ws (WS_set (upd (mem (195)) 12 x) ((fun _ => rfl) (upd (mem (195)) 12 x))) kk
theorem gX6_third  {index : Nat} (hw : Cond.fieldLink own index "PlugPinsModel" "third" "I" ∈ TW) (hdg : decode cc pc = .ok (.getfield index, 3)) (kk : Jg X own cc nL ret nm d CR SR (Q) ad (cells) (slots) (pc + 3) (lv) (.int (mem (195) 13) :: st) (WS X ad (mem))) : Jg X own cc nL ret nm d CR SR (Q) ad (cells) (slots) (pc) (lv) (.ref (195) :: st) (WS X ad (mem)) :=
  J_get (T := TX6) (ci := 6) (N := 14) rfl inTX6 13 rfl hw hdg (195) ((WS_get (by decide)).trans (congrArg some (congrArg (Prod.mk _) ((fun _ => rfl) (mem (195)))))) rfl kk
theorem pX6_third  {index : Nat} {x : Int32} (hw : Cond.fieldLink own index "PlugPinsModel" "third" "I" ∈ TW) (hdg : decode cc pc = .ok (.putfield index, 3)) (kk : Jg X own cc nL ret nm d CR SR (Q) ad (cells) (slots) (pc + 3) (lv) (st) (WS X ad (up mem (195) 13 x))) : Jg X own cc nL ret nm d CR SR (Q) ad (cells) (slots) (pc) (lv) (.int x :: .ref (195) :: st) (WS X ad (mem)) := by
  refine J_put (T := TX6) (ci := 6) (N := 14) (ty := .int) (ad := ad) (v := .int x) rfl inTX6 tyX6 tyX6_ok nmX6 13 rfl hw rfl (by decide +kernel) rfl rfl hdg (195) ((WS_get (by decide)).trans (congrArg some (congrArg (Prod.mk _) ((fun _ => rfl) (mem (195)))))) rfl ?_
  exact J_ws (WS_set (upd (mem (195)) 13 x) ((fun _ => rfl) (upd (mem (195)) 13 x))) kk
theorem CEa_set {b : Nat} (h : isB b) (f : Nat → Int32) : CE X ad (b + 1) f = .inl (jcA X 0, 5, .inl f) := CE_block h 1 (by decide) f
theorem al_set {b : Nat} (h : isB b) {i : Int32} (hdg : decode cc pc = .ok (.iaload, 1)) (hi : vp_in i 5) (kk : Jg X own cc nL ret nm d CR SR (Q) ad (cells) (slots) (pc + 1) (lv) (.int (mem (b + 1) i.toNatClampNeg) :: st) (WS X ad (mem))) : Jg X own cc nL ret nm d CR SR (Q) ad (cells) (slots) (pc) (lv) (.int i :: .ref (b + 1) :: st) (WS X ad (mem)) :=
  J_iald (len := 5) (f := mem (b + 1)) hdg (b + 1) ((WS_get (by have := h.lt; omega)).trans (congrArg some (congrArg (Prod.mk _) (CE_block h 1 (by decide) (mem (b + 1)))))) hi kk
theorem as_set {b : Nat} (h : isB b) {i x : Int32} (hdg : decode cc pc = .ok (.iastore, 1)) (hi : vp_in i 5) (kk : Jg X own cc nL ret nm d CR SR (Q) ad (cells) (slots) (pc + 1) (lv) (st) (WS X ad (up mem (b + 1) i.toNatClampNeg x))) : Jg X own cc nL ret nm d CR SR (Q) ad (cells) (slots) (pc) (lv) (.int x :: .int i :: .ref (b + 1) :: st) (WS X ad (mem)) := by
  refine J_iast (len := 5) (f := mem (b + 1)) hdg (b + 1) ((WS_get (by have := h.lt; omega)).trans (congrArg some (congrArg (Prod.mk _) (CE_block h 1 (by decide) (mem (b + 1)))))) hi ?_
  exact J_ws (WS_set (upd (mem (b + 1)) i.toNatClampNeg x) (CE_block h 1 (by decide) (upd (mem (b + 1)) i.toNatClampNeg x))) kk
theorem CEa_w12 {b : Nat} (h : isB b) (f : Nat → Int32) : CE X ad (b + 11 + 1) f = .inl (jcA X 0, 200, .inl f) := CE_block h 12 (by decide) f
theorem al_w12 {b : Nat} (h : isB b) {i : Int32} (hdg : decode cc pc = .ok (.iaload, 1)) (hi : vp_in i 200) (kk : Jg X own cc nL ret nm d CR SR (Q) ad (cells) (slots) (pc + 1) (lv) (.int (mem (b + 11 + 1) i.toNatClampNeg) :: st) (WS X ad (mem))) : Jg X own cc nL ret nm d CR SR (Q) ad (cells) (slots) (pc) (lv) (.int i :: .ref (b + 11 + 1) :: st) (WS X ad (mem)) :=
  J_iald (len := 200) (f := mem (b + 11 + 1)) hdg (b + 11 + 1) ((WS_get (by have := h.lt; omega)).trans (congrArg some (congrArg (Prod.mk _) (CE_block h 12 (by decide) (mem (b + 11 + 1)))))) hi kk
theorem as_w12 {b : Nat} (h : isB b) {i x : Int32} (hdg : decode cc pc = .ok (.iastore, 1)) (hi : vp_in i 200) (kk : Jg X own cc nL ret nm d CR SR (Q) ad (cells) (slots) (pc + 1) (lv) (st) (WS X ad (up mem (b + 11 + 1) i.toNatClampNeg x))) : Jg X own cc nL ret nm d CR SR (Q) ad (cells) (slots) (pc) (lv) (.int x :: .int i :: .ref (b + 11 + 1) :: st) (WS X ad (mem)) := by
  refine J_iast (len := 200) (f := mem (b + 11 + 1)) hdg (b + 11 + 1) ((WS_get (by have := h.lt; omega)).trans (congrArg some (congrArg (Prod.mk _) (CE_block h 12 (by decide) (mem (b + 11 + 1)))))) hi ?_
  exact J_ws (WS_set (upd (mem (b + 11 + 1)) i.toNatClampNeg x) (CE_block h 12 (by decide) (upd (mem (b + 11 + 1)) i.toNatClampNeg x))) kk
theorem CEa_w13 {b : Nat} (h : isB b) (f : Nat → Int32) : CE X ad (b + 11 + 2) f = .inl (jcA X 0, 200, .inl f) := CE_block h 13 (by decide) f
theorem al_w13 {b : Nat} (h : isB b) {i : Int32} (hdg : decode cc pc = .ok (.iaload, 1)) (hi : vp_in i 200) (kk : Jg X own cc nL ret nm d CR SR (Q) ad (cells) (slots) (pc + 1) (lv) (.int (mem (b + 11 + 2) i.toNatClampNeg) :: st) (WS X ad (mem))) : Jg X own cc nL ret nm d CR SR (Q) ad (cells) (slots) (pc) (lv) (.int i :: .ref (b + 11 + 2) :: st) (WS X ad (mem)) :=
  J_iald (len := 200) (f := mem (b + 11 + 2)) hdg (b + 11 + 2) ((WS_get (by have := h.lt; omega)).trans (congrArg some (congrArg (Prod.mk _) (CE_block h 13 (by decide) (mem (b + 11 + 2)))))) hi kk
theorem as_w13 {b : Nat} (h : isB b) {i x : Int32} (hdg : decode cc pc = .ok (.iastore, 1)) (hi : vp_in i 200) (kk : Jg X own cc nL ret nm d CR SR (Q) ad (cells) (slots) (pc + 1) (lv) (st) (WS X ad (up mem (b + 11 + 2) i.toNatClampNeg x))) : Jg X own cc nL ret nm d CR SR (Q) ad (cells) (slots) (pc) (lv) (.int x :: .int i :: .ref (b + 11 + 2) :: st) (WS X ad (mem)) := by
  refine J_iast (len := 200) (f := mem (b + 11 + 2)) hdg (b + 11 + 2) ((WS_get (by have := h.lt; omega)).trans (congrArg some (congrArg (Prod.mk _) (CE_block h 13 (by decide) (mem (b + 11 + 2)))))) hi ?_
  exact J_ws (WS_set (upd (mem (b + 11 + 2)) i.toNatClampNeg x) (CE_block h 13 (by decide) (upd (mem (b + 11 + 2)) i.toNatClampNeg x))) kk
theorem CEa_w14 {b : Nat} (h : isB b) (f : Nat → Int32) : CE X ad (b + 11 + 3) f = .inl (jcA X 0, 200, .inl f) := CE_block h 14 (by decide) f
theorem al_w14 {b : Nat} (h : isB b) {i : Int32} (hdg : decode cc pc = .ok (.iaload, 1)) (hi : vp_in i 200) (kk : Jg X own cc nL ret nm d CR SR (Q) ad (cells) (slots) (pc + 1) (lv) (.int (mem (b + 11 + 3) i.toNatClampNeg) :: st) (WS X ad (mem))) : Jg X own cc nL ret nm d CR SR (Q) ad (cells) (slots) (pc) (lv) (.int i :: .ref (b + 11 + 3) :: st) (WS X ad (mem)) :=
  J_iald (len := 200) (f := mem (b + 11 + 3)) hdg (b + 11 + 3) ((WS_get (by have := h.lt; omega)).trans (congrArg some (congrArg (Prod.mk _) (CE_block h 14 (by decide) (mem (b + 11 + 3)))))) hi kk
theorem as_w14 {b : Nat} (h : isB b) {i x : Int32} (hdg : decode cc pc = .ok (.iastore, 1)) (hi : vp_in i 200) (kk : Jg X own cc nL ret nm d CR SR (Q) ad (cells) (slots) (pc + 1) (lv) (st) (WS X ad (up mem (b + 11 + 3) i.toNatClampNeg x))) : Jg X own cc nL ret nm d CR SR (Q) ad (cells) (slots) (pc) (lv) (.int x :: .int i :: .ref (b + 11 + 3) :: st) (WS X ad (mem)) := by
  refine J_iast (len := 200) (f := mem (b + 11 + 3)) hdg (b + 11 + 3) ((WS_get (by have := h.lt; omega)).trans (congrArg some (congrArg (Prod.mk _) (CE_block h 14 (by decide) (mem (b + 11 + 3)))))) hi ?_
  exact J_ws (WS_set (upd (mem (b + 11 + 3)) i.toNatClampNeg x) (CE_block h 14 (by decide) (upd (mem (b + 11 + 3)) i.toNatClampNeg x))) kk
theorem CEa_w15 {b : Nat} (h : isB b) (f : Nat → Int32) : CE X ad (b + 11 + 4) f = .inl (jcA X 0, 200, .inl f) := CE_block h 15 (by decide) f
theorem al_w15 {b : Nat} (h : isB b) {i : Int32} (hdg : decode cc pc = .ok (.iaload, 1)) (hi : vp_in i 200) (kk : Jg X own cc nL ret nm d CR SR (Q) ad (cells) (slots) (pc + 1) (lv) (.int (mem (b + 11 + 4) i.toNatClampNeg) :: st) (WS X ad (mem))) : Jg X own cc nL ret nm d CR SR (Q) ad (cells) (slots) (pc) (lv) (.int i :: .ref (b + 11 + 4) :: st) (WS X ad (mem)) :=
  J_iald (len := 200) (f := mem (b + 11 + 4)) hdg (b + 11 + 4) ((WS_get (by have := h.lt; omega)).trans (congrArg some (congrArg (Prod.mk _) (CE_block h 15 (by decide) (mem (b + 11 + 4)))))) hi kk
theorem as_w15 {b : Nat} (h : isB b) {i x : Int32} (hdg : decode cc pc = .ok (.iastore, 1)) (hi : vp_in i 200) (kk : Jg X own cc nL ret nm d CR SR (Q) ad (cells) (slots) (pc + 1) (lv) (st) (WS X ad (up mem (b + 11 + 4) i.toNatClampNeg x))) : Jg X own cc nL ret nm d CR SR (Q) ad (cells) (slots) (pc) (lv) (.int x :: .int i :: .ref (b + 11 + 4) :: st) (WS X ad (mem)) := by
  refine J_iast (len := 200) (f := mem (b + 11 + 4)) hdg (b + 11 + 4) ((WS_get (by have := h.lt; omega)).trans (congrArg some (congrArg (Prod.mk _) (CE_block h 15 (by decide) (mem (b + 11 + 4)))))) hi ?_
  exact J_ws (WS_set (upd (mem (b + 11 + 4)) i.toNatClampNeg x) (CE_block h 15 (by decide) (upd (mem (b + 11 + 4)) i.toNatClampNeg x))) kk
theorem CEa_w16 {b : Nat} (h : isB b) (f : Nat → Int32) : CE X ad (b + 11 + 5) f = .inl (jcA X 0, 10, .inl f) := CE_block h 16 (by decide) f
theorem al_w16 {b : Nat} (h : isB b) {i : Int32} (hdg : decode cc pc = .ok (.iaload, 1)) (hi : vp_in i 10) (kk : Jg X own cc nL ret nm d CR SR (Q) ad (cells) (slots) (pc + 1) (lv) (.int (mem (b + 11 + 5) i.toNatClampNeg) :: st) (WS X ad (mem))) : Jg X own cc nL ret nm d CR SR (Q) ad (cells) (slots) (pc) (lv) (.int i :: .ref (b + 11 + 5) :: st) (WS X ad (mem)) :=
  J_iald (len := 10) (f := mem (b + 11 + 5)) hdg (b + 11 + 5) ((WS_get (by have := h.lt; omega)).trans (congrArg some (congrArg (Prod.mk _) (CE_block h 16 (by decide) (mem (b + 11 + 5)))))) hi kk
theorem as_w16 {b : Nat} (h : isB b) {i x : Int32} (hdg : decode cc pc = .ok (.iastore, 1)) (hi : vp_in i 10) (kk : Jg X own cc nL ret nm d CR SR (Q) ad (cells) (slots) (pc + 1) (lv) (st) (WS X ad (up mem (b + 11 + 5) i.toNatClampNeg x))) : Jg X own cc nL ret nm d CR SR (Q) ad (cells) (slots) (pc) (lv) (.int x :: .int i :: .ref (b + 11 + 5) :: st) (WS X ad (mem)) := by
  refine J_iast (len := 10) (f := mem (b + 11 + 5)) hdg (b + 11 + 5) ((WS_get (by have := h.lt; omega)).trans (congrArg some (congrArg (Prod.mk _) (CE_block h 16 (by decide) (mem (b + 11 + 5)))))) hi ?_
  exact J_ws (WS_set (upd (mem (b + 11 + 5)) i.toNatClampNeg x) (CE_block h 16 (by decide) (upd (mem (b + 11 + 5)) i.toNatClampNeg x))) kk
theorem CEa_signs  (f : Nat → Int32) : CE X ad (191) f = .inl (jcA X 0, 80, .inl f) := (fun _ => rfl) f
theorem al_signs  {i : Int32} (hdg : decode cc pc = .ok (.iaload, 1)) (hi : vp_in i 80) (kk : Jg X own cc nL ret nm d CR SR (Q) ad (cells) (slots) (pc + 1) (lv) (.int (mem (191) i.toNatClampNeg) :: st) (WS X ad (mem))) : Jg X own cc nL ret nm d CR SR (Q) ad (cells) (slots) (pc) (lv) (.int i :: .ref (191) :: st) (WS X ad (mem)) :=
  J_iald (len := 80) (f := mem (191)) hdg (191) ((WS_get (by decide)).trans (congrArg some (congrArg (Prod.mk _) ((fun _ => rfl) (mem (191)))))) hi kk
theorem as_signs  {i x : Int32} (hdg : decode cc pc = .ok (.iastore, 1)) (hi : vp_in i 80) (kk : Jg X own cc nL ret nm d CR SR (Q) ad (cells) (slots) (pc + 1) (lv) (st) (WS X ad (up mem (191) i.toNatClampNeg x))) : Jg X own cc nL ret nm d CR SR (Q) ad (cells) (slots) (pc) (lv) (.int x :: .int i :: .ref (191) :: st) (WS X ad (mem)) := by
  refine J_iast (len := 80) (f := mem (191)) hdg (191) ((WS_get (by decide)).trans (congrArg some (congrArg (Prod.mk _) ((fun _ => rfl) (mem (191)))))) hi ?_
  exact J_ws (WS_set (upd (mem (191)) i.toNatClampNeg x) ((fun _ => rfl) (upd (mem (191)) i.toNatClampNeg x))) kk
theorem CEa_vals  (f : Nat → Int32) : CE X ad (192) f = .inl (jcA X 0, 3, .inl f) := (fun _ => rfl) f
theorem al_vals  {i : Int32} (hdg : decode cc pc = .ok (.iaload, 1)) (hi : vp_in i 3) (kk : Jg X own cc nL ret nm d CR SR (Q) ad (cells) (slots) (pc + 1) (lv) (.int (mem (192) i.toNatClampNeg) :: st) (WS X ad (mem))) : Jg X own cc nL ret nm d CR SR (Q) ad (cells) (slots) (pc) (lv) (.int i :: .ref (192) :: st) (WS X ad (mem)) :=
  J_iald (len := 3) (f := mem (192)) hdg (192) ((WS_get (by decide)).trans (congrArg some (congrArg (Prod.mk _) ((fun _ => rfl) (mem (192)))))) hi kk
theorem as_vals  {i x : Int32} (hdg : decode cc pc = .ok (.iastore, 1)) (hi : vp_in i 3) (kk : Jg X own cc nL ret nm d CR SR (Q) ad (cells) (slots) (pc + 1) (lv) (st) (WS X ad (up mem (192) i.toNatClampNeg x))) : Jg X own cc nL ret nm d CR SR (Q) ad (cells) (slots) (pc) (lv) (.int x :: .int i :: .ref (192) :: st) (WS X ad (mem)) := by
  refine J_iast (len := 3) (f := mem (192)) hdg (192) ((WS_get (by decide)).trans (congrArg some (congrArg (Prod.mk _) ((fun _ => rfl) (mem (192)))))) hi ?_
  exact J_ws (WS_set (upd (mem (192)) i.toNatClampNeg x) ((fun _ => rfl) (upd (mem (192)) i.toNatClampNeg x))) kk
theorem CEa_ms  (f : Nat → Int32) : CE X ad (196) f = .inl (jcA X 0, 302, .inl f) := (fun _ => rfl) f
theorem al_ms  {i : Int32} (hdg : decode cc pc = .ok (.iaload, 1)) (hi : vp_in i 302) (kk : Jg X own cc nL ret nm d CR SR (Q) ad (cells) (slots) (pc + 1) (lv) (.int (mem (196) i.toNatClampNeg) :: st) (WS X ad (mem))) : Jg X own cc nL ret nm d CR SR (Q) ad (cells) (slots) (pc) (lv) (.int i :: .ref (196) :: st) (WS X ad (mem)) :=
  J_iald (len := 302) (f := mem (196)) hdg (196) ((WS_get (by decide)).trans (congrArg some (congrArg (Prod.mk _) ((fun _ => rfl) (mem (196)))))) hi kk
theorem as_ms  {i x : Int32} (hdg : decode cc pc = .ok (.iastore, 1)) (hi : vp_in i 302) (kk : Jg X own cc nL ret nm d CR SR (Q) ad (cells) (slots) (pc + 1) (lv) (st) (WS X ad (up mem (196) i.toNatClampNeg x))) : Jg X own cc nL ret nm d CR SR (Q) ad (cells) (slots) (pc) (lv) (.int x :: .int i :: .ref (196) :: st) (WS X ad (mem)) := by
  refine J_iast (len := 302) (f := mem (196)) hdg (196) ((WS_get (by decide)).trans (congrArg some (congrArg (Prod.mk _) ((fun _ => rfl) (mem (196)))))) hi ?_
  exact J_ws (WS_set (upd (mem (196)) i.toNatClampNeg x) ((fun _ => rfl) (upd (mem (196)) i.toNatClampNeg x))) kk
theorem CEa_maside  (f : Nat → Int32) : CE X ad (197) f = .inl (jcA X 0, 302, .inl f) := (fun _ => rfl) f
theorem al_maside  {i : Int32} (hdg : decode cc pc = .ok (.iaload, 1)) (hi : vp_in i 302) (kk : Jg X own cc nL ret nm d CR SR (Q) ad (cells) (slots) (pc + 1) (lv) (.int (mem (197) i.toNatClampNeg) :: st) (WS X ad (mem))) : Jg X own cc nL ret nm d CR SR (Q) ad (cells) (slots) (pc) (lv) (.int i :: .ref (197) :: st) (WS X ad (mem)) :=
  J_iald (len := 302) (f := mem (197)) hdg (197) ((WS_get (by decide)).trans (congrArg some (congrArg (Prod.mk _) ((fun _ => rfl) (mem (197)))))) hi kk
theorem as_maside  {i x : Int32} (hdg : decode cc pc = .ok (.iastore, 1)) (hi : vp_in i 302) (kk : Jg X own cc nL ret nm d CR SR (Q) ad (cells) (slots) (pc + 1) (lv) (st) (WS X ad (up mem (197) i.toNatClampNeg x))) : Jg X own cc nL ret nm d CR SR (Q) ad (cells) (slots) (pc) (lv) (.int x :: .int i :: .ref (197) :: st) (WS X ad (mem)) := by
  refine J_iast (len := 302) (f := mem (197)) hdg (197) ((WS_get (by decide)).trans (congrArg some (congrArg (Prod.mk _) ((fun _ => rfl) (mem (197)))))) hi ?_
  exact J_ws (WS_set (upd (mem (197)) i.toNatClampNeg x) ((fun _ => rfl) (upd (mem (197)) i.toNatClampNeg x))) kk
theorem CEa_mhist  (f : Nat → Int32) : CE X ad (198) f = .inl (jcA X 0, 1812, .inl f) := (fun _ => rfl) f
theorem al_mhist  {i : Int32} (hdg : decode cc pc = .ok (.iaload, 1)) (hi : vp_in i 1812) (kk : Jg X own cc nL ret nm d CR SR (Q) ad (cells) (slots) (pc + 1) (lv) (.int (mem (198) i.toNatClampNeg) :: st) (WS X ad (mem))) : Jg X own cc nL ret nm d CR SR (Q) ad (cells) (slots) (pc) (lv) (.int i :: .ref (198) :: st) (WS X ad (mem)) :=
  J_iald (len := 1812) (f := mem (198)) hdg (198) ((WS_get (by decide)).trans (congrArg some (congrArg (Prod.mk _) ((fun _ => rfl) (mem (198)))))) hi kk
theorem as_mhist  {i x : Int32} (hdg : decode cc pc = .ok (.iastore, 1)) (hi : vp_in i 1812) (kk : Jg X own cc nL ret nm d CR SR (Q) ad (cells) (slots) (pc + 1) (lv) (st) (WS X ad (up mem (198) i.toNatClampNeg x))) : Jg X own cc nL ret nm d CR SR (Q) ad (cells) (slots) (pc) (lv) (.int x :: .int i :: .ref (198) :: st) (WS X ad (mem)) := by
  refine J_iast (len := 1812) (f := mem (198)) hdg (198) ((WS_get (by decide)).trans (congrArg some (congrArg (Prod.mk _) ((fun _ => rfl) (mem (198)))))) hi ?_
  exact J_ws (WS_set (upd (mem (198)) i.toNatClampNeg x) ((fun _ => rfl) (upd (mem (198)) i.toNatClampNeg x))) kk
theorem CEa_mslots  (f : Nat → Int32) : CE X ad (199) f = .inl (jcA X 0, 604, .inl f) := (fun _ => rfl) f
theorem al_mslots  {i : Int32} (hdg : decode cc pc = .ok (.iaload, 1)) (hi : vp_in i 604) (kk : Jg X own cc nL ret nm d CR SR (Q) ad (cells) (slots) (pc + 1) (lv) (.int (mem (199) i.toNatClampNeg) :: st) (WS X ad (mem))) : Jg X own cc nL ret nm d CR SR (Q) ad (cells) (slots) (pc) (lv) (.int i :: .ref (199) :: st) (WS X ad (mem)) :=
  J_iald (len := 604) (f := mem (199)) hdg (199) ((WS_get (by decide)).trans (congrArg some (congrArg (Prod.mk _) ((fun _ => rfl) (mem (199)))))) hi kk
theorem as_mslots  {i x : Int32} (hdg : decode cc pc = .ok (.iastore, 1)) (hi : vp_in i 604) (kk : Jg X own cc nL ret nm d CR SR (Q) ad (cells) (slots) (pc + 1) (lv) (st) (WS X ad (up mem (199) i.toNatClampNeg x))) : Jg X own cc nL ret nm d CR SR (Q) ad (cells) (slots) (pc) (lv) (.int x :: .int i :: .ref (199) :: st) (WS X ad (mem)) := by
  refine J_iast (len := 604) (f := mem (199)) hdg (199) ((WS_get (by decide)).trans (congrArg some (congrArg (Prod.mk _) ((fun _ => rfl) (mem (199)))))) hi ?_
  exact J_ws (WS_set (upd (mem (199)) i.toNatClampNeg x) ((fun _ => rfl) (upd (mem (199)) i.toNatClampNeg x))) kk
theorem CEa_mpad  (f : Nat → Int32) : CE X ad (200) f = .inl (jcA X 0, 80, .inl f) := (fun _ => rfl) f
theorem al_mpad  {i : Int32} (hdg : decode cc pc = .ok (.iaload, 1)) (hi : vp_in i 80) (kk : Jg X own cc nL ret nm d CR SR (Q) ad (cells) (slots) (pc + 1) (lv) (.int (mem (200) i.toNatClampNeg) :: st) (WS X ad (mem))) : Jg X own cc nL ret nm d CR SR (Q) ad (cells) (slots) (pc) (lv) (.int i :: .ref (200) :: st) (WS X ad (mem)) :=
  J_iald (len := 80) (f := mem (200)) hdg (200) ((WS_get (by decide)).trans (congrArg some (congrArg (Prod.mk _) ((fun _ => rfl) (mem (200)))))) hi kk
theorem as_mpad  {i x : Int32} (hdg : decode cc pc = .ok (.iastore, 1)) (hi : vp_in i 80) (kk : Jg X own cc nL ret nm d CR SR (Q) ad (cells) (slots) (pc + 1) (lv) (st) (WS X ad (up mem (200) i.toNatClampNeg x))) : Jg X own cc nL ret nm d CR SR (Q) ad (cells) (slots) (pc) (lv) (.int x :: .int i :: .ref (200) :: st) (WS X ad (mem)) := by
  refine J_iast (len := 80) (f := mem (200)) hdg (200) ((WS_get (by decide)).trans (congrArg some (congrArg (Prod.mk _) ((fun _ => rfl) (mem (200)))))) hi ?_
  exact J_ws (WS_set (upd (mem (200)) i.toNatClampNeg x) ((fun _ => rfl) (upd (mem (200)) i.toNatClampNeg x))) kk
theorem al_saved {i : Int32} (hdg : decode cc pc = .ok (.baload, 1)) (hi : vp_in i 2) (kk : Jg X own cc nL ret nm d CR SR (Q) ad (cells) (slots) (pc + 1) (lv) (.int (mem 194 i.toNatClampNeg) :: st) (WS X ad (mem))) : Jg X own cc nL ret nm d CR SR (Q) ad (cells) (slots) (pc) (lv) (.int i :: .ref 194 :: st) (WS X ad (mem)) :=
  J_zald (len := 2) (f := mem 194) hdg 194 ((WS_get (by decide)).trans rfl) hi kk
theorem as_saved {i x : Int32} (hdg : decode cc pc = .ok (.bastore, 1)) (hi : vp_in i 2) (kk : Jg X own cc nL ret nm d CR SR (Q) ad (cells) (slots) (pc + 1) (lv) (st) (WS X ad (up mem 194 i.toNatClampNeg (vp_nar .boolean x)))) : Jg X own cc nL ret nm d CR SR (Q) ad (cells) (slots) (pc) (lv) (.int x :: .int i :: .ref 194 :: st) (WS X ad (mem)) := by
  refine J_zast (len := 2) (f := mem 194) hdg 194 ((WS_get (by decide)).trans rfl) hi ?_
  exact J_ws (WS_set (upd (mem 194) i.toNatClampNeg (vp_nar .boolean x)) rfl) kk
theorem al_boards {b : Nat} (h : isB b) {i : Int32} {k : Nat} (hk : i.toNatClampNeg = k) (hdg : decode cc pc = .ok (.aaload, 1)) (hi : vp_in i 8) (kk : Jg X own cc nL ret nm d CR SR (Q) ad (cells) (slots) (pc + 1) (lv) (.ref (b + (3 + k)) :: st) (WS X ad (mem))) : Jg X own cc nL ret nm d CR SR (Q) ad (cells) (slots) (pc) (lv) (.int i :: .ref (b + 2) :: st) (WS X ad (mem)) := by
  refine J_aald2 (len := 8) hdg (b + 2) ((WS_get (by have := h.lt; omega)).trans (congrArg some (congrArg (Prod.mk _) (CE_block h 2 (by decide) (mem (b + 2)))))) hi (v := .ref (b + (3 + k))) ?_ kk
  have hlt : i.toNatClampNeg < 8 := Nat.not_le.mp fun q => hi (Or.inr q)
  rw [hk] at hlt ⊢
  match k, hlt with
  | 0, _ => rfl
  | 1, _ => rfl
  | 2, _ => rfl
  | 3, _ => rfl
  | 4, _ => rfl
  | 5, _ => rfl
  | 6, _ => rfl
  | 7, _ => rfl
theorem al_states {i : Int32} {k : Nat} (hk : i.toNatClampNeg = k) (hdg : decode cc pc = .ok (.aaload, 1)) (hi : vp_in i 7) (kk : Jg X own cc nL ret nm d CR SR (Q) ad (cells) (slots) (pc + 1) (lv) (.ref (35 + 17 * k) :: st) (WS X ad (mem))) : Jg X own cc nL ret nm d CR SR (Q) ad (cells) (slots) (pc) (lv) (.int i :: .ref 189 :: st) (WS X ad (mem)) := by
  refine J_aald3 (len := 7) hdg 189 ((WS_get (by decide)).trans rfl) hi (v := .ref (35 + 17 * k)) ?_ kk
  have hlt : i.toNatClampNeg < 7 := Nat.not_le.mp fun q => hi (Or.inr q)
  rw [hk] at hlt ⊢
  match k, hlt with
  | 0, _ => rfl
  | 1, _ => rfl
  | 2, _ => rfl
  | 3, _ => rfl
  | 4, _ => rfl
  | 5, _ => rfl
  | 6, _ => rfl
theorem al_savedB {i : Int32} {k : Nat} (hk : i.toNatClampNeg = k) (hdg : decode cc pc = .ok (.aaload, 1)) (hi : vp_in i 2) (kk : Jg X own cc nL ret nm d CR SR (Q) ad (cells) (slots) (pc + 1) (lv) (.ref (154 + 17 * k) :: st) (WS X ad (mem))) : Jg X own cc nL ret nm d CR SR (Q) ad (cells) (slots) (pc) (lv) (.int i :: .ref 193 :: st) (WS X ad (mem)) := by
  refine J_aald3 (len := 2) hdg 193 ((WS_get (by decide)).trans rfl) hi (v := .ref (154 + 17 * k)) ?_ kk
  have hlt : i.toNatClampNeg < 2 := Nat.not_le.mp fun q => hi (Or.inr q)
  rw [hk] at hlt ⊢
  match k, hlt with
  | 0, _ => rfl
  | 1, _ => rfl
theorem a_copy {index : Nat} {c0 c1 len0 len1 : Nat} {sp dp n : Int32} (hlink : Cond.methodLink own index arraycopyName ∈ TW) (hdg : decode cc pc = .ok (.invokestatic index, 3)) (hd : Nat.ble 1 d = true) (hst : Nat.ble st.length 1 = true) (l0 : c0 < 201) (l1 : c1 < 201) (h0 : ∀ f, CE X ad c0 f = .inl (jcA X 0, len0, .inl f)) (h1 : ∀ f, CE X ad c1 f = .inl (jcA X 0, len1, .inl f)) (hs : ¬ sp < 0) (hp : ¬ dp < 0) (hn : ¬ n < 0) (h4 : sp.toNatClampNeg + n.toNatClampNeg ≤ len0) (h5 : dp.toNatClampNeg + n.toNatClampNeg ≤ len1) (kk : Jg X own cc nL ret nm d CR SR (Q) ad (cells) (slots) (pc + 3) (lv) (st) (WS X ad (upC mem c1 (va_cpy (mem c0) (mem c1) sp.toNatClampNeg dp.toNatClampNeg n.toNatClampNeg)))) : Jg X own cc nL ret nm d CR SR (Q) ad (cells) (slots) (pc) (lv) (.int n :: .int dp :: .ref c1 :: .int sp :: .ref c0 :: st) (WS X ad (mem)) := by
  refine J_copy hlink wk_acn wk_acs wk_sys hdg (Nat.le_of_ble_eq_true hd) (Nat.le_of_ble_eq_true hst) c0 c1 ((WS_get l0).trans (congrArg some (congrArg (Prod.mk _) (h0 _)))) ((WS_get l1).trans (congrArg some (congrArg (Prod.mk _) (h1 _)))) hs hp hn h4 h5 ?_
  exact J_ws (WS_set (va_cpy (mem c0) (mem c1) sp.toNatClampNeg dp.toNatClampNeg n.toNatClampNeg) (h1 _)) kk
end WORLD
/-- a contract over the memory -/
def Cm (X : jX) (y : MethodName) (cc : ByteArray) (nL : Nat) (ret : Option FieldType) (d : Nat) (ad : Nat → Nat) (args : List Value) (mem : Mem) (fin : Option Value → Mem → Prop) : Prop :=
  Ct X y cc nL ret d 0 0 ad args (WS X ad mem) (fun v ws => ∃ mem', ws = WS X ad mem' ∧ fin v mem')
/-- a contract whose answer and memory are known -/
abbrev Cd (X : jX) (y : MethodName) (cc : ByteArray) (nL : Nat) (ret : Option FieldType) (d : Nat) (ad : Nat → Nat) (args : List Value) (mem : Mem) (v : Option Value) (mem1 : Mem) : Prop :=
  Cm X y cc nL ret d ad args mem (fun v' mem' => v' = v ∧ mem' = mem1)
abbrev QF (X : jX) (ad : Nat → Nat) (fin : Option Value → Mem → Prop) : List Frame → Array Value → State → State → Prop := QM X ad (fun v ws => ∃ mem', ws = WS X ad mem' ∧ fin v mem') 0 0
theorem Cm.of {X : jX} {y : MethodName} {cc : ByteArray} {nL : Nat} {ret : Option FieldType} {d : Nat} {ad : Nat → Nat} {args : List Value} {mem : Mem} {fin : Option Value → Mem → Prop} {own nm : String} {lv : List (Nat × Value)} (hy : plainFor y = true) (hown : y.cls = own) (hnm : y.name = nm) (hlen : Nat.ble (lg_sl args).length nL = true) (hlv : lv_args 0 args = lv)
    (h : Jg X own cc nL ret nm d 0 0 (QF X ad fin) ad 0 0 0 lv [] (WS X ad mem)) : Cm X y cc nL ret d ad args mem fin := Ct.of hy hown hnm hlen hlv h
section WENDS
variable {X : jX} {own : String} {cc : ByteArray} {nL : Nat} {nm : String} {d CR SR : Nat} {ad : Nat → Nat} {pc : Nat} {lv : List (Nat × Value)} {mem : Mem} {fin : Option Value → Mem → Prop}
theorem r_int (hdg : decode cc pc = .ok (.ireturn, 1)) {x : Int32} (hfin : fin (some (.int x)) mem) : Jg X own cc nL (some .int) nm d CR SR (QF X ad fin) ad (0) (0) (pc) (lv) ([.int x]) (WS X ad (mem)) := J_ireturn hdg rfl rfl rfl ⟨mem, rfl, hfin⟩
theorem r_bool (hdg : decode cc pc = .ok (.ireturn, 1)) {x : Int32} (hz : x = 0 ∨ x = 1) (hfin : fin (some (.int x)) mem) : Jg X own cc nL (some .boolean) nm d CR SR (QF X ad fin) ad (0) (0) (pc) (lv) ([.int x]) (WS X ad (mem)) := J_ireturn hdg (by rcases hz with rfl | rfl <;> rfl) rfl rfl ⟨mem, rfl, hfin⟩
theorem r_ref (hdg : decode cc pc = .ok (.areturn, 1)) {C : String} {n : Nat} (hfin : fin (some (.ref n)) mem) : Jg X own cc nL (some (.object C)) nm d CR SR (QF X ad fin) ad (0) (0) (pc) (lv) ([.ref n]) (WS X ad (mem)) := J_areturn hdg (Or.inr ⟨n, rfl⟩) rfl rfl ⟨mem, rfl, hfin⟩
theorem r_null (hdg : decode cc pc = .ok (.areturn, 1)) {C : String} (hfin : fin (some .null) mem) : Jg X own cc nL (some (.object C)) nm d CR SR (QF X ad fin) ad (0) (0) (pc) (lv) ([.null]) (WS X ad (mem)) := J_areturn hdg (Or.inl rfl) rfl rfl ⟨mem, rfl, hfin⟩
theorem r_void (hdg : decode cc pc = .ok (.return_, 1)) (hfin : fin none mem) : Jg X own cc nL none nm d CR SR (QF X ad fin) ad (0) (0) (pc) (lv) ([]) (WS X ad (mem)) := J_return hdg rfl rfl ⟨mem, rfl, hfin⟩
end WENDS
section WCALLS
variable {X : jX} {own : String} {cc : ByteArray} {nL : Nat} {ret : Option FieldType} {nm : String} {d CR SR : Nat} {Q : List Frame → Array Value → State → State → Prop} {ad : Nat → Nat} {cells slots pc : Nat} {lv : List (Nat × Value)} {st : List Value} {mem : Mem}
theorem cVg {C : String} {ret' : Option FieldType} {b ci : Nat} {r : vw_C} {index : Nat} {y : MethodName} {cc' : ByteArray} {nL' d' n : Nat} {As : List Value} {st0 : List Value} {fin : Option Value → Mem → Prop} (hw : jWV own index C y cc' nL' ret' n) (hM : Cm X y cc' nL' ret' d' ad (.ref b :: As) mem fin) (hdg : decode cc pc = .ok (.invokevirtual index, 3)) (hrec : b < 201 ∧ ∀ f, ∃ fs, CE X ad b f = .inr (ci, fs)) (hcl : vwCl[ci]? = some r) (hrC : r.1 = C) (hlen : As.length = n := by rfl) (hst : st0 = As.reverse ++ .ref b :: st := by rfl) (hd : Nat.ble (d' + 1) d = true := by rfl) (hf : Nat.ble (cells + 0) CR = true ∧ Nat.ble (slots + 0) SR = true := by exact ⟨rfl, rfl⟩) (hcat : Nat.ble (st.map fun v => v.category).sum 8 = true := by rfl) (kk : ∀ (v : Option Value) (mem' : Mem), fin v mem' → Jg X own cc nL ret nm d CR SR (Q) ad (cells) (slots) (pc + 3) (lv) (v.toList ++ st) (WS X ad (mem'))) : Jg X own cc nL ret nm d CR SR (Q) ad (cells) (slots) (pc) (lv) (st0) (WS X ad (mem)) :=
  J_callV hw hM hlen hst hdg b ((WS_get hrec.1).trans (congrArg some (congrArg (Prod.mk _) (hrec.2 (mem b)).choose_spec))) hcl hrC hd hf hcat (fun v ws' hv => by obtain ⟨mem', rfl, hf⟩ := hv; exact kk v mem' hf)
theorem cVd {C : String} {ret' : Option FieldType} {b ci : Nat} {r : vw_C} {index : Nat} {y : MethodName} {cc' : ByteArray} {nL' d' n : Nat} {As : List Value} {st0 : List Value} {v : Option Value} {mem1 : Mem} (hw : jWV own index C y cc' nL' ret' n) (hM : Cd X y cc' nL' ret' d' ad (.ref b :: As) mem v mem1) (hdg : decode cc pc = .ok (.invokevirtual index, 3)) (hrec : b < 201 ∧ ∀ f, ∃ fs, CE X ad b f = .inr (ci, fs)) (hcl : vwCl[ci]? = some r) (hrC : r.1 = C) (hlen : As.length = n := by rfl) (hst : st0 = As.reverse ++ .ref b :: st := by rfl) (hd : Nat.ble (d' + 1) d = true := by rfl) (hf : Nat.ble (cells + 0) CR = true ∧ Nat.ble (slots + 0) SR = true := by exact ⟨rfl, rfl⟩) (hcat : Nat.ble (st.map fun v => v.category).sum 8 = true := by rfl) (kk : Jg X own cc nL ret nm d CR SR (Q) ad (cells) (slots) (pc + 3) (lv) (v.toList ++ st) (WS X ad (mem1))) : Jg X own cc nL ret nm d CR SR (Q) ad (cells) (slots) (pc) (lv) (st0) (WS X ad (mem)) :=
  J_callV hw hM hlen hst hdg b ((WS_get hrec.1).trans (congrArg some (congrArg (Prod.mk _) (hrec.2 (mem b)).choose_spec))) hcl hrC hd hf hcat (fun v' ws' hv => by obtain ⟨mem', rfl, rfl, rfl⟩ := hv; exact kk)
theorem cSg {ret' : Option FieldType} {index : Nat} {y : MethodName} {cc' : ByteArray} {nL' d' n : Nat} {As : List Value} {st0 : List Value} {fin : Option Value → Mem → Prop} (hw : jWS own index y cc' nL' ret' n) (hM : Cm X y cc' nL' ret' d' ad As mem fin) (hdg : decode cc pc = .ok (.invokestatic index, 3)) (hlen : As.length = n := by rfl) (hst : st0 = As.reverse ++ st := by rfl) (hd : Nat.ble (d' + 1) d = true := by rfl) (hf : Nat.ble (cells + 0) CR = true ∧ Nat.ble (slots + 0) SR = true := by exact ⟨rfl, rfl⟩) (hcat : Nat.ble (st.map fun v => v.category).sum 8 = true := by rfl) (kk : ∀ (v : Option Value) (mem' : Mem), fin v mem' → Jg X own cc nL ret nm d CR SR (Q) ad (cells) (slots) (pc + 3) (lv) (v.toList ++ st) (WS X ad (mem'))) : Jg X own cc nL ret nm d CR SR (Q) ad (cells) (slots) (pc) (lv) (st0) (WS X ad (mem)) :=
  J_callS hw hM hlen hst hdg hd hf hcat (fun v ws' hv => by obtain ⟨mem', rfl, hf⟩ := hv; exact kk v mem' hf)
theorem cSd {ret' : Option FieldType} {index : Nat} {y : MethodName} {cc' : ByteArray} {nL' d' n : Nat} {As : List Value} {st0 : List Value} {v : Option Value} {mem1 : Mem} (hw : jWS own index y cc' nL' ret' n) (hM : Cd X y cc' nL' ret' d' ad As mem v mem1) (hdg : decode cc pc = .ok (.invokestatic index, 3)) (hlen : As.length = n := by rfl) (hst : st0 = As.reverse ++ st := by rfl) (hd : Nat.ble (d' + 1) d = true := by rfl) (hf : Nat.ble (cells + 0) CR = true ∧ Nat.ble (slots + 0) SR = true := by exact ⟨rfl, rfl⟩) (hcat : Nat.ble (st.map fun v => v.category).sum 8 = true := by rfl) (kk : Jg X own cc nL ret nm d CR SR (Q) ad (cells) (slots) (pc + 3) (lv) (v.toList ++ st) (WS X ad (mem1))) : Jg X own cc nL ret nm d CR SR (Q) ad (cells) (slots) (pc) (lv) (st0) (WS X ad (mem)) :=
  J_callS hw hM hlen hst hdg hd hf hcat (fun v' ws' hv => by obtain ⟨mem', rfl, rfl, rfl⟩ := hv; exact kk)
theorem cSNg {ret' : Option FieldType} {index : Nat} {y : MethodName} {cc' : ByteArray} {nL' d' n : Nat} {As : List Value} {st0 : List Value} {fin : Option Value → Mem → Prop} (hw : jWSN own index y cc' nL' ret' n) (hM : Cm X y cc' nL' ret' d' ad As mem fin) (hdg : decode cc pc = .ok (.invokestatic index, 3)) (hlen : As.length = n := by rfl) (hst : st0 = As.reverse ++ st := by rfl) (hd : Nat.ble (d' + 1) d = true := by rfl) (hf : Nat.ble (cells + 0) CR = true ∧ Nat.ble (slots + 0) SR = true := by exact ⟨rfl, rfl⟩) (hcat : Nat.ble (st.map fun v => v.category).sum 8 = true := by rfl) (kk : ∀ (v : Option Value) (mem' : Mem), fin v mem' → Jg X own cc nL ret nm d CR SR (Q) ad (cells) (slots) (pc + 3) (lv) (v.toList ++ st) (WS X ad (mem'))) : Jg X own cc nL ret nm d CR SR (Q) ad (cells) (slots) (pc) (lv) (st0) (WS X ad (mem)) :=
  J_callSN hw hM hlen hst hdg hd hf hcat (fun v ws' hv => by obtain ⟨mem', rfl, hf⟩ := hv; exact kk v mem' hf)
theorem cSNd {ret' : Option FieldType} {index : Nat} {y : MethodName} {cc' : ByteArray} {nL' d' n : Nat} {As : List Value} {st0 : List Value} {v : Option Value} {mem1 : Mem} (hw : jWSN own index y cc' nL' ret' n) (hM : Cd X y cc' nL' ret' d' ad As mem v mem1) (hdg : decode cc pc = .ok (.invokestatic index, 3)) (hlen : As.length = n := by rfl) (hst : st0 = As.reverse ++ st := by rfl) (hd : Nat.ble (d' + 1) d = true := by rfl) (hf : Nat.ble (cells + 0) CR = true ∧ Nat.ble (slots + 0) SR = true := by exact ⟨rfl, rfl⟩) (hcat : Nat.ble (st.map fun v => v.category).sum 8 = true := by rfl) (kk : Jg X own cc nL ret nm d CR SR (Q) ad (cells) (slots) (pc + 3) (lv) (v.toList ++ st) (WS X ad (mem1))) : Jg X own cc nL ret nm d CR SR (Q) ad (cells) (slots) (pc) (lv) (st0) (WS X ad (mem)) :=
  J_callSN hw hM hlen hst hdg hd hf hcat (fun v' ws' hv => by obtain ⟨mem', rfl, rfl, rfl⟩ := hv; exact kk)
theorem cStrg {ret' : Option FieldType} {b : Nat} {index : Nat} {y : MethodName} {cc' : ByteArray} {nL' d' n : Nat} {As : List Value} {st0 : List Value} {fin : Option Value → Mem → Prop} (hw : jWV own index "java/lang/String" y cc' nL' ret' n) (hM : Cm X y cc' nL' ret' d' ad (.ref b :: As) mem fin) (hdg : decode cc pc = .ok (.invokevirtual index, 3)) (i : Nat) (hi : i < 7) (ha : ad b = jx X (10 + i)) (hlen : As.length = n := by rfl) (hst : st0 = As.reverse ++ .ref b :: st := by rfl) (hd : Nat.ble (d' + 1) d = true := by rfl) (hf : Nat.ble (cells + 0) CR = true ∧ Nat.ble (slots + 0) SR = true := by exact ⟨rfl, rfl⟩) (hcat : Nat.ble (st.map fun v => v.category).sum 8 = true := by rfl) (kk : ∀ (v : Option Value) (mem' : Mem), fin v mem' → Jg X own cc nL ret nm d CR SR (Q) ad (cells) (slots) (pc + 3) (lv) (v.toList ++ st) (WS X ad (mem'))) : Jg X own cc nL ret nm d CR SR (Q) ad (cells) (slots) (pc) (lv) (st0) (WS X ad (mem)) :=
  J_callStr hw hM hlen hst hdg i hi ha hd hf hcat (fun v ws' hv => by obtain ⟨mem', rfl, hf⟩ := hv; exact kk v mem' hf)
theorem cStrd {ret' : Option FieldType} {b : Nat} {index : Nat} {y : MethodName} {cc' : ByteArray} {nL' d' n : Nat} {As : List Value} {st0 : List Value} {v : Option Value} {mem1 : Mem} (hw : jWV own index "java/lang/String" y cc' nL' ret' n) (hM : Cd X y cc' nL' ret' d' ad (.ref b :: As) mem v mem1) (hdg : decode cc pc = .ok (.invokevirtual index, 3)) (i : Nat) (hi : i < 7) (ha : ad b = jx X (10 + i)) (hlen : As.length = n := by rfl) (hst : st0 = As.reverse ++ .ref b :: st := by rfl) (hd : Nat.ble (d' + 1) d = true := by rfl) (hf : Nat.ble (cells + 0) CR = true ∧ Nat.ble (slots + 0) SR = true := by exact ⟨rfl, rfl⟩) (hcat : Nat.ble (st.map fun v => v.category).sum 8 = true := by rfl) (kk : Jg X own cc nL ret nm d CR SR (Q) ad (cells) (slots) (pc + 3) (lv) (v.toList ++ st) (WS X ad (mem1))) : Jg X own cc nL ret nm d CR SR (Q) ad (cells) (slots) (pc) (lv) (st0) (WS X ad (mem)) :=
  J_callStr hw hM hlen hst hdg i hi ha hd hf hcat (fun v' ws' hv => by obtain ⟨mem', rfl, rfl, rfl⟩ := hv; exact kk)
theorem cVi {C : String} {ret' : Option FieldType} {b ci : Nat} {r : vw_C} {index : Nat} {y : MethodName} {cc' : ByteArray} {nL' d' n : Nat} {As : List Value} {st0 : List Value} {r9 : Int32} {mem1 : Mem} (hw : jWV own index C y cc' nL' ret' n) (hM : Cd X y cc' nL' ret' d' ad (.ref b :: As) mem (some (.int r9)) mem1) (hdg : decode cc pc = .ok (.invokevirtual index, 3)) (hrec : b < 201 ∧ ∀ f, ∃ fs, CE X ad b f = .inr (ci, fs)) (hcl : vwCl[ci]? = some r) (hrC : r.1 = C) (hlen : As.length = n := by rfl) (hst : st0 = As.reverse ++ .ref b :: st := by rfl) (hd : Nat.ble (d' + 1) d = true := by rfl) (hf : Nat.ble (cells + 0) CR = true ∧ Nat.ble (slots + 0) SR = true := by exact ⟨rfl, rfl⟩) (hcat : Nat.ble (st.map fun v => v.category).sum 8 = true := by rfl) (kk : Jg X own cc nL ret nm d CR SR (Q) ad (cells) (slots) (pc + 3) (lv) (.int r9 :: st) (WS X ad (mem1))) : Jg X own cc nL ret nm d CR SR (Q) ad (cells) (slots) (pc) (lv) (st0) (WS X ad (mem)) :=
  J_callV hw hM hlen hst hdg b ((WS_get hrec.1).trans (congrArg some (congrArg (Prod.mk _) (hrec.2 (mem b)).choose_spec))) hcl hrC hd hf hcat (fun v' ws' hv => by obtain ⟨mem', rfl, rfl, rfl⟩ := hv; exact kk)
theorem cVr {C : String} {ret' : Option FieldType} {b ci : Nat} {r : vw_C} {index : Nat} {y : MethodName} {cc' : ByteArray} {nL' d' n : Nat} {As : List Value} {st0 : List Value} {r9 : Nat} {mem1 : Mem} (hw : jWV own index C y cc' nL' ret' n) (hM : Cd X y cc' nL' ret' d' ad (.ref b :: As) mem (some (.ref r9)) mem1) (hdg : decode cc pc = .ok (.invokevirtual index, 3)) (hrec : b < 201 ∧ ∀ f, ∃ fs, CE X ad b f = .inr (ci, fs)) (hcl : vwCl[ci]? = some r) (hrC : r.1 = C) (hlen : As.length = n := by rfl) (hst : st0 = As.reverse ++ .ref b :: st := by rfl) (hd : Nat.ble (d' + 1) d = true := by rfl) (hf : Nat.ble (cells + 0) CR = true ∧ Nat.ble (slots + 0) SR = true := by exact ⟨rfl, rfl⟩) (hcat : Nat.ble (st.map fun v => v.category).sum 8 = true := by rfl) (kk : Jg X own cc nL ret nm d CR SR (Q) ad (cells) (slots) (pc + 3) (lv) (.ref r9 :: st) (WS X ad (mem1))) : Jg X own cc nL ret nm d CR SR (Q) ad (cells) (slots) (pc) (lv) (st0) (WS X ad (mem)) :=
  J_callV hw hM hlen hst hdg b ((WS_get hrec.1).trans (congrArg some (congrArg (Prod.mk _) (hrec.2 (mem b)).choose_spec))) hcl hrC hd hf hcat (fun v' ws' hv => by obtain ⟨mem', rfl, rfl, rfl⟩ := hv; exact kk)
theorem cVn {C : String} {ret' : Option FieldType} {b ci : Nat} {r : vw_C} {index : Nat} {y : MethodName} {cc' : ByteArray} {nL' d' n : Nat} {As : List Value} {st0 : List Value}  {mem1 : Mem} (hw : jWV own index C y cc' nL' ret' n) (hM : Cd X y cc' nL' ret' d' ad (.ref b :: As) mem (some .null) mem1) (hdg : decode cc pc = .ok (.invokevirtual index, 3)) (hrec : b < 201 ∧ ∀ f, ∃ fs, CE X ad b f = .inr (ci, fs)) (hcl : vwCl[ci]? = some r) (hrC : r.1 = C) (hlen : As.length = n := by rfl) (hst : st0 = As.reverse ++ .ref b :: st := by rfl) (hd : Nat.ble (d' + 1) d = true := by rfl) (hf : Nat.ble (cells + 0) CR = true ∧ Nat.ble (slots + 0) SR = true := by exact ⟨rfl, rfl⟩) (hcat : Nat.ble (st.map fun v => v.category).sum 8 = true := by rfl) (kk : Jg X own cc nL ret nm d CR SR (Q) ad (cells) (slots) (pc + 3) (lv) (.null :: st) (WS X ad (mem1))) : Jg X own cc nL ret nm d CR SR (Q) ad (cells) (slots) (pc) (lv) (st0) (WS X ad (mem)) :=
  J_callV hw hM hlen hst hdg b ((WS_get hrec.1).trans (congrArg some (congrArg (Prod.mk _) (hrec.2 (mem b)).choose_spec))) hcl hrC hd hf hcat (fun v' ws' hv => by obtain ⟨mem', rfl, rfl, rfl⟩ := hv; exact kk)
theorem cVv {C : String} {ret' : Option FieldType} {b ci : Nat} {r : vw_C} {index : Nat} {y : MethodName} {cc' : ByteArray} {nL' d' n : Nat} {As : List Value} {st0 : List Value}  {mem1 : Mem} (hw : jWV own index C y cc' nL' ret' n) (hM : Cd X y cc' nL' ret' d' ad (.ref b :: As) mem none mem1) (hdg : decode cc pc = .ok (.invokevirtual index, 3)) (hrec : b < 201 ∧ ∀ f, ∃ fs, CE X ad b f = .inr (ci, fs)) (hcl : vwCl[ci]? = some r) (hrC : r.1 = C) (hlen : As.length = n := by rfl) (hst : st0 = As.reverse ++ .ref b :: st := by rfl) (hd : Nat.ble (d' + 1) d = true := by rfl) (hf : Nat.ble (cells + 0) CR = true ∧ Nat.ble (slots + 0) SR = true := by exact ⟨rfl, rfl⟩) (hcat : Nat.ble (st.map fun v => v.category).sum 8 = true := by rfl) (kk : Jg X own cc nL ret nm d CR SR (Q) ad (cells) (slots) (pc + 3) (lv) (st) (WS X ad (mem1))) : Jg X own cc nL ret nm d CR SR (Q) ad (cells) (slots) (pc) (lv) (st0) (WS X ad (mem)) :=
  J_callV hw hM hlen hst hdg b ((WS_get hrec.1).trans (congrArg some (congrArg (Prod.mk _) (hrec.2 (mem b)).choose_spec))) hcl hrC hd hf hcat (fun v' ws' hv => by obtain ⟨mem', rfl, rfl, rfl⟩ := hv; exact kk)
theorem cSi {ret' : Option FieldType} {index : Nat} {y : MethodName} {cc' : ByteArray} {nL' d' n : Nat} {As : List Value} {st0 : List Value} {r9 : Int32} {mem1 : Mem} (hw : jWS own index y cc' nL' ret' n) (hM : Cd X y cc' nL' ret' d' ad As mem (some (.int r9)) mem1) (hdg : decode cc pc = .ok (.invokestatic index, 3)) (hlen : As.length = n := by rfl) (hst : st0 = As.reverse ++ st := by rfl) (hd : Nat.ble (d' + 1) d = true := by rfl) (hf : Nat.ble (cells + 0) CR = true ∧ Nat.ble (slots + 0) SR = true := by exact ⟨rfl, rfl⟩) (hcat : Nat.ble (st.map fun v => v.category).sum 8 = true := by rfl) (kk : Jg X own cc nL ret nm d CR SR (Q) ad (cells) (slots) (pc + 3) (lv) (.int r9 :: st) (WS X ad (mem1))) : Jg X own cc nL ret nm d CR SR (Q) ad (cells) (slots) (pc) (lv) (st0) (WS X ad (mem)) :=
  J_callS hw hM hlen hst hdg hd hf hcat (fun v' ws' hv => by obtain ⟨mem', rfl, rfl, rfl⟩ := hv; exact kk)
theorem cSr {ret' : Option FieldType} {index : Nat} {y : MethodName} {cc' : ByteArray} {nL' d' n : Nat} {As : List Value} {st0 : List Value} {r9 : Nat} {mem1 : Mem} (hw : jWS own index y cc' nL' ret' n) (hM : Cd X y cc' nL' ret' d' ad As mem (some (.ref r9)) mem1) (hdg : decode cc pc = .ok (.invokestatic index, 3)) (hlen : As.length = n := by rfl) (hst : st0 = As.reverse ++ st := by rfl) (hd : Nat.ble (d' + 1) d = true := by rfl) (hf : Nat.ble (cells + 0) CR = true ∧ Nat.ble (slots + 0) SR = true := by exact ⟨rfl, rfl⟩) (hcat : Nat.ble (st.map fun v => v.category).sum 8 = true := by rfl) (kk : Jg X own cc nL ret nm d CR SR (Q) ad (cells) (slots) (pc + 3) (lv) (.ref r9 :: st) (WS X ad (mem1))) : Jg X own cc nL ret nm d CR SR (Q) ad (cells) (slots) (pc) (lv) (st0) (WS X ad (mem)) :=
  J_callS hw hM hlen hst hdg hd hf hcat (fun v' ws' hv => by obtain ⟨mem', rfl, rfl, rfl⟩ := hv; exact kk)
theorem cSn {ret' : Option FieldType} {index : Nat} {y : MethodName} {cc' : ByteArray} {nL' d' n : Nat} {As : List Value} {st0 : List Value}  {mem1 : Mem} (hw : jWS own index y cc' nL' ret' n) (hM : Cd X y cc' nL' ret' d' ad As mem (some .null) mem1) (hdg : decode cc pc = .ok (.invokestatic index, 3)) (hlen : As.length = n := by rfl) (hst : st0 = As.reverse ++ st := by rfl) (hd : Nat.ble (d' + 1) d = true := by rfl) (hf : Nat.ble (cells + 0) CR = true ∧ Nat.ble (slots + 0) SR = true := by exact ⟨rfl, rfl⟩) (hcat : Nat.ble (st.map fun v => v.category).sum 8 = true := by rfl) (kk : Jg X own cc nL ret nm d CR SR (Q) ad (cells) (slots) (pc + 3) (lv) (.null :: st) (WS X ad (mem1))) : Jg X own cc nL ret nm d CR SR (Q) ad (cells) (slots) (pc) (lv) (st0) (WS X ad (mem)) :=
  J_callS hw hM hlen hst hdg hd hf hcat (fun v' ws' hv => by obtain ⟨mem', rfl, rfl, rfl⟩ := hv; exact kk)
theorem cSv {ret' : Option FieldType} {index : Nat} {y : MethodName} {cc' : ByteArray} {nL' d' n : Nat} {As : List Value} {st0 : List Value}  {mem1 : Mem} (hw : jWS own index y cc' nL' ret' n) (hM : Cd X y cc' nL' ret' d' ad As mem none mem1) (hdg : decode cc pc = .ok (.invokestatic index, 3)) (hlen : As.length = n := by rfl) (hst : st0 = As.reverse ++ st := by rfl) (hd : Nat.ble (d' + 1) d = true := by rfl) (hf : Nat.ble (cells + 0) CR = true ∧ Nat.ble (slots + 0) SR = true := by exact ⟨rfl, rfl⟩) (hcat : Nat.ble (st.map fun v => v.category).sum 8 = true := by rfl) (kk : Jg X own cc nL ret nm d CR SR (Q) ad (cells) (slots) (pc + 3) (lv) (st) (WS X ad (mem1))) : Jg X own cc nL ret nm d CR SR (Q) ad (cells) (slots) (pc) (lv) (st0) (WS X ad (mem)) :=
  J_callS hw hM hlen hst hdg hd hf hcat (fun v' ws' hv => by obtain ⟨mem', rfl, rfl, rfl⟩ := hv; exact kk)
theorem cSNi {ret' : Option FieldType} {index : Nat} {y : MethodName} {cc' : ByteArray} {nL' d' n : Nat} {As : List Value} {st0 : List Value} {r9 : Int32} {mem1 : Mem} (hw : jWSN own index y cc' nL' ret' n) (hM : Cd X y cc' nL' ret' d' ad As mem (some (.int r9)) mem1) (hdg : decode cc pc = .ok (.invokestatic index, 3)) (hlen : As.length = n := by rfl) (hst : st0 = As.reverse ++ st := by rfl) (hd : Nat.ble (d' + 1) d = true := by rfl) (hf : Nat.ble (cells + 0) CR = true ∧ Nat.ble (slots + 0) SR = true := by exact ⟨rfl, rfl⟩) (hcat : Nat.ble (st.map fun v => v.category).sum 8 = true := by rfl) (kk : Jg X own cc nL ret nm d CR SR (Q) ad (cells) (slots) (pc + 3) (lv) (.int r9 :: st) (WS X ad (mem1))) : Jg X own cc nL ret nm d CR SR (Q) ad (cells) (slots) (pc) (lv) (st0) (WS X ad (mem)) :=
  J_callSN hw hM hlen hst hdg hd hf hcat (fun v' ws' hv => by obtain ⟨mem', rfl, rfl, rfl⟩ := hv; exact kk)
theorem cSNr {ret' : Option FieldType} {index : Nat} {y : MethodName} {cc' : ByteArray} {nL' d' n : Nat} {As : List Value} {st0 : List Value} {r9 : Nat} {mem1 : Mem} (hw : jWSN own index y cc' nL' ret' n) (hM : Cd X y cc' nL' ret' d' ad As mem (some (.ref r9)) mem1) (hdg : decode cc pc = .ok (.invokestatic index, 3)) (hlen : As.length = n := by rfl) (hst : st0 = As.reverse ++ st := by rfl) (hd : Nat.ble (d' + 1) d = true := by rfl) (hf : Nat.ble (cells + 0) CR = true ∧ Nat.ble (slots + 0) SR = true := by exact ⟨rfl, rfl⟩) (hcat : Nat.ble (st.map fun v => v.category).sum 8 = true := by rfl) (kk : Jg X own cc nL ret nm d CR SR (Q) ad (cells) (slots) (pc + 3) (lv) (.ref r9 :: st) (WS X ad (mem1))) : Jg X own cc nL ret nm d CR SR (Q) ad (cells) (slots) (pc) (lv) (st0) (WS X ad (mem)) :=
  J_callSN hw hM hlen hst hdg hd hf hcat (fun v' ws' hv => by obtain ⟨mem', rfl, rfl, rfl⟩ := hv; exact kk)
theorem cSNn {ret' : Option FieldType} {index : Nat} {y : MethodName} {cc' : ByteArray} {nL' d' n : Nat} {As : List Value} {st0 : List Value}  {mem1 : Mem} (hw : jWSN own index y cc' nL' ret' n) (hM : Cd X y cc' nL' ret' d' ad As mem (some .null) mem1) (hdg : decode cc pc = .ok (.invokestatic index, 3)) (hlen : As.length = n := by rfl) (hst : st0 = As.reverse ++ st := by rfl) (hd : Nat.ble (d' + 1) d = true := by rfl) (hf : Nat.ble (cells + 0) CR = true ∧ Nat.ble (slots + 0) SR = true := by exact ⟨rfl, rfl⟩) (hcat : Nat.ble (st.map fun v => v.category).sum 8 = true := by rfl) (kk : Jg X own cc nL ret nm d CR SR (Q) ad (cells) (slots) (pc + 3) (lv) (.null :: st) (WS X ad (mem1))) : Jg X own cc nL ret nm d CR SR (Q) ad (cells) (slots) (pc) (lv) (st0) (WS X ad (mem)) :=
  J_callSN hw hM hlen hst hdg hd hf hcat (fun v' ws' hv => by obtain ⟨mem', rfl, rfl, rfl⟩ := hv; exact kk)
theorem cSNv {ret' : Option FieldType} {index : Nat} {y : MethodName} {cc' : ByteArray} {nL' d' n : Nat} {As : List Value} {st0 : List Value}  {mem1 : Mem} (hw : jWSN own index y cc' nL' ret' n) (hM : Cd X y cc' nL' ret' d' ad As mem none mem1) (hdg : decode cc pc = .ok (.invokestatic index, 3)) (hlen : As.length = n := by rfl) (hst : st0 = As.reverse ++ st := by rfl) (hd : Nat.ble (d' + 1) d = true := by rfl) (hf : Nat.ble (cells + 0) CR = true ∧ Nat.ble (slots + 0) SR = true := by exact ⟨rfl, rfl⟩) (hcat : Nat.ble (st.map fun v => v.category).sum 8 = true := by rfl) (kk : Jg X own cc nL ret nm d CR SR (Q) ad (cells) (slots) (pc + 3) (lv) (st) (WS X ad (mem1))) : Jg X own cc nL ret nm d CR SR (Q) ad (cells) (slots) (pc) (lv) (st0) (WS X ad (mem)) :=
  J_callSN hw hM hlen hst hdg hd hf hcat (fun v' ws' hv => by obtain ⟨mem', rfl, rfl, rfl⟩ := hv; exact kk)
theorem cStri {ret' : Option FieldType} {b : Nat} {index : Nat} {y : MethodName} {cc' : ByteArray} {nL' d' n : Nat} {As : List Value} {st0 : List Value} {r9 : Int32} {mem1 : Mem} (hw : jWV own index "java/lang/String" y cc' nL' ret' n) (hM : Cd X y cc' nL' ret' d' ad (.ref b :: As) mem (some (.int r9)) mem1) (hdg : decode cc pc = .ok (.invokevirtual index, 3)) (i : Nat) (hi : i < 7) (ha : ad b = jx X (10 + i)) (hlen : As.length = n := by rfl) (hst : st0 = As.reverse ++ .ref b :: st := by rfl) (hd : Nat.ble (d' + 1) d = true := by rfl) (hf : Nat.ble (cells + 0) CR = true ∧ Nat.ble (slots + 0) SR = true := by exact ⟨rfl, rfl⟩) (hcat : Nat.ble (st.map fun v => v.category).sum 8 = true := by rfl) (kk : Jg X own cc nL ret nm d CR SR (Q) ad (cells) (slots) (pc + 3) (lv) (.int r9 :: st) (WS X ad (mem1))) : Jg X own cc nL ret nm d CR SR (Q) ad (cells) (slots) (pc) (lv) (st0) (WS X ad (mem)) :=
  J_callStr hw hM hlen hst hdg i hi ha hd hf hcat (fun v' ws' hv => by obtain ⟨mem', rfl, rfl, rfl⟩ := hv; exact kk)
theorem cStrr {ret' : Option FieldType} {b : Nat} {index : Nat} {y : MethodName} {cc' : ByteArray} {nL' d' n : Nat} {As : List Value} {st0 : List Value} {r9 : Nat} {mem1 : Mem} (hw : jWV own index "java/lang/String" y cc' nL' ret' n) (hM : Cd X y cc' nL' ret' d' ad (.ref b :: As) mem (some (.ref r9)) mem1) (hdg : decode cc pc = .ok (.invokevirtual index, 3)) (i : Nat) (hi : i < 7) (ha : ad b = jx X (10 + i)) (hlen : As.length = n := by rfl) (hst : st0 = As.reverse ++ .ref b :: st := by rfl) (hd : Nat.ble (d' + 1) d = true := by rfl) (hf : Nat.ble (cells + 0) CR = true ∧ Nat.ble (slots + 0) SR = true := by exact ⟨rfl, rfl⟩) (hcat : Nat.ble (st.map fun v => v.category).sum 8 = true := by rfl) (kk : Jg X own cc nL ret nm d CR SR (Q) ad (cells) (slots) (pc + 3) (lv) (.ref r9 :: st) (WS X ad (mem1))) : Jg X own cc nL ret nm d CR SR (Q) ad (cells) (slots) (pc) (lv) (st0) (WS X ad (mem)) :=
  J_callStr hw hM hlen hst hdg i hi ha hd hf hcat (fun v' ws' hv => by obtain ⟨mem', rfl, rfl, rfl⟩ := hv; exact kk)
theorem cStrn {ret' : Option FieldType} {b : Nat} {index : Nat} {y : MethodName} {cc' : ByteArray} {nL' d' n : Nat} {As : List Value} {st0 : List Value}  {mem1 : Mem} (hw : jWV own index "java/lang/String" y cc' nL' ret' n) (hM : Cd X y cc' nL' ret' d' ad (.ref b :: As) mem (some .null) mem1) (hdg : decode cc pc = .ok (.invokevirtual index, 3)) (i : Nat) (hi : i < 7) (ha : ad b = jx X (10 + i)) (hlen : As.length = n := by rfl) (hst : st0 = As.reverse ++ .ref b :: st := by rfl) (hd : Nat.ble (d' + 1) d = true := by rfl) (hf : Nat.ble (cells + 0) CR = true ∧ Nat.ble (slots + 0) SR = true := by exact ⟨rfl, rfl⟩) (hcat : Nat.ble (st.map fun v => v.category).sum 8 = true := by rfl) (kk : Jg X own cc nL ret nm d CR SR (Q) ad (cells) (slots) (pc + 3) (lv) (.null :: st) (WS X ad (mem1))) : Jg X own cc nL ret nm d CR SR (Q) ad (cells) (slots) (pc) (lv) (st0) (WS X ad (mem)) :=
  J_callStr hw hM hlen hst hdg i hi ha hd hf hcat (fun v' ws' hv => by obtain ⟨mem', rfl, rfl, rfl⟩ := hv; exact kk)
theorem cStrv {ret' : Option FieldType} {b : Nat} {index : Nat} {y : MethodName} {cc' : ByteArray} {nL' d' n : Nat} {As : List Value} {st0 : List Value}  {mem1 : Mem} (hw : jWV own index "java/lang/String" y cc' nL' ret' n) (hM : Cd X y cc' nL' ret' d' ad (.ref b :: As) mem none mem1) (hdg : decode cc pc = .ok (.invokevirtual index, 3)) (i : Nat) (hi : i < 7) (ha : ad b = jx X (10 + i)) (hlen : As.length = n := by rfl) (hst : st0 = As.reverse ++ .ref b :: st := by rfl) (hd : Nat.ble (d' + 1) d = true := by rfl) (hf : Nat.ble (cells + 0) CR = true ∧ Nat.ble (slots + 0) SR = true := by exact ⟨rfl, rfl⟩) (hcat : Nat.ble (st.map fun v => v.category).sum 8 = true := by rfl) (kk : Jg X own cc nL ret nm d CR SR (Q) ad (cells) (slots) (pc + 3) (lv) (st) (WS X ad (mem1))) : Jg X own cc nL ret nm d CR SR (Q) ad (cells) (slots) (pc) (lv) (st0) (WS X ad (mem)) :=
  J_callStr hw hM hlen hst hdg i hi ha hd hf hcat (fun v' ws' hv => by obtain ⟨mem', rfl, rfl, rfl⟩ := hv; exact kk)
end WCALLS
theorem ob0 {X : jX} {ad : Nat → Nat} {b : Nat} (h : isB b) : b < 201 ∧ ∀ f, ∃ fs, CE X ad b f = .inr (0, fs) := ⟨by have := h.lt; omega, fun f => ⟨_, CE_bp h f⟩⟩
theorem ob1 {X : jX} {ad : Nat → Nat} {b i : Nat} (h : isB b) (hi : i < 8) : b + (3 + i) < 201 ∧ ∀ f, ∃ fs, CE X ad (b + (3 + i)) f = .inr (1, fs) := ⟨by have := h.lt; omega, fun f => ⟨_, CE_bd h hi f⟩⟩
theorem ob2 {X : jX} {ad : Nat → Nat} {b : Nat} (h : isB b) : b + 11 < 201 ∧ ∀ f, ∃ fs, CE X ad (b + 11) f = .inr (2, fs) := ⟨by have := h.lt; omega, fun f => ⟨_, CE_block h 11 (by decide) f⟩⟩
theorem ob3 {X : jX} {ad : Nat → Nat} : 188 < 201 ∧ ∀ f, ∃ fs, CE X ad 188 f = .inr (3, fs) := ⟨by decide, fun f => ⟨_, rfl⟩⟩
theorem ob4 {X : jX} {ad : Nat → Nat} : 190 < 201 ∧ ∀ f, ∃ fs, CE X ad 190 f = .inr (4, fs) := ⟨by decide, fun f => ⟨_, rfl⟩⟩
theorem ob5 {X : jX} {ad : Nat → Nat} : 0 < 201 ∧ ∀ f, ∃ fs, CE X ad 0 f = .inr (5, fs) := ⟨by decide, fun f => ⟨_, rfl⟩⟩
theorem ob6 {X : jX} {ad : Nat → Nat} : 195 < 201 ∧ ∀ f, ∃ fs, CE X ad 195 f = .inr (6, fs) := ⟨by decide, fun f => ⟨_, rfl⟩⟩
theorem isB1 : isB 1 := ⟨0, by decide, rfl⟩
theorem isB18 : isB 18 := ⟨1, by decide, rfl⟩
theorem isBh {k : Nat} (h : k < 7) : isB (35 + 17 * k) := ⟨2 + k, by omega, by omega⟩
theorem isBs {k : Nat} (h : k < 2) : isB (154 + 17 * k) := ⟨9 + k, by omega, by omega⟩
theorem i01 {p : Prop} [Decidable p] : (if p then (1 : Int32) else 0) = 0 ∨ (if p then (1 : Int32) else 0) = 1 := by
  by_cases h : p
  · rw [if_pos h]; exact Or.inr rfl
  · rw [if_neg h]; exact Or.inl rfl
end
section
section KRULES
variable {X : jX} {own : String} {cc : ByteArray} {nL : Nat} {ret : Option FieldType} {nm : String} {d CR SR : Nat} {Q : List Frame → Array Value → State → State → Prop} {cells slots pc : Nat} {lv : List (Nat × Value)} {st : List Value} {wsP l : va_W}
theorem pre_get {wsP l : va_W} {k : Nat} {e : Nat × va_E} (h : l[k]? = some e) : (wsP ++ l)[wsP.length + k]? = some e := by
  rw [List.getElem?_append_right (by omega)]
  simpa using h
theorem pre_set {wsP l : va_W} {k : Nat} {e : Nat × va_E} : (wsP ++ l).set (wsP.length + k) e = wsP ++ l.set k e := by
  rw [List.set_append_right _ _ (by omega)]
  simp
theorem K_get {C : String} {T : u_T} {N ci index : Nat} (hc : vwCl[ci]? = some (C, T, N)) (hin : ∀ w ∈ u_ws C T N, w ∈ TW) (k : Nat) (hk : Nat.blt k N = true) (hlink : Cond.fieldLink own index (T k).1 (T k).2.1 (T k).2.2.1 ∈ TW) (hdg : decode cc pc = .ok (.getfield index, 3)) (q0 : Nat) {n : Nat} {fs : List Value} {v : Value} (he : l[q0]? = some (n, .inr (ci, fs))) (hv : fs[k]? = some v) (hem : em (fun n => n) v = v) (kk : Jg X own cc nL ret nm d CR SR (Q) (fun n => n) (cells) (slots) (pc + 3) (lv) (v :: st) (wsP ++ l)) : Jg X own cc nL ret nm d CR SR (Q) (fun n => n) (cells) (slots) (pc) (lv) (.ref n :: st) (wsP ++ l) :=
  J_get hc hin k hk hlink hdg (wsP.length + q0) (pre_get he) (by rw [hem]; exact hv) kk
theorem K_put {C : String} {T : u_T} {N ci index : Nat} (hc : vwCl[ci]? = some (C, T, N)) (hin : ∀ w ∈ u_ws C T N, w ∈ TW) (ty0 : Nat → FieldType) (hty : ∀ k, k < N → parseFieldDescriptor (T k).2.2.1 = some (ty0 k)) (hnm1 : ∀ a, a < N → ∀ b, b < N → a ≠ b → (T a).2.1 ≠ (T b).2.1) (k : Nat) (hk : Nat.blt k N = true) (hlink : Cond.fieldLink own index (T k).1 (T k).2.1 (T k).2.2.1 ∈ TW) (hfin : (T k).2.2.2 = false) {ty : FieldType} {v : Value} (hd : parseFieldDescriptor (T k).2.2.1 = some ty) (hem : em (fun n => n) v = v) (hn : narrow ty v = v) (hfit : fits ty v = true) (hdg : decode cc pc = .ok (.putfield index, 3)) (q0 : Nat) {n : Nat} {fs : List Value} (he : l[q0]? = some (n, .inr (ci, fs))) (hlen : Nat.blt k fs.length = true) (kk : Jg X own cc nL ret nm d CR SR (Q) (fun n => n) (cells) (slots) (pc + 3) (lv) (st) (wsP ++ l.set q0 (n, .inr (ci, fs.set k v)))) : Jg X own cc nL ret nm d CR SR (Q) (fun n => n) (cells) (slots) (pc) (lv) (v :: .ref n :: st) (wsP ++ l) := by
  refine J_put (ty := ty) hc hin ty0 hty hnm1 k hk hlink hfin hd (by rw [hem]; exact hn) (by rw [hem]; exact hfit) hdg (wsP.length + q0) (pre_get he) hlen ?_
  rw [hem, pre_set]
  exact kk
theorem K_putF {C : String} {T : u_T} {N ci index : Nat} (hc : vwCl[ci]? = some (C, T, N)) (hin : ∀ w ∈ u_ws C T N, w ∈ TW) (ty0 : Nat → FieldType) (hty : ∀ k, k < N → parseFieldDescriptor (T k).2.2.1 = some (ty0 k)) (hnm1 : ∀ a, a < N → ∀ b, b < N → a ≠ b → (T a).2.1 ≠ (T b).2.1) (k : Nat) (hk : Nat.blt k N = true) (hlink : Cond.fieldLink own index (T k).1 (T k).2.1 (T k).2.2.1 ∈ TW) (hfin : (T k).2.2.2 = true) (hnm0 : nm = "<init>") (hdecl : (T k).1 = own) {ty : FieldType} {v : Value} (hd : parseFieldDescriptor (T k).2.2.1 = some ty) (hem : em (fun n => n) v = v) (hn : narrow ty v = v) (hfit : fits ty v = true) (hdg : decode cc pc = .ok (.putfield index, 3)) (q0 : Nat) {n : Nat} {fs : List Value} (he : l[q0]? = some (n, .inr (ci, fs))) (hlen : Nat.blt k fs.length = true) (kk : Jg X own cc nL ret nm d CR SR (Q) (fun n => n) (cells) (slots) (pc + 3) (lv) (st) (wsP ++ l.set q0 (n, .inr (ci, fs.set k v)))) : Jg X own cc nL ret nm d CR SR (Q) (fun n => n) (cells) (slots) (pc) (lv) (v :: .ref n :: st) (wsP ++ l) := by
  refine J_putF (ty := ty) hc hin ty0 hty hnm1 k hk hlink hfin hnm0 hdecl hd (by rw [hem]; exact hn) (by rw [hem]; exact hfit) hdg (wsP.length + q0) (pre_get he) hlen ?_
  rw [hem, pre_set]
  exact kk
theorem K_new {C : String} {T : u_T} {N ci index : Nat} (hc : vwCl[ci]? = some (C, T, N)) (hin : ∀ w ∈ u_ws C T N, w ∈ TW) (ty : Nat → FieldType) (hty : ∀ k, k < N → parseFieldDescriptor (T k).2.2.1 = some (ty k)) (hcl : Cond.classLink own index C ∈ TW) (hinst : Cond.instantiable C N ∈ TW) (hini : Cond.initialized C ∈ TW) (fs : List Value) (hfs : ∀ j, j < N → defaultValue (ty j) = vp_V fs j) (hf : Nat.ble (cells + 1) CR = true ∧ Nat.ble (slots + N) SR = true) (hdg : decode cc pc = .ok (.new index, 3)) (kk : ∀ q : Nat, Jg X own cc nL ret nm d CR SR (Q) (fun n => n) (cells + 1) (slots + N) (pc + 3) (lv) (.ref q :: st) ((wsP ++ l) ++ [(q, .inr (ci, fs))])) : Jg X own cc nL ret nm d CR SR (Q) (fun n => n) (cells) (slots) (pc) (lv) (st) (wsP ++ l) :=
  J_new hc hin ty hty hcl hinst hini hfs ⟨Nat.le_of_ble_eq_true hf.1, Nat.le_of_ble_eq_true hf.2⟩ hdg kk
theorem K_newi {n : Int32} (N : Nat) (hn : ¬ n < 0) (hN : n.toNatClampNeg = N) (hbytes : Nat.ble (N * 4) 536870912 = true) (hf : Nat.ble (cells + 1) CR = true ∧ Nat.ble (slots + N) SR = true) (hdg : decode cc pc = .ok (.newarray .int, 2)) (kk : ∀ q : Nat, Jg X own cc nL ret nm d CR SR (Q) (fun n => n) (cells + 1) (slots + N) (pc + 2) (lv) (.ref q :: st) (wsP ++ (l ++ [(q, .inl (jcA X 0, N, .inl (fun _ => 0)))]))) : Jg X own cc nL ret nm d CR SR (Q) (fun n => n) (cells) (slots) (pc) (lv) (.int n :: st) (wsP ++ l) :=
  J_newi wa_int hn hN (Nat.le_of_ble_eq_true hbytes) ⟨Nat.le_of_ble_eq_true hf.1, Nat.le_of_ble_eq_true hf.2⟩ hdg (fun q => J_ws (List.append_assoc wsP l _) (kk q))
theorem K_newz {n : Int32} (N : Nat) (hn : ¬ n < 0) (hN : n.toNatClampNeg = N) (hbytes : Nat.ble (N * 1) 536870912 = true) (hf : Nat.ble (cells + 1) CR = true ∧ Nat.ble (slots + N) SR = true) (hdg : decode cc pc = .ok (.newarray .boolean, 2)) (kk : ∀ q : Nat, Jg X own cc nL ret nm d CR SR (Q) (fun n => n) (cells + 1) (slots + N) (pc + 2) (lv) (.ref q :: st) (wsP ++ (l ++ [(q, .inl (jcA X 1, N, .inl (fun _ => 0)))]))) : Jg X own cc nL ret nm d CR SR (Q) (fun n => n) (cells) (slots) (pc) (lv) (.int n :: st) (wsP ++ l) :=
  J_newz wa_boolean hn hN (Nat.le_of_ble_eq_true hbytes) ⟨Nat.le_of_ble_eq_true hf.1, Nat.le_of_ble_eq_true hf.2⟩ hdg (fun q => J_ws (List.append_assoc wsP l _) (kk q))
theorem K_newq2 {index : Nat} {n : Int32} (N : Nat) (hcl : Cond.classLink own index RX1 ∈ TW) (hn : ¬ n < 0) (hN : n.toNatClampNeg = N) (hbytes : Nat.ble (N * 4) 536870912 = true) (hf : Nat.ble (cells + 1) CR = true ∧ Nat.ble (slots + N) SR = true) (hdg : decode cc pc = .ok (.anewarray index, 3)) (kk : ∀ q : Nat, Jg X own cc nL ret nm d CR SR (Q) (fun n => n) (cells + 1) (slots + N) (pc + 3) (lv) (.ref q :: st) (wsP ++ (l ++ [(q, .inl (jcA X 2, N, .inr (.inr (.inr (.inr (fun _ => none))))))]))) : Jg X own cc nL ret nm d CR SR (Q) (fun n => n) (cells) (slots) (pc) (lv) (.int n :: st) (wsP ++ l) :=
  J_newq2 hcl hn hN (Nat.le_of_ble_eq_true hbytes) ⟨Nat.le_of_ble_eq_true hf.1, Nat.le_of_ble_eq_true hf.2⟩ hdg (fun q => J_ws (List.append_assoc wsP l _) (kk q))
theorem K_aast2 {len : Nat} {f : Nat → Option Nat} {n v : Nat} {vs : List Value} {i : Int32} (k : Nat) (hk : i.toNatClampNeg = k) (hdg : decode cc pc = .ok (.aastore, 1)) (q0 qk : Nat) (he : l[q0]? = some (n, .inl (jcA X 2, len, .inr (.inr (.inr (.inr f)))))) (hv : l[qk]? = some (v, .inr (1, vs))) (hi : vp_in i len) (kk : Jg X own cc nL ret nm d CR SR (Q) (fun n => n) (cells) (slots) (pc + 1) (lv) (st) (wsP ++ l.set q0 (n, .inl (jcA X 2, len, .inr (.inr (.inr (.inr (va_up f k (some v))))))))) : Jg X own cc nL ret nm d CR SR (Q) (fun n => n) (cells) (slots) (pc) (lv) (.ref v :: .int i :: .ref n :: st) (wsP ++ l) := by
  subst hk
  refine J_aast2 hdg (wsP.length + q0) (wsP.length + qk) (pre_get he) (pre_get hv) hi ?_
  exact J_ws pre_set kk
theorem K_newq3 {index : Nat} {n : Int32} (N : Nat) (hcl : Cond.classLink own index RX0 ∈ TW) (hn : ¬ n < 0) (hN : n.toNatClampNeg = N) (hbytes : Nat.ble (N * 4) 536870912 = true) (hf : Nat.ble (cells + 1) CR = true ∧ Nat.ble (slots + N) SR = true) (hdg : decode cc pc = .ok (.anewarray index, 3)) (kk : ∀ q : Nat, Jg X own cc nL ret nm d CR SR (Q) (fun n => n) (cells + 1) (slots + N) (pc + 3) (lv) (.ref q :: st) (wsP ++ (l ++ [(q, .inl (jcA X 3, N, .inr (.inr (.inr (.inr (fun _ => none))))))]))) : Jg X own cc nL ret nm d CR SR (Q) (fun n => n) (cells) (slots) (pc) (lv) (.int n :: st) (wsP ++ l) :=
  J_newq3 hcl hn hN (Nat.le_of_ble_eq_true hbytes) ⟨Nat.le_of_ble_eq_true hf.1, Nat.le_of_ble_eq_true hf.2⟩ hdg (fun q => J_ws (List.append_assoc wsP l _) (kk q))
theorem K_aast3 {len : Nat} {f : Nat → Option Nat} {n v : Nat} {vs : List Value} {i : Int32} (k : Nat) (hk : i.toNatClampNeg = k) (hdg : decode cc pc = .ok (.aastore, 1)) (q0 qk : Nat) (he : l[q0]? = some (n, .inl (jcA X 3, len, .inr (.inr (.inr (.inr f)))))) (hv : l[qk]? = some (v, .inr (0, vs))) (hi : vp_in i len) (kk : Jg X own cc nL ret nm d CR SR (Q) (fun n => n) (cells) (slots) (pc + 1) (lv) (st) (wsP ++ l.set q0 (n, .inl (jcA X 3, len, .inr (.inr (.inr (.inr (va_up f k (some v))))))))) : Jg X own cc nL ret nm d CR SR (Q) (fun n => n) (cells) (slots) (pc) (lv) (.ref v :: .int i :: .ref n :: st) (wsP ++ l) := by
  subst hk
  refine J_aast3 hdg (wsP.length + q0) (wsP.length + qk) (pre_get he) (pre_get hv) hi ?_
  exact J_ws pre_set kk
theorem K_iast {len : Nat} {f : Nat → Int32} {n : Nat} {i x : Int32} (k : Nat) (hk : i.toNatClampNeg = k) (hdg : decode cc pc = .ok (.iastore, 1)) (q0 : Nat) (he : l[q0]? = some (n, .inl (jcA X 0, len, .inl f))) (hi : vp_in i len) (kk : Jg X own cc nL ret nm d CR SR (Q) (fun n => n) (cells) (slots) (pc + 1) (lv) (st) (wsP ++ l.set q0 (n, .inl (jcA X 0, len, .inl (upd f k x))))) : Jg X own cc nL ret nm d CR SR (Q) (fun n => n) (cells) (slots) (pc) (lv) (.int x :: .int i :: .ref n :: st) (wsP ++ l) := by
  subst hk
  refine J_iast hdg (wsP.length + q0) (pre_get he) hi ?_
  exact J_ws pre_set kk
theorem K_clone {index : Nat} {n : Nat} (ha : n = jx X 0) (hlink : Cond.methodLink own index ⟨"[I", "clone", "()Ljava/lang/Object;"⟩ ∈ TW) (hdg : decode cc pc = .ok (.invokevirtual index, 3)) (hd : Nat.ble 1 d = true) (hf : Nat.ble (cells + 1) CR = true ∧ Nat.ble (slots + 5) SR = true) (hcat : Nat.ble (st.map fun v => v.category).sum 8 = true) (kk : ∀ q : Nat, Jg X own cc nL ret nm d CR SR (Q) (fun n => n) (cells + 1) (slots + 5) (pc + 3) (lv) (.ref q :: st) (wsP ++ (l ++ [(q, .inl (jcA X 0, 5, .inl (fun j => [1, 20, 3, 2, 120].getD j 0)))]))) : Jg X own cc nL ret nm d CR SR (Q) (fun n => n) (cells) (slots) (pc) (lv) (.ref n :: st) (wsP ++ l) :=
  J_clone ha hlink wk_same wk_nat wk_inst wk_sel hdg (Nat.le_of_ble_eq_true hd) ⟨Nat.le_of_ble_eq_true hf.1, Nat.le_of_ble_eq_true hf.2⟩ (Nat.le_of_ble_eq_true hcat) (fun q => J_ws (List.append_assoc wsP l _) (kk q))
theorem K_castI {index n : Nat} {x : vp_A} (hlink : Cond.classLink own index "[I" ∈ TW) (q0 : Nat) (he : l[q0]? = some (n, .inl (jcA X 0, x))) (hdg : decode cc pc = .ok (.checkcast index, 3)) (kk : Jg X own cc nL ret nm d CR SR (Q) (fun n => n) (cells) (slots) (pc + 3) (lv) (.ref n :: st) (wsP ++ l)) : Jg X own cc nL ret nm d CR SR (Q) (fun n => n) (cells) (slots) (pc) (lv) (.ref n :: st) (wsP ++ l) :=
  J_castI hlink (wsP.length + q0) (pre_get he) hdg kk
theorem K_obj {idx n : Nat} {ws : va_W} (hl1 : Cond.methodLink own idx Lib.objectInit ∈ TW) (hdg : decode cc pc = .ok (.invokespecial idx, 3)) (hd : Nat.ble 1 d = true) (hcat : Nat.ble (st.map fun v => v.category).sum 8 = true) (kk : Jg X own cc nL ret nm d CR SR (Q) (fun n => n) (cells) (slots) (pc + 3) (lv) (st) (ws)) : Jg X own cc nL ret nm d CR SR (Q) (fun n => n) (cells) (slots) (pc) (lv) (.ref n :: st) (ws) :=
  J_objInit hl1 wk_obi wk_obc hdg (Nat.le_of_ble_eq_true hd) (Nat.le_of_ble_eq_true hcat) kk
theorem K_call {index : Nat} {y : MethodName} {cc' : ByteArray} {nL' d' mc ms b : Nat} {e0 : va_E} {R : va_W → Prop} (hw : jWI own index y cc' nL' 0) (hM : Ct X y cc' nL' none d' mc ms (fun n => n) [.ref b] ((wsP ++ l) ++ [(b, e0)]) (fun v ws' => v = none ∧ ∃ l', ws' = (wsP ++ l) ++ l' ∧ R l')) (hdg : decode cc pc = .ok (.invokespecial index, 3)) (hd : Nat.ble (d' + 1) d = true) (hf : Nat.ble (cells + mc) CR = true ∧ Nat.ble (slots + ms) SR = true) (hcat : Nat.ble (st.map fun v => v.category).sum 8 = true) (kk : ∀ l' : va_W, R l' → Jg X own cc nL ret nm d CR SR (Q) (fun n => n) (cells + mc) (slots + ms) (pc + 3) (lv) (st) (wsP ++ (l ++ l'))) : Jg X own cc nL ret nm d CR SR (Q) (fun n => n) (cells) (slots) (pc) (lv) (.ref b :: st) ((wsP ++ l) ++ [(b, e0)]) :=
  J_callI (As := []) hw hM rfl rfl hdg hd hf hcat (fun v ws' hv => by
    obtain ⟨rfl, l', rfl, hR⟩ := hv
    exact J_ws (List.append_assoc wsP l l') (kk l' hR))
theorem K_callN {index : Nat} {y : MethodName} {cc' : ByteArray} {nL' d' mc ms b : Nat} {e0 : va_E} {R : va_W → Prop} (hw : jWIN own index y cc' nL' 0) (hM : Ct X y cc' nL' none d' mc ms (fun n => n) [.ref b] ((wsP ++ l) ++ [(b, e0)]) (fun v ws' => v = none ∧ ∃ l', ws' = (wsP ++ l) ++ l' ∧ R l')) (hdg : decode cc pc = .ok (.invokespecial index, 3)) (hd : Nat.ble (d' + 1) d = true) (hf : Nat.ble (cells + mc) CR = true ∧ Nat.ble (slots + ms) SR = true) (hcat : Nat.ble (st.map fun v => v.category).sum 8 = true) (kk : ∀ l' : va_W, R l' → Jg X own cc nL ret nm d CR SR (Q) (fun n => n) (cells + mc) (slots + ms) (pc + 3) (lv) (st) (wsP ++ (l ++ l'))) : Jg X own cc nL ret nm d CR SR (Q) (fun n => n) (cells) (slots) (pc) (lv) (.ref b :: st) ((wsP ++ l) ++ [(b, e0)]) :=
  J_callIN (As := []) hw hM rfl rfl hdg hd hf hcat (fun v ws' hv => by
    obtain ⟨rfl, l', rfl, hR⟩ := hv
    exact J_ws (List.append_assoc wsP l l') (kk l' hR))
end KRULES
def busW (X : jX) (h0 a1 a2 a3 a4 a5 : Nat) : va_W := [(h0, .inr (2, [.ref a1, .ref a2, .ref a3, .ref a4, .int 0, .ref a5, .int 0, .int (-6), .int 0, .int 0, .int 0, .int 0])), (a1, .inl (jcA X 0, 200, .inl (fun _ => 0))), (a2, .inl (jcA X 0, 200, .inl (fun _ => 0))), (a3, .inl (jcA X 0, 200, .inl (fun _ => 0))), (a4, .inl (jcA X 0, 200, .inl (fun _ => 0))), (a5, .inl (jcA X 0, 10, .inl (fun _ => 0)))]
def bpW (X : jX) (a : Nat → Nat) : va_W := [(a 0, .inr (0, [.ref (a 1), .ref (a 2), .ref (a 11), .int 0, .int 0, .int 0])), (a 1, .inl (jcA X 0, 5, .inl (fun j => [1, 20, 3, 2, 120].getD j 0))), (a 2, .inl (jcA X 2, 8, .inr (.inr (.inr (.inr (fun j => [some (a 3), some (a 4), some (a 5), some (a 6), some (a 7), some (a 8), some (a 9), some (a 10)].getD j none)))))), (a 3, .inr (1, [.int 0, .int 0, .int 0, .int 0, .int 0, .int 0, .int 0, .int 0, .int 0, .int 0])), (a 4, .inr (1, [.int 0, .int 0, .int 0, .int 0, .int 0, .int 0, .int 0, .int 0, .int 0, .int 0])), (a 5, .inr (1, [.int 0, .int 0, .int 0, .int 0, .int 0, .int 0, .int 0, .int 0, .int 0, .int 0])), (a 6, .inr (1, [.int 0, .int 0, .int 0, .int 0, .int 0, .int 0, .int 0, .int 0, .int 0, .int 0])), (a 7, .inr (1, [.int 0, .int 0, .int 0, .int 0, .int 0, .int 0, .int 0, .int 0, .int 0, .int 0])), (a 8, .inr (1, [.int 0, .int 0, .int 0, .int 0, .int 0, .int 0, .int 0, .int 0, .int 0, .int 0])), (a 9, .inr (1, [.int 0, .int 0, .int 0, .int 0, .int 0, .int 0, .int 0, .int 0, .int 0, .int 0])), (a 10, .inr (1, [.int 0, .int 0, .int 0, .int 0, .int 0, .int 0, .int 0, .int 0, .int 0, .int 0]))] ++ busW X (a 11) (a 12) (a 13) (a 14) (a 15) (a 16)
def padW (X : jX) (h0 a1 a2 : Nat) : va_W := [(h0, .inr (4, [.ref a1, .int 0, .int 0, .int 0, .ref a2])), (a1, .inl (jcA X 0, 80, .inl (fun _ => 0))), (a2, .inl (jcA X 0, 3, .inl (fun _ => 0)))]
def hisW (X : jX) (h0 q : Nat) (A : Nat → Nat → Nat) : va_W := [(h0, .inr (3, [.ref q, .int 0, .int 0])), (q, .inl (jcA X 3, 7, .inr (.inr (.inr (.inr (fun j => [some (A 0 0), some (A 1 0), some (A 2 0), some (A 3 0), some (A 4 0), some (A 5 0), some (A 6 0)].getD j none))))))] ++ (bpW X (A 0) ++ (bpW X (A 1) ++ (bpW X (A 2) ++ (bpW X (A 3) ++ (bpW X (A 4) ++ (bpW X (A 5) ++ bpW X (A 6)))))))
def s0 : Nat → Int32 := fun j => if j = 295 then -6 else [1, 20, 3, 2, 120].getD j 0
def modW (X : jX) (h0 a1 a2 a3 a4 a5 : Nat) : va_W := [(h0, .inr (6, [.ref a1, .ref a2, .ref a3, .int 0, .ref a4, .int 0, .ref a5, .int 0, .int 0, .int 0, .int 0, .int 0, .int 0, .int 0])), (a1, .inl (jcA X 0, 302, .inl s0)), (a2, .inl (jcA X 0, 302, .inl (fun _ => 0))), (a3, .inl (jcA X 0, 1812, .inl (fun _ => 0))), (a4, .inl (jcA X 0, 604, .inl (fun _ => 0))), (a5, .inl (jcA X 0, 80, .inl (fun _ => 0)))]
theorem defs0 : ∀ j, j < 6 → defaultValue (tyX0 j) = vp_V [.null, .null, .null, .int 0, .int 0, .int 0] j := by decide +kernel
theorem defs1 : ∀ j, j < 10 → defaultValue (tyX1 j) = vp_V [.int 0, .int 0, .int 0, .int 0, .int 0, .int 0, .int 0, .int 0, .int 0, .int 0] j := by decide +kernel
theorem defs2 : ∀ j, j < 12 → defaultValue (tyX2 j) = vp_V [.null, .null, .null, .null, .int 0, .null, .int 0, .int 0, .int 0, .int 0, .int 0, .int 0] j := by decide +kernel
theorem defs3 : ∀ j, j < 3 → defaultValue (tyX3 j) = vp_V [.null, .int 0, .int 0] j := by decide +kernel
theorem defs4 : ∀ j, j < 5 → defaultValue (tyX4 j) = vp_V [.null, .int 0, .int 0, .int 0, .null] j := by decide +kernel
theorem defs5 : ∀ j, j < 6 → defaultValue (tyX5 j) = vp_V [.null, .null, .null, .null, .null, .null] j := by decide +kernel
theorem defs6 : ∀ j, j < 14 → defaultValue (tyX6 j) = vp_V [.null, .null, .null, .int 0, .null, .int 0, .null, .int 0, .int 0, .int 0, .int 0, .int 0, .int 0, .int 0] j := by decide +kernel
theorem blt_in {i : Int32} {k n : Nat} (h0 : ¬ i < 0) (hk : i.toNatClampNeg = k) (h : Nat.blt k n = true) : vp_in i n := by
  rintro (h1 | h1)
  · exact h0 h1
  · rw [hk] at h1
    have := Nat.le_of_ble_eq_true h
    omega
set_option maxRecDepth 100000 in
set_option maxHeartbeats 4000000 in
theorem c_X1_init {X : jX} (wsP : va_W) (h0 : Nat) : Ct X yX1_init cX1_init 1 none 1 0 0 (fun n => n) [.ref h0] (wsP ++ [(h0, .inr (1, [.int 0, .int 0, .int 0, .int 0, .int 0, .int 0, .int 0, .int 0, .int 0, .int 0]))]) (fun v ws' => v = none ∧ ∃ l', ws' = wsP ++ l' ∧ l' = [(h0, .inr (1, [.int 0, .int 0, .int 0, .int 0, .int 0, .int 0, .int 0, .int 0, .int 0, .int 0]))]) := by
  refine Ct.of (own := RX1) (nm := "<init>") (by decide +kernel) rfl rfl rfl rfl ?_
  refine J_aload_n dX1_init_0 rfl rfl ?_
  refine K_obj wm_X1_3 dX1_init_1 rfl rfl ?_
  refine J_return dX1_init_4 rfl rfl ?_
  exact ⟨rfl, [(h0, .inr (1, [.int 0, .int 0, .int 0, .int 0, .int 0, .int 0, .int 0, .int 0, .int 0, .int 0]))], rfl, rfl⟩
set_option maxRecDepth 100000 in
set_option maxHeartbeats 4000000 in
theorem c_X2_init {X : jX} (wsP : va_W) (h0 : Nat) : Ct X yX2_init cX2_init 1 none 1 5 810 (fun n => n) [.ref h0] (wsP ++ [(h0, .inr (2, [.null, .null, .null, .null, .int 0, .null, .int 0, .int 0, .int 0, .int 0, .int 0, .int 0]))]) (fun v ws' => v = none ∧ ∃ l', ws' = wsP ++ l' ∧ ∃ a1 a2 a3 a4 a5, l' = busW X h0 a1 a2 a3 a4 a5) := by
  refine Ct.of (own := RX2) (nm := "<init>") (by decide +kernel) rfl rfl rfl rfl ?_
  refine J_aload_n dX2_init_0 rfl rfl ?_
  refine K_obj wm_X2_3 dX2_init_1 rfl rfl ?_
  refine J_aload_n dX2_init_4 rfl rfl ?_
  refine J_sipush (v := 200) dX2_init_5 (by decide) ?_
  refine K_newi 200 (by decide) (by decide) rfl ⟨rfl, rfl⟩ dX2_init_8 (fun a1 => ?_)
  refine K_putF (T := TX2) (ci := 2) (N := 12) (ty := tyX2 0) rfl inTX2 tyX2 tyX2_ok nmX2 0 rfl wf_X2_9 rfl rfl rfl (by decide +kernel) rfl rfl rfl dX2_init_10 0 rfl rfl ?_
  refine J_aload_n dX2_init_13 rfl rfl ?_
  refine J_sipush (v := 200) dX2_init_14 (by decide) ?_
  refine K_newi 200 (by decide) (by decide) rfl ⟨rfl, rfl⟩ dX2_init_17 (fun a2 => ?_)
  refine K_putF (T := TX2) (ci := 2) (N := 12) (ty := tyX2 1) rfl inTX2 tyX2 tyX2_ok nmX2 1 rfl wf_X2_15 rfl rfl rfl (by decide +kernel) rfl rfl rfl dX2_init_19 0 rfl rfl ?_
  refine J_aload_n dX2_init_22 rfl rfl ?_
  refine J_sipush (v := 200) dX2_init_23 (by decide) ?_
  refine K_newi 200 (by decide) (by decide) rfl ⟨rfl, rfl⟩ dX2_init_26 (fun a3 => ?_)
  refine K_putF (T := TX2) (ci := 2) (N := 12) (ty := tyX2 2) rfl inTX2 tyX2 tyX2_ok nmX2 2 rfl wf_X2_18 rfl rfl rfl (by decide +kernel) rfl rfl rfl dX2_init_28 0 rfl rfl ?_
  refine J_aload_n dX2_init_31 rfl rfl ?_
  refine J_sipush (v := 200) dX2_init_32 (by decide) ?_
  refine K_newi 200 (by decide) (by decide) rfl ⟨rfl, rfl⟩ dX2_init_35 (fun a4 => ?_)
  refine K_putF (T := TX2) (ci := 2) (N := 12) (ty := tyX2 3) rfl inTX2 tyX2 tyX2_ok nmX2 3 rfl wf_X2_21 rfl rfl rfl (by decide +kernel) rfl rfl rfl dX2_init_37 0 rfl rfl ?_
  refine J_aload_n dX2_init_40 rfl rfl ?_
  refine J_bipush (v := 10) dX2_init_41 (by decide) ?_
  refine K_newi 10 (by decide) (by decide) rfl ⟨rfl, rfl⟩ dX2_init_43 (fun a5 => ?_)
  refine K_putF (T := TX2) (ci := 2) (N := 12) (ty := tyX2 5) rfl inTX2 tyX2 tyX2_ok nmX2 5 rfl wf_X2_24 rfl rfl rfl (by decide +kernel) rfl rfl rfl dX2_init_45 0 rfl rfl ?_
  refine J_aload_n dX2_init_48 rfl rfl ?_
  refine J_bipush (v := -6) dX2_init_49 (by decide) ?_
  refine K_put (T := TX2) (ci := 2) (N := 12) (ty := tyX2 7) rfl inTX2 tyX2 tyX2_ok nmX2 7 rfl wf_X2_27 rfl (by decide +kernel) rfl rfl rfl dX2_init_51 0 rfl rfl ?_
  refine J_return dX2_init_54 rfl rfl ?_
  exact ⟨rfl, _, rfl, a1, a2, a3, a4, a5, rfl⟩
set_option maxRecDepth 100000 in
set_option maxHeartbeats 4000000 in
theorem c_X0_init {X : jX} (wsP : va_W) (h0 : Nat) : Ct X yX0_init cX0_init 2 none 2 16 915 (fun n => n) [.ref h0] (wsP ++ [(h0, .inr (0, [.null, .null, .null, .int 0, .int 0, .int 0]))]) (fun v ws' => v = none ∧ ∃ l', ws' = wsP ++ l' ∧ ∃ a : Nat → Nat, a 0 = h0 ∧ l' = bpW X a) := by
  refine Ct.of (own := RX0) (nm := "<init>") (by decide +kernel) rfl rfl rfl rfl ?_
  refine J_aload_n dX0_init_0 rfl rfl ?_
  refine K_obj wm_X0_3 dX0_init_1 rfl rfl ?_
  refine J_aload_n dX0_init_4 rfl rfl ?_
  refine J_getsN (n := jx X 0) (nme := "FIRST_SETTINGS") 0 rfl wn_X0_9 dX0_init_5 ?_
  refine K_clone rfl wm_X0_13 dX0_init_8 rfl ⟨rfl, rfl⟩ rfl (fun q1 => ?_)
  refine K_castI wc_X0_14 1 rfl dX0_init_11 ?_
  refine K_putF (T := TX0) (ci := 0) (N := 6) (ty := tyX0 0) rfl inTX0 tyX0 tyX0_ok nmX0 0 rfl wf_X0_18 rfl rfl rfl (by decide +kernel) rfl rfl rfl dX0_init_14 0 rfl rfl ?_
  refine J_aload_n dX0_init_17 rfl rfl ?_
  refine J_bipush (v := 8) dX0_init_18 (by decide) ?_
  refine K_newq2 8 wc_X0_23 (by decide) (by decide) rfl ⟨rfl, rfl⟩ dX0_init_20 (fun q2 => ?_)
  refine K_putF (T := TX0) (ci := 0) (N := 6) (ty := tyX0 1) rfl inTX0 tyX0 tyX0_ok nmX0 1 rfl wf_X0_25 rfl rfl rfl (by decide +kernel) rfl rfl rfl dX0_init_23 0 rfl rfl ?_
  refine J_iconst (v := 0) dX0_init_26 (by decide) ?_
  refine J_istore_n dX0_init_27 rfl rfl rfl ?_
  refine J_ws (ws' := wsP ++ [(h0, .inr (0, [.ref q1, .ref q2, .null, .int 0, .int 0, .int 0])), (q1, .inl (jcA X 0, 5, .inl (fun j => [1, 20, 3, 2, 120].getD j 0))), (q2, .inl (jcA X 2, 8, .inr (.inr (.inr (.inr (fun _ => none))))))]) rfl ?_
  refine J_iload_n dX0_init_28 rfl rfl ?_
  refine J_bipush (v := 8) dX0_init_29 (by decide) ?_
  refine J_icmp_ge (tgt := 53) dX0_init_31 (by decide) (fun h => absurd h (by decide)) (fun _ => ?_)
  refine J_aload_n dX0_init_34 rfl rfl ?_
  refine K_get (T := TX0) (ci := 0) (N := 6) rfl inTX0 1 rfl wf_X0_25 dX0_init_35 0 rfl rfl rfl ?_
  refine J_iload_n dX0_init_38 rfl rfl ?_
  refine K_new (T := TX1) (ci := 1) (N := 10) rfl inTX1 tyX1 tyX1_ok wc_X0_23 wi_X1 wt_X1 [.int 0, .int 0, .int 0, .int 0, .int 0, .int 0, .int 0, .int 0, .int 0, .int 0] defs1 ⟨rfl, rfl⟩ dX0_init_39 (fun b0 => ?_)
  refine J_dup dX0_init_42 rfl ?_
  refine K_callN wj_X0_29 (c_X1_init _ b0) dX0_init_43 rfl ⟨rfl, rfl⟩ rfl (fun l0 hl0 => ?_)
  subst hl0
  refine K_aast2 0 (by decide) dX0_init_46 2 3 rfl rfl (blt_in (k := 0) (by decide) (by decide) rfl) ?_
  refine J_iinc (v := 1) dX0_init_47 rfl (by decide) rfl rfl ?_
  refine J_goto (tgt := 28) dX0_init_50 (by decide) ?_
  refine J_ws (ws' := wsP ++ [(h0, .inr (0, [.ref q1, .ref q2, .null, .int 0, .int 0, .int 0])), (q1, .inl (jcA X 0, 5, .inl (fun j => [1, 20, 3, 2, 120].getD j 0))), (q2, .inl (jcA X 2, 8, .inr (.inr (.inr (.inr (va_up (fun _ => none) 0 (some b0))))))), (b0, .inr (1, [.int 0, .int 0, .int 0, .int 0, .int 0, .int 0, .int 0, .int 0, .int 0, .int 0]))]) rfl ?_
  refine J_iload_n dX0_init_28 rfl rfl ?_
  refine J_bipush (v := 8) dX0_init_29 (by decide) ?_
  refine J_icmp_ge (tgt := 53) dX0_init_31 (by decide) (fun h => absurd h (by decide)) (fun _ => ?_)
  refine J_aload_n dX0_init_34 rfl rfl ?_
  refine K_get (T := TX0) (ci := 0) (N := 6) rfl inTX0 1 rfl wf_X0_25 dX0_init_35 0 rfl rfl rfl ?_
  refine J_iload_n dX0_init_38 rfl rfl ?_
  refine K_new (T := TX1) (ci := 1) (N := 10) rfl inTX1 tyX1 tyX1_ok wc_X0_23 wi_X1 wt_X1 [.int 0, .int 0, .int 0, .int 0, .int 0, .int 0, .int 0, .int 0, .int 0, .int 0] defs1 ⟨rfl, rfl⟩ dX0_init_39 (fun b1 => ?_)
  refine J_dup dX0_init_42 rfl ?_
  refine K_callN wj_X0_29 (c_X1_init _ b1) dX0_init_43 rfl ⟨rfl, rfl⟩ rfl (fun l1 hl1 => ?_)
  subst hl1
  refine K_aast2 1 (by decide) dX0_init_46 2 4 rfl rfl (blt_in (k := 1) (by decide) (by decide) rfl) ?_
  refine J_iinc (v := 2) dX0_init_47 rfl (by decide) rfl rfl ?_
  refine J_goto (tgt := 28) dX0_init_50 (by decide) ?_
  refine J_ws (ws' := wsP ++ [(h0, .inr (0, [.ref q1, .ref q2, .null, .int 0, .int 0, .int 0])), (q1, .inl (jcA X 0, 5, .inl (fun j => [1, 20, 3, 2, 120].getD j 0))), (q2, .inl (jcA X 2, 8, .inr (.inr (.inr (.inr (va_up (va_up (fun _ => none) 0 (some b0)) 1 (some b1))))))), (b0, .inr (1, [.int 0, .int 0, .int 0, .int 0, .int 0, .int 0, .int 0, .int 0, .int 0, .int 0])), (b1, .inr (1, [.int 0, .int 0, .int 0, .int 0, .int 0, .int 0, .int 0, .int 0, .int 0, .int 0]))]) rfl ?_
  refine J_iload_n dX0_init_28 rfl rfl ?_
  refine J_bipush (v := 8) dX0_init_29 (by decide) ?_
  refine J_icmp_ge (tgt := 53) dX0_init_31 (by decide) (fun h => absurd h (by decide)) (fun _ => ?_)
  refine J_aload_n dX0_init_34 rfl rfl ?_
  refine K_get (T := TX0) (ci := 0) (N := 6) rfl inTX0 1 rfl wf_X0_25 dX0_init_35 0 rfl rfl rfl ?_
  refine J_iload_n dX0_init_38 rfl rfl ?_
  refine K_new (T := TX1) (ci := 1) (N := 10) rfl inTX1 tyX1 tyX1_ok wc_X0_23 wi_X1 wt_X1 [.int 0, .int 0, .int 0, .int 0, .int 0, .int 0, .int 0, .int 0, .int 0, .int 0] defs1 ⟨rfl, rfl⟩ dX0_init_39 (fun b2 => ?_)
  refine J_dup dX0_init_42 rfl ?_
  refine K_callN wj_X0_29 (c_X1_init _ b2) dX0_init_43 rfl ⟨rfl, rfl⟩ rfl (fun l2 hl2 => ?_)
  subst hl2
  refine K_aast2 2 (by decide) dX0_init_46 2 5 rfl rfl (blt_in (k := 2) (by decide) (by decide) rfl) ?_
  refine J_iinc (v := 3) dX0_init_47 rfl (by decide) rfl rfl ?_
  refine J_goto (tgt := 28) dX0_init_50 (by decide) ?_
  refine J_ws (ws' := wsP ++ [(h0, .inr (0, [.ref q1, .ref q2, .null, .int 0, .int 0, .int 0])), (q1, .inl (jcA X 0, 5, .inl (fun j => [1, 20, 3, 2, 120].getD j 0))), (q2, .inl (jcA X 2, 8, .inr (.inr (.inr (.inr (va_up (va_up (va_up (fun _ => none) 0 (some b0)) 1 (some b1)) 2 (some b2))))))), (b0, .inr (1, [.int 0, .int 0, .int 0, .int 0, .int 0, .int 0, .int 0, .int 0, .int 0, .int 0])), (b1, .inr (1, [.int 0, .int 0, .int 0, .int 0, .int 0, .int 0, .int 0, .int 0, .int 0, .int 0])), (b2, .inr (1, [.int 0, .int 0, .int 0, .int 0, .int 0, .int 0, .int 0, .int 0, .int 0, .int 0]))]) rfl ?_
  refine J_iload_n dX0_init_28 rfl rfl ?_
  refine J_bipush (v := 8) dX0_init_29 (by decide) ?_
  refine J_icmp_ge (tgt := 53) dX0_init_31 (by decide) (fun h => absurd h (by decide)) (fun _ => ?_)
  refine J_aload_n dX0_init_34 rfl rfl ?_
  refine K_get (T := TX0) (ci := 0) (N := 6) rfl inTX0 1 rfl wf_X0_25 dX0_init_35 0 rfl rfl rfl ?_
  refine J_iload_n dX0_init_38 rfl rfl ?_
  refine K_new (T := TX1) (ci := 1) (N := 10) rfl inTX1 tyX1 tyX1_ok wc_X0_23 wi_X1 wt_X1 [.int 0, .int 0, .int 0, .int 0, .int 0, .int 0, .int 0, .int 0, .int 0, .int 0] defs1 ⟨rfl, rfl⟩ dX0_init_39 (fun b3 => ?_)
  refine J_dup dX0_init_42 rfl ?_
  refine K_callN wj_X0_29 (c_X1_init _ b3) dX0_init_43 rfl ⟨rfl, rfl⟩ rfl (fun l3 hl3 => ?_)
  subst hl3
  refine K_aast2 3 (by decide) dX0_init_46 2 6 rfl rfl (blt_in (k := 3) (by decide) (by decide) rfl) ?_
  refine J_iinc (v := 4) dX0_init_47 rfl (by decide) rfl rfl ?_
  refine J_goto (tgt := 28) dX0_init_50 (by decide) ?_
  refine J_ws (ws' := wsP ++ [(h0, .inr (0, [.ref q1, .ref q2, .null, .int 0, .int 0, .int 0])), (q1, .inl (jcA X 0, 5, .inl (fun j => [1, 20, 3, 2, 120].getD j 0))), (q2, .inl (jcA X 2, 8, .inr (.inr (.inr (.inr (va_up (va_up (va_up (va_up (fun _ => none) 0 (some b0)) 1 (some b1)) 2 (some b2)) 3 (some b3))))))), (b0, .inr (1, [.int 0, .int 0, .int 0, .int 0, .int 0, .int 0, .int 0, .int 0, .int 0, .int 0])), (b1, .inr (1, [.int 0, .int 0, .int 0, .int 0, .int 0, .int 0, .int 0, .int 0, .int 0, .int 0])), (b2, .inr (1, [.int 0, .int 0, .int 0, .int 0, .int 0, .int 0, .int 0, .int 0, .int 0, .int 0])), (b3, .inr (1, [.int 0, .int 0, .int 0, .int 0, .int 0, .int 0, .int 0, .int 0, .int 0, .int 0]))]) rfl ?_
  refine J_iload_n dX0_init_28 rfl rfl ?_
  refine J_bipush (v := 8) dX0_init_29 (by decide) ?_
  refine J_icmp_ge (tgt := 53) dX0_init_31 (by decide) (fun h => absurd h (by decide)) (fun _ => ?_)
  refine J_aload_n dX0_init_34 rfl rfl ?_
  refine K_get (T := TX0) (ci := 0) (N := 6) rfl inTX0 1 rfl wf_X0_25 dX0_init_35 0 rfl rfl rfl ?_
  refine J_iload_n dX0_init_38 rfl rfl ?_
  refine K_new (T := TX1) (ci := 1) (N := 10) rfl inTX1 tyX1 tyX1_ok wc_X0_23 wi_X1 wt_X1 [.int 0, .int 0, .int 0, .int 0, .int 0, .int 0, .int 0, .int 0, .int 0, .int 0] defs1 ⟨rfl, rfl⟩ dX0_init_39 (fun b4 => ?_)
  refine J_dup dX0_init_42 rfl ?_
  refine K_callN wj_X0_29 (c_X1_init _ b4) dX0_init_43 rfl ⟨rfl, rfl⟩ rfl (fun l4 hl4 => ?_)
  subst hl4
  refine K_aast2 4 (by decide) dX0_init_46 2 7 rfl rfl (blt_in (k := 4) (by decide) (by decide) rfl) ?_
  refine J_iinc (v := 5) dX0_init_47 rfl (by decide) rfl rfl ?_
  refine J_goto (tgt := 28) dX0_init_50 (by decide) ?_
  refine J_ws (ws' := wsP ++ [(h0, .inr (0, [.ref q1, .ref q2, .null, .int 0, .int 0, .int 0])), (q1, .inl (jcA X 0, 5, .inl (fun j => [1, 20, 3, 2, 120].getD j 0))), (q2, .inl (jcA X 2, 8, .inr (.inr (.inr (.inr (va_up (va_up (va_up (va_up (va_up (fun _ => none) 0 (some b0)) 1 (some b1)) 2 (some b2)) 3 (some b3)) 4 (some b4))))))), (b0, .inr (1, [.int 0, .int 0, .int 0, .int 0, .int 0, .int 0, .int 0, .int 0, .int 0, .int 0])), (b1, .inr (1, [.int 0, .int 0, .int 0, .int 0, .int 0, .int 0, .int 0, .int 0, .int 0, .int 0])), (b2, .inr (1, [.int 0, .int 0, .int 0, .int 0, .int 0, .int 0, .int 0, .int 0, .int 0, .int 0])), (b3, .inr (1, [.int 0, .int 0, .int 0, .int 0, .int 0, .int 0, .int 0, .int 0, .int 0, .int 0])), (b4, .inr (1, [.int 0, .int 0, .int 0, .int 0, .int 0, .int 0, .int 0, .int 0, .int 0, .int 0]))]) rfl ?_
  refine J_iload_n dX0_init_28 rfl rfl ?_
  refine J_bipush (v := 8) dX0_init_29 (by decide) ?_
  refine J_icmp_ge (tgt := 53) dX0_init_31 (by decide) (fun h => absurd h (by decide)) (fun _ => ?_)
  refine J_aload_n dX0_init_34 rfl rfl ?_
  refine K_get (T := TX0) (ci := 0) (N := 6) rfl inTX0 1 rfl wf_X0_25 dX0_init_35 0 rfl rfl rfl ?_
  refine J_iload_n dX0_init_38 rfl rfl ?_
  refine K_new (T := TX1) (ci := 1) (N := 10) rfl inTX1 tyX1 tyX1_ok wc_X0_23 wi_X1 wt_X1 [.int 0, .int 0, .int 0, .int 0, .int 0, .int 0, .int 0, .int 0, .int 0, .int 0] defs1 ⟨rfl, rfl⟩ dX0_init_39 (fun b5 => ?_)
  refine J_dup dX0_init_42 rfl ?_
  refine K_callN wj_X0_29 (c_X1_init _ b5) dX0_init_43 rfl ⟨rfl, rfl⟩ rfl (fun l5 hl5 => ?_)
  subst hl5
  refine K_aast2 5 (by decide) dX0_init_46 2 8 rfl rfl (blt_in (k := 5) (by decide) (by decide) rfl) ?_
  refine J_iinc (v := 6) dX0_init_47 rfl (by decide) rfl rfl ?_
  refine J_goto (tgt := 28) dX0_init_50 (by decide) ?_
  refine J_ws (ws' := wsP ++ [(h0, .inr (0, [.ref q1, .ref q2, .null, .int 0, .int 0, .int 0])), (q1, .inl (jcA X 0, 5, .inl (fun j => [1, 20, 3, 2, 120].getD j 0))), (q2, .inl (jcA X 2, 8, .inr (.inr (.inr (.inr (va_up (va_up (va_up (va_up (va_up (va_up (fun _ => none) 0 (some b0)) 1 (some b1)) 2 (some b2)) 3 (some b3)) 4 (some b4)) 5 (some b5))))))), (b0, .inr (1, [.int 0, .int 0, .int 0, .int 0, .int 0, .int 0, .int 0, .int 0, .int 0, .int 0])), (b1, .inr (1, [.int 0, .int 0, .int 0, .int 0, .int 0, .int 0, .int 0, .int 0, .int 0, .int 0])), (b2, .inr (1, [.int 0, .int 0, .int 0, .int 0, .int 0, .int 0, .int 0, .int 0, .int 0, .int 0])), (b3, .inr (1, [.int 0, .int 0, .int 0, .int 0, .int 0, .int 0, .int 0, .int 0, .int 0, .int 0])), (b4, .inr (1, [.int 0, .int 0, .int 0, .int 0, .int 0, .int 0, .int 0, .int 0, .int 0, .int 0])), (b5, .inr (1, [.int 0, .int 0, .int 0, .int 0, .int 0, .int 0, .int 0, .int 0, .int 0, .int 0]))]) rfl ?_
  refine J_iload_n dX0_init_28 rfl rfl ?_
  refine J_bipush (v := 8) dX0_init_29 (by decide) ?_
  refine J_icmp_ge (tgt := 53) dX0_init_31 (by decide) (fun h => absurd h (by decide)) (fun _ => ?_)
  refine J_aload_n dX0_init_34 rfl rfl ?_
  refine K_get (T := TX0) (ci := 0) (N := 6) rfl inTX0 1 rfl wf_X0_25 dX0_init_35 0 rfl rfl rfl ?_
  refine J_iload_n dX0_init_38 rfl rfl ?_
  refine K_new (T := TX1) (ci := 1) (N := 10) rfl inTX1 tyX1 tyX1_ok wc_X0_23 wi_X1 wt_X1 [.int 0, .int 0, .int 0, .int 0, .int 0, .int 0, .int 0, .int 0, .int 0, .int 0] defs1 ⟨rfl, rfl⟩ dX0_init_39 (fun b6 => ?_)
  refine J_dup dX0_init_42 rfl ?_
  refine K_callN wj_X0_29 (c_X1_init _ b6) dX0_init_43 rfl ⟨rfl, rfl⟩ rfl (fun l6 hl6 => ?_)
  subst hl6
  refine K_aast2 6 (by decide) dX0_init_46 2 9 rfl rfl (blt_in (k := 6) (by decide) (by decide) rfl) ?_
  refine J_iinc (v := 7) dX0_init_47 rfl (by decide) rfl rfl ?_
  refine J_goto (tgt := 28) dX0_init_50 (by decide) ?_
  refine J_ws (ws' := wsP ++ [(h0, .inr (0, [.ref q1, .ref q2, .null, .int 0, .int 0, .int 0])), (q1, .inl (jcA X 0, 5, .inl (fun j => [1, 20, 3, 2, 120].getD j 0))), (q2, .inl (jcA X 2, 8, .inr (.inr (.inr (.inr (va_up (va_up (va_up (va_up (va_up (va_up (va_up (fun _ => none) 0 (some b0)) 1 (some b1)) 2 (some b2)) 3 (some b3)) 4 (some b4)) 5 (some b5)) 6 (some b6))))))), (b0, .inr (1, [.int 0, .int 0, .int 0, .int 0, .int 0, .int 0, .int 0, .int 0, .int 0, .int 0])), (b1, .inr (1, [.int 0, .int 0, .int 0, .int 0, .int 0, .int 0, .int 0, .int 0, .int 0, .int 0])), (b2, .inr (1, [.int 0, .int 0, .int 0, .int 0, .int 0, .int 0, .int 0, .int 0, .int 0, .int 0])), (b3, .inr (1, [.int 0, .int 0, .int 0, .int 0, .int 0, .int 0, .int 0, .int 0, .int 0, .int 0])), (b4, .inr (1, [.int 0, .int 0, .int 0, .int 0, .int 0, .int 0, .int 0, .int 0, .int 0, .int 0])), (b5, .inr (1, [.int 0, .int 0, .int 0, .int 0, .int 0, .int 0, .int 0, .int 0, .int 0, .int 0])), (b6, .inr (1, [.int 0, .int 0, .int 0, .int 0, .int 0, .int 0, .int 0, .int 0, .int 0, .int 0]))]) rfl ?_
  refine J_iload_n dX0_init_28 rfl rfl ?_
  refine J_bipush (v := 8) dX0_init_29 (by decide) ?_
  refine J_icmp_ge (tgt := 53) dX0_init_31 (by decide) (fun h => absurd h (by decide)) (fun _ => ?_)
  refine J_aload_n dX0_init_34 rfl rfl ?_
  refine K_get (T := TX0) (ci := 0) (N := 6) rfl inTX0 1 rfl wf_X0_25 dX0_init_35 0 rfl rfl rfl ?_
  refine J_iload_n dX0_init_38 rfl rfl ?_
  refine K_new (T := TX1) (ci := 1) (N := 10) rfl inTX1 tyX1 tyX1_ok wc_X0_23 wi_X1 wt_X1 [.int 0, .int 0, .int 0, .int 0, .int 0, .int 0, .int 0, .int 0, .int 0, .int 0] defs1 ⟨rfl, rfl⟩ dX0_init_39 (fun b7 => ?_)
  refine J_dup dX0_init_42 rfl ?_
  refine K_callN wj_X0_29 (c_X1_init _ b7) dX0_init_43 rfl ⟨rfl, rfl⟩ rfl (fun l7 hl7 => ?_)
  subst hl7
  refine K_aast2 7 (by decide) dX0_init_46 2 10 rfl rfl (blt_in (k := 7) (by decide) (by decide) rfl) ?_
  refine J_iinc (v := 8) dX0_init_47 rfl (by decide) rfl rfl ?_
  refine J_goto (tgt := 28) dX0_init_50 (by decide) ?_
  refine J_ws (ws' := wsP ++ [(h0, .inr (0, [.ref q1, .ref q2, .null, .int 0, .int 0, .int 0])), (q1, .inl (jcA X 0, 5, .inl (fun j => [1, 20, 3, 2, 120].getD j 0))), (q2, .inl (jcA X 2, 8, .inr (.inr (.inr (.inr (va_up (va_up (va_up (va_up (va_up (va_up (va_up (va_up (fun _ => none) 0 (some b0)) 1 (some b1)) 2 (some b2)) 3 (some b3)) 4 (some b4)) 5 (some b5)) 6 (some b6)) 7 (some b7))))))), (b0, .inr (1, [.int 0, .int 0, .int 0, .int 0, .int 0, .int 0, .int 0, .int 0, .int 0, .int 0])), (b1, .inr (1, [.int 0, .int 0, .int 0, .int 0, .int 0, .int 0, .int 0, .int 0, .int 0, .int 0])), (b2, .inr (1, [.int 0, .int 0, .int 0, .int 0, .int 0, .int 0, .int 0, .int 0, .int 0, .int 0])), (b3, .inr (1, [.int 0, .int 0, .int 0, .int 0, .int 0, .int 0, .int 0, .int 0, .int 0, .int 0])), (b4, .inr (1, [.int 0, .int 0, .int 0, .int 0, .int 0, .int 0, .int 0, .int 0, .int 0, .int 0])), (b5, .inr (1, [.int 0, .int 0, .int 0, .int 0, .int 0, .int 0, .int 0, .int 0, .int 0, .int 0])), (b6, .inr (1, [.int 0, .int 0, .int 0, .int 0, .int 0, .int 0, .int 0, .int 0, .int 0, .int 0])), (b7, .inr (1, [.int 0, .int 0, .int 0, .int 0, .int 0, .int 0, .int 0, .int 0, .int 0, .int 0]))]) rfl ?_
  refine J_iload_n dX0_init_28 rfl rfl ?_
  refine J_bipush (v := 8) dX0_init_29 (by decide) ?_
  refine J_icmp_ge (tgt := 53) dX0_init_31 (by decide) (fun _ => ?_) (fun h => absurd (by decide) h)
  refine J_aload_n dX0_init_53 rfl rfl ?_
  refine K_new (T := TX2) (ci := 2) (N := 12) rfl inTX2 tyX2 tyX2_ok wc_X0_30 wi_X2 wt_X2 [.null, .null, .null, .null, .int 0, .null, .int 0, .int 0, .int 0, .int 0, .int 0, .int 0] defs2 ⟨rfl, rfl⟩ dX0_init_54 (fun u => ?_)
  refine J_dup dX0_init_57 rfl ?_
  refine K_call wj_X0_32 (c_X2_init _ u) dX0_init_58 rfl ⟨rfl, rfl⟩ rfl (fun lb hlb => ?_)
  obtain ⟨a1, a2, a3, a4, a5, rfl⟩ := hlb
  refine K_putF (T := TX0) (ci := 0) (N := 6) (ty := tyX0 2) rfl inTX0 tyX0 tyX0_ok nmX0 2 rfl wf_X0_33 rfl rfl rfl (by decide +kernel) rfl rfl rfl dX0_init_61 0 rfl rfl ?_
  refine J_return dX0_init_64 rfl rfl ?_
  refine ⟨rfl, _, rfl, fun k => [h0, q1, q2, b0, b1, b2, b3, b4, b5, b6, b7, u, a1, a2, a3, a4, a5].getD k 0, rfl, ?_⟩
  have e : (fun j => [some b0, some b1, some b2, some b3, some b4, some b5, some b6, some b7].getD j none) = va_up (va_up (va_up (va_up (va_up (va_up (va_up (va_up (fun _ => none) 0 (some b0)) 1 (some b1)) 2 (some b2)) 3 (some b3)) 4 (some b4)) 5 (some b5)) 6 (some b6)) 7 (some b7) := by
    funext j
    match j with
    | 0 => rfl
    | 1 => rfl
    | 2 => rfl
    | 3 => rfl
    | 4 => rfl
    | 5 => rfl
    | 6 => rfl
    | 7 => rfl
    | j + 8 => simp [va_up]
  rw [← e]
  rfl
set_option maxRecDepth 100000 in
set_option maxHeartbeats 4000000 in
theorem c_X4_init {X : jX} (wsP : va_W) (h0 : Nat) : Ct X yX4_init cX4_init 1 none 1 2 83 (fun n => n) [.ref h0] (wsP ++ [(h0, .inr (4, [.null, .int 0, .int 0, .int 0, .null]))]) (fun v ws' => v = none ∧ ∃ l', ws' = wsP ++ l' ∧ ∃ a1 a2, l' = padW X h0 a1 a2) := by
  refine Ct.of (own := RX4) (nm := "<init>") (by decide +kernel) rfl rfl rfl rfl ?_
  refine J_aload_n dX4_init_0 rfl rfl ?_
  refine K_obj wm_X4_3 dX4_init_1 rfl rfl ?_
  refine J_aload_n dX4_init_4 rfl rfl ?_
  refine J_bipush (v := 80) dX4_init_5 (by decide) ?_
  refine K_newi 80 (by decide) (by decide) rfl ⟨rfl, rfl⟩ dX4_init_7 (fun a1 => ?_)
  refine K_putF (T := TX4) (ci := 4) (N := 5) (ty := tyX4 0) rfl inTX4 tyX4 tyX4_ok nmX4 0 rfl wf_X4_9 rfl rfl rfl (by decide +kernel) rfl rfl rfl dX4_init_9 0 rfl rfl ?_
  refine J_aload_n dX4_init_12 rfl rfl ?_
  refine J_iconst (v := 3) dX4_init_13 (by decide) ?_
  refine K_newi 3 (by decide) (by decide) rfl ⟨rfl, rfl⟩ dX4_init_14 (fun a2 => ?_)
  refine K_putF (T := TX4) (ci := 4) (N := 5) (ty := tyX4 4) rfl inTX4 tyX4 tyX4_ok nmX4 4 rfl wf_X4_15 rfl rfl rfl (by decide +kernel) rfl rfl rfl dX4_init_16 0 rfl rfl ?_
  refine J_return dX4_init_19 rfl rfl ?_
  exact ⟨rfl, _, rfl, a1, a2, rfl⟩
set_option maxRecDepth 100000 in
set_option maxHeartbeats 4000000 in
theorem c_X6_init {X : jX} (wsP : va_W) (h0 : Nat) : Ct X yX6_init cX6_init 1 none 1 5 3100 (fun n => n) [.ref h0] (wsP ++ [(h0, .inr (6, [.null, .null, .null, .int 0, .null, .int 0, .null, .int 0, .int 0, .int 0, .int 0, .int 0, .int 0, .int 0]))]) (fun v ws' => v = none ∧ ∃ l', ws' = wsP ++ l' ∧ ∃ a1 a2 a3 a4 a5, l' = modW X h0 a1 a2 a3 a4 a5) := by
  refine Ct.of (own := RX6) (nm := "<init>") (by decide +kernel) rfl rfl rfl rfl ?_
  refine J_aload_n dX6_init_0 rfl rfl ?_
  refine K_obj wm_X6_1 dX6_init_1 rfl rfl ?_
  refine J_aload_n dX6_init_4 rfl rfl ?_
  refine J_sipush (v := 302) dX6_init_5 (by decide) ?_
  refine K_newi 302 (by decide) (by decide) rfl ⟨rfl, rfl⟩ dX6_init_8 (fun a1 => ?_)
  refine K_putF (T := TX6) (ci := 6) (N := 14) (ty := tyX6 0) rfl inTX6 tyX6 tyX6_ok nmX6 0 rfl wf_X6_7 rfl rfl rfl (by decide +kernel) rfl rfl rfl dX6_init_10 0 rfl rfl ?_
  refine J_aload_n dX6_init_13 rfl rfl ?_
  refine J_sipush (v := 302) dX6_init_14 (by decide) ?_
  refine K_newi 302 (by decide) (by decide) rfl ⟨rfl, rfl⟩ dX6_init_17 (fun a2 => ?_)
  refine K_putF (T := TX6) (ci := 6) (N := 14) (ty := tyX6 1) rfl inTX6 tyX6 tyX6_ok nmX6 1 rfl wf_X6_13 rfl rfl rfl (by decide +kernel) rfl rfl rfl dX6_init_19 0 rfl rfl ?_
  refine J_aload_n dX6_init_22 rfl rfl ?_
  refine J_sipush (v := 1812) dX6_init_23 (by decide) ?_
  refine K_newi 1812 (by decide) (by decide) rfl ⟨rfl, rfl⟩ dX6_init_26 (fun a3 => ?_)
  refine K_putF (T := TX6) (ci := 6) (N := 14) (ty := tyX6 2) rfl inTX6 tyX6 tyX6_ok nmX6 2 rfl wf_X6_16 rfl rfl rfl (by decide +kernel) rfl rfl rfl dX6_init_28 0 rfl rfl ?_
  refine J_aload_n dX6_init_31 rfl rfl ?_
  refine J_sipush (v := 604) dX6_init_32 (by decide) ?_
  refine K_newi 604 (by decide) (by decide) rfl ⟨rfl, rfl⟩ dX6_init_35 (fun a4 => ?_)
  refine K_putF (T := TX6) (ci := 6) (N := 14) (ty := tyX6 4) rfl inTX6 tyX6 tyX6_ok nmX6 4 rfl wf_X6_19 rfl rfl rfl (by decide +kernel) rfl rfl rfl dX6_init_37 0 rfl rfl ?_
  refine J_aload_n dX6_init_40 rfl rfl ?_
  refine J_bipush (v := 80) dX6_init_41 (by decide) ?_
  refine K_newi 80 (by decide) (by decide) rfl ⟨rfl, rfl⟩ dX6_init_43 (fun a5 => ?_)
  refine K_putF (T := TX6) (ci := 6) (N := 14) (ty := tyX6 6) rfl inTX6 tyX6 tyX6_ok nmX6 6 rfl wf_X6_22 rfl rfl rfl (by decide +kernel) rfl rfl rfl dX6_init_45 0 rfl rfl ?_
  refine J_aload_n dX6_init_48 rfl rfl ?_
  refine K_get (T := TX6) (ci := 6) (N := 14) rfl inTX6 0 rfl wf_X6_7 dX6_init_49 0 rfl rfl rfl ?_
  refine J_iconst (v := 0) dX6_init_52 (by decide) ?_
  refine J_iconst (v := 1) dX6_init_53 (by decide) ?_
  refine K_iast 0 (by decide) dX6_init_54 1 rfl (blt_in (k := 0) (by decide) (by decide) rfl) ?_
  refine J_aload_n dX6_init_55 rfl rfl ?_
  refine K_get (T := TX6) (ci := 6) (N := 14) rfl inTX6 0 rfl wf_X6_7 dX6_init_56 0 rfl rfl rfl ?_
  refine J_iconst (v := 1) dX6_init_59 (by decide) ?_
  refine J_bipush (v := 20) dX6_init_60 (by decide) ?_
  refine K_iast 1 (by decide) dX6_init_62 1 rfl (blt_in (k := 1) (by decide) (by decide) rfl) ?_
  refine J_aload_n dX6_init_63 rfl rfl ?_
  refine K_get (T := TX6) (ci := 6) (N := 14) rfl inTX6 0 rfl wf_X6_7 dX6_init_64 0 rfl rfl rfl ?_
  refine J_iconst (v := 2) dX6_init_67 (by decide) ?_
  refine J_iconst (v := 3) dX6_init_68 (by decide) ?_
  refine K_iast 2 (by decide) dX6_init_69 1 rfl (blt_in (k := 2) (by decide) (by decide) rfl) ?_
  refine J_aload_n dX6_init_70 rfl rfl ?_
  refine K_get (T := TX6) (ci := 6) (N := 14) rfl inTX6 0 rfl wf_X6_7 dX6_init_71 0 rfl rfl rfl ?_
  refine J_iconst (v := 3) dX6_init_74 (by decide) ?_
  refine J_iconst (v := 2) dX6_init_75 (by decide) ?_
  refine K_iast 3 (by decide) dX6_init_76 1 rfl (blt_in (k := 3) (by decide) (by decide) rfl) ?_
  refine J_aload_n dX6_init_77 rfl rfl ?_
  refine K_get (T := TX6) (ci := 6) (N := 14) rfl inTX6 0 rfl wf_X6_7 dX6_init_78 0 rfl rfl rfl ?_
  refine J_iconst (v := 4) dX6_init_81 (by decide) ?_
  refine J_bipush (v := 120) dX6_init_82 (by decide) ?_
  refine K_iast 4 (by decide) dX6_init_84 1 rfl (blt_in (k := 4) (by decide) (by decide) rfl) ?_
  refine J_aload_n dX6_init_85 rfl rfl ?_
  refine K_get (T := TX6) (ci := 6) (N := 14) rfl inTX6 0 rfl wf_X6_7 dX6_init_86 0 rfl rfl rfl ?_
  refine J_sipush (v := 295) dX6_init_89 (by decide) ?_
  refine J_bipush (v := -6) dX6_init_92 (by decide) ?_
  refine K_iast 295 (by decide) dX6_init_94 1 rfl (blt_in (k := 295) (by decide) (by decide) rfl) ?_
  refine J_return dX6_init_95 rfl rfl ?_
  refine ⟨rfl, _, rfl, a1, a2, a3, a4, a5, ?_⟩
  have e : s0 = upd (upd (upd (upd (upd (upd (fun _ => 0) 0 1) 1 20) 2 3) 3 2) 4 120) 295 (-6) := by
    funext j
    match j with
    | 0 => rfl
    | 1 => rfl
    | 2 => rfl
    | 3 => rfl
    | 4 => rfl
    | j + 5 => by_cases h : j + 5 = 295
               · simp [s0, upd, h]
               · simp [s0, upd, h]
  unfold modW
  rw [e]
  rfl
end
section
theorem bpW_cons (X : jX) (a : Nat → Nat) : ∃ rest, bpW X a = (a 0, .inr (0, [.ref (a 1), .ref (a 2), .ref (a 11), .int 0, .int 0, .int 0])) :: rest := ⟨_, rfl⟩
theorem at_T {α : Type} (x : α) (T U : List α) : (T ++ x :: U)[T.length]? = some x := by simp
theorem set_T {α : Type} (x y : α) (T U : List α) : (T ++ x :: U).set T.length y = T ++ y :: U := by simp
set_option maxRecDepth 100000 in
set_option maxHeartbeats 4000000 in
theorem c_X3_init {X : jX} (wsP : va_W) (h0 : Nat) : Ct X yX3_init cX3_init 2 none 3 120 6454 (fun n => n) [.ref h0] (wsP ++ [(h0, .inr (3, [.null, .int 0, .int 0]))]) (fun v ws' => v = none ∧ ∃ l', ws' = wsP ++ l' ∧ ∃ (q : Nat) (A : Nat → Nat → Nat), l' = hisW X h0 q A) := by
  refine Ct.of (own := RX3) (nm := "<init>") (by decide +kernel) rfl rfl rfl rfl ?_
  refine J_aload_n dX3_init_0 rfl rfl ?_
  refine K_obj wm_X3_3 dX3_init_1 rfl rfl ?_
  refine J_aload_n dX3_init_4 rfl rfl ?_
  refine J_bipush (v := 7) dX3_init_5 (by decide) ?_
  refine K_newq3 7 wc_X3_11 (by decide) (by decide) rfl ⟨rfl, rfl⟩ dX3_init_7 (fun q => ?_)
  refine K_putF (T := TX3) (ci := 3) (N := 3) (ty := tyX3 0) rfl inTX3 tyX3 tyX3_ok nmX3 0 rfl wf_X3_13 rfl rfl rfl (by decide +kernel) rfl rfl rfl dX3_init_10 0 rfl rfl ?_
  refine J_iconst (v := 0) dX3_init_13 (by decide) ?_
  refine J_istore_n dX3_init_14 rfl rfl rfl ?_
  refine J_ws (ws' := wsP ++ ((h0, .inr (3, [.ref q, .int 0, .int 0])) :: (q, .inl (jcA X 3, 7, .inr (.inr (.inr (.inr (fun _ => none)))))) :: ([]))) rfl ?_
  refine J_iload_n dX3_init_15 rfl rfl ?_
  refine J_bipush (v := 7) dX3_init_16 (by decide) ?_
  refine J_icmp_ge (tgt := 40) dX3_init_18 (by decide) (fun h => absurd h (by decide)) (fun _ => ?_)
  refine J_aload_n dX3_init_21 rfl rfl ?_
  refine K_get (T := TX3) (ci := 3) (N := 3) rfl inTX3 0 rfl wf_X3_13 dX3_init_22 0 rfl rfl rfl ?_
  refine J_iload_n dX3_init_25 rfl rfl ?_
  refine K_new (T := TX0) (ci := 0) (N := 6) rfl inTX0 tyX0 tyX0_ok wc_X3_11 wi_X0 wt_X0 [.null, .null, .null, .int 0, .int 0, .int 0] defs0 ⟨rfl, rfl⟩ dX3_init_26 (fun b0 => ?_)
  refine J_dup dX3_init_29 rfl ?_
  refine K_call wj_X3_17 (c_X0_init _ b0) dX3_init_30 rfl ⟨rfl, rfl⟩ rfl (fun l0 hl0 => ?_)
  obtain ⟨a0, ha0, rfl⟩ := hl0
  refine J_ws (ws' := wsP ++ ((h0, .inr (3, [.ref q, .int 0, .int 0])) :: (q, .inl (jcA X 3, 7, .inr (.inr (.inr (.inr (fun _ => none)))))) :: (bpW X a0))) (by simp only [List.cons_append, List.nil_append, List.append_assoc, List.set_cons_succ, List.set_cons_zero, List.append_nil]) ?_
  rw [← ha0]
  have hv0 : ((h0, .inr (3, [.ref q, .int 0, .int 0])) :: (q, .inl (jcA X 3, 7, .inr (.inr (.inr (.inr (fun _ => none)))))) :: (bpW X a0) : va_W)[2]? = some (a0 0, .inr (0, [.ref (a0 1), .ref (a0 2), .ref (a0 11), .int 0, .int 0, .int 0])) := by rfl
  refine K_aast3 0 (by decide) dX3_init_33 1 2 rfl hv0 (blt_in (k := 0) (by decide) (by decide) rfl) ?_
  refine J_iinc (v := 1) dX3_init_34 rfl (by decide) rfl rfl ?_
  refine J_goto (tgt := 15) dX3_init_37 (by decide) ?_
  refine J_ws (ws' := wsP ++ ((h0, .inr (3, [.ref q, .int 0, .int 0])) :: (q, .inl (jcA X 3, 7, .inr (.inr (.inr (.inr (va_up (fun _ => none) 0 (some (a0 0)))))))) :: (bpW X a0))) (by simp only [List.cons_append, List.nil_append, List.append_assoc, List.set_cons_succ, List.set_cons_zero, List.append_nil]) ?_
  refine J_iload_n dX3_init_15 rfl rfl ?_
  refine J_bipush (v := 7) dX3_init_16 (by decide) ?_
  refine J_icmp_ge (tgt := 40) dX3_init_18 (by decide) (fun h => absurd h (by decide)) (fun _ => ?_)
  refine J_aload_n dX3_init_21 rfl rfl ?_
  refine K_get (T := TX3) (ci := 3) (N := 3) rfl inTX3 0 rfl wf_X3_13 dX3_init_22 0 rfl rfl rfl ?_
  refine J_iload_n dX3_init_25 rfl rfl ?_
  refine K_new (T := TX0) (ci := 0) (N := 6) rfl inTX0 tyX0 tyX0_ok wc_X3_11 wi_X0 wt_X0 [.null, .null, .null, .int 0, .int 0, .int 0] defs0 ⟨rfl, rfl⟩ dX3_init_26 (fun b1 => ?_)
  refine J_dup dX3_init_29 rfl ?_
  refine K_call wj_X3_17 (c_X0_init _ b1) dX3_init_30 rfl ⟨rfl, rfl⟩ rfl (fun l1 hl1 => ?_)
  obtain ⟨a1, ha1, rfl⟩ := hl1
  refine J_ws (ws' := wsP ++ ((h0, .inr (3, [.ref q, .int 0, .int 0])) :: (q, .inl (jcA X 3, 7, .inr (.inr (.inr (.inr (va_up (fun _ => none) 0 (some (a0 0)))))))) :: (bpW X a0 ++ (bpW X a1)))) (by simp only [List.cons_append, List.nil_append, List.append_assoc, List.set_cons_succ, List.set_cons_zero, List.append_nil]) ?_
  rw [← ha1]
  have hv1 : ((h0, .inr (3, [.ref q, .int 0, .int 0])) :: (q, .inl (jcA X 3, 7, .inr (.inr (.inr (.inr (va_up (fun _ => none) 0 (some (a0 0)))))))) :: (bpW X a0 ++ (bpW X a1)) : va_W)[19]? = some (a1 0, .inr (0, [.ref (a1 1), .ref (a1 2), .ref (a1 11), .int 0, .int 0, .int 0])) := by rfl
  refine K_aast3 1 (by decide) dX3_init_33 1 19 rfl hv1 (blt_in (k := 1) (by decide) (by decide) rfl) ?_
  refine J_iinc (v := 2) dX3_init_34 rfl (by decide) rfl rfl ?_
  refine J_goto (tgt := 15) dX3_init_37 (by decide) ?_
  refine J_ws (ws' := wsP ++ ((h0, .inr (3, [.ref q, .int 0, .int 0])) :: (q, .inl (jcA X 3, 7, .inr (.inr (.inr (.inr (va_up (va_up (fun _ => none) 0 (some (a0 0))) 1 (some (a1 0)))))))) :: (bpW X a0 ++ (bpW X a1)))) (by simp only [List.cons_append, List.nil_append, List.append_assoc, List.set_cons_succ, List.set_cons_zero, List.append_nil]) ?_
  refine J_iload_n dX3_init_15 rfl rfl ?_
  refine J_bipush (v := 7) dX3_init_16 (by decide) ?_
  refine J_icmp_ge (tgt := 40) dX3_init_18 (by decide) (fun h => absurd h (by decide)) (fun _ => ?_)
  refine J_aload_n dX3_init_21 rfl rfl ?_
  refine K_get (T := TX3) (ci := 3) (N := 3) rfl inTX3 0 rfl wf_X3_13 dX3_init_22 0 rfl rfl rfl ?_
  refine J_iload_n dX3_init_25 rfl rfl ?_
  refine K_new (T := TX0) (ci := 0) (N := 6) rfl inTX0 tyX0 tyX0_ok wc_X3_11 wi_X0 wt_X0 [.null, .null, .null, .int 0, .int 0, .int 0] defs0 ⟨rfl, rfl⟩ dX3_init_26 (fun b2 => ?_)
  refine J_dup dX3_init_29 rfl ?_
  refine K_call wj_X3_17 (c_X0_init _ b2) dX3_init_30 rfl ⟨rfl, rfl⟩ rfl (fun l2 hl2 => ?_)
  obtain ⟨a2, ha2, rfl⟩ := hl2
  refine J_ws (ws' := wsP ++ ((h0, .inr (3, [.ref q, .int 0, .int 0])) :: (q, .inl (jcA X 3, 7, .inr (.inr (.inr (.inr (va_up (va_up (fun _ => none) 0 (some (a0 0))) 1 (some (a1 0)))))))) :: (bpW X a0 ++ (bpW X a1 ++ (bpW X a2))))) (by simp only [List.cons_append, List.nil_append, List.append_assoc, List.set_cons_succ, List.set_cons_zero, List.append_nil]) ?_
  rw [← ha2]
  have hv2 : ((h0, .inr (3, [.ref q, .int 0, .int 0])) :: (q, .inl (jcA X 3, 7, .inr (.inr (.inr (.inr (va_up (va_up (fun _ => none) 0 (some (a0 0))) 1 (some (a1 0)))))))) :: (bpW X a0 ++ (bpW X a1 ++ (bpW X a2))) : va_W)[36]? = some (a2 0, .inr (0, [.ref (a2 1), .ref (a2 2), .ref (a2 11), .int 0, .int 0, .int 0])) := by rfl
  refine K_aast3 2 (by decide) dX3_init_33 1 36 rfl hv2 (blt_in (k := 2) (by decide) (by decide) rfl) ?_
  refine J_iinc (v := 3) dX3_init_34 rfl (by decide) rfl rfl ?_
  refine J_goto (tgt := 15) dX3_init_37 (by decide) ?_
  refine J_ws (ws' := wsP ++ ((h0, .inr (3, [.ref q, .int 0, .int 0])) :: (q, .inl (jcA X 3, 7, .inr (.inr (.inr (.inr (va_up (va_up (va_up (fun _ => none) 0 (some (a0 0))) 1 (some (a1 0))) 2 (some (a2 0)))))))) :: (bpW X a0 ++ (bpW X a1 ++ (bpW X a2))))) (by simp only [List.cons_append, List.nil_append, List.append_assoc, List.set_cons_succ, List.set_cons_zero, List.append_nil]) ?_
  refine J_iload_n dX3_init_15 rfl rfl ?_
  refine J_bipush (v := 7) dX3_init_16 (by decide) ?_
  refine J_icmp_ge (tgt := 40) dX3_init_18 (by decide) (fun h => absurd h (by decide)) (fun _ => ?_)
  refine J_aload_n dX3_init_21 rfl rfl ?_
  refine K_get (T := TX3) (ci := 3) (N := 3) rfl inTX3 0 rfl wf_X3_13 dX3_init_22 0 rfl rfl rfl ?_
  refine J_iload_n dX3_init_25 rfl rfl ?_
  refine K_new (T := TX0) (ci := 0) (N := 6) rfl inTX0 tyX0 tyX0_ok wc_X3_11 wi_X0 wt_X0 [.null, .null, .null, .int 0, .int 0, .int 0] defs0 ⟨rfl, rfl⟩ dX3_init_26 (fun b3 => ?_)
  refine J_dup dX3_init_29 rfl ?_
  refine K_call wj_X3_17 (c_X0_init _ b3) dX3_init_30 rfl ⟨rfl, rfl⟩ rfl (fun l3 hl3 => ?_)
  obtain ⟨a3, ha3, rfl⟩ := hl3
  refine J_ws (ws' := wsP ++ ((h0, .inr (3, [.ref q, .int 0, .int 0])) :: (q, .inl (jcA X 3, 7, .inr (.inr (.inr (.inr (va_up (va_up (va_up (fun _ => none) 0 (some (a0 0))) 1 (some (a1 0))) 2 (some (a2 0)))))))) :: (bpW X a0 ++ (bpW X a1 ++ (bpW X a2 ++ (bpW X a3)))))) (by simp only [List.cons_append, List.nil_append, List.append_assoc, List.set_cons_succ, List.set_cons_zero, List.append_nil]) ?_
  rw [← ha3]
  have hv3 : ((h0, .inr (3, [.ref q, .int 0, .int 0])) :: (q, .inl (jcA X 3, 7, .inr (.inr (.inr (.inr (va_up (va_up (va_up (fun _ => none) 0 (some (a0 0))) 1 (some (a1 0))) 2 (some (a2 0)))))))) :: (bpW X a0 ++ (bpW X a1 ++ (bpW X a2 ++ (bpW X a3)))) : va_W)[53]? = some (a3 0, .inr (0, [.ref (a3 1), .ref (a3 2), .ref (a3 11), .int 0, .int 0, .int 0])) := by rfl
  refine K_aast3 3 (by decide) dX3_init_33 1 53 rfl hv3 (blt_in (k := 3) (by decide) (by decide) rfl) ?_
  refine J_iinc (v := 4) dX3_init_34 rfl (by decide) rfl rfl ?_
  refine J_goto (tgt := 15) dX3_init_37 (by decide) ?_
  refine J_ws (ws' := wsP ++ ((h0, .inr (3, [.ref q, .int 0, .int 0])) :: (q, .inl (jcA X 3, 7, .inr (.inr (.inr (.inr (va_up (va_up (va_up (va_up (fun _ => none) 0 (some (a0 0))) 1 (some (a1 0))) 2 (some (a2 0))) 3 (some (a3 0)))))))) :: (bpW X a0 ++ (bpW X a1 ++ (bpW X a2 ++ (bpW X a3)))))) (by simp only [List.cons_append, List.nil_append, List.append_assoc, List.set_cons_succ, List.set_cons_zero, List.append_nil]) ?_
  refine J_iload_n dX3_init_15 rfl rfl ?_
  refine J_bipush (v := 7) dX3_init_16 (by decide) ?_
  refine J_icmp_ge (tgt := 40) dX3_init_18 (by decide) (fun h => absurd h (by decide)) (fun _ => ?_)
  refine J_aload_n dX3_init_21 rfl rfl ?_
  refine K_get (T := TX3) (ci := 3) (N := 3) rfl inTX3 0 rfl wf_X3_13 dX3_init_22 0 rfl rfl rfl ?_
  refine J_iload_n dX3_init_25 rfl rfl ?_
  refine K_new (T := TX0) (ci := 0) (N := 6) rfl inTX0 tyX0 tyX0_ok wc_X3_11 wi_X0 wt_X0 [.null, .null, .null, .int 0, .int 0, .int 0] defs0 ⟨rfl, rfl⟩ dX3_init_26 (fun b4 => ?_)
  refine J_dup dX3_init_29 rfl ?_
  refine K_call wj_X3_17 (c_X0_init _ b4) dX3_init_30 rfl ⟨rfl, rfl⟩ rfl (fun l4 hl4 => ?_)
  obtain ⟨a4, ha4, rfl⟩ := hl4
  refine J_ws (ws' := wsP ++ ((h0, .inr (3, [.ref q, .int 0, .int 0])) :: (q, .inl (jcA X 3, 7, .inr (.inr (.inr (.inr (va_up (va_up (va_up (va_up (fun _ => none) 0 (some (a0 0))) 1 (some (a1 0))) 2 (some (a2 0))) 3 (some (a3 0)))))))) :: (bpW X a0 ++ (bpW X a1 ++ (bpW X a2 ++ (bpW X a3 ++ (bpW X a4))))))) (by simp only [List.cons_append, List.nil_append, List.append_assoc, List.set_cons_succ, List.set_cons_zero, List.append_nil]) ?_
  rw [← ha4]
  have hv4 : ((h0, .inr (3, [.ref q, .int 0, .int 0])) :: (q, .inl (jcA X 3, 7, .inr (.inr (.inr (.inr (va_up (va_up (va_up (va_up (fun _ => none) 0 (some (a0 0))) 1 (some (a1 0))) 2 (some (a2 0))) 3 (some (a3 0)))))))) :: (bpW X a0 ++ (bpW X a1 ++ (bpW X a2 ++ (bpW X a3 ++ (bpW X a4))))) : va_W)[70]? = some (a4 0, .inr (0, [.ref (a4 1), .ref (a4 2), .ref (a4 11), .int 0, .int 0, .int 0])) := by rfl
  refine K_aast3 4 (by decide) dX3_init_33 1 70 rfl hv4 (blt_in (k := 4) (by decide) (by decide) rfl) ?_
  refine J_iinc (v := 5) dX3_init_34 rfl (by decide) rfl rfl ?_
  refine J_goto (tgt := 15) dX3_init_37 (by decide) ?_
  refine J_ws (ws' := wsP ++ ((h0, .inr (3, [.ref q, .int 0, .int 0])) :: (q, .inl (jcA X 3, 7, .inr (.inr (.inr (.inr (va_up (va_up (va_up (va_up (va_up (fun _ => none) 0 (some (a0 0))) 1 (some (a1 0))) 2 (some (a2 0))) 3 (some (a3 0))) 4 (some (a4 0)))))))) :: (bpW X a0 ++ (bpW X a1 ++ (bpW X a2 ++ (bpW X a3 ++ (bpW X a4))))))) (by simp only [List.cons_append, List.nil_append, List.append_assoc, List.set_cons_succ, List.set_cons_zero, List.append_nil]) ?_
  refine J_iload_n dX3_init_15 rfl rfl ?_
  refine J_bipush (v := 7) dX3_init_16 (by decide) ?_
  refine J_icmp_ge (tgt := 40) dX3_init_18 (by decide) (fun h => absurd h (by decide)) (fun _ => ?_)
  refine J_aload_n dX3_init_21 rfl rfl ?_
  refine K_get (T := TX3) (ci := 3) (N := 3) rfl inTX3 0 rfl wf_X3_13 dX3_init_22 0 rfl rfl rfl ?_
  refine J_iload_n dX3_init_25 rfl rfl ?_
  refine K_new (T := TX0) (ci := 0) (N := 6) rfl inTX0 tyX0 tyX0_ok wc_X3_11 wi_X0 wt_X0 [.null, .null, .null, .int 0, .int 0, .int 0] defs0 ⟨rfl, rfl⟩ dX3_init_26 (fun b5 => ?_)
  refine J_dup dX3_init_29 rfl ?_
  refine K_call wj_X3_17 (c_X0_init _ b5) dX3_init_30 rfl ⟨rfl, rfl⟩ rfl (fun l5 hl5 => ?_)
  obtain ⟨a5, ha5, rfl⟩ := hl5
  refine J_ws (ws' := wsP ++ ((h0, .inr (3, [.ref q, .int 0, .int 0])) :: (q, .inl (jcA X 3, 7, .inr (.inr (.inr (.inr (va_up (va_up (va_up (va_up (va_up (fun _ => none) 0 (some (a0 0))) 1 (some (a1 0))) 2 (some (a2 0))) 3 (some (a3 0))) 4 (some (a4 0)))))))) :: (bpW X a0 ++ (bpW X a1 ++ (bpW X a2 ++ (bpW X a3 ++ (bpW X a4 ++ (bpW X a5)))))))) (by simp only [List.cons_append, List.nil_append, List.append_assoc, List.set_cons_succ, List.set_cons_zero, List.append_nil]) ?_
  rw [← ha5]
  have hv5 : ((h0, .inr (3, [.ref q, .int 0, .int 0])) :: (q, .inl (jcA X 3, 7, .inr (.inr (.inr (.inr (va_up (va_up (va_up (va_up (va_up (fun _ => none) 0 (some (a0 0))) 1 (some (a1 0))) 2 (some (a2 0))) 3 (some (a3 0))) 4 (some (a4 0)))))))) :: (bpW X a0 ++ (bpW X a1 ++ (bpW X a2 ++ (bpW X a3 ++ (bpW X a4 ++ (bpW X a5)))))) : va_W)[87]? = some (a5 0, .inr (0, [.ref (a5 1), .ref (a5 2), .ref (a5 11), .int 0, .int 0, .int 0])) := by rfl
  refine K_aast3 5 (by decide) dX3_init_33 1 87 rfl hv5 (blt_in (k := 5) (by decide) (by decide) rfl) ?_
  refine J_iinc (v := 6) dX3_init_34 rfl (by decide) rfl rfl ?_
  refine J_goto (tgt := 15) dX3_init_37 (by decide) ?_
  refine J_ws (ws' := wsP ++ ((h0, .inr (3, [.ref q, .int 0, .int 0])) :: (q, .inl (jcA X 3, 7, .inr (.inr (.inr (.inr (va_up (va_up (va_up (va_up (va_up (va_up (fun _ => none) 0 (some (a0 0))) 1 (some (a1 0))) 2 (some (a2 0))) 3 (some (a3 0))) 4 (some (a4 0))) 5 (some (a5 0)))))))) :: (bpW X a0 ++ (bpW X a1 ++ (bpW X a2 ++ (bpW X a3 ++ (bpW X a4 ++ (bpW X a5)))))))) (by simp only [List.cons_append, List.nil_append, List.append_assoc, List.set_cons_succ, List.set_cons_zero, List.append_nil]) ?_
  refine J_iload_n dX3_init_15 rfl rfl ?_
  refine J_bipush (v := 7) dX3_init_16 (by decide) ?_
  refine J_icmp_ge (tgt := 40) dX3_init_18 (by decide) (fun h => absurd h (by decide)) (fun _ => ?_)
  refine J_aload_n dX3_init_21 rfl rfl ?_
  refine K_get (T := TX3) (ci := 3) (N := 3) rfl inTX3 0 rfl wf_X3_13 dX3_init_22 0 rfl rfl rfl ?_
  refine J_iload_n dX3_init_25 rfl rfl ?_
  refine K_new (T := TX0) (ci := 0) (N := 6) rfl inTX0 tyX0 tyX0_ok wc_X3_11 wi_X0 wt_X0 [.null, .null, .null, .int 0, .int 0, .int 0] defs0 ⟨rfl, rfl⟩ dX3_init_26 (fun b6 => ?_)
  refine J_dup dX3_init_29 rfl ?_
  refine K_call wj_X3_17 (c_X0_init _ b6) dX3_init_30 rfl ⟨rfl, rfl⟩ rfl (fun l6 hl6 => ?_)
  obtain ⟨a6, ha6, rfl⟩ := hl6
  refine J_ws (ws' := wsP ++ ((h0, .inr (3, [.ref q, .int 0, .int 0])) :: (q, .inl (jcA X 3, 7, .inr (.inr (.inr (.inr (va_up (va_up (va_up (va_up (va_up (va_up (fun _ => none) 0 (some (a0 0))) 1 (some (a1 0))) 2 (some (a2 0))) 3 (some (a3 0))) 4 (some (a4 0))) 5 (some (a5 0)))))))) :: (bpW X a0 ++ (bpW X a1 ++ (bpW X a2 ++ (bpW X a3 ++ (bpW X a4 ++ (bpW X a5 ++ (bpW X a6))))))))) (by simp only [List.cons_append, List.nil_append, List.append_assoc, List.set_cons_succ, List.set_cons_zero, List.append_nil]) ?_
  rw [← ha6]
  have hv6 : ((h0, .inr (3, [.ref q, .int 0, .int 0])) :: (q, .inl (jcA X 3, 7, .inr (.inr (.inr (.inr (va_up (va_up (va_up (va_up (va_up (va_up (fun _ => none) 0 (some (a0 0))) 1 (some (a1 0))) 2 (some (a2 0))) 3 (some (a3 0))) 4 (some (a4 0))) 5 (some (a5 0)))))))) :: (bpW X a0 ++ (bpW X a1 ++ (bpW X a2 ++ (bpW X a3 ++ (bpW X a4 ++ (bpW X a5 ++ (bpW X a6))))))) : va_W)[104]? = some (a6 0, .inr (0, [.ref (a6 1), .ref (a6 2), .ref (a6 11), .int 0, .int 0, .int 0])) := by rfl
  refine K_aast3 6 (by decide) dX3_init_33 1 104 rfl hv6 (blt_in (k := 6) (by decide) (by decide) rfl) ?_
  refine J_iinc (v := 7) dX3_init_34 rfl (by decide) rfl rfl ?_
  refine J_goto (tgt := 15) dX3_init_37 (by decide) ?_
  refine J_ws (ws' := wsP ++ ((h0, .inr (3, [.ref q, .int 0, .int 0])) :: (q, .inl (jcA X 3, 7, .inr (.inr (.inr (.inr (va_up (va_up (va_up (va_up (va_up (va_up (va_up (fun _ => none) 0 (some (a0 0))) 1 (some (a1 0))) 2 (some (a2 0))) 3 (some (a3 0))) 4 (some (a4 0))) 5 (some (a5 0))) 6 (some (a6 0)))))))) :: (bpW X a0 ++ (bpW X a1 ++ (bpW X a2 ++ (bpW X a3 ++ (bpW X a4 ++ (bpW X a5 ++ (bpW X a6))))))))) (by simp only [List.cons_append, List.nil_append, List.append_assoc, List.set_cons_succ, List.set_cons_zero, List.append_nil]) ?_
  refine J_iload_n dX3_init_15 rfl rfl ?_
  refine J_bipush (v := 7) dX3_init_16 (by decide) ?_
  refine J_icmp_ge (tgt := 40) dX3_init_18 (by decide) (fun _ => ?_) (fun h => absurd (by decide) h)
  refine J_return dX3_init_40 rfl rfl ?_
  refine ⟨rfl, _, rfl, q, fun k => match k with | 0 => a0 | 1 => a1 | 2 => a2 | 3 => a3 | 4 => a4 | 5 => a5 | _ => a6, ?_⟩
  have e : (fun j => [some (a0 0), some (a1 0), some (a2 0), some (a3 0), some (a4 0), some (a5 0), some (a6 0)].getD j none) = (va_up (va_up (va_up (va_up (va_up (va_up (va_up (fun _ => none) 0 (some (a0 0))) 1 (some (a1 0))) 2 (some (a2 0))) 3 (some (a3 0))) 4 (some (a4 0))) 5 (some (a5 0))) 6 (some (a6 0))) := by
    funext j
    match j with
    | 0 => rfl
    | 1 => rfl
    | 2 => rfl
    | 3 => rfl
    | 4 => rfl
    | 5 => rfl
    | 6 => rfl
    | j + 7 => simp [va_up]
  rw [← e]
  rfl
def ppW (X : jX) (h0 hh hq pp p1 p2 sv zs : Nat) (A B C D : Nat → Nat) (E : Nat → Nat → Nat) : va_W := (h0, .inr (5, [.ref (A 0), .ref (B 0), .ref hh, .ref pp, .ref sv, .ref zs])) :: (bpW X A ++ (bpW X B ++ (hisW X hh hq E ++ (padW X pp p1 p2 ++ ((sv, .inl (jcA X 3, 2, .inr (.inr (.inr (.inr (fun j => [some (C 0), some (D 0)].getD j none)))))) :: (bpW X C ++ (bpW X D ++ [(zs, .inl (jcA X 1, 2, .inl (fun _ => 0)))])))))))
set_option maxRecDepth 100000 in
set_option maxHeartbeats 4000000 in
theorem c_X5_init {X : jX} (wsP : va_W) (h0 : Nat) : Ct X yX5_init cX5_init 2 none 4 194 10233 (fun n => n) [.ref h0] (wsP ++ [(h0, .inr (5, [.null, .null, .null, .null, .null, .null]))]) (fun v ws' => v = none ∧ ∃ l', ws' = wsP ++ l' ∧ ∃ hh hq pp p1 p2 sv zs A B C D E, l' = ppW X h0 hh hq pp p1 p2 sv zs A B C D E) := by
  refine Ct.of (own := RX5) (nm := "<init>") (by decide +kernel) rfl rfl rfl rfl ?_
  refine J_aload_n dX5_init_0 rfl rfl ?_
  refine K_obj wm_X5_1 dX5_init_1 rfl rfl ?_
  refine J_aload_n dX5_init_4 rfl rfl ?_
  refine K_new (T := TX0) (ci := 0) (N := 6) rfl inTX0 tyX0 tyX0_ok wc_X5_7 wi_X0 wt_X0 [.null, .null, .null, .int 0, .int 0, .int 0] defs0 ⟨rfl, rfl⟩ dX5_init_5 (fun b => ?_)
  refine J_dup dX5_init_8 rfl ?_
  refine K_call wj_X5_9 (c_X0_init _ b) dX5_init_9 rfl ⟨rfl, rfl⟩ rfl (fun lb hlb => ?_)
  obtain ⟨A, hA, rfl⟩ := hlb
  refine K_putF (T := TX5) (ci := 5) (N := 6) (ty := tyX5 0) rfl inTX5 tyX5 tyX5_ok nmX5 0 rfl wf_X5_10 rfl rfl rfl (by decide +kernel) rfl rfl rfl dX5_init_12 0 rfl rfl ?_
  refine J_aload_n dX5_init_15 rfl rfl ?_
  refine K_new (T := TX0) (ci := 0) (N := 6) rfl inTX0 tyX0 tyX0_ok wc_X5_7 wi_X0 wt_X0 [.null, .null, .null, .int 0, .int 0, .int 0] defs0 ⟨rfl, rfl⟩ dX5_init_16 (fun t => ?_)
  refine J_dup dX5_init_19 rfl ?_
  refine K_call wj_X5_9 (c_X0_init _ t) dX5_init_20 rfl ⟨rfl, rfl⟩ rfl (fun lt hlt => ?_)
  obtain ⟨B, hB, rfl⟩ := hlt
  refine K_putF (T := TX5) (ci := 5) (N := 6) (ty := tyX5 1) rfl inTX5 tyX5 tyX5_ok nmX5 1 rfl wf_X5_16 rfl rfl rfl (by decide +kernel) rfl rfl rfl dX5_init_23 0 rfl rfl ?_
  refine J_aload_n dX5_init_26 rfl rfl ?_
  refine K_new (T := TX3) (ci := 3) (N := 3) rfl inTX3 tyX3 tyX3_ok wc_X5_19 wi_X3 wt_X3 [.null, .int 0, .int 0] defs3 ⟨rfl, rfl⟩ dX5_init_27 (fun hh => ?_)
  refine J_dup dX5_init_30 rfl ?_
  refine K_call wj_X5_21 (c_X3_init _ hh) dX5_init_31 rfl ⟨rfl, rfl⟩ rfl (fun lhh hlhh => ?_)
  obtain ⟨hq, E, rfl⟩ := hlhh
  refine K_putF (T := TX5) (ci := 5) (N := 6) (ty := tyX5 2) rfl inTX5 tyX5 tyX5_ok nmX5 2 rfl wf_X5_22 rfl rfl rfl (by decide +kernel) rfl rfl rfl dX5_init_34 0 rfl rfl ?_
  refine J_aload_n dX5_init_37 rfl rfl ?_
  refine K_new (T := TX4) (ci := 4) (N := 5) rfl inTX4 tyX4 tyX4_ok wc_X5_26 wi_X4 wt_X4 [.null, .int 0, .int 0, .int 0, .null] defs4 ⟨rfl, rfl⟩ dX5_init_38 (fun pp => ?_)
  refine J_dup dX5_init_41 rfl ?_
  refine K_call wj_X5_28 (c_X4_init _ pp) dX5_init_42 rfl ⟨rfl, rfl⟩ rfl (fun lpp hlpp => ?_)
  obtain ⟨p1, p2, rfl⟩ := hlpp
  refine K_putF (T := TX5) (ci := 5) (N := 6) (ty := tyX5 3) rfl inTX5 tyX5 tyX5_ok nmX5 3 rfl wf_X5_29 rfl rfl rfl (by decide +kernel) rfl rfl rfl dX5_init_45 0 rfl rfl ?_
  obtain ⟨T, hT⟩ : ∃ T : va_W, T = bpW X A ++ (bpW X B ++ (hisW X hh hq E ++ padW X pp p1 p2)) := ⟨_, rfl⟩
  refine J_ws (ws' := wsP ++ ((h0, .inr (5, [.ref b, .ref t, .ref hh, .ref pp, .null, .null])) :: T)) (by rw [hT]; simp only [List.cons_append, List.nil_append, List.append_assoc, List.set_cons_succ, List.set_cons_zero, List.append_nil]) ?_
  refine J_aload_n dX5_init_48 rfl rfl ?_
  refine J_iconst (v := 2) dX5_init_49 (by decide) ?_
  refine K_newq3 2 wc_X5_7 (by decide) (by decide) rfl ⟨rfl, rfl⟩ dX5_init_50 (fun sv => ?_)
  refine K_putF (T := TX5) (ci := 5) (N := 6) (ty := tyX5 4) rfl inTX5 tyX5 tyX5_ok nmX5 4 rfl wf_X5_33 rfl rfl rfl (by decide +kernel) rfl rfl rfl dX5_init_53 0 rfl rfl ?_
  refine J_ws (ws' := wsP ++ ((h0, .inr (5, [.ref b, .ref t, .ref hh, .ref pp, .ref sv, .null])) :: (T ++ [(sv, .inl (jcA X 3, 2, .inr (.inr (.inr (.inr (fun _ => none))))))]))) (by simp only [List.cons_append, List.nil_append, List.append_assoc, List.set_cons_succ, List.set_cons_zero, List.append_nil]) ?_
  refine J_iconst (v := 0) dX5_init_56 (by decide) ?_
  refine J_istore_n dX5_init_57 rfl rfl rfl ?_
  refine J_iload_n dX5_init_58 rfl rfl ?_
  refine J_iconst (v := 2) dX5_init_59 (by decide) ?_
  refine J_icmp_ge (tgt := 82) dX5_init_60 (by decide) (fun h => absurd h (by decide)) (fun _ => ?_)
  refine J_aload_n dX5_init_63 rfl rfl ?_
  refine K_get (T := TX5) (ci := 5) (N := 6) rfl inTX5 4 rfl wf_X5_33 dX5_init_64 0 rfl rfl rfl ?_
  refine J_iload_n dX5_init_67 rfl rfl ?_
  refine K_new (T := TX0) (ci := 0) (N := 6) rfl inTX0 tyX0 tyX0_ok wc_X5_7 wi_X0 wt_X0 [.null, .null, .null, .int 0, .int 0, .int 0] defs0 ⟨rfl, rfl⟩ dX5_init_68 (fun s0 => ?_)
  refine J_dup dX5_init_71 rfl ?_
  refine K_call wj_X5_9 (c_X0_init _ s0) dX5_init_72 rfl ⟨rfl, rfl⟩ rfl (fun m0 hm0 => ?_)
  obtain ⟨C, hC, rfl⟩ := hm0
  refine J_ws (ws' := wsP ++ ((h0, .inr (5, [.ref b, .ref t, .ref hh, .ref pp, .ref sv, .null])) :: (T ++ (sv, .inl (jcA X 3, 2, .inr (.inr (.inr (.inr (fun _ => none)))))) :: (bpW X C)))) (by simp only [List.cons_append, List.nil_append, List.append_assoc, List.set_cons_succ, List.set_cons_zero, List.append_nil]) ?_
  rw [← hC]
  have he0 : ((h0, .inr (5, [.ref b, .ref t, .ref hh, .ref pp, .ref sv, .null])) :: (T ++ (sv, .inl (jcA X 3, 2, .inr (.inr (.inr (.inr (fun _ => none)))))) :: (bpW X C)) : va_W)[T.length + 1]? = some (sv, .inl (jcA X 3, 2, .inr (.inr (.inr (.inr (fun _ => none)))))) := by rw [List.getElem?_cons_succ]; exact at_T _ _ _
  have hv0 : ((h0, .inr (5, [.ref b, .ref t, .ref hh, .ref pp, .ref sv, .null])) :: (T ++ (sv, .inl (jcA X 3, 2, .inr (.inr (.inr (.inr (fun _ => none)))))) :: (bpW X C)) : va_W)[(T ++ [(sv, .inl (jcA X 3, 2, .inr (.inr (.inr (.inr (fun _ => none))))))] : va_W).length + 0 + 1]? = some (C 0, .inr (0, [.ref (C 1), .ref (C 2), .ref (C 11), .int 0, .int 0, .int 0])) := by
    rw [List.getElem?_cons_succ, show (T ++ (sv, .inl (jcA X 3, 2, .inr (.inr (.inr (.inr (fun _ => none)))))) :: (bpW X C) : va_W) = (T ++ [(sv, .inl (jcA X 3, 2, .inr (.inr (.inr (.inr (fun _ => none))))))] : va_W) ++ (bpW X C) from by simp only [List.cons_append, List.nil_append, List.append_assoc, List.set_cons_succ, List.set_cons_zero, List.append_nil], List.getElem?_append_right (by omega), Nat.sub_self]
    rfl
  refine K_aast3 0 (by decide) dX5_init_75 (T.length + 1) _ he0 hv0 (blt_in (k := 0) (by decide) (by decide) rfl) ?_
  refine J_iinc (v := 1) dX5_init_76 rfl (by decide) rfl rfl ?_
  refine J_goto (tgt := 58) dX5_init_79 (by decide) ?_
  refine J_ws (ws' := wsP ++ ((h0, .inr (5, [.ref b, .ref t, .ref hh, .ref pp, .ref sv, .null])) :: (T ++ (sv, .inl (jcA X 3, 2, .inr (.inr (.inr (.inr (va_up (fun _ => none) 0 (some (C 0)))))))) :: (bpW X C)))) (by rw [List.set_cons_succ, set_T]) ?_
  refine J_iload_n dX5_init_58 rfl rfl ?_
  refine J_iconst (v := 2) dX5_init_59 (by decide) ?_
  refine J_icmp_ge (tgt := 82) dX5_init_60 (by decide) (fun h => absurd h (by decide)) (fun _ => ?_)
  refine J_aload_n dX5_init_63 rfl rfl ?_
  refine K_get (T := TX5) (ci := 5) (N := 6) rfl inTX5 4 rfl wf_X5_33 dX5_init_64 0 rfl rfl rfl ?_
  refine J_iload_n dX5_init_67 rfl rfl ?_
  refine K_new (T := TX0) (ci := 0) (N := 6) rfl inTX0 tyX0 tyX0_ok wc_X5_7 wi_X0 wt_X0 [.null, .null, .null, .int 0, .int 0, .int 0] defs0 ⟨rfl, rfl⟩ dX5_init_68 (fun s1 => ?_)
  refine J_dup dX5_init_71 rfl ?_
  refine K_call wj_X5_9 (c_X0_init _ s1) dX5_init_72 rfl ⟨rfl, rfl⟩ rfl (fun m1 hm1 => ?_)
  obtain ⟨D, hD, rfl⟩ := hm1
  refine J_ws (ws' := wsP ++ ((h0, .inr (5, [.ref b, .ref t, .ref hh, .ref pp, .ref sv, .null])) :: (T ++ (sv, .inl (jcA X 3, 2, .inr (.inr (.inr (.inr (va_up (fun _ => none) 0 (some (C 0)))))))) :: (bpW X C ++ bpW X D)))) (by simp only [List.cons_append, List.nil_append, List.append_assoc, List.set_cons_succ, List.set_cons_zero, List.append_nil]) ?_
  rw [← hD]
  have he1 : ((h0, .inr (5, [.ref b, .ref t, .ref hh, .ref pp, .ref sv, .null])) :: (T ++ (sv, .inl (jcA X 3, 2, .inr (.inr (.inr (.inr (va_up (fun _ => none) 0 (some (C 0)))))))) :: (bpW X C ++ bpW X D)) : va_W)[T.length + 1]? = some (sv, .inl (jcA X 3, 2, .inr (.inr (.inr (.inr (va_up (fun _ => none) 0 (some (C 0)))))))) := by rw [List.getElem?_cons_succ]; exact at_T _ _ _
  have hv1 : ((h0, .inr (5, [.ref b, .ref t, .ref hh, .ref pp, .ref sv, .null])) :: (T ++ (sv, .inl (jcA X 3, 2, .inr (.inr (.inr (.inr (va_up (fun _ => none) 0 (some (C 0)))))))) :: (bpW X C ++ bpW X D)) : va_W)[(T ++ [(sv, .inl (jcA X 3, 2, .inr (.inr (.inr (.inr (va_up (fun _ => none) 0 (some (C 0))))))))] : va_W).length + 17 + 1]? = some (D 0, .inr (0, [.ref (D 1), .ref (D 2), .ref (D 11), .int 0, .int 0, .int 0])) := by
    rw [List.getElem?_cons_succ, show (T ++ (sv, .inl (jcA X 3, 2, .inr (.inr (.inr (.inr (va_up (fun _ => none) 0 (some (C 0)))))))) :: (bpW X C ++ bpW X D) : va_W) = (T ++ [(sv, .inl (jcA X 3, 2, .inr (.inr (.inr (.inr (va_up (fun _ => none) 0 (some (C 0))))))))] : va_W) ++ (bpW X C ++ bpW X D) from by simp only [List.cons_append, List.nil_append, List.append_assoc, List.set_cons_succ, List.set_cons_zero, List.append_nil], List.getElem?_append_right (by omega), Nat.add_sub_cancel_left]
    rfl
  refine K_aast3 1 (by decide) dX5_init_75 (T.length + 1) _ he1 hv1 (blt_in (k := 1) (by decide) (by decide) rfl) ?_
  refine J_iinc (v := 2) dX5_init_76 rfl (by decide) rfl rfl ?_
  refine J_goto (tgt := 58) dX5_init_79 (by decide) ?_
  refine J_ws (ws' := wsP ++ ((h0, .inr (5, [.ref b, .ref t, .ref hh, .ref pp, .ref sv, .null])) :: (T ++ (sv, .inl (jcA X 3, 2, .inr (.inr (.inr (.inr (va_up (va_up (fun _ => none) 0 (some (C 0))) 1 (some (D 0)))))))) :: (bpW X C ++ bpW X D)))) (by rw [List.set_cons_succ, set_T]) ?_
  refine J_iload_n dX5_init_58 rfl rfl ?_
  refine J_iconst (v := 2) dX5_init_59 (by decide) ?_
  refine J_icmp_ge (tgt := 82) dX5_init_60 (by decide) (fun _ => ?_) (fun h => absurd (by decide) h)
  refine J_aload_n dX5_init_82 rfl rfl ?_
  refine J_iconst (v := 2) dX5_init_83 (by decide) ?_
  refine K_newz 2 (by decide) (by decide) rfl ⟨rfl, rfl⟩ dX5_init_84 (fun zs => ?_)
  refine K_putF (T := TX5) (ci := 5) (N := 6) (ty := tyX5 5) rfl inTX5 tyX5 tyX5_ok nmX5 5 rfl wf_X5_37 rfl rfl rfl (by decide +kernel) rfl rfl rfl dX5_init_86 0 rfl rfl ?_
  refine J_return dX5_init_89 rfl rfl ?_
  refine ⟨rfl, _, rfl, hh, hq, pp, p1, p2, sv, zs, A, B, C, D, E, ?_⟩
  have e : (fun j => [some (C 0), some (D 0)].getD j none) = (va_up (va_up (fun _ => none) 0 (some (C 0))) 1 (some (D 0))) := by
    funext j
    match j with
    | 0 => rfl
    | 1 => rfl
    | j + 2 => simp [va_up]
  unfold ppW
  rw [e, hA, hB, hT]
  simp only [List.cons_append, List.nil_append, List.append_assoc, List.set_cons_succ, List.set_cons_zero, List.append_nil]
end
section
/-- the cells' addresses -/
def adW (X : jX) (h0 hh hq pp p1 p2 sv zs m0 m1 m2 m3 m4 m5 : Nat) (A B C D : Nat → Nat) (E : Nat → Nat → Nat) (c : Nat) : Nat := match c with
  | 0 => h0
  | k + 1 => if k < 187 then (match k / 17 with
      | 0 => A (k % 17)
      | 1 => B (k % 17)
      | 9 => C (k % 17)
      | 10 => D (k % 17)
      | j + 2 => E j (k % 17))
    else if k < 200 then (match k - 187 with
      | 0 => hh
      | 1 => hq
      | 2 => pp
      | 3 => p1
      | 4 => p2
      | 5 => sv
      | 6 => zs
      | 7 => m0
      | 8 => m1
      | 9 => m2
      | 10 => m3
      | 11 => m4
      | _ => m5)
    else if k = 4999 then jb X else jx X (k - 999)
/-- the memory behind the constructors -/
def mem0 : Mem := fun c => match c with
  | 0 => fun _ => 0
  | k + 1 => if k < 187 then (match k % 17 with
      | 1 => fun j => [1, 20, 3, 2, 120].getD j 0
      | 11 => fun j => match j with
        | 7 => -6
        | _ => 0
      | _ => fun _ => 0)
    else if k = 195 then s0 else fun _ => 0
def posW : List Nat := [0, 1, 2, 3, 4, 5, 6, 7, 8, 9, 10, 11, 12, 13, 14, 15, 16, 17, 18, 19, 20, 21, 22, 23, 24, 25, 26, 27, 28, 29, 30, 31, 32, 33, 34, 37, 38, 39, 40, 41, 42, 43, 44, 45, 46, 47, 48, 49, 50, 51, 52, 53, 54, 55, 56, 57, 58, 59, 60, 61, 62, 63, 64, 65, 66, 67, 68, 69, 70, 71, 72, 73, 74, 75, 76, 77, 78, 79, 80, 81, 82, 83, 84, 85, 86, 87, 88, 89, 90, 91, 92, 93, 94, 95, 96, 97, 98, 99, 100, 101, 102, 103, 104, 105, 106, 107, 108, 109, 110, 111, 112, 113, 114, 115, 116, 117, 118, 119, 120, 121, 122, 123, 124, 125, 126, 127, 128, 129, 130, 131, 132, 133, 134, 135, 136, 137, 138, 139, 140, 141, 142, 143, 144, 145, 146, 147, 148, 149, 150, 151, 152, 153, 154, 155, 160, 161, 162, 163, 164, 165, 166, 167, 168, 169, 170, 171, 172, 173, 174, 175, 176, 177, 178, 179, 180, 181, 182, 183, 184, 185, 186, 187, 188, 189, 190, 191, 192, 193, 35, 36, 156, 157, 158, 159, 194, 195, 196, 197, 198, 199, 200]
set_option maxRecDepth 1000000 in
set_option maxHeartbeats 40000000 in
theorem asm_eq (X : jX) (h0 hh hq pp p1 p2 sv zs m0 m1 m2 m3 m4 m5 : Nat) (A B C D : Nat → Nat) (E : Nat → Nat → Nat) :
    posW.map (fun i => (ppW X h0 hh hq pp p1 p2 sv zs A B C D E ++ modW X m0 m1 m2 m3 m4 m5)[i]?) = (WS X (adW X h0 hh hq pp p1 p2 sv zs m0 m1 m2 m3 m4 m5 A B C D E) mem0).map some := by
  rfl
theorem asm_P {X : jX} {H : Heap} {h0 hh hq pp p1 p2 sv zs m0 m1 m2 m3 m4 m5 : Nat} {A B C D : Nat → Nat} {E : Nat → Nat → Nat} (h : va_P (jD X) vwCl (ppW X h0 hh hq pp p1 p2 sv zs A B C D E ++ modW X m0 m1 m2 m3 m4 m5) H) : va_P (jD X) vwCl (WS X (adW X h0 hh hq pp p1 p2 sv zs m0 m1 m2 m3 m4 m5 A B C D E) mem0) H := by
  have e := asm_eq X h0 hh hq pp p1 p2 sv zs m0 m1 m2 m3 m4 m5 A B C D E
  intro k q hk
  have h1 : (posW.map (fun i => (ppW X h0 hh hq pp p1 p2 sv zs A B C D E ++ modW X m0 m1 m2 m3 m4 m5)[i]?))[k]? = some (some q) := by rw [e, List.getElem?_map, hk]; rfl
  rw [List.getElem?_map] at h1
  cases hi : posW[k]? with
  | none => rw [hi] at h1; cases h1
  | some i => rw [hi] at h1; exact h i q (Option.some.inj h1)
theorem asm_D {X : jX} {h0 hh hq pp p1 p2 sv zs m0 m1 m2 m3 m4 m5 : Nat} {A B C D : Nat → Nat} {E : Nat → Nat → Nat} (h : va_D (jA X) (ppW X h0 hh hq pp p1 p2 sv zs A B C D E ++ modW X m0 m1 m2 m3 m4 m5)) : va_D (jA X) (WS X (adW X h0 hh hq pp p1 p2 sv zs m0 m1 m2 m3 m4 m5 A B C D E) mem0) :=
  h.sub posW (by decide +kernel) (asm_eq X h0 hh hq pp p1 p2 sv zs m0 m1 m2 m3 m4 m5 A B C D E)
end
section
theorem len_small {args : Array Value} {s : State} {t : Term} {a : Nat} {cell : Cell} {v : Value} (ht : t.eval args s none [] s = some (.ref a)) (harr : s.arrayAt? a = some cell) (hv : (Term.length t).eval args s none [] s = some v) : cell.slots.size < 2 ^ 31 := by
  simp only [Term.eval, ht, harr, Option.bind_eq_bind, Option.bind_some] at hv
  by_cases hlt : cell.slots.size < 2147483648
  · exact hlt
  · simp [hlt] at hv
set_option maxRecDepth 100000 in
set_option maxHeartbeats 4000000 in
theorem jE_start {s : State} {args : Array Value} {b L : Nat} {xs : Nat → Int32} (l : Launch) (hts : ∀ w ∈ lw_tbl, w.before args s = true) (hX : va_X b L xs s s.heap) (hbl : b < s.heap.size) (hgv : (Jvm.Cond.and given_1 narrow_1).before args s = true) :
    ∃ (D : va_G) (cA : Nat → ClassId) (x : Nat → Nat), jE (l, D, cA, x, s.heap.size, b, L, xs) s s.heap := by
  have hs := flat_of_before _ hgv
  have htw : ∀ w ∈ TW, w.before args s = true := fun w h => hts w (List.mem_filter.mp h).1
  have hA : ∀ a : Nat, a < s.heap.size → ¬ (fun q : Nat => s.heap.size ≤ q) a := fun a h => Nat.not_le.mpr h
  obtain ⟨c0, i0, hK0⟩ := u_known (C := RX0) (T := TX0) (N := 6) (n := 6) htw inTX0 (htw _ wi_X0)
  obtain ⟨c1, i1, hK1⟩ := u_known (C := RX1) (T := TX1) (N := 10) (n := 10) htw inTX1 (htw _ wi_X1)
  obtain ⟨c2, i2, hK2⟩ := u_known (C := RX2) (T := TX2) (N := 12) (n := 12) htw inTX2 (htw _ wi_X2)
  obtain ⟨c3, i3, hK3⟩ := u_known (C := RX3) (T := TX3) (N := 3) (n := 3) htw inTX3 (htw _ wi_X3)
  obtain ⟨c4, i4, hK4⟩ := u_known (C := RX4) (T := TX4) (N := 5) (n := 5) htw inTX4 (htw _ wi_X4)
  obtain ⟨c5, i5, hK5⟩ := u_known (C := RX5) (T := TX5) (N := 6) (n := 6) htw inTX5 (htw _ wi_X5)
  obtain ⟨c6, i6, hK6⟩ := u_known (C := RX6) (T := TX6) (N := 14) (n := 14) htw inTX6 (htw _ wi_X6)
  obtain ⟨D, hKc⟩ : ∃ D : va_G, ∀ (k : Nat) (q : vw_C), vwCl[k]? = some q → u_Kn s q.1 q.2.1 q.2.2 (D.1 k) (D.2 k) := by
    refine ⟨(fun k => [c0, c1, c2, c3, c4, c5, c6].getD k c0, fun k => [i0, i1, i2, i3, i4, i5, i6].getD k i0), ?_⟩
    intro k q hq
    match k, hq with
    | 0, hq => cases hq; exact hK0
    | 1, hq => cases hq; exact hK1
    | 2, hq => cases hq; exact hK2
    | 3, hq => cases hq; exact hK3
    | 4, hq => cases hq; exact hK4
    | 5, hq => cases hq; exact hK5
    | 6, hq => cases hq; exact hK6
    | k + 7, hq => simp [vwCl] at hq
  obtain ⟨a0, k0, p0, f0, g0, e0⟩ := Cond.arrayClass_spec (show (Cond.arrayClass .int).holds args s none s [] = true from (hts _ (List.mem_of_getElem? (i := 140) (by decide +kernel))))
  have hA0 : ArrOfT s a0 .int := fun n z => ⟨fun k h => (by cases h), k0, g0, p0, e0⟩
  obtain ⟨a1, k1, p1, f1, g1, e1⟩ := Cond.arrayClass_spec (show (Cond.arrayClass .boolean).holds args s none s [] = true from (hts _ (List.mem_of_getElem? (i := 280) (by decide +kernel))))
  have hA1 : ArrOfT s a1 .boolean := fun n z => ⟨fun k h => (by cases h), k1, g1, p1, e1⟩
  have ho2 : (Cond.arrayOver (.object RX1)).before args s = true := (hts _ (List.mem_of_getElem? (i := 92) (by decide +kernel)))
  obtain ⟨p2, a2, k2, f2, -, g2, e2, n2⟩ := Cond.arrayOver_spec (n := RX1) (show (Cond.arrayOver (.object RX1)).holds args s none s [] = true from ho2)
  have hA2 : ArrOfT s a2 (.object RX1) := fun n z => ⟨fun k h => (by cases h), k2, g2, p2, e2⟩
  have ho3 : (Cond.arrayOver (.object RX0)).before args s = true := (hts _ (List.mem_of_getElem? (i := 223) (by decide +kernel)))
  obtain ⟨p3, a3, k3, f3, -, g3, e3, n3⟩ := Cond.arrayOver_spec (n := RX0) (show (Cond.arrayOver (.object RX0)).holds args s none s [] = true from ho3)
  have hA3 : ArrOfT s a3 (.object RX0) := fun n z => ⟨fun k h => (by cases h), k3, g3, p3, e3⟩
  obtain ⟨t0, u0, hT0⟩ := va_Tof (args := args) (s := s) (tm := (Term.static "PlugPins" "FIRST_SETTINGS" "[I")) (ty := .int) (N := 5) (f := fun j => .int (([1, 20, 3, 2, 120] : List Int32).getD j 0)) (A := fun q : Nat => s.heap.size ≤ q) (by decide) (hs _ (by decide +kernel)) (va_eqt (hs (Cond.eq (.length (Term.static "PlugPins" "FIRST_SETTINGS" "[I")) (.int 5)) (by decide +kernel))) (fun j hj => by
      match j, hj with
      | 0, _ => exact va_eqt (hs (Cond.eq (.elem (Term.static "PlugPins" "FIRST_SETTINGS" "[I") (.int 0)) (.int 1)) (by decide +kernel))
      | 1, _ => exact va_eqt (hs (Cond.eq (.elem (Term.static "PlugPins" "FIRST_SETTINGS" "[I") (.int 1)) (.int 20)) (by decide +kernel))
      | 2, _ => exact va_eqt (hs (Cond.eq (.elem (Term.static "PlugPins" "FIRST_SETTINGS" "[I") (.int 2)) (.int 3)) (by decide +kernel))
      | 3, _ => exact va_eqt (hs (Cond.eq (.elem (Term.static "PlugPins" "FIRST_SETTINGS" "[I") (.int 3)) (.int 2)) (by decide +kernel))
      | 4, _ => exact va_eqt (hs (Cond.eq (.elem (Term.static "PlugPins" "FIRST_SETTINGS" "[I") (.int 4)) (.int 120)) (by decide +kernel))) hA
  have hZ0 := va_Zof (A := fun q : Nat => s.heap.size ≤ q) (hts _ (List.mem_of_getElem? (i := 83) (by decide +kernel))) (hts _ (List.mem_of_getElem? (i := 55) (by decide +kernel))) u0 hA
  obtain ⟨t1, u1, hT1⟩ := va_Tof (args := args) (s := s) (tm := (Term.static "PlugPins" "LOWEST_SETTINGS" "[I")) (ty := .int) (N := 5) (f := fun j => .int (([0, 1, 1, 1, 10] : List Int32).getD j 0)) (A := fun q : Nat => s.heap.size ≤ q) (by decide) (hs _ (by decide +kernel)) (va_eqt (hs (Cond.eq (.length (Term.static "PlugPins" "LOWEST_SETTINGS" "[I")) (.int 5)) (by decide +kernel))) (fun j hj => by
      match j, hj with
      | 0, _ => exact va_eqt (hs (Cond.eq (.elem (Term.static "PlugPins" "LOWEST_SETTINGS" "[I") (.int 0)) (.int 0)) (by decide +kernel))
      | 1, _ => exact va_eqt (hs (Cond.eq (.elem (Term.static "PlugPins" "LOWEST_SETTINGS" "[I") (.int 1)) (.int 1)) (by decide +kernel))
      | 2, _ => exact va_eqt (hs (Cond.eq (.elem (Term.static "PlugPins" "LOWEST_SETTINGS" "[I") (.int 2)) (.int 1)) (by decide +kernel))
      | 3, _ => exact va_eqt (hs (Cond.eq (.elem (Term.static "PlugPins" "LOWEST_SETTINGS" "[I") (.int 3)) (.int 1)) (by decide +kernel))
      | 4, _ => exact va_eqt (hs (Cond.eq (.elem (Term.static "PlugPins" "LOWEST_SETTINGS" "[I") (.int 4)) (.int 10)) (by decide +kernel))) hA
  have hZ1 := va_Zof (A := fun q : Nat => s.heap.size ≤ q) (hts _ (List.mem_of_getElem? (i := 320) (by decide +kernel))) (hts _ (List.mem_of_getElem? (i := 55) (by decide +kernel))) u1 hA
  obtain ⟨t2, u2, hT2⟩ := va_Tof (args := args) (s := s) (tm := (Term.static "PlugPins" "HIGHEST_SETTINGS" "[I")) (ty := .int) (N := 5) (f := fun j => .int (([1, 50, 9, 9, 300] : List Int32).getD j 0)) (A := fun q : Nat => s.heap.size ≤ q) (by decide) (hs _ (by decide +kernel)) (va_eqt (hs (Cond.eq (.length (Term.static "PlugPins" "HIGHEST_SETTINGS" "[I")) (.int 5)) (by decide +kernel))) (fun j hj => by
      match j, hj with
      | 0, _ => exact va_eqt (hs (Cond.eq (.elem (Term.static "PlugPins" "HIGHEST_SETTINGS" "[I") (.int 0)) (.int 1)) (by decide +kernel))
      | 1, _ => exact va_eqt (hs (Cond.eq (.elem (Term.static "PlugPins" "HIGHEST_SETTINGS" "[I") (.int 1)) (.int 50)) (by decide +kernel))
      | 2, _ => exact va_eqt (hs (Cond.eq (.elem (Term.static "PlugPins" "HIGHEST_SETTINGS" "[I") (.int 2)) (.int 9)) (by decide +kernel))
      | 3, _ => exact va_eqt (hs (Cond.eq (.elem (Term.static "PlugPins" "HIGHEST_SETTINGS" "[I") (.int 3)) (.int 9)) (by decide +kernel))
      | 4, _ => exact va_eqt (hs (Cond.eq (.elem (Term.static "PlugPins" "HIGHEST_SETTINGS" "[I") (.int 4)) (.int 300)) (by decide +kernel))) hA
  have hZ2 := va_Zof (A := fun q : Nat => s.heap.size ≤ q) (hts _ (List.mem_of_getElem? (i := 322) (by decide +kernel))) (hts _ (List.mem_of_getElem? (i := 55) (by decide +kernel))) u2 hA
  have hZC := va_Zof (A := fun q : Nat => s.heap.size ≤ q) (hts _ (List.mem_of_getElem? (i := 676) (by decide +kernel))) (hts _ (List.mem_of_getElem? (i := 64) (by decide +kernel))) (va_eqi (hs (Cond.eq (.static "java/lang/String" "COMPACT_STRINGS" "Z") (.int 1)) (by decide +kernel))) hA
  have hZq := va_Zqof (C := "jdk/internal/util/Preconditions") (n := "SIOOBE_FORMATTER") (d := "Ljava/util/function/BiFunction;") (A := fun q : Nat => s.heap.size ≤ q) (hts _ (List.mem_of_getElem? (i := 692) (by decide +kernel))) (hts _ (List.mem_of_getElem? (i := 66) (by decide +kernel))) (hs _ (by decide +kernel)) hA
  obtain ⟨tf, hZf⟩ : ∃ tf : Nat, va_Z "jdk/internal/util/Preconditions" "SIOOBE_FORMATTER" "Ljava/util/function/BiFunction;" .null (fun q : Nat => s.heap.size ≤ q) s s.heap ∨ va_Z "jdk/internal/util/Preconditions" "SIOOBE_FORMATTER" "Ljava/util/function/BiFunction;" (.ref tf) (fun q : Nat => s.heap.size ≤ q) s s.heap := by
    rcases hZq with h | ⟨t, h⟩
    · exact ⟨0, Or.inl h⟩
    · exact ⟨t, Or.inr h⟩
  obtain ⟨adK, adV, hSt, hev⟩ := vk_Sof (args := args) (s := s) (N := 7) (tm := fun i => .string RX4 (77 + 2 * i)) (len := jLen) (byt := jByt) (A := fun q : Nat => s.heap.size ≤ q) (fun i hi => by
      match i, hi with
      | 0, _ => decide
      | 1, _ => decide
      | 2, _ => decide
      | 3, _ => decide
      | 4, _ => decide
      | 5, _ => decide
      | 6, _ => decide) (fun i hi => by
      match i, hi with
      | 0, _ => exact hs _ (by decide +kernel)
      | 1, _ => exact hs _ (by decide +kernel)
      | 2, _ => exact hs _ (by decide +kernel)
      | 3, _ => exact hs _ (by decide +kernel)
      | 4, _ => exact hs _ (by decide +kernel)
      | 5, _ => exact hs _ (by decide +kernel)
      | 6, _ => exact hs _ (by decide +kernel)) (fun i hi => by
      match i, hi with
      | 0, _ => exact hs _ (by decide +kernel)
      | 1, _ => exact hs _ (by decide +kernel)
      | 2, _ => exact hs _ (by decide +kernel)
      | 3, _ => exact hs _ (by decide +kernel)
      | 4, _ => exact hs _ (by decide +kernel)
      | 5, _ => exact hs _ (by decide +kernel)
      | 6, _ => exact hs _ (by decide +kernel)) (fun i hi => by
      match i, hi with
      | 0, _ => exact hs _ (by decide +kernel)
      | 1, _ => exact hs _ (by decide +kernel)
      | 2, _ => exact hs _ (by decide +kernel)
      | 3, _ => exact hs _ (by decide +kernel)
      | 4, _ => exact hs _ (by decide +kernel)
      | 5, _ => exact hs _ (by decide +kernel)
      | 6, _ => exact hs _ (by decide +kernel)) (fun i hi => by
      match i, hi with
      | 0, _ => exact hs _ (by decide +kernel)
      | 1, _ => exact hs _ (by decide +kernel)
      | 2, _ => exact hs _ (by decide +kernel)
      | 3, _ => exact hs _ (by decide +kernel)
      | 4, _ => exact hs _ (by decide +kernel)
      | 5, _ => exact hs _ (by decide +kernel)
      | 6, _ => exact hs _ (by decide +kernel)) (fun i hi j hj => by
      match i, hi, j, hj with
      | 0, _, 0, _ => exact hs _ (by decide +kernel)
      | 0, _, 1, _ => exact hs _ (by decide +kernel)
      | 0, _, 2, _ => exact hs _ (by decide +kernel)
      | 1, _, 0, _ => exact hs _ (by decide +kernel)
      | 1, _, 1, _ => exact hs _ (by decide +kernel)
      | 1, _, 2, _ => exact hs _ (by decide +kernel)
      | 1, _, 3, _ => exact hs _ (by decide +kernel)
      | 1, _, 4, _ => exact hs _ (by decide +kernel)
      | 2, _, 0, _ => exact hs _ (by decide +kernel)
      | 2, _, 1, _ => exact hs _ (by decide +kernel)
      | 2, _, 2, _ => exact hs _ (by decide +kernel)
      | 3, _, 0, _ => exact hs _ (by decide +kernel)
      | 4, _, 0, _ => exact hs _ (by decide +kernel)
      | 4, _, 1, _ => exact hs _ (by decide +kernel)
      | 5, _, 0, _ => exact hs _ (by decide +kernel)
      | 6, _, j, hj => exact absurd hj (Nat.not_lt_zero j)) (fun i j hi hj hij => by
      match i, hi, j, hj, hij with
      | 0, _, 0, _, h => exact absurd rfl h
      | 0, _, 1, _, _ => exact Or.inl (hs _ (by decide +kernel))
      | 0, _, 2, _, _ => exact Or.inl (hs _ (by decide +kernel))
      | 0, _, 3, _, _ => exact Or.inl (hs _ (by decide +kernel))
      | 0, _, 4, _, _ => exact Or.inl (hs _ (by decide +kernel))
      | 0, _, 5, _, _ => exact Or.inl (hs _ (by decide +kernel))
      | 0, _, 6, _, _ => exact Or.inl (hs _ (by decide +kernel))
      | 1, _, 0, _, _ => exact Or.inr (hs _ (by decide +kernel))
      | 1, _, 1, _, h => exact absurd rfl h
      | 1, _, 2, _, _ => exact Or.inl (hs _ (by decide +kernel))
      | 1, _, 3, _, _ => exact Or.inl (hs _ (by decide +kernel))
      | 1, _, 4, _, _ => exact Or.inl (hs _ (by decide +kernel))
      | 1, _, 5, _, _ => exact Or.inl (hs _ (by decide +kernel))
      | 1, _, 6, _, _ => exact Or.inl (hs _ (by decide +kernel))
      | 2, _, 0, _, _ => exact Or.inr (hs _ (by decide +kernel))
      | 2, _, 1, _, _ => exact Or.inr (hs _ (by decide +kernel))
      | 2, _, 2, _, h => exact absurd rfl h
      | 2, _, 3, _, _ => exact Or.inl (hs _ (by decide +kernel))
      | 2, _, 4, _, _ => exact Or.inl (hs _ (by decide +kernel))
      | 2, _, 5, _, _ => exact Or.inl (hs _ (by decide +kernel))
      | 2, _, 6, _, _ => exact Or.inl (hs _ (by decide +kernel))
      | 3, _, 0, _, _ => exact Or.inr (hs _ (by decide +kernel))
      | 3, _, 1, _, _ => exact Or.inr (hs _ (by decide +kernel))
      | 3, _, 2, _, _ => exact Or.inr (hs _ (by decide +kernel))
      | 3, _, 3, _, h => exact absurd rfl h
      | 3, _, 4, _, _ => exact Or.inl (hs _ (by decide +kernel))
      | 3, _, 5, _, _ => exact Or.inl (hs _ (by decide +kernel))
      | 3, _, 6, _, _ => exact Or.inl (hs _ (by decide +kernel))
      | 4, _, 0, _, _ => exact Or.inr (hs _ (by decide +kernel))
      | 4, _, 1, _, _ => exact Or.inr (hs _ (by decide +kernel))
      | 4, _, 2, _, _ => exact Or.inr (hs _ (by decide +kernel))
      | 4, _, 3, _, _ => exact Or.inr (hs _ (by decide +kernel))
      | 4, _, 4, _, h => exact absurd rfl h
      | 4, _, 5, _, _ => exact Or.inl (hs _ (by decide +kernel))
      | 4, _, 6, _, _ => exact Or.inl (hs _ (by decide +kernel))
      | 5, _, 0, _, _ => exact Or.inr (hs _ (by decide +kernel))
      | 5, _, 1, _, _ => exact Or.inr (hs _ (by decide +kernel))
      | 5, _, 2, _, _ => exact Or.inr (hs _ (by decide +kernel))
      | 5, _, 3, _, _ => exact Or.inr (hs _ (by decide +kernel))
      | 5, _, 4, _, _ => exact Or.inr (hs _ (by decide +kernel))
      | 5, _, 5, _, h => exact absurd rfl h
      | 5, _, 6, _, _ => exact Or.inl (hs _ (by decide +kernel))
      | 6, _, 0, _, _ => exact Or.inr (hs _ (by decide +kernel))
      | 6, _, 1, _, _ => exact Or.inr (hs _ (by decide +kernel))
      | 6, _, 2, _, _ => exact Or.inr (hs _ (by decide +kernel))
      | 6, _, 3, _, _ => exact Or.inr (hs _ (by decide +kernel))
      | 6, _, 4, _, _ => exact Or.inr (hs _ (by decide +kernel))
      | 6, _, 5, _, _ => exact Or.inr (hs _ (by decide +kernel))
      | 6, _, 6, _, h => exact absurd rfl h) hA
  have hRs : ∀ i, i < 7 → vk_R RX4 (77 + 2 * i) (jTx.getD i "") (adK i) s := fun i hi => by
    have h2 := hev i hi
    match i, hi, h2 with
    | 0, _, h2 => exact vk_R.of (hts _ (List.mem_of_getElem? (i := 656) (by decide +kernel))) h2
    | 1, _, h2 => exact vk_R.of (hts _ (List.mem_of_getElem? (i := 657) (by decide +kernel))) h2
    | 2, _, h2 => exact vk_R.of (hts _ (List.mem_of_getElem? (i := 658) (by decide +kernel))) h2
    | 3, _, h2 => exact vk_R.of (hts _ (List.mem_of_getElem? (i := 659) (by decide +kernel))) h2
    | 4, _, h2 => exact vk_R.of (hts _ (List.mem_of_getElem? (i := 660) (by decide +kernel))) h2
    | 5, _, h2 => exact vk_R.of (hts _ (List.mem_of_getElem? (i := 661) (by decide +kernel))) h2
    | 6, _, h2 => exact vk_R.of (hts _ (List.mem_of_getElem? (i := 662) (by decide +kernel))) h2
  have hFx : ∃ cell : Cell, s.heap[t0]? = some cell ∧ s.isArrayOf cell .int ∧ cell.vm ≠ .unknown ∧ cell.vm.isStatics = false ∧ cell.slots = #[.int 1, .int 20, .int 3, .int 2, .int 120] ∧ cell.cls = a0 ∧ ¬ s.heap.size ≤ t0 := by
    obtain ⟨a, c, cB, kB, q1, q2, q3, q4, q5, q6, -⟩ := Cond.exactly_spec (args := args) (first := s) (o := none) (s := s) (idx := []) (t := (Term.static "PlugPins" "FIRST_SETTINGS" "[I")) (cls := "[I") (hs _ (by decide +kernel))
    cases u0.symm.trans q1
    obtain ⟨cell, h1, h2, h3, h4, h5, h6, h7⟩ := hT0
    cases h1.symm.trans q3
    have hlen := va_eqt (hs (Cond.eq (.length (.static "PlugPins" "FIRST_SETTINGS" "[I")) (.int 5)) (by decide +kernel))
    obtain ⟨b1, cell1, g1, g2, -⟩ := Term.length_spec hlen
    cases u0.symm.trans g1
    have hsz : cB.slots.size = 5 := by
      have hc1 : cell1 = cB := by
        have := (State.arrayAt?_spec g2).1
        exact Option.some.inj (this.symm.trans h1)
      subst hc1
      have hlt : cell1.slots.size < 2 ^ 31 := len_small u0 g2 hlen
      have e1 : Int32.ofNat cell1.slots.size = Int32.ofNat 5 := h5
      have e2 := congrArg Int32.toNatClampNeg e1
      rw [Int32.toNatClampNeg_ofNat_of_lt hlt, Int32.toNatClampNeg_ofNat_of_lt (by decide)] at e2
      exact e2
    refine ⟨cB, h1, h2, h3, q5, ?_, ?_, h7⟩
    · apply Array.ext_getElem?
      intro j
      by_cases hj : j < 5
      · rw [h6 j hj]
        match j, hj with
        | 0, _ => rfl
        | 1, _ => rfl
        | 2, _ => rfl
        | 3, _ => rfl
        | 4, _ => rfl
      · rw [Array.getElem?_eq_none (by omega), Array.getElem?_eq_none (by simp; omega)]
    · rw [q6]
      exact Option.some.inj (q2.symm.trans f0)
  refine ⟨D, fun k => [a0, a1, a2, a3].getD k a0, fun k => if k < 10 then [t0, t1, t2, tf].getD k 0 else if k < 20 then adK (k - 10) else adV (k - 20), ?_⟩
  refine ⟨?_, ⟨hKc, ?_⟩, va_Nw.of rfl (hts _ (List.mem_of_getElem? (i := 89) (by decide +kernel))), va_AO.of ho2, va_AO.of ho3, ?_, ?_, hFx, hZf, ?_, ?_, hX, hbl⟩
  · intro w hw
    simp only [jNest, List.mem_cons, List.not_mem_nil, or_false] at hw
    rcases hw with rfl | rfl | rfl | rfl | rfl | rfl | rfl
    · exact va_Nw.of rfl (hts _ (List.mem_of_getElem? (i := 82) (by decide +kernel)))
    · exact va_Nw.of rfl (hts _ (List.mem_of_getElem? (i := 319) (by decide +kernel)))
    · exact va_Nw.of rfl (hts _ (List.mem_of_getElem? (i := 321) (by decide +kernel)))
    · exact va_Nw.of rfl (hts _ (List.mem_of_getElem? (i := 94) (by decide +kernel)))
    · exact va_Nw.of rfl (hts _ (List.mem_of_getElem? (i := 316) (by decide +kernel)))
    · exact va_Nw.of rfl (hts _ (List.mem_of_getElem? (i := 355) (by decide +kernel)))
    · exact va_Nw.of rfl (hts _ (List.mem_of_getElem? (i := 624) (by decide +kernel)))
  · intro k q hq
    match k, hq with
    | 0, hq => cases hq; exact ⟨hA0, f0⟩
    | 1, hq => cases hq; exact ⟨hA1, f1⟩
    | 2, hq => cases hq; exact ⟨hA2, k2, p2, g2, e2, f2, n2⟩
    | 3, hq => cases hq; exact ⟨hA3, k3, p3, g3, e3, f3, n3⟩
    | k + 4, hq => simp [jT] at hq
  · intro q hq
    simp only [jStat, List.mem_cons, List.not_mem_nil, or_false] at hq
    rcases hq with rfl | rfl | rfl | rfl
    · exact hZ0
    · exact hZ1
    · exact hZ2
    · exact hZC
  · intro q hq
    simp only [jArr, List.mem_cons, List.not_mem_nil, or_false] at hq
    rcases hq with rfl | rfl
    · exact hT1
    · exact hT2
  · intro i hi
    have h := hRs i hi
    have e : (if 10 + i < 10 then [t0, t1, t2, tf].getD (10 + i) 0 else if 10 + i < 20 then adK (10 + i - 10) else adV (10 + i - 20)) = adK i := by
      rw [if_neg (by omega), if_pos (by omega)]
      congr 1
      omega
    show vk_R RX4 _ _ (if 10 + i < 10 then [t0, t1, t2, tf].getD (10 + i) 0 else if 10 + i < 20 then adK (10 + i - 10) else adV (10 + i - 20)) s
    rw [e]
    exact h
  · have eK : ∀ i, i < 7 → (if 10 + i < 10 then [t0, t1, t2, tf].getD (10 + i) 0 else if 10 + i < 20 then adK (10 + i - 10) else adV (10 + i - 20)) = adK i := fun i hi => by
      rw [if_neg (by omega), if_pos (by omega)]
      congr 1
      omega
    have eV : ∀ i, i < 7 → (if 20 + i < 10 then [t0, t1, t2, tf].getD (20 + i) 0 else if 20 + i < 20 then adK (20 + i - 10) else adV (20 + i - 20)) = adV i := fun i hi => by
      rw [if_neg (by omega), if_neg (by omega)]
      congr 1
      omega
    refine ⟨fun i hi => ?_, fun i j hi hj hij => ?_⟩
    · show va_O _ (if 10 + i < 10 then [t0, t1, t2, tf].getD (10 + i) 0 else if 10 + i < 20 then adK (10 + i - 10) else adV (10 + i - 20)) _ _ _ ∧ va_OF _ _ _ _ (if 10 + i < 10 then [t0, t1, t2, tf].getD (10 + i) 0 else if 10 + i < 20 then adK (10 + i - 10) else adV (10 + i - 20)) _ _ _ ∧ va_OF _ _ _ (.ref (if 20 + i < 10 then [t0, t1, t2, tf].getD (20 + i) 0 else if 20 + i < 20 then adK (20 + i - 10) else adV (20 + i - 20))) (if 10 + i < 10 then [t0, t1, t2, tf].getD (10 + i) 0 else if 10 + i < 20 then adK (10 + i - 10) else adV (10 + i - 20)) _ _ _ ∧ va_T _ (if 20 + i < 10 then [t0, t1, t2, tf].getD (20 + i) 0 else if 20 + i < 20 then adK (20 + i - 10) else adV (20 + i - 20)) _ _ _ _ _
      rw [eK i hi, eV i hi]
      exact hSt.1 i hi
    · have hij' : (if 10 + i < 10 then [t0, t1, t2, tf].getD (10 + i) 0 else if 10 + i < 20 then adK (10 + i - 10) else adV (10 + i - 20)) = (if 10 + j < 10 then [t0, t1, t2, tf].getD (10 + j) 0 else if 10 + j < 20 then adK (10 + j - 10) else adV (10 + j - 20)) := hij
      rw [eK i hi, eK j hj] at hij'
      exact hSt.2 i j hi hj hij'
end
section
theorem up_apply (m : Mem) (c k : Nat) (v : Int32) (c' k' : Nat) : up m c k v c' k' = if c' = c ∧ k' = k then v else m c' k' := by
  unfold up upC upd
  by_cases h : c' = c
  · subst h
    by_cases h2 : k' = k <;> simp [h2]
  · simp [h]
theorem upC_apply (m : Mem) (c : Nat) (F : Nat → Int32) (c' : Nat) : upC m c F c' = if c' = c then F else m c' := rfl
theorem upC_ne {m : Mem} {c : Nat} {F : Nat → Int32} {c' : Nat} (h : c' ≠ c) : upC m c F c' = m c' := if_neg h
theorem up_ne {m : Mem} {c k : Nat} {v : Int32} {c' : Nat} (h : c' ≠ c) : up m c k v c' = m c' := if_neg h
theorem le0 {x : Int32} (h : x = 0) : x ≤ 0 := by subst h; decide
def jin (v lo hi : Int32) : Int32 := if v < lo then 0 else if hi < v then 0 else 1
theorem jin01 {v lo hi : Int32} : jin v lo hi = 0 ∨ jin v lo hi = 1 := by
  unfold jin
  split
  · exact Or.inl rfl
  · split
    · exact Or.inl rfl
    · exact Or.inr rfl
/-- a block as it is without boards, with no word: its other contents are open -/
def Fz (m : Mem) (b : Nat) : Prop := m b 3 = 0 ∧ m (b + 11) 4 = 0 ∧ m (b + 11) 6 = 0 ∧ m (b + 11) 7 = -6
/-- outside a block all is as it was -/
def Out (m m' : Mem) (b : Nat) : Prop := ∀ c, (c < b ∨ b + 17 ≤ c) → m' c = m c

set_option maxRecDepth 100000 in
set_option maxHeartbeats 4000000 in
theorem c_X5_isIn {X : jX} {ad : Nat → Nat} {mem : Mem} {v lo hi : Int32}  : Cd X yX5_isIn cX5_isIn 3 (some .boolean) 0 ad [.int v, .int lo, .int hi] mem (some (.int (jin v lo hi))) (mem) := by
  refine Cm.of (own := RX5) (nm := "isIn") (by decide +kernel) rfl rfl rfl rfl ?_
  refine J_iload_n dX5_isIn_0 rfl rfl ?_
  refine J_iload_n dX5_isIn_1 rfl rfl ?_
  refine J_icmp_lt (tgt := 14) dX5_isIn_2 (by decide) (fun h2 => ?_) (fun h2 => ?_)
  · refine J_iconst (v := 0) dX5_isIn_14 (by decide) ?_
    refine r_bool dX5_isIn_15 (by first | exact Or.inl rfl | exact Or.inr rfl | exact i01 | exact jin01) ?_
    exact ⟨by simp only [jin, *, reduceIte], rfl⟩
  · refine J_iload_n dX5_isIn_5 rfl rfl ?_
    refine J_iload_n dX5_isIn_6 rfl rfl ?_
    refine J_icmp_gt (tgt := 14) dX5_isIn_7 (by decide) (fun h7 => ?_) (fun h7 => ?_)
    · refine J_iconst (v := 0) dX5_isIn_14 (by decide) ?_
      refine r_bool dX5_isIn_15 (by first | exact Or.inl rfl | exact Or.inr rfl | exact i01 | exact jin01) ?_
      exact ⟨by simp only [jin, *, reduceIte], rfl⟩
    · refine J_iconst (v := 1) dX5_isIn_10 (by decide) ?_
      refine J_goto (tgt := 15) dX5_isIn_11 (by decide) ?_
      refine r_bool dX5_isIn_15 (by first | exact Or.inl rfl | exact Or.inr rfl | exact i01 | exact jin01) ?_
      exact ⟨by simp only [jin, *, reduceIte], rfl⟩

set_option maxRecDepth 100000 in
set_option maxHeartbeats 4000000 in
theorem c_X5_isSlot {X : jX} {ad : Nat → Nat} {mem : Mem} {v : Int32}  : Cd X yX5_isSlot cX5_isSlot 1 (some .boolean) 1 ad [.int v] mem (some (.int (jin v 0 4))) (mem) := by
  refine Cm.of (own := RX5) (nm := "isSlot") (by decide +kernel) rfl rfl rfl rfl ?_
  refine J_iload_n dX5_isSlot_0 rfl rfl ?_
  refine J_iconst (v := 0) dX5_isSlot_1 (by decide) ?_
  refine J_iconst (v := 4) dX5_isSlot_2 (by decide) ?_
  refine cSi ws_X5_146 c_X5_isIn dX5_isSlot_3 (kk := ?_)
  refine r_bool dX5_isSlot_6 (by first | exact Or.inl rfl | exact Or.inr rfl | exact i01 | exact jin01) ?_
  exact ⟨rfl, rfl⟩

theorem fm7 : ∀ k, k < 13 → nI k - nI k / 7 * 7 = nI (k % 7) ∧ 0 ≤ nI k ^^^ 7 := by decide +kernel
theorem nIin {k n : Nat} (h : k < n) (hn : n < 2147483648) : vp_in (nI k) n := vp_in_nI h (by omega)
set_option maxRecDepth 100000 in
set_option maxHeartbeats 4000000 in
theorem c_J9_floorMod_7cf53 {X : jX} {ad : Nat → Nat} {mem : Mem} {k : Nat} (hk : k < 13) : Cd X yJ9_floorMod_7cf53 cJ9_floorMod_7cf53 3 (some .int) 0 ad [.int (nI k), .int 7] mem (some (.int (nI (k % 7)))) (mem) := by
  refine Cm.of (own := RJ9) (nm := "floorMod") (by decide +kernel) rfl rfl rfl rfl ?_
  refine J_iload_n dJ9_floorMod_7cf53_0 rfl rfl ?_
  refine J_iload_n dJ9_floorMod_7cf53_1 rfl rfl ?_
  refine J_irem dJ9_floorMod_7cf53_2 (by decide) ?_
  refine J_istore_n dJ9_floorMod_7cf53_3 rfl rfl rfl ?_
  refine J_iload_n dJ9_floorMod_7cf53_4 rfl rfl ?_
  refine J_iload_n dJ9_floorMod_7cf53_5 rfl rfl ?_
  refine J_ixor dJ9_floorMod_7cf53_6 ?_
  refine J_if_ge (tgt := 18) dJ9_floorMod_7cf53_7 (by decide) (fun h7 => ?_) (fun h7 => absurd (fm7 k hk).2 h7)
  refine J_iload_n dJ9_floorMod_7cf53_18 rfl rfl ?_
  refine r_int dJ9_floorMod_7cf53_19 ?_
  exact ⟨by rw [(fm7 k hk).1], rfl⟩

set_option maxRecDepth 100000 in
set_option maxHeartbeats 4000000 in
theorem c_X3_stateAt {X : jX} {ad : Nat → Nat} {mem : Mem} {r : Int32} {k : Nat} (hk : k < 13) (hr : mem 188 1 + r = nI k) : Cd X yX3_stateAt cX3_stateAt 2 (some (.object "PlugPins$Backplane")) 1 ad [.ref 188, .int r] mem (some (.ref (35 + 17 * (k % 7)))) (mem) := by
  refine Cm.of (own := RX3) (nm := "stateAt") (by decide +kernel) rfl rfl rfl rfl ?_
  refine J_aload_n dX3_stateAt_0 rfl rfl ?_
  refine gX3_states wf_X3_13 dX3_stateAt_1 ?_
  refine J_aload_n dX3_stateAt_4 rfl rfl ?_
  refine gX3_oldest wf_X3_18 dX3_stateAt_5 ?_
  refine J_iload_n dX3_stateAt_8 rfl rfl ?_
  refine J_iadd dX3_stateAt_9 ?_
  rw [hr]
  refine J_bipush (v := 7) dX3_stateAt_10 (by decide) ?_
  refine cSi ws_X3_22 (c_J9_floorMod_7cf53 hk) dX3_stateAt_12 (kk := ?_)
  refine al_states (k := k % 7) (nI_clamp (by omega)) dX3_stateAt_15 (nIin (by omega) (by decide)) ?_
  refine r_ref dX3_stateAt_16 ?_
  exact ⟨rfl, rfl⟩

theorem isBk {k : Nat} : isB (35 + 17 * (k % 7)) := isBh (Nat.mod_lt _ (by decide))
theorem apart_of {b b2 : Nat} (h : isB b) (h2 : isB b2) (hne : b ≠ b2) {r r2 : Nat} (hr : r < 17) (hr2 : r2 < 17) : b + r ≠ b2 + r2 := by
  obtain ⟨j, h1, rfl⟩ := h
  obtain ⟨k, h3, rfl⟩ := h2
  omega
end
