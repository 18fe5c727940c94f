section
-- ===== PART A: goes FIRST, ahead of the names: the tables' words, and 'selects' of the private methods out of them =====
/-- a private method of a class that the tables say can be made, by its rows of tables_1 -/
def lw_okq (q : MethodName × Nat) : Prop := (q.1.cls ≠ "java/lang/invoke/MethodHandle" ∧ q.1.cls ≠ "java/lang/invoke/VarHandle") ∧ Cond.instantiable q.1.cls q.2 ∈ tables_1 ∧ Cond.privateMethod q.1 ∈ tables_1 ∧ Cond.instanceMethod q.1 ∈ tables_1
theorem lw_p0 : lw_okq (⟨"DutyOnLeft$Reader", "behindNumbers", "(LDutyOnLeft$Text;II)I"⟩, 1) := ⟨⟨by decide +kernel, by decide +kernel⟩, List.mem_of_getElem? (i := 45) (by decide +kernel), List.mem_of_getElem? (i := 266) (by decide +kernel), List.mem_of_getElem? (i := 267) (by decide +kernel)⟩
theorem lw_p1 : lw_okq (⟨"DutyOnLeft$Reader", "tell", "(CLDutyOnLeft$Family;)Z"⟩, 1) := ⟨⟨by decide +kernel, by decide +kernel⟩, List.mem_of_getElem? (i := 45) (by decide +kernel), List.mem_of_getElem? (i := 276) (by decide +kernel), List.mem_of_getElem? (i := 277) (by decide +kernel)⟩
theorem lw_p2 : lw_okq (⟨"DutyOnLeft", "isPair", "(II)Z"⟩, 11) := ⟨⟨by decide +kernel, by decide +kernel⟩, List.mem_of_getElem? (i := 21) (by decide +kernel), List.mem_of_getElem? (i := 444) (by decide +kernel), List.mem_of_getElem? (i := 445) (by decide +kernel)⟩
theorem lw_p3 : lw_okq (⟨"DutyOnLeft$Pile", "row", "(I)LDutyOnLeft$Standing;"⟩, 3) := ⟨⟨by decide +kernel, by decide +kernel⟩, List.mem_of_getElem? (i := 89) (by decide +kernel), List.mem_of_getElem? (i := 469) (by decide +kernel), List.mem_of_getElem? (i := 470) (by decide +kernel)⟩
theorem lw_p4 : lw_okq (⟨"DutyOnLeft", "areHere", "(II)Z"⟩, 11) := ⟨⟨by decide +kernel, by decide +kernel⟩, List.mem_of_getElem? (i := 21) (by decide +kernel), List.mem_of_getElem? (i := 551) (by decide +kernel), List.mem_of_getElem? (i := 552) (by decide +kernel)⟩
theorem lw_p5 : lw_okq (⟨"DutyOnLeft", "owedByAllAfterGiving", "(II)I"⟩, 11) := ⟨⟨by decide +kernel, by decide +kernel⟩, List.mem_of_getElem? (i := 21) (by decide +kernel), List.mem_of_getElem? (i := 624) (by decide +kernel), List.mem_of_getElem? (i := 625) (by decide +kernel)⟩
theorem lw_p6 : lw_okq (⟨"DutyOnLeft$Orders", "reckonSet", "(LDutyOnLeft$Family;LDutyOnLeft$Standing;I)V"⟩, 2) := ⟨⟨by decide +kernel, by decide +kernel⟩, List.mem_of_getElem? (i := 129) (by decide +kernel), List.mem_of_getElem? (i := 638) (by decide +kernel), List.mem_of_getElem? (i := 639) (by decide +kernel)⟩
theorem lw_p7 : lw_okq (⟨"DutyOnLeft", "drawn", "(II)I"⟩, 11) := ⟨⟨by decide +kernel, by decide +kernel⟩, List.mem_of_getElem? (i := 21) (by decide +kernel), List.mem_of_getElem? (i := 736) (by decide +kernel), List.mem_of_getElem? (i := 737) (by decide +kernel)⟩
theorem lw_p8 : lw_okq (⟨"DutyOnLeft", "gone", "(LDutyOnLeft$Standing;)I"⟩, 11) := ⟨⟨by decide +kernel, by decide +kernel⟩, List.mem_of_getElem? (i := 21) (by decide +kernel), List.mem_of_getElem? (i := 751) (by decide +kernel), List.mem_of_getElem? (i := 752) (by decide +kernel)⟩
theorem lw_p9 : lw_okq (⟨"DutyOnLeft", "paidInAll", "()I"⟩, 11) := ⟨⟨by decide +kernel, by decide +kernel⟩, List.mem_of_getElem? (i := 21) (by decide +kernel), List.mem_of_getElem? (i := 767) (by decide +kernel), List.mem_of_getElem? (i := 768) (by decide +kernel)⟩
theorem lw_p10 : lw_okq (⟨"DutyOnLeftModel", "begins", "()V"⟩, 17) := ⟨⟨by decide +kernel, by decide +kernel⟩, List.mem_of_getElem? (i := 771) (by decide +kernel), List.mem_of_getElem? (i := 777) (by decide +kernel), List.mem_of_getElem? (i := 778) (by decide +kernel)⟩
theorem lw_p11 : lw_okq (⟨"DutyOnLeftModel", "persons", "(III)Z"⟩, 17) := ⟨⟨by decide +kernel, by decide +kernel⟩, List.mem_of_getElem? (i := 771) (by decide +kernel), List.mem_of_getElem? (i := 781) (by decide +kernel), List.mem_of_getElem? (i := 782) (by decide +kernel)⟩
theorem lw_p12 : lw_okq (⟨"DutyOnLeftModel", "goods", "(IIII)Z"⟩, 17) := ⟨⟨by decide +kernel, by decide +kernel⟩, List.mem_of_getElem? (i := 771) (by decide +kernel), List.mem_of_getElem? (i := 785) (by decide +kernel), List.mem_of_getElem? (i := 786) (by decide +kernel)⟩
theorem lw_p13 : lw_okq (⟨"DutyOnLeftModel", "loves", "(III)Z"⟩, 17) := ⟨⟨by decide +kernel, by decide +kernel⟩, List.mem_of_getElem? (i := 771) (by decide +kernel), List.mem_of_getElem? (i := 793) (by decide +kernel), List.mem_of_getElem? (i := 794) (by decide +kernel)⟩
theorem lw_p14 : lw_okq (⟨"DutyOnLeftModel", "comes", "()V"⟩, 17) := ⟨⟨by decide +kernel, by decide +kernel⟩, List.mem_of_getElem? (i := 771) (by decide +kernel), List.mem_of_getElem? (i := 797) (by decide +kernel), List.mem_of_getElem? (i := 798) (by decide +kernel)⟩
theorem lw_p15 : lw_okq (⟨"DutyOnLeftModel", "faultOf", "()I"⟩, 17) := ⟨⟨by decide +kernel, by decide +kernel⟩, List.mem_of_getElem? (i := 771) (by decide +kernel), List.mem_of_getElem? (i := 867) (by decide +kernel), List.mem_of_getElem? (i := 868) (by decide +kernel)⟩
def lw_privs_1 : List (MethodName × Nat) := [(⟨"DutyOnLeft$Reader", "behindNumbers", "(LDutyOnLeft$Text;II)I"⟩, 1), (⟨"DutyOnLeft$Reader", "tell", "(CLDutyOnLeft$Family;)Z"⟩, 1), (⟨"DutyOnLeft", "isPair", "(II)Z"⟩, 11), (⟨"DutyOnLeft$Pile", "row", "(I)LDutyOnLeft$Standing;"⟩, 3), (⟨"DutyOnLeft", "areHere", "(II)Z"⟩, 11), (⟨"DutyOnLeft", "owedByAllAfterGiving", "(II)I"⟩, 11), (⟨"DutyOnLeft$Orders", "reckonSet", "(LDutyOnLeft$Family;LDutyOnLeft$Standing;I)V"⟩, 2), (⟨"DutyOnLeft", "drawn", "(II)I"⟩, 11), (⟨"DutyOnLeft", "gone", "(LDutyOnLeft$Standing;)I"⟩, 11), (⟨"DutyOnLeft", "paidInAll", "()I"⟩, 11), (⟨"DutyOnLeftModel", "begins", "()V"⟩, 17), (⟨"DutyOnLeftModel", "persons", "(III)Z"⟩, 17), (⟨"DutyOnLeftModel", "goods", "(IIII)Z"⟩, 17), (⟨"DutyOnLeftModel", "loves", "(III)Z"⟩, 17), (⟨"DutyOnLeftModel", "comes", "()V"⟩, 17), (⟨"DutyOnLeftModel", "faultOf", "()I"⟩, 17)]
theorem lw_r1 : ∀ q ∈ lw_privs_1, lw_okq q := List.forall_mem_cons.mpr ⟨lw_p0, List.forall_mem_cons.mpr ⟨lw_p1, List.forall_mem_cons.mpr ⟨lw_p2, List.forall_mem_cons.mpr ⟨lw_p3, List.forall_mem_cons.mpr ⟨lw_p4, List.forall_mem_cons.mpr ⟨lw_p5, List.forall_mem_cons.mpr ⟨lw_p6, List.forall_mem_cons.mpr ⟨lw_p7, List.forall_mem_cons.mpr ⟨lw_p8, List.forall_mem_cons.mpr ⟨lw_p9, List.forall_mem_cons.mpr ⟨lw_p10, List.forall_mem_cons.mpr ⟨lw_p11, List.forall_mem_cons.mpr ⟨lw_p12, List.forall_mem_cons.mpr ⟨lw_p13, List.forall_mem_cons.mpr ⟨lw_p14, List.forall_mem_cons.mpr ⟨lw_p15, fun _ h => absurd h List.not_mem_nil⟩⟩⟩⟩⟩⟩⟩⟩⟩⟩⟩⟩⟩⟩⟩⟩
theorem lw_p16 : lw_okq (⟨"DutyOnLeftModel", "takesItem", "()Z"⟩, 17) := ⟨⟨by decide +kernel, by decide +kernel⟩, List.mem_of_getElem? (i := 771) (by decide +kernel), List.mem_of_getElem? (i := 871) (by decide +kernel), List.mem_of_getElem? (i := 872) (by decide +kernel)⟩
theorem lw_p17 : lw_okq (⟨"DutyOnLeftModel", "letterAt", "(I)I"⟩, 17) := ⟨⟨by decide +kernel, by decide +kernel⟩, List.mem_of_getElem? (i := 771) (by decide +kernel), List.mem_of_getElem? (i := 875) (by decide +kernel), List.mem_of_getElem? (i := 876) (by decide +kernel)⟩
theorem lw_p18 : lw_okq (⟨"DutyOnLeftModel", "takesNumbers", "(I)Z"⟩, 17) := ⟨⟨by decide +kernel, by decide +kernel⟩, List.mem_of_getElem? (i := 771) (by decide +kernel), List.mem_of_getElem? (i := 879) (by decide +kernel), List.mem_of_getElem? (i := 880) (by decide +kernel)⟩
theorem lw_p19 : lw_okq (⟨"DutyOnLeftModel", "tenths", "(I)Z"⟩, 17) := ⟨⟨by decide +kernel, by decide +kernel⟩, List.mem_of_getElem? (i := 771) (by decide +kernel), List.mem_of_getElem? (i := 885) (by decide +kernel), List.mem_of_getElem? (i := 886) (by decide +kernel)⟩
theorem lw_p20 : lw_okq (⟨"DutyOnLeftModel", "isPerson", "(I)Z"⟩, 17) := ⟨⟨by decide +kernel, by decide +kernel⟩, List.mem_of_getElem? (i := 771) (by decide +kernel), List.mem_of_getElem? (i := 898) (by decide +kernel), List.mem_of_getElem? (i := 899) (by decide +kernel)⟩
theorem lw_p21 : lw_okq (⟨"DutyOnLeftModel", "isHere", "(I)Z"⟩, 17) := ⟨⟨by decide +kernel, by decide +kernel⟩, List.mem_of_getElem? (i := 771) (by decide +kernel), List.mem_of_getElem? (i := 902) (by decide +kernel), List.mem_of_getElem? (i := 903) (by decide +kernel)⟩
theorem lw_p22 : lw_okq (⟨"DutyOnLeftModel", "isGood", "(I)Z"⟩, 17) := ⟨⟨by decide +kernel, by decide +kernel⟩, List.mem_of_getElem? (i := 771) (by decide +kernel), List.mem_of_getElem? (i := 913) (by decide +kernel), List.mem_of_getElem? (i := 914) (by decide +kernel)⟩
theorem lw_p23 : lw_okq (⟨"DutyOnLeftModel", "areTwo", "(II)Z"⟩, 17) := ⟨⟨by decide +kernel, by decide +kernel⟩, List.mem_of_getElem? (i := 771) (by decide +kernel), List.mem_of_getElem? (i := 921) (by decide +kernel), List.mem_of_getElem? (i := 922) (by decide +kernel)⟩
theorem lw_p24 : lw_okq (⟨"DutyOnLeftModel", "owesNow", "(I)I"⟩, 17) := ⟨⟨by decide +kernel, by decide +kernel⟩, List.mem_of_getElem? (i := 771) (by decide +kernel), List.mem_of_getElem? (i := 929) (by decide +kernel), List.mem_of_getElem? (i := 930) (by decide +kernel)⟩
theorem lw_p25 : lw_okq (⟨"DutyOnLeftModel", "owesIn", "(III)I"⟩, 17) := ⟨⟨by decide +kernel, by decide +kernel⟩, List.mem_of_getElem? (i := 771) (by decide +kernel), List.mem_of_getElem? (i := 933) (by decide +kernel), List.mem_of_getElem? (i := 934) (by decide +kernel)⟩
theorem lw_p26 : lw_okq (⟨"DutyOnLeftModel", "leftBy", "(III)I"⟩, 17) := ⟨⟨by decide +kernel, by decide +kernel⟩, List.mem_of_getElem? (i := 771) (by decide +kernel), List.mem_of_getElem? (i := 937) (by decide +kernel), List.mem_of_getElem? (i := 938) (by decide +kernel)⟩
theorem lw_p27 : lw_okq (⟨"DutyOnLeftModel", "counts", "(I)I"⟩, 17) := ⟨⟨by decide +kernel, by decide +kernel⟩, List.mem_of_getElem? (i := 771) (by decide +kernel), List.mem_of_getElem? (i := 941) (by decide +kernel), List.mem_of_getElem? (i := 942) (by decide +kernel)⟩
theorem lw_p28 : lw_okq (⟨"DutyOnLeftModel", "lovedBy", "(III)I"⟩, 17) := ⟨⟨by decide +kernel, by decide +kernel⟩, List.mem_of_getElem? (i := 771) (by decide +kernel), List.mem_of_getElem? (i := 945) (by decide +kernel), List.mem_of_getElem? (i := 946) (by decide +kernel)⟩
theorem lw_p29 : lw_okq (⟨"DutyOnLeftModel", "dutyOf", "(II)I"⟩, 17) := ⟨⟨by decide +kernel, by decide +kernel⟩, List.mem_of_getElem? (i := 771) (by decide +kernel), List.mem_of_getElem? (i := 949) (by decide +kernel), List.mem_of_getElem? (i := 950) (by decide +kernel)⟩
theorem lw_p30 : lw_okq (⟨"DutyOnLeftModel", "isOurs", "(I)Z"⟩, 17) := ⟨⟨by decide +kernel, by decide +kernel⟩, List.mem_of_getElem? (i := 771) (by decide +kernel), List.mem_of_getElem? (i := 961) (by decide +kernel), List.mem_of_getElem? (i := 962) (by decide +kernel)⟩
theorem lw_p31 : lw_okq (⟨"DutyOnLeftModel", "heavyOf", "(I)I"⟩, 17) := ⟨⟨by decide +kernel, by decide +kernel⟩, List.mem_of_getElem? (i := 771) (by decide +kernel), List.mem_of_getElem? (i := 965) (by decide +kernel), List.mem_of_getElem? (i := 966) (by decide +kernel)⟩
def lw_privs_2 : List (MethodName × Nat) := [(⟨"DutyOnLeftModel", "takesItem", "()Z"⟩, 17), (⟨"DutyOnLeftModel", "letterAt", "(I)I"⟩, 17), (⟨"DutyOnLeftModel", "takesNumbers", "(I)Z"⟩, 17), (⟨"DutyOnLeftModel", "tenths", "(I)Z"⟩, 17), (⟨"DutyOnLeftModel", "isPerson", "(I)Z"⟩, 17), (⟨"DutyOnLeftModel", "isHere", "(I)Z"⟩, 17), (⟨"DutyOnLeftModel", "isGood", "(I)Z"⟩, 17), (⟨"DutyOnLeftModel", "areTwo", "(II)Z"⟩, 17), (⟨"DutyOnLeftModel", "owesNow", "(I)I"⟩, 17), (⟨"DutyOnLeftModel", "owesIn", "(III)I"⟩, 17), (⟨"DutyOnLeftModel", "leftBy", "(III)I"⟩, 17), (⟨"DutyOnLeftModel", "counts", "(I)I"⟩, 17), (⟨"DutyOnLeftModel", "lovedBy", "(III)I"⟩, 17), (⟨"DutyOnLeftModel", "dutyOf", "(II)I"⟩, 17), (⟨"DutyOnLeftModel", "isOurs", "(I)Z"⟩, 17), (⟨"DutyOnLeftModel", "heavyOf", "(I)I"⟩, 17)]
theorem lw_r2 : ∀ q ∈ lw_privs_2, lw_okq q := List.forall_mem_cons.mpr ⟨lw_p16, List.forall_mem_cons.mpr ⟨lw_p17, List.forall_mem_cons.mpr ⟨lw_p18, List.forall_mem_cons.mpr ⟨lw_p19, List.forall_mem_cons.mpr ⟨lw_p20, List.forall_mem_cons.mpr ⟨lw_p21, List.forall_mem_cons.mpr ⟨lw_p22, List.forall_mem_cons.mpr ⟨lw_p23, List.forall_mem_cons.mpr ⟨lw_p24, List.forall_mem_cons.mpr ⟨lw_p25, List.forall_mem_cons.mpr ⟨lw_p26, List.forall_mem_cons.mpr ⟨lw_p27, List.forall_mem_cons.mpr ⟨lw_p28, List.forall_mem_cons.mpr ⟨lw_p29, List.forall_mem_cons.mpr ⟨lw_p30, List.forall_mem_cons.mpr ⟨lw_p31, fun _ h => absurd h List.not_mem_nil⟩⟩⟩⟩⟩⟩⟩⟩⟩⟩⟩⟩⟩⟩⟩⟩
theorem lw_p32 : lw_okq (⟨"DutyOnLeftModel", "minds", "()V"⟩, 17) := ⟨⟨by decide +kernel, by decide +kernel⟩, List.mem_of_getElem? (i := 771) (by decide +kernel), List.mem_of_getElem? (i := 969) (by decide +kernel), List.mem_of_getElem? (i := 970) (by decide +kernel)⟩
theorem lw_p33 : lw_okq (⟨"DutyOnLeftModel", "copy", "(II)V"⟩, 17) := ⟨⟨by decide +kernel, by decide +kernel⟩, List.mem_of_getElem? (i := 771) (by decide +kernel), List.mem_of_getElem? (i := 973) (by decide +kernel), List.mem_of_getElem? (i := 974) (by decide +kernel)⟩
theorem lw_p34 : lw_okq (⟨"DutyOnLeftModel", "canLeave", "(II)Z"⟩, 17) := ⟨⟨by decide +kernel, by decide +kernel⟩, List.mem_of_getElem? (i := 771) (by decide +kernel), List.mem_of_getElem? (i := 985) (by decide +kernel), List.mem_of_getElem? (i := 986) (by decide +kernel)⟩
theorem lw_p35 : lw_okq (⟨"DutyOnLeftModel", "isAlone", "(I)Z"⟩, 17) := ⟨⟨by decide +kernel, by decide +kernel⟩, List.mem_of_getElem? (i := 771) (by decide +kernel), List.mem_of_getElem? (i := 989) (by decide +kernel), List.mem_of_getElem? (i := 990) (by decide +kernel)⟩
theorem lw_p36 : lw_okq (⟨"DutyOnLeftModel", "goes", "(III)V"⟩, 17) := ⟨⟨by decide +kernel, by decide +kernel⟩, List.mem_of_getElem? (i := 771) (by decide +kernel), List.mem_of_getElem? (i := 993) (by decide +kernel), List.mem_of_getElem? (i := 994) (by decide +kernel)⟩
theorem lw_p37 : lw_okq (⟨"DutyOnLeftModel", "backFor", "(II)I"⟩, 17) := ⟨⟨by decide +kernel, by decide +kernel⟩, List.mem_of_getElem? (i := 771) (by decide +kernel), List.mem_of_getElem? (i := 1005) (by decide +kernel), List.mem_of_getElem? (i := 1006) (by decide +kernel)⟩
theorem lw_p38 : lw_okq (⟨"DutyOnLeftModel", "returns", "(III)V"⟩, 17) := ⟨⟨by decide +kernel, by decide +kernel⟩, List.mem_of_getElem? (i := 771) (by decide +kernel), List.mem_of_getElem? (i := 1009) (by decide +kernel), List.mem_of_getElem? (i := 1010) (by decide +kernel)⟩
theorem lw_p39 : lw_okq (⟨"DutyOnLeftModel", "findOrder", "()V"⟩, 17) := ⟨⟨by decide +kernel, by decide +kernel⟩, List.mem_of_getElem? (i := 771) (by decide +kernel), List.mem_of_getElem? (i := 1031) (by decide +kernel), List.mem_of_getElem? (i := 1032) (by decide +kernel)⟩
theorem lw_p40 : lw_okq (⟨"DutyOnLeftModel", "findTurns", "(III)V"⟩, 17) := ⟨⟨by decide +kernel, by decide +kernel⟩, List.mem_of_getElem? (i := 771) (by decide +kernel), List.mem_of_getElem? (i := 1061) (by decide +kernel), List.mem_of_getElem? (i := 1062) (by decide +kernel)⟩
theorem lw_p41 : lw_okq (⟨"DutyOnLeftModel", "opens", "(I)V"⟩, 17) := ⟨⟨by decide +kernel, by decide +kernel⟩, List.mem_of_getElem? (i := 771) (by decide +kernel), List.mem_of_getElem? (i := 1065) (by decide +kernel), List.mem_of_getElem? (i := 1066) (by decide +kernel)⟩
theorem lw_p42 : lw_okq (⟨"DutyOnLeftModel", "nextGift", "(II)I"⟩, 17) := ⟨⟨by decide +kernel, by decide +kernel⟩, List.mem_of_getElem? (i := 771) (by decide +kernel), List.mem_of_getElem? (i := 1069) (by decide +kernel), List.mem_of_getElem? (i := 1070) (by decide +kernel)⟩
theorem lw_p43 : lw_okq (⟨"DutyOnLeftModel", "gives", "(II)V"⟩, 17) := ⟨⟨by decide +kernel, by decide +kernel⟩, List.mem_of_getElem? (i := 771) (by decide +kernel), List.mem_of_getElem? (i := 1073) (by decide +kernel), List.mem_of_getElem? (i := 1074) (by decide +kernel)⟩
theorem lw_p44 : lw_okq (⟨"DutyOnLeftModel", "offers", "(III)V"⟩, 17) := ⟨⟨by decide +kernel, by decide +kernel⟩, List.mem_of_getElem? (i := 771) (by decide +kernel), List.mem_of_getElem? (i := 1077) (by decide +kernel), List.mem_of_getElem? (i := 1078) (by decide +kernel)⟩
theorem lw_p45 : lw_okq (⟨"DutyOnLeftModel", "goodsThat", "(Z)I"⟩, 17) := ⟨⟨by decide +kernel, by decide +kernel⟩, List.mem_of_getElem? (i := 771) (by decide +kernel), List.mem_of_getElem? (i := 1109) (by decide +kernel), List.mem_of_getElem? (i := 1110) (by decide +kernel)⟩
theorem lw_p46 : lw_okq (⟨"DutyOnLeftModel", "paidInAll", "()I"⟩, 17) := ⟨⟨by decide +kernel, by decide +kernel⟩, List.mem_of_getElem? (i := 771) (by decide +kernel), List.mem_of_getElem? (i := 1113) (by decide +kernel), List.mem_of_getElem? (i := 1114) (by decide +kernel)⟩
def lw_privs_3 : List (MethodName × Nat) := [(⟨"DutyOnLeftModel", "minds", "()V"⟩, 17), (⟨"DutyOnLeftModel", "copy", "(II)V"⟩, 17), (⟨"DutyOnLeftModel", "canLeave", "(II)Z"⟩, 17), (⟨"DutyOnLeftModel", "isAlone", "(I)Z"⟩, 17), (⟨"DutyOnLeftModel", "goes", "(III)V"⟩, 17), (⟨"DutyOnLeftModel", "backFor", "(II)I"⟩, 17), (⟨"DutyOnLeftModel", "returns", "(III)V"⟩, 17), (⟨"DutyOnLeftModel", "findOrder", "()V"⟩, 17), (⟨"DutyOnLeftModel", "findTurns", "(III)V"⟩, 17), (⟨"DutyOnLeftModel", "opens", "(I)V"⟩, 17), (⟨"DutyOnLeftModel", "nextGift", "(II)I"⟩, 17), (⟨"DutyOnLeftModel", "gives", "(II)V"⟩, 17), (⟨"DutyOnLeftModel", "offers", "(III)V"⟩, 17), (⟨"DutyOnLeftModel", "goodsThat", "(Z)I"⟩, 17), (⟨"DutyOnLeftModel", "paidInAll", "()I"⟩, 17)]
theorem lw_r3 : ∀ q ∈ lw_privs_3, lw_okq q := List.forall_mem_cons.mpr ⟨lw_p32, List.forall_mem_cons.mpr ⟨lw_p33, List.forall_mem_cons.mpr ⟨lw_p34, List.forall_mem_cons.mpr ⟨lw_p35, List.forall_mem_cons.mpr ⟨lw_p36, List.forall_mem_cons.mpr ⟨lw_p37, List.forall_mem_cons.mpr ⟨lw_p38, List.forall_mem_cons.mpr ⟨lw_p39, List.forall_mem_cons.mpr ⟨lw_p40, List.forall_mem_cons.mpr ⟨lw_p41, List.forall_mem_cons.mpr ⟨lw_p42, List.forall_mem_cons.mpr ⟨lw_p43, List.forall_mem_cons.mpr ⟨lw_p44, List.forall_mem_cons.mpr ⟨lw_p45, List.forall_mem_cons.mpr ⟨lw_p46, fun _ h => absurd h List.not_mem_nil⟩⟩⟩⟩⟩⟩⟩⟩⟩⟩⟩⟩⟩⟩⟩
def lw_privs : List (MethodName × Nat) := lw_privs_1 ++ (lw_privs_2 ++ (lw_privs_3))
def lw_tbl : List Cond := k2_sels lw_privs ++ tables_1
theorem lw_privs_ok : ∀ q ∈ lw_privs, lw_okq q := by
  show ∀ q ∈ lw_privs_1 ++ (lw_privs_2 ++ (lw_privs_3)), lw_okq q
  exact List.forall_mem_append.mpr ⟨lw_r1, List.forall_mem_append.mpr ⟨lw_r2, lw_r3⟩⟩
end
section
/-! ===== BEGIN words of one list among another's, by their places ===== -/
theorem goodIn_r {big : List Cond} (ws : List Cond) (ps : List Nat) (hp : ws = ps.filterMap (fun i => big[i]?)) (h : ws.all goodWord = true) : GoodIn big ws := by
  intro w hw
  have h1 := List.all_eq_true.mp h w hw
  rw [hp] at hw
  obtain ⟨i, -, hi⟩ := List.mem_filterMap.mp hw
  have hm : w ∈ big := by first | exact List.mem_of_getElem? hi | exact List.getElem?_mem hi
  exact ⟨hm, good_of_word h1⟩
/-! ===== END ===== -/

/-! ===== BEGIN printed: names, fields, word lists, decode rows ===== -/
def RX0 : String := "DutyOnLeft$Duty"
def TX0 : u_T := fun k => match k with
  | _ => ("", "", "", false)
def tyX0 : Nat → FieldType := fun k => match k with
  | _ => .int
abbrev wsX00 : List Cond := u_ws RX0 TX0 0
theorem nmX0 : ∀ a, a < 0 → ∀ b, b < 0 → a ≠ b → (TX0 a).2.1 ≠ (TX0 b).2.1 := by decide +kernel
theorem tyX0_ok : ∀ k, k < 0 → parseFieldDescriptor (TX0 k).2.2.1 = some (tyX0 k) := by decide +kernel
abbrev cX0_worth : ByteArray := prog_2_method_2_code
def yX0_worth : MethodName := ⟨RX0, "worth", "(LDutyOnLeft$Family;I)I"⟩
abbrev cX0_load : ByteArray := prog_2_method_3_code
def yX0_load : MethodName := ⟨RX0, "load", "(LDutyOnLeft$Family;I)I"⟩
abbrev cX0_loveLeft : ByteArray := prog_2_method_4_code
def yX0_loveLeft : MethodName := ⟨RX0, "loveLeft", "(LDutyOnLeft$Family;II)I"⟩
abbrev cX0_onLeft : ByteArray := prog_2_method_5_code
def yX0_onLeft : MethodName := ⟨RX0, "onLeft", "(LDutyOnLeft$Family;II)I"⟩
abbrev cX0_left : ByteArray := prog_2_method_6_code
def yX0_left : MethodName := ⟨RX0, "left", "(LDutyOnLeft$Family;LDutyOnLeft$Standing;I)I"⟩
abbrev cX0_goodsLeft : ByteArray := prog_2_method_7_code
def yX0_goodsLeft : MethodName := ⟨RX0, "goodsLeft", "(LDutyOnLeft$Family;LDutyOnLeft$Standing;I)I"⟩
abbrev cX0_owed : ByteArray := prog_2_method_8_code
def yX0_owed : MethodName := ⟨RX0, "owed", "(LDutyOnLeft$Family;LDutyOnLeft$Standing;I)I"⟩
abbrev cX0_owedWith : ByteArray := prog_2_method_9_code
def yX0_owedWith : MethodName := ⟨RX0, "owedWith", "(LDutyOnLeft$Family;LDutyOnLeft$Standing;II)I"⟩
abbrev cX0_owedAmong : ByteArray := prog_2_method_10_code
def yX0_owedAmong : MethodName := ⟨RX0, "owedAmong", "(LDutyOnLeft$Family;LDutyOnLeft$Standing;II)I"⟩
abbrev cX0_owedPacking : ByteArray := prog_2_method_11_code
def yX0_owedPacking : MethodName := ⟨RX0, "owedPacking", "(LDutyOnLeft$Family;LDutyOnLeft$Standing;II)I"⟩
abbrev cX0_bestLoad : ByteArray := prog_2_method_12_code
def yX0_bestLoad : MethodName := ⟨RX0, "bestLoad", "(LDutyOnLeft$Family;LDutyOnLeft$Standing;I)I"⟩
def RX1 : String := "DutyOnLeft$Family"
def TX1 : u_T := fun k => match k with
  | 0 => ("DutyOnLeft$Family", "persons", "I", false)
  | 1 => ("DutyOnLeft$Family", "goods", "I", false)
  | 2 => ("DutyOnLeft$Family", "tenths", "I", false)
  | 3 => ("DutyOnLeft$Family", "kinds", "[I", true)
  | 4 => ("DutyOnLeft$Family", "purses", "[I", true)
  | 5 => ("DutyOnLeft$Family", "strengths", "[I", true)
  | 6 => ("DutyOnLeft$Family", "loves", "[I", true)
  | 7 => ("DutyOnLeft$Family", "sorts", "[I", true)
  | 8 => ("DutyOnLeft$Family", "owners", "[I", true)
  | 9 => ("DutyOnLeft$Family", "worths", "[I", true)
  | 10 => ("DutyOnLeft$Family", "weights", "[I", true)
  | _ => ("DutyOnLeft$Family", "counts", "[I", true)
def tyX1 : Nat → FieldType := fun k => match k with
  | 0 => .int
  | 1 => .int
  | 2 => .int
  | 3 => .array .int
  | 4 => .array .int
  | 5 => .array .int
  | 6 => .array .int
  | 7 => .array .int
  | 8 => .array .int
  | 9 => .array .int
  | 10 => .array .int
  | _ => .array .int
abbrev wsX10 : List Cond := u_ws RX1 TX1 12
theorem nmX1 : ∀ a, a < 12 → ∀ b, b < 12 → a ≠ b → (TX1 a).2.1 ≠ (TX1 b).2.1 := by decide +kernel
theorem tyX1_ok : ∀ k, k < 12 → parseFieldDescriptor (TX1 k).2.2.1 = some (tyX1 k) := by decide +kernel
abbrev cX1_init : ByteArray := prog_3_method_1_code
def yX1_init : MethodName := ⟨RX1, "<init>", "()V"⟩
abbrev cX1_empty : ByteArray := prog_3_method_2_code
def yX1_empty : MethodName := ⟨RX1, "empty", "()V"⟩
abbrev cX1_addPerson : ByteArray := prog_3_method_3_code
def yX1_addPerson : MethodName := ⟨RX1, "addPerson", "(III)Z"⟩
abbrev cX1_addGood : ByteArray := prog_3_method_4_code
def yX1_addGood : MethodName := ⟨RX1, "addGood", "(IIII)Z"⟩
abbrev cX1_setLove : ByteArray := prog_3_method_5_code
def yX1_setLove : MethodName := ⟨RX1, "setLove", "(III)Z"⟩
abbrev cX1_setTenths : ByteArray := prog_3_method_6_code
def yX1_setTenths : MethodName := ⟨RX1, "setTenths", "(I)Z"⟩
abbrev cX1_isPerson : ByteArray := prog_3_method_7_code
def yX1_isPerson : MethodName := ⟨RX1, "isPerson", "(I)Z"⟩
abbrev cX1_isGood : ByteArray := prog_3_method_8_code
def yX1_isGood : MethodName := ⟨RX1, "isGood", "(I)Z"⟩
abbrev cX1_kindOf : ByteArray := prog_3_method_9_code
def yX1_kindOf : MethodName := ⟨RX1, "kindOf", "(I)I"⟩
abbrev cX1_purseOf : ByteArray := prog_3_method_10_code
def yX1_purseOf : MethodName := ⟨RX1, "purseOf", "(I)I"⟩
abbrev cX1_strengthOf : ByteArray := prog_3_method_11_code
def yX1_strengthOf : MethodName := ⟨RX1, "strengthOf", "(I)I"⟩
abbrev cX1_loveOf : ByteArray := prog_3_method_12_code
def yX1_loveOf : MethodName := ⟨RX1, "loveOf", "(II)I"⟩
abbrev cX1_sortOf : ByteArray := prog_3_method_13_code
def yX1_sortOf : MethodName := ⟨RX1, "sortOf", "(I)I"⟩
abbrev cX1_firstOwnerOf : ByteArray := prog_3_method_14_code
def yX1_firstOwnerOf : MethodName := ⟨RX1, "firstOwnerOf", "(I)I"⟩
abbrev cX1_worthOf : ByteArray := prog_3_method_15_code
def yX1_worthOf : MethodName := ⟨RX1, "worthOf", "(I)I"⟩
abbrev cX1_heavyOf : ByteArray := prog_3_method_16_code
def yX1_heavyOf : MethodName := ⟨RX1, "heavyOf", "(I)I"⟩
abbrev cX1_countOf : ByteArray := prog_3_method_17_code
def yX1_countOf : MethodName := ⟨RX1, "countOf", "(I)I"⟩
abbrev cX1_counted : ByteArray := prog_3_method_18_code
def yX1_counted : MethodName := ⟨RX1, "counted", "(II)I"⟩
abbrev cX1_isLonelyGrandmother : ByteArray := prog_3_method_19_code
def yX1_isLonelyGrandmother : MethodName := ⟨RX1, "isLonelyGrandmother", "(I)Z"⟩
def RX2 : String := "DutyOnLeft$Frontier"
def TX2 : u_T := fun k => match k with
  | _ => ("", "", "", false)
def tyX2 : Nat → FieldType := fun k => match k with
  | _ => .int
abbrev wsX20 : List Cond := u_ws RX2 TX2 0
theorem nmX2 : ∀ a, a < 0 → ∀ b, b < 0 → a ≠ b → (TX2 a).2.1 ≠ (TX2 b).2.1 := by decide +kernel
theorem tyX2_ok : ∀ k, k < 0 → parseFieldDescriptor (TX2 k).2.2.1 = some (tyX2 k) := by decide +kernel
abbrev cX2_feeToLeave : ByteArray := prog_4_method_2_code
def yX2_feeToLeave : MethodName := ⟨RX2, "feeToLeave", "(LDutyOnLeft$Family;LDutyOnLeft$Standing;I)I"⟩
abbrev cX2_feeToReturn : ByteArray := prog_4_method_3_code
def yX2_feeToReturn : MethodName := ⟨RX2, "feeToReturn", "(LDutyOnLeft$Family;LDutyOnLeft$Standing;I)I"⟩
abbrev cX2_depart : ByteArray := prog_4_method_4_code
def yX2_depart : MethodName := ⟨RX2, "depart", "(LDutyOnLeft$Standing;II)V"⟩
abbrev cX2_arrive : ByteArray := prog_4_method_5_code
def yX2_arrive : MethodName := ⟨RX2, "arrive", "(LDutyOnLeft$Standing;II)V"⟩
abbrev cX2_cross : ByteArray := prog_4_method_6_code
def yX2_cross : MethodName := ⟨RX2, "cross", "(LDutyOnLeft$Family;LDutyOnLeft$Standing;I)I"⟩
def RX3 : String := "DutyOnLeft$Oaths"
def TX3 : u_T := fun k => match k with
  | 0 => ("DutyOnLeft$Oaths", "swearers", "[I", true)
  | 1 => ("DutyOnLeft$Oaths", "sums", "[I", true)
  | _ => ("DutyOnLeft$Oaths", "many", "I", false)
def tyX3 : Nat → FieldType := fun k => match k with
  | 0 => .array .int
  | 1 => .array .int
  | _ => .int
abbrev wsX30 : List Cond := u_ws RX3 TX3 3
theorem nmX3 : ∀ a, a < 3 → ∀ b, b < 3 → a ≠ b → (TX3 a).2.1 ≠ (TX3 b).2.1 := by decide +kernel
theorem tyX3_ok : ∀ k, k < 3 → parseFieldDescriptor (TX3 k).2.2.1 = some (tyX3 k) := by decide +kernel
abbrev cX3_init : ByteArray := prog_5_method_1_code
def yX3_init : MethodName := ⟨RX3, "<init>", "()V"⟩
abbrev cX3_add : ByteArray := prog_5_method_2_code
def yX3_add : MethodName := ⟨RX3, "add", "(II)Z"⟩
abbrev cX3_empty : ByteArray := prog_5_method_3_code
def yX3_empty : MethodName := ⟨RX3, "empty", "()V"⟩
abbrev cX3_holds : ByteArray := prog_5_method_4_code
def yX3_holds : MethodName := ⟨RX3, "holds", "(I)Z"⟩
abbrev cX3_swearer : ByteArray := prog_5_method_5_code
def yX3_swearer : MethodName := ⟨RX3, "swearer", "(I)I"⟩
abbrev cX3_sum : ByteArray := prog_5_method_6_code
def yX3_sum : MethodName := ⟨RX3, "sum", "(I)I"⟩
def RX4 : String := "DutyOnLeft$Orders"
def TX4 : u_T := fun k => match k with
  | 0 => ("DutyOnLeft$Orders", "leasts", "[I", true)
  | _ => ("DutyOnLeft$Orders", "firsts", "[I", true)
def tyX4 : Nat → FieldType := fun k => match k with
  | 0 => .array .int
  | _ => .array .int
abbrev wsX40 : List Cond := u_ws RX4 TX4 2
theorem nmX4 : ∀ a, a < 2 → ∀ b, b < 2 → a ≠ b → (TX4 a).2.1 ≠ (TX4 b).2.1 := by decide +kernel
theorem tyX4_ok : ∀ k, k < 2 → parseFieldDescriptor (TX4 k).2.2.1 = some (tyX4 k) := by decide +kernel
abbrev cX4_init : ByteArray := prog_6_method_1_code
def yX4_init : MethodName := ⟨RX4, "<init>", "()V"⟩
abbrev cX4_reckon : ByteArray := prog_6_method_2_code
def yX4_reckon : MethodName := ⟨RX4, "reckon", "(LDutyOnLeft$Family;LDutyOnLeft$Standing;)V"⟩
abbrev cX4_reckonSet : ByteArray := prog_6_method_3_code
def yX4_reckonSet : MethodName := ⟨RX4, "reckonSet", "(LDutyOnLeft$Family;LDutyOnLeft$Standing;I)V"⟩
abbrev cX4_least : ByteArray := prog_6_method_4_code
def yX4_least : MethodName := ⟨RX4, "least", "(I)I"⟩
abbrev cX4_leaver : ByteArray := prog_6_method_5_code
def yX4_leaver : MethodName := ⟨RX4, "leaver", "(II)I"⟩
def RX5 : String := "DutyOnLeft$Pile"
def TX5 : u_T := fun k => match k with
  | 0 => ("DutyOnLeft$Pile", "rows", "[LDutyOnLeft$Standing;", true)
  | 1 => ("DutyOnLeft$Pile", "next", "I", false)
  | _ => ("DutyOnLeft$Pile", "held", "I", false)
def tyX5 : Nat → FieldType := fun k => match k with
  | 0 => .array (.object "DutyOnLeft$Standing")
  | 1 => .int
  | _ => .int
abbrev wsX50 : List Cond := u_ws RX5 TX5 3
theorem nmX5 : ∀ a, a < 3 → ∀ b, b < 3 → a ≠ b → (TX5 a).2.1 ≠ (TX5 b).2.1 := by decide +kernel
theorem tyX5_ok : ∀ k, k < 3 → parseFieldDescriptor (TX5 k).2.2.1 = some (tyX5 k) := by decide +kernel
abbrev cX5_init : ByteArray := prog_7_method_1_code
def yX5_init : MethodName := ⟨RX5, "<init>", "(I)V"⟩
abbrev cX5_empty : ByteArray := prog_7_method_2_code
def yX5_empty : MethodName := ⟨RX5, "empty", "()V"⟩
abbrev cX5_put : ByteArray := prog_7_method_3_code
def yX5_put : MethodName := ⟨RX5, "put", "(LDutyOnLeft$Standing;)V"⟩
abbrev cX5_take : ByteArray := prog_7_method_4_code
def yX5_take : MethodName := ⟨RX5, "take", "(LDutyOnLeft$Standing;)Z"⟩
abbrev cX5_row : ByteArray := prog_7_method_5_code
def yX5_row : MethodName := ⟨RX5, "row", "(I)LDutyOnLeft$Standing;"⟩
def RX6 : String := "DutyOnLeft$Reader"
def TX6 : u_T := fun k => match k with
  | _ => ("DutyOnLeft$Reader", "numbers", "[I", true)
def tyX6 : Nat → FieldType := fun k => match k with
  | _ => .array .int
abbrev wsX60 : List Cond := u_ws RX6 TX6 1
theorem nmX6 : ∀ a, a < 1 → ∀ b, b < 1 → a ≠ b → (TX6 a).2.1 ≠ (TX6 b).2.1 := by decide +kernel
theorem tyX6_ok : ∀ k, k < 1 → parseFieldDescriptor (TX6 k).2.2.1 = some (tyX6 k) := by decide +kernel
abbrev cX6_init : ByteArray := prog_8_method_1_code
def yX6_init : MethodName := ⟨RX6, "<init>", "()V"⟩
abbrev cX6_firstFault : ByteArray := prog_8_method_2_code
def yX6_firstFault : MethodName := ⟨RX6, "firstFault", "(LDutyOnLeft$Text;LDutyOnLeft$Family;)I"⟩
abbrev cX6_numbersOf : ByteArray := prog_8_method_3_code
def yX6_numbersOf : MethodName := ⟨RX6, "numbersOf", "(C)I"⟩
abbrev cX6_behindNumbers : ByteArray := prog_8_method_4_code
def yX6_behindNumbers : MethodName := ⟨RX6, "behindNumbers", "(LDutyOnLeft$Text;II)I"⟩
abbrev cX6_isFigure : ByteArray := prog_8_method_5_code
def yX6_isFigure : MethodName := ⟨RX6, "isFigure", "(C)Z"⟩
abbrev cX6_tell : ByteArray := prog_8_method_6_code
def yX6_tell : MethodName := ⟨RX6, "tell", "(CLDutyOnLeft$Family;)Z"⟩
def RX7 : String := "DutyOnLeft$Rows"
def TX7 : u_T := fun k => match k with
  | _ => ("", "", "", false)
def tyX7 : Nat → FieldType := fun k => match k with
  | _ => .int
abbrev wsX70 : List Cond := u_ws RX7 TX7 0
theorem nmX7 : ∀ a, a < 0 → ∀ b, b < 0 → a ≠ b → (TX7 a).2.1 ≠ (TX7 b).2.1 := by decide +kernel
theorem tyX7_ok : ∀ k, k < 0 → parseFieldDescriptor (TX7 k).2.2.1 = some (tyX7 k) := by decide +kernel
abbrev cX7_get : ByteArray := prog_9_method_2_code
def yX7_get : MethodName := ⟨RX7, "get", "([II)I"⟩
abbrev cX7_put : ByteArray := prog_9_method_3_code
def yX7_put : MethodName := ⟨RX7, "put", "([III)V"⟩
abbrev cX7_fill : ByteArray := prog_9_method_4_code
def yX7_fill : MethodName := ⟨RX7, "fill", "([II)V"⟩
abbrev cX7_copy : ByteArray := prog_9_method_5_code
def yX7_copy : MethodName := ⟨RX7, "copy", "([I[I)V"⟩
def RX8 : String := "DutyOnLeft$Standing"
def TX8 : u_T := fun k => match k with
  | 0 => ("DutyOnLeft$Standing", "here", "I", false)
  | 1 => ("DutyOnLeft$Standing", "packed", "I", false)
  | 2 => ("DutyOnLeft$Standing", "owners", "[I", true)
  | 3 => ("DutyOnLeft$Standing", "coins", "[I", true)
  | 4 => ("DutyOnLeft$Standing", "paid", "[I", true)
  | 5 => ("DutyOnLeft$Standing", "paidLast", "[I", true)
  | _ => ("DutyOnLeft$Standing", "goods", "I", false)
def tyX8 : Nat → FieldType := fun k => match k with
  | 0 => .int
  | 1 => .int
  | 2 => .array .int
  | 3 => .array .int
  | 4 => .array .int
  | 5 => .array .int
  | _ => .int
abbrev wsX80 : List Cond := u_ws RX8 TX8 7
theorem nmX8 : ∀ a, a < 7 → ∀ b, b < 7 → a ≠ b → (TX8 a).2.1 ≠ (TX8 b).2.1 := by decide +kernel
theorem tyX8_ok : ∀ k, k < 7 → parseFieldDescriptor (TX8 k).2.2.1 = some (tyX8 k) := by decide +kernel
abbrev cX8_init : ByteArray := prog_10_method_1_code
def yX8_init : MethodName := ⟨RX8, "<init>", "()V"⟩
abbrev cX8_begin : ByteArray := prog_10_method_2_code
def yX8_begin : MethodName := ⟨RX8, "begin", "(LDutyOnLeft$Family;)V"⟩
abbrev cX8_copy : ByteArray := prog_10_method_3_code
def yX8_copy : MethodName := ⟨RX8, "copy", "(LDutyOnLeft$Standing;)V"⟩
abbrev cX8_isHere : ByteArray := prog_10_method_4_code
def yX8_isHere : MethodName := ⟨RX8, "isHere", "(I)Z"⟩
abbrev cX8_isPacked : ByteArray := prog_10_method_5_code
def yX8_isPacked : MethodName := ⟨RX8, "isPacked", "(I)Z"⟩
abbrev cX8_ownerOf : ByteArray := prog_10_method_6_code
def yX8_ownerOf : MethodName := ⟨RX8, "ownerOf", "(I)I"⟩
abbrev cX8_lies : ByteArray := prog_10_method_7_code
def yX8_lies : MethodName := ⟨RX8, "lies", "(II)Z"⟩
abbrev cX8_owned : ByteArray := prog_10_method_8_code
def yX8_owned : MethodName := ⟨RX8, "owned", "(I)I"⟩
abbrev cX8_coinsOf : ByteArray := prog_10_method_9_code
def yX8_coinsOf : MethodName := ⟨RX8, "coinsOf", "(I)I"⟩
abbrev cX8_paidBy : ByteArray := prog_10_method_10_code
def yX8_paidBy : MethodName := ⟨RX8, "paidBy", "(I)I"⟩
abbrev cX8_paidLastBy : ByteArray := prog_10_method_11_code
def yX8_paidLastBy : MethodName := ⟨RX8, "paidLastBy", "(I)I"⟩
abbrev cX8_setPacked : ByteArray := prog_10_method_12_code
def yX8_setPacked : MethodName := ⟨RX8, "setPacked", "(IZ)V"⟩
abbrev cX8_handOver : ByteArray := prog_10_method_13_code
def yX8_handOver : MethodName := ⟨RX8, "handOver", "(II)V"⟩
abbrev cX8_pay : ByteArray := prog_10_method_14_code
def yX8_pay : MethodName := ⟨RX8, "pay", "(II)V"⟩
abbrev cX8_goOut : ByteArray := prog_10_method_15_code
def yX8_goOut : MethodName := ⟨RX8, "goOut", "(II)V"⟩
abbrev cX8_comeIn : ByteArray := prog_10_method_16_code
def yX8_comeIn : MethodName := ⟨RX8, "comeIn", "(I)V"⟩
def RX9 : String := "DutyOnLeft$Text"
def TX9 : u_T := fun k => match k with
  | 0 => ("DutyOnLeft$Text", "letters", "[C", true)
  | _ => ("DutyOnLeft$Text", "length", "I", false)
def tyX9 : Nat → FieldType := fun k => match k with
  | 0 => .array .char
  | _ => .int
abbrev wsX90 : List Cond := u_ws RX9 TX9 2
theorem nmX9 : ∀ a, a < 2 → ∀ b, b < 2 → a ≠ b → (TX9 a).2.1 ≠ (TX9 b).2.1 := by decide +kernel
theorem tyX9_ok : ∀ k, k < 2 → parseFieldDescriptor (TX9 k).2.2.1 = some (tyX9 k) := by decide +kernel
abbrev cX9_init : ByteArray := prog_11_method_1_code
def yX9_init : MethodName := ⟨RX9, "<init>", "()V"⟩
abbrev cX9_add : ByteArray := prog_11_method_2_code
def yX9_add : MethodName := ⟨RX9, "add", "(C)Z"⟩
abbrev cX9_empty : ByteArray := prog_11_method_3_code
def yX9_empty : MethodName := ⟨RX9, "empty", "()V"⟩
abbrev cX9_sign : ByteArray := prog_11_method_4_code
def yX9_sign : MethodName := ⟨RX9, "sign", "(I)C"⟩
def RX10 : String := "DutyOnLeft$Turns"
def TX10 : u_T := fun k => match k with
  | _ => ("", "", "", false)
def tyX10 : Nat → FieldType := fun k => match k with
  | _ => .int
abbrev wsX100 : List Cond := u_ws RX10 TX10 0
theorem nmX10 : ∀ a, a < 0 → ∀ b, b < 0 → a ≠ b → (TX10 a).2.1 ≠ (TX10 b).2.1 := by decide +kernel
theorem tyX10_ok : ∀ k, k < 0 → parseFieldDescriptor (TX10 k).2.2.1 = some (tyX10 k) := by decide +kernel
abbrev cX10_play : ByteArray := prog_12_method_2_code
def yX10_play : MethodName := ⟨RX10, "play", "(LDutyOnLeft$Family;LDutyOnLeft$Standing;[IIII)I"⟩
abbrev cX10_movers : ByteArray := prog_12_method_3_code
def yX10_movers : MethodName := ⟨RX10, "movers", "(I)I"⟩
abbrev cX10_swapped : ByteArray := prog_12_method_4_code
def yX10_swapped : MethodName := ⟨RX10, "swapped", "(I)I"⟩
def RX11 : String := "DutyOnLeft"
def TX11 : u_T := fun k => match k with
  | 0 => ("DutyOnLeft", "text", "LDutyOnLeft$Text;", true)
  | 1 => ("DutyOnLeft", "reader", "LDutyOnLeft$Reader;", true)
  | 2 => ("DutyOnLeft", "now", "LDutyOnLeft$Standing;", true)
  | 3 => ("DutyOnLeft", "trial", "LDutyOnLeft$Standing;", true)
  | 4 => ("DutyOnLeft", "undone", "LDutyOnLeft$Pile;", true)
  | 5 => ("DutyOnLeft", "kept", "LDutyOnLeft$Pile;", true)
  | 6 => ("DutyOnLeft", "oaths", "LDutyOnLeft$Oaths;", true)
  | 7 => ("DutyOnLeft", "orders", "LDutyOnLeft$Orders;", true)
  | 8 => ("DutyOnLeft", "gifts", "[I", true)
  | 9 => ("DutyOnLeft", "family", "LDutyOnLeft$Family;", false)
  | _ => ("DutyOnLeft", "draft", "LDutyOnLeft$Family;", false)
def tyX11 : Nat → FieldType := fun k => match k with
  | 0 => .object "DutyOnLeft$Text"
  | 1 => .object "DutyOnLeft$Reader"
  | 2 => .object "DutyOnLeft$Standing"
  | 3 => .object "DutyOnLeft$Standing"
  | 4 => .object "DutyOnLeft$Pile"
  | 5 => .object "DutyOnLeft$Pile"
  | 6 => .object "DutyOnLeft$Oaths"
  | 7 => .object "DutyOnLeft$Orders"
  | 8 => .array .int
  | 9 => .object "DutyOnLeft$Family"
  | _ => .object "DutyOnLeft$Family"
abbrev wsX110 : List Cond := u_ws RX11 TX11 11
theorem nmX11 : ∀ a, a < 11 → ∀ b, b < 11 → a ≠ b → (TX11 a).2.1 ≠ (TX11 b).2.1 := by decide +kernel
theorem tyX11_ok : ∀ k, k < 11 → parseFieldDescriptor (TX11 k).2.2.1 = some (tyX11 k) := by decide +kernel
abbrev cX11_init : ByteArray := prog_1_method_1_code
def yX11_init : MethodName := ⟨RX11, "<init>", "()V"⟩
abbrev cX11_write : ByteArray := prog_1_method_2_code
def yX11_write : MethodName := ⟨RX11, "write", "(I)I"⟩
abbrev cX11_wipe : ByteArray := prog_1_method_3_code
def yX11_wipe : MethodName := ⟨RX11, "wipe", "()I"⟩
abbrev cX11_fault : ByteArray := prog_1_method_4_code
def yX11_fault : MethodName := ⟨RX11, "fault", "()I"⟩
abbrev cX11_lay : ByteArray := prog_1_method_5_code
def yX11_lay : MethodName := ⟨RX11, "lay", "()I"⟩
abbrev cX11_person : ByteArray := prog_1_method_6_code
def yX11_person : MethodName := ⟨RX11, "person", "(II)I"⟩
abbrev cX11_good : ByteArray := prog_1_method_7_code
def yX11_good : MethodName := ⟨RX11, "good", "(II)I"⟩
abbrev cX11_love : ByteArray := prog_1_method_8_code
def yX11_love : MethodName := ⟨RX11, "love", "(II)I"⟩
abbrev cX11_pack : ByteArray := prog_1_method_9_code
def yX11_pack : MethodName := ⟨RX11, "pack", "(IZ)I"⟩
abbrev cX11_give : ByteArray := prog_1_method_10_code
def yX11_give : MethodName := ⟨RX11, "give", "(II)I"⟩
abbrev cX11_leave : ByteArray := prog_1_method_11_code
def yX11_leave : MethodName := ⟨RX11, "leave", "(I)I"⟩
abbrev cX11_leaveBoth : ByteArray := prog_1_method_12_code
def yX11_leaveBoth : MethodName := ⟨RX11, "leaveBoth", "(II)I"⟩
abbrev cX11_comeBack : ByteArray := prog_1_method_13_code
def yX11_comeBack : MethodName := ⟨RX11, "comeBack", "(I)I"⟩
abbrev cX11_undo : ByteArray := prog_1_method_14_code
def yX11_undo : MethodName := ⟨RX11, "undo", "()I"⟩
abbrev cX11_owes : ByteArray := prog_1_method_15_code
def yX11_owes : MethodName := ⟨RX11, "owes", "(I)I"⟩
abbrev cX11_owesWith : ByteArray := prog_1_method_16_code
def yX11_owesWith : MethodName := ⟨RX11, "owesWith", "(II)I"⟩
abbrev cX11_packing : ByteArray := prog_1_method_17_code
def yX11_packing : MethodName := ⟨RX11, "packing", "(II)I"⟩
abbrev cX11_giving : ByteArray := prog_1_method_18_code
def yX11_giving : MethodName := ⟨RX11, "giving", "(II)I"⟩
abbrev cX11_order : ByteArray := prog_1_method_19_code
def yX11_order : MethodName := ⟨RX11, "order", "(I)I"⟩
abbrev cX11_stuck : ByteArray := prog_1_method_20_code
def yX11_stuck : MethodName := ⟨RX11, "stuck", "()I"⟩
abbrev cX11_swear : ByteArray := prog_1_method_21_code
def yX11_swear : MethodName := ⟨RX11, "swear", "(II)I"⟩
abbrev cX11_forget : ByteArray := prog_1_method_22_code
def yX11_forget : MethodName := ⟨RX11, "forget", "()I"⟩
abbrev cX11_isFalse : ByteArray := prog_1_method_23_code
def yX11_isFalse : MethodName := ⟨RX11, "isFalse", "(I)I"⟩
abbrev cX11_loved : ByteArray := prog_1_method_24_code
def yX11_loved : MethodName := ⟨RX11, "loved", "(III)I"⟩
abbrev cX11_byTurns : ByteArray := prog_1_method_25_code
def yX11_byTurns : MethodName := ⟨RX11, "byTurns", "(IIII)I"⟩
abbrev cX11_chairs : ByteArray := prog_1_method_26_code
def yX11_chairs : MethodName := ⟨RX11, "chairs", "(I)I"⟩
abbrev cX11_year : ByteArray := prog_1_method_27_code
def yX11_year : MethodName := ⟨RX11, "year", "(III)I"⟩
abbrev cX11_keep : ByteArray := prog_1_method_28_code
def yX11_keep : MethodName := ⟨RX11, "keep", "()I"⟩
abbrev cX11_back : ByteArray := prog_1_method_29_code
def yX11_back : MethodName := ⟨RX11, "back", "()I"⟩
abbrev cX11_count : ByteArray := prog_1_method_30_code
def yX11_count : MethodName := ⟨RX11, "count", "(I)I"⟩
abbrev cX11_isAsked : ByteArray := prog_1_method_31_code
def yX11_isAsked : MethodName := ⟨RX11, "isAsked", "(I)Z"⟩
abbrev cX11_isSum : ByteArray := prog_1_method_32_code
def yX11_isSum : MethodName := ⟨RX11, "isSum", "(I)Z"⟩
abbrev cX11_isPair : ByteArray := prog_1_method_33_code
def yX11_isPair : MethodName := ⟨RX11, "isPair", "(II)Z"⟩
abbrev cX11_areHere : ByteArray := prog_1_method_34_code
def yX11_areHere : MethodName := ⟨RX11, "areHere", "(II)Z"⟩
abbrev cX11_gone : ByteArray := prog_1_method_35_code
def yX11_gone : MethodName := ⟨RX11, "gone", "(LDutyOnLeft$Standing;)I"⟩
abbrev cX11_paidInAll : ByteArray := prog_1_method_36_code
def yX11_paidInAll : MethodName := ⟨RX11, "paidInAll", "()I"⟩
abbrev cX11_owedByAllAfterGiving : ByteArray := prog_1_method_37_code
def yX11_owedByAllAfterGiving : MethodName := ⟨RX11, "owedByAllAfterGiving", "(II)I"⟩
abbrev cX11_drawn : ByteArray := prog_1_method_38_code
def yX11_drawn : MethodName := ⟨RX11, "drawn", "(II)I"⟩
def RX12 : String := "DutyOnLeftModel"
def TX12 : u_T := fun k => match k with
  | 0 => ("DutyOnLeftModel", "w", "[I", true)
  | 1 => ("DutyOnLeftModel", "d", "[I", true)
  | 2 => ("DutyOnLeftModel", "undoes", "I", false)
  | 3 => ("DutyOnLeftModel", "kept", "I", false)
  | 4 => ("DutyOnLeftModel", "sworn", "I", false)
  | 5 => ("DutyOnLeftModel", "swornWho", "[I", true)
  | 6 => ("DutyOnLeftModel", "swornWhat", "[I", true)
  | 7 => ("DutyOnLeftModel", "text", "[I", true)
  | 8 => ("DutyOnLeftModel", "texted", "I", false)
  | 9 => ("DutyOnLeftModel", "at", "I", false)
  | 10 => ("DutyOnLeftModel", "numbers", "[I", true)
  | 11 => ("DutyOnLeftModel", "least", "[I", true)
  | 12 => ("DutyOnLeftModel", "leaver", "[I", true)
  | 13 => ("DutyOnLeftModel", "given", "[I", true)
  | 14 => ("DutyOnLeftModel", "one", "[I", true)
  | 15 => ("DutyOnLeftModel", "two", "[I", true)
  | _ => ("DutyOnLeftModel", "firstGiven", "I", false)
def tyX12 : Nat → FieldType := fun k => match k with
  | 0 => .array .int
  | 1 => .array .int
  | 2 => .int
  | 3 => .int
  | 4 => .int
  | 5 => .array .int
  | 6 => .array .int
  | 7 => .array .int
  | 8 => .int
  | 9 => .int
  | 10 => .array .int
  | 11 => .array .int
  | 12 => .array .int
  | 13 => .array .int
  | 14 => .array .int
  | 15 => .array .int
  | _ => .int
abbrev wsX120 : List Cond := u_ws RX12 TX12 17
theorem nmX12 : ∀ a, a < 17 → ∀ b, b < 17 → a ≠ b → (TX12 a).2.1 ≠ (TX12 b).2.1 := by decide +kernel
theorem tyX12_ok : ∀ k, k < 17 → parseFieldDescriptor (TX12 k).2.2.1 = some (tyX12 k) := by decide +kernel
abbrev cX12_init : ByteArray := prog_14_method_1_code
def yX12_init : MethodName := ⟨RX12, "<init>", "()V"⟩
abbrev cX12_in : ByteArray := prog_14_method_3_code
def yX12_in : MethodName := ⟨RX12, "in", "(JJJ)Z"⟩
abbrev cX12_has : ByteArray := prog_14_method_4_code
def yX12_has : MethodName := ⟨RX12, "has", "(II)Z"⟩
abbrev cX12_ones : ByteArray := prog_14_method_5_code
def yX12_ones : MethodName := ⟨RX12, "ones", "(I)I"⟩
abbrev cX12_begins : ByteArray := prog_14_method_6_code
def yX12_begins : MethodName := ⟨RX12, "begins", "()V"⟩
abbrev cX12_persons : ByteArray := prog_14_method_7_code
def yX12_persons : MethodName := ⟨RX12, "persons", "(III)Z"⟩
abbrev cX12_goods : ByteArray := prog_14_method_8_code
def yX12_goods : MethodName := ⟨RX12, "goods", "(IIII)Z"⟩
abbrev cX12_loves : ByteArray := prog_14_method_9_code
def yX12_loves : MethodName := ⟨RX12, "loves", "(III)Z"⟩
abbrev cX12_tenths : ByteArray := prog_14_method_10_code
def yX12_tenths : MethodName := ⟨RX12, "tenths", "(I)Z"⟩
abbrev cX12_copy : ByteArray := prog_14_method_11_code
def yX12_copy : MethodName := ⟨RX12, "copy", "(II)V"⟩
abbrev cX12_comes : ByteArray := prog_14_method_12_code
def yX12_comes : MethodName := ⟨RX12, "comes", "()V"⟩
abbrev cX12_write : ByteArray := prog_14_method_13_code
def yX12_write : MethodName := ⟨RX12, "write", "(I)I"⟩
abbrev cX12_wipe : ByteArray := prog_14_method_14_code
def yX12_wipe : MethodName := ⟨RX12, "wipe", "()I"⟩
abbrev cX12_letterAt : ByteArray := prog_14_method_15_code
def yX12_letterAt : MethodName := ⟨RX12, "letterAt", "(I)I"⟩
abbrev cX12_takesNumbers : ByteArray := prog_14_method_16_code
def yX12_takesNumbers : MethodName := ⟨RX12, "takesNumbers", "(I)Z"⟩
abbrev cX12_takesItem : ByteArray := prog_14_method_17_code
def yX12_takesItem : MethodName := ⟨RX12, "takesItem", "()Z"⟩
abbrev cX12_faultOf : ByteArray := prog_14_method_18_code
def yX12_faultOf : MethodName := ⟨RX12, "faultOf", "()I"⟩
abbrev cX12_fault : ByteArray := prog_14_method_19_code
def yX12_fault : MethodName := ⟨RX12, "fault", "()I"⟩
abbrev cX12_lay : ByteArray := prog_14_method_20_code
def yX12_lay : MethodName := ⟨RX12, "lay", "()I"⟩
abbrev cX12_isPerson : ByteArray := prog_14_method_21_code
def yX12_isPerson : MethodName := ⟨RX12, "isPerson", "(I)Z"⟩
abbrev cX12_isGood : ByteArray := prog_14_method_22_code
def yX12_isGood : MethodName := ⟨RX12, "isGood", "(I)Z"⟩
abbrev cX12_areTwo : ByteArray := prog_14_method_23_code
def yX12_areTwo : MethodName := ⟨RX12, "areTwo", "(II)Z"⟩
abbrev cX12_isHere : ByteArray := prog_14_method_24_code
def yX12_isHere : MethodName := ⟨RX12, "isHere", "(I)Z"⟩
abbrev cX12_person : ByteArray := prog_14_method_25_code
def yX12_person : MethodName := ⟨RX12, "person", "(II)I"⟩
abbrev cX12_good : ByteArray := prog_14_method_26_code
def yX12_good : MethodName := ⟨RX12, "good", "(II)I"⟩
abbrev cX12_love : ByteArray := prog_14_method_27_code
def yX12_love : MethodName := ⟨RX12, "love", "(II)I"⟩
abbrev cX12_counts : ByteArray := prog_14_method_28_code
def yX12_counts : MethodName := ⟨RX12, "counts", "(I)I"⟩
abbrev cX12_dutyOf : ByteArray := prog_14_method_29_code
def yX12_dutyOf : MethodName := ⟨RX12, "dutyOf", "(II)I"⟩
abbrev cX12_leftBy : ByteArray := prog_14_method_30_code
def yX12_leftBy : MethodName := ⟨RX12, "leftBy", "(III)I"⟩
abbrev cX12_lovedBy : ByteArray := prog_14_method_31_code
def yX12_lovedBy : MethodName := ⟨RX12, "lovedBy", "(III)I"⟩
abbrev cX12_owesIn : ByteArray := prog_14_method_32_code
def yX12_owesIn : MethodName := ⟨RX12, "owesIn", "(III)I"⟩
abbrev cX12_owesNow : ByteArray := prog_14_method_33_code
def yX12_owesNow : MethodName := ⟨RX12, "owesNow", "(I)I"⟩
abbrev cX12_owes : ByteArray := prog_14_method_34_code
def yX12_owes : MethodName := ⟨RX12, "owes", "(I)I"⟩
abbrev cX12_owesWith : ByteArray := prog_14_method_35_code
def yX12_owesWith : MethodName := ⟨RX12, "owesWith", "(II)I"⟩
abbrev cX12_minds : ByteArray := prog_14_method_36_code
def yX12_minds : MethodName := ⟨RX12, "minds", "()V"⟩
abbrev cX12_heavyOf : ByteArray := prog_14_method_37_code
def yX12_heavyOf : MethodName := ⟨RX12, "heavyOf", "(I)I"⟩
abbrev cX12_isOurs : ByteArray := prog_14_method_38_code
def yX12_isOurs : MethodName := ⟨RX12, "isOurs", "(I)Z"⟩
abbrev cX12_pack : ByteArray := prog_14_method_39_code
def yX12_pack : MethodName := ⟨RX12, "pack", "(IZ)I"⟩
abbrev cX12_give : ByteArray := prog_14_method_40_code
def yX12_give : MethodName := ⟨RX12, "give", "(II)I"⟩
abbrev cX12_isAlone : ByteArray := prog_14_method_41_code
def yX12_isAlone : MethodName := ⟨RX12, "isAlone", "(I)Z"⟩
abbrev cX12_canLeave : ByteArray := prog_14_method_42_code
def yX12_canLeave : MethodName := ⟨RX12, "canLeave", "(II)Z"⟩
abbrev cX12_goes : ByteArray := prog_14_method_43_code
def yX12_goes : MethodName := ⟨RX12, "goes", "(III)V"⟩
abbrev cX12_backFor : ByteArray := prog_14_method_44_code
def yX12_backFor : MethodName := ⟨RX12, "backFor", "(II)I"⟩
abbrev cX12_returns : ByteArray := prog_14_method_45_code
def yX12_returns : MethodName := ⟨RX12, "returns", "(III)V"⟩
abbrev cX12_leave : ByteArray := prog_14_method_46_code
def yX12_leave : MethodName := ⟨RX12, "leave", "(I)I"⟩
abbrev cX12_leaveBoth : ByteArray := prog_14_method_47_code
def yX12_leaveBoth : MethodName := ⟨RX12, "leaveBoth", "(II)I"⟩
abbrev cX12_comeBack : ByteArray := prog_14_method_48_code
def yX12_comeBack : MethodName := ⟨RX12, "comeBack", "(I)I"⟩
abbrev cX12_undo : ByteArray := prog_14_method_49_code
def yX12_undo : MethodName := ⟨RX12, "undo", "()I"⟩
abbrev cX12_packing : ByteArray := prog_14_method_50_code
def yX12_packing : MethodName := ⟨RX12, "packing", "(II)I"⟩
abbrev cX12_giving : ByteArray := prog_14_method_51_code
def yX12_giving : MethodName := ⟨RX12, "giving", "(II)I"⟩
abbrev cX12_findOrder : ByteArray := prog_14_method_52_code
def yX12_findOrder : MethodName := ⟨RX12, "findOrder", "()V"⟩
abbrev cX12_order : ByteArray := prog_14_method_53_code
def yX12_order : MethodName := ⟨RX12, "order", "(I)I"⟩
abbrev cX12_stuck : ByteArray := prog_14_method_54_code
def yX12_stuck : MethodName := ⟨RX12, "stuck", "()I"⟩
abbrev cX12_swear : ByteArray := prog_14_method_55_code
def yX12_swear : MethodName := ⟨RX12, "swear", "(II)I"⟩
abbrev cX12_forget : ByteArray := prog_14_method_56_code
def yX12_forget : MethodName := ⟨RX12, "forget", "()I"⟩
abbrev cX12_isFalse : ByteArray := prog_14_method_57_code
def yX12_isFalse : MethodName := ⟨RX12, "isFalse", "(I)I"⟩
abbrev cX12_loved : ByteArray := prog_14_method_58_code
def yX12_loved : MethodName := ⟨RX12, "loved", "(III)I"⟩
abbrev cX12_nextGift : ByteArray := prog_14_method_59_code
def yX12_nextGift : MethodName := ⟨RX12, "nextGift", "(II)I"⟩
abbrev cX12_gives : ByteArray := prog_14_method_60_code
def yX12_gives : MethodName := ⟨RX12, "gives", "(II)V"⟩
abbrev cX12_offers : ByteArray := prog_14_method_61_code
def yX12_offers : MethodName := ⟨RX12, "offers", "(III)V"⟩
abbrev cX12_opens : ByteArray := prog_14_method_62_code
def yX12_opens : MethodName := ⟨RX12, "opens", "(I)V"⟩
abbrev cX12_findTurns : ByteArray := prog_14_method_63_code
def yX12_findTurns : MethodName := ⟨RX12, "findTurns", "(III)V"⟩
abbrev cX12_byTurns : ByteArray := prog_14_method_64_code
def yX12_byTurns : MethodName := ⟨RX12, "byTurns", "(IIII)I"⟩
abbrev cX12_chairs : ByteArray := prog_14_method_65_code
def yX12_chairs : MethodName := ⟨RX12, "chairs", "(I)I"⟩
abbrev cX12_year : ByteArray := prog_14_method_66_code
def yX12_year : MethodName := ⟨RX12, "year", "(III)I"⟩
abbrev cX12_keep : ByteArray := prog_14_method_67_code
def yX12_keep : MethodName := ⟨RX12, "keep", "()I"⟩
abbrev cX12_back : ByteArray := prog_14_method_68_code
def yX12_back : MethodName := ⟨RX12, "back", "()I"⟩
abbrev cX12_paidInAll : ByteArray := prog_14_method_69_code
def yX12_paidInAll : MethodName := ⟨RX12, "paidInAll", "()I"⟩
abbrev cX12_goodsThat : ByteArray := prog_14_method_70_code
def yX12_goodsThat : MethodName := ⟨RX12, "goodsThat", "(Z)I"⟩
abbrev cX12_count : ByteArray := prog_14_method_71_code
def yX12_count : MethodName := ⟨RX12, "count", "(I)I"⟩
def RJ6 : String := "java/lang/Integer"
def TJ6 : u_T := fun k => match k with
  | _ => ("", "", "", false)
def tyJ6 : Nat → FieldType := fun k => match k with
  | _ => .int
abbrev wsJ60 : List Cond := u_ws RJ6 TJ6 0
theorem nmJ6 : ∀ a, a < 0 → ∀ b, b < 0 → a ≠ b → (TJ6 a).2.1 ≠ (TJ6 b).2.1 := by decide +kernel
theorem tyJ6_ok : ∀ k, k < 0 → parseFieldDescriptor (TJ6 k).2.2.1 = some (tyJ6 k) := by decide +kernel
abbrev cJ6_bitCount_0f7a4 : ByteArray := prog_15_method_49_code
def yJ6_bitCount_0f7a4 : MethodName := ⟨RJ6, "bitCount", "(I)I"⟩
def RJ9 : String := "java/lang/Math"
def TJ9 : u_T := fun k => match k with
  | _ => ("", "", "", false)
def tyJ9 : Nat → FieldType := fun k => match k with
  | _ => .int
abbrev wsJ90 : List Cond := u_ws RJ9 TJ9 0
theorem nmJ9 : ∀ a, a < 0 → ∀ b, b < 0 → a ≠ b → (TJ9 a).2.1 ≠ (TJ9 b).2.1 := by decide +kernel
theorem tyJ9_ok : ∀ k, k < 0 → parseFieldDescriptor (TJ9 k).2.2.1 = some (tyJ9 k) := by decide +kernel
abbrev cJ9_max_7cf53 : ByteArray := prog_16_method_65_code
def yJ9_max_7cf53 : MethodName := ⟨RJ9, "max", "(II)I"⟩
abbrev cJ9_min_7cf53 : ByteArray := prog_16_method_69_code
def yJ9_min_7cf53 : MethodName := ⟨RJ9, "min", "(II)I"⟩
def RJ0 : String := "java/lang/String"
def TJ0 : u_T := fun k => match k with
  | _ => ("", "", "", false)
def tyJ0 : Nat → FieldType := fun k => match k with
  | _ => .int
abbrev wsJ00 : List Cond := u_ws RJ0 TJ0 0
theorem nmJ0 : ∀ a, a < 0 → ∀ b, b < 0 → a ≠ b → (TJ0 a).2.1 ≠ (TJ0 b).2.1 := by decide +kernel
theorem tyJ0_ok : ∀ k, k < 0 → parseFieldDescriptor (TJ0 k).2.2.1 = some (tyJ0 k) := by decide +kernel
abbrev cJ0_length_8abf5 : ByteArray := prog_17_method_54_code
def yJ0_length_8abf5 : MethodName := ⟨RJ0, "length", "()I"⟩
abbrev cJ0_charAt_5068e : ByteArray := prog_17_method_56_code
def yJ0_charAt_5068e : MethodName := ⟨RJ0, "charAt", "(I)C"⟩
abbrev cJ0_coder_7d493 : ByteArray := prog_17_method_152_code
def yJ0_coder_7d493 : MethodName := ⟨RJ0, "coder", "()B"⟩
abbrev cJ0_isLatin1_aae02 : ByteArray := prog_17_method_154_code
def yJ0_isLatin1_aae02 : MethodName := ⟨RJ0, "isLatin1", "()Z"⟩
abbrev cJ0_checkIndex_df160 : ByteArray := prog_17_method_155_code
def yJ0_checkIndex_df160 : MethodName := ⟨RJ0, "checkIndex", "(II)V"⟩
def RJ1 : String := "java/lang/StringLatin1"
def TJ1 : u_T := fun k => match k with
  | _ => ("", "", "", false)
def tyJ1 : Nat → FieldType := fun k => match k with
  | _ => .int
abbrev wsJ10 : List Cond := u_ws RJ1 TJ1 0
theorem nmJ1 : ∀ a, a < 0 → ∀ b, b < 0 → a ≠ b → (TJ1 a).2.1 ≠ (TJ1 b).2.1 := by decide +kernel
theorem tyJ1_ok : ∀ k, k < 0 → parseFieldDescriptor (TJ1 k).2.2.1 = some (tyJ1 k) := by decide +kernel
abbrev cJ1_charAt_3b067 : ByteArray := prog_18_method_2_code
def yJ1_charAt_3b067 : MethodName := ⟨RJ1, "charAt", "([BI)C"⟩
def RJ2 : String := "java/lang/StringUTF16"
def TJ2 : u_T := fun k => match k with
  | _ => ("", "", "", false)
def tyJ2 : Nat → FieldType := fun k => match k with
  | _ => .int
abbrev wsJ20 : List Cond := u_ws RJ2 TJ2 0
theorem nmJ2 : ∀ a, a < 0 → ∀ b, b < 0 → a ≠ b → (TJ2 a).2.1 ≠ (TJ2 b).2.1 := by decide +kernel
theorem tyJ2_ok : ∀ k, k < 0 → parseFieldDescriptor (TJ2 k).2.2.1 = some (tyJ2 k) := by decide +kernel
abbrev cJ2_getChar_3b067 : ByteArray := prog_19_method_5_code
def yJ2_getChar_3b067 : MethodName := ⟨RJ2, "getChar", "([BI)C"⟩
abbrev cJ2_length_9d52b : ByteArray := prog_19_method_6_code
def yJ2_length_9d52b : MethodName := ⟨RJ2, "length", "([B)I"⟩
abbrev cJ2_charAt_3b067 : ByteArray := prog_19_method_83_code
def yJ2_charAt_3b067 : MethodName := ⟨RJ2, "charAt", "([BI)C"⟩
abbrev cJ2_checkIndex_2214a : ByteArray := prog_19_method_91_code
def yJ2_checkIndex_2214a : MethodName := ⟨RJ2, "checkIndex", "(I[B)V"⟩
def RJ3 : String := "jdk/internal/util/Preconditions"
def TJ3 : u_T := fun k => match k with
  | _ => ("", "", "", false)
def tyJ3 : Nat → FieldType := fun k => match k with
  | _ => .int
abbrev wsJ30 : List Cond := u_ws RJ3 TJ3 0
theorem nmJ3 : ∀ a, a < 0 → ∀ b, b < 0 → a ≠ b → (TJ3 a).2.1 ≠ (TJ3 b).2.1 := by decide +kernel
theorem tyJ3_ok : ∀ k, k < 0 → parseFieldDescriptor (TJ3 k).2.2.1 = some (tyJ3 k) := by decide +kernel
abbrev cJ3_checkIndex_8e157 : ByteArray := prog_20_method_11_code
def yJ3_checkIndex_8e157 : MethodName := ⟨RJ3, "checkIndex", "(IILjava/util/function/BiFunction;)I"⟩
def RL : String := "DutyOnLeftLaw"
abbrev cL_law : ByteArray := code
def yL_law : MethodName := ⟨RL, "law", "([I)Z"⟩
abbrev vwCl : List vw_C := [(RX1, TX1, 12), (RX3, TX3, 3), (RX4, TX4, 2), (RX5, TX5, 3), (RX6, TX6, 1), (RX8, TX8, 7), (RX9, TX9, 2), (RX11, TX11, 11), (RX12, TX12, 17)]
end
section
theorem dX0_worth_0 : decode cX0_worth 0 = .ok (.iconst 0, 1) := by decide +kernel
theorem dX0_worth_1 : decode cX0_worth 1 = .ok (.istore_n 2, 1) := by decide +kernel
theorem dX0_worth_2 : decode cX0_worth 2 = .ok (.iconst 0, 1) := by decide +kernel
theorem dX0_worth_3 : decode cX0_worth 3 = .ok (.istore_n 3, 1) := by decide +kernel
theorem dX0_worth_4 : decode cX0_worth 4 = .ok (.iload_n 3, 1) := by decide +kernel
theorem dX0_worth_5 : decode cX0_worth 5 = .ok (.aload_n 0, 1) := by decide +kernel
theorem dX0_worth_6 : decode cX0_worth 6 = .ok (.getfield 9, 3) := by decide +kernel
theorem dX0_worth_9 : decode cX0_worth 9 = .ok (.if_icmp .ge 30, 3) := by decide +kernel
theorem dX0_worth_12 : decode cX0_worth 12 = .ok (.iload_n 2, 1) := by decide +kernel
theorem dX0_worth_13 : decode cX0_worth 13 = .ok (.iload_n 1, 1) := by decide +kernel
theorem dX0_worth_14 : decode cX0_worth 14 = .ok (.iload_n 3, 1) := by decide +kernel
theorem dX0_worth_15 : decode cX0_worth 15 = .ok (.ishr, 1) := by decide +kernel
theorem dX0_worth_16 : decode cX0_worth 16 = .ok (.iconst 1, 1) := by decide +kernel
theorem dX0_worth_17 : decode cX0_worth 17 = .ok (.iand, 1) := by decide +kernel
theorem dX0_worth_18 : decode cX0_worth 18 = .ok (.iconst 1, 1) := by decide +kernel
theorem dX0_worth_19 : decode cX0_worth 19 = .ok (.if_icmp .ne 11, 3) := by decide +kernel
theorem dX0_worth_22 : decode cX0_worth 22 = .ok (.aload_n 0, 1) := by decide +kernel
theorem dX0_worth_23 : decode cX0_worth 23 = .ok (.iload_n 3, 1) := by decide +kernel
theorem dX0_worth_24 : decode cX0_worth 24 = .ok (.invokevirtual 15, 3) := by decide +kernel
theorem dX0_worth_27 : decode cX0_worth 27 = .ok (.goto 4, 3) := by decide +kernel
theorem dX0_worth_30 : decode cX0_worth 30 = .ok (.iconst 0, 1) := by decide +kernel
theorem dX0_worth_31 : decode cX0_worth 31 = .ok (.iadd, 1) := by decide +kernel
theorem dX0_worth_32 : decode cX0_worth 32 = .ok (.istore_n 2, 1) := by decide +kernel
theorem dX0_worth_33 : decode cX0_worth 33 = .ok (.iinc 3 1, 3) := by decide +kernel
theorem dX0_worth_36 : decode cX0_worth 36 = .ok (.goto (-32), 3) := by decide +kernel
theorem dX0_worth_39 : decode cX0_worth 39 = .ok (.iload_n 2, 1) := by decide +kernel
theorem dX0_worth_40 : decode cX0_worth 40 = .ok (.ireturn, 1) := by decide +kernel
theorem dX0_load_0 : decode cX0_load 0 = .ok (.iconst 0, 1) := by decide +kernel
theorem dX0_load_1 : decode cX0_load 1 = .ok (.istore_n 2, 1) := by decide +kernel
theorem dX0_load_2 : decode cX0_load 2 = .ok (.iconst 0, 1) := by decide +kernel
theorem dX0_load_3 : decode cX0_load 3 = .ok (.istore_n 3, 1) := by decide +kernel
theorem dX0_load_4 : decode cX0_load 4 = .ok (.iload_n 3, 1) := by decide +kernel
theorem dX0_load_5 : decode cX0_load 5 = .ok (.aload_n 0, 1) := by decide +kernel
theorem dX0_load_6 : decode cX0_load 6 = .ok (.getfield 9, 3) := by decide +kernel
theorem dX0_load_9 : decode cX0_load 9 = .ok (.if_icmp .ge 30, 3) := by decide +kernel
theorem dX0_load_12 : decode cX0_load 12 = .ok (.iload_n 2, 1) := by decide +kernel
theorem dX0_load_13 : decode cX0_load 13 = .ok (.iload_n 1, 1) := by decide +kernel
theorem dX0_load_14 : decode cX0_load 14 = .ok (.iload_n 3, 1) := by decide +kernel
theorem dX0_load_15 : decode cX0_load 15 = .ok (.ishr, 1) := by decide +kernel
theorem dX0_load_16 : decode cX0_load 16 = .ok (.iconst 1, 1) := by decide +kernel
theorem dX0_load_17 : decode cX0_load 17 = .ok (.iand, 1) := by decide +kernel
theorem dX0_load_18 : decode cX0_load 18 = .ok (.iconst 1, 1) := by decide +kernel
theorem dX0_load_19 : decode cX0_load 19 = .ok (.if_icmp .ne 11, 3) := by decide +kernel
theorem dX0_load_22 : decode cX0_load 22 = .ok (.aload_n 0, 1) := by decide +kernel
theorem dX0_load_23 : decode cX0_load 23 = .ok (.iload_n 3, 1) := by decide +kernel
theorem dX0_load_24 : decode cX0_load 24 = .ok (.invokevirtual 19, 3) := by decide +kernel
theorem dX0_load_27 : decode cX0_load 27 = .ok (.goto 4, 3) := by decide +kernel
theorem dX0_load_30 : decode cX0_load 30 = .ok (.iconst 0, 1) := by decide +kernel
theorem dX0_load_31 : decode cX0_load 31 = .ok (.iadd, 1) := by decide +kernel
theorem dX0_load_32 : decode cX0_load 32 = .ok (.istore_n 2, 1) := by decide +kernel
theorem dX0_load_33 : decode cX0_load 33 = .ok (.iinc 3 1, 3) := by decide +kernel
theorem dX0_load_36 : decode cX0_load 36 = .ok (.goto (-32), 3) := by decide +kernel
theorem dX0_load_39 : decode cX0_load 39 = .ok (.iload_n 2, 1) := by decide +kernel
theorem dX0_load_40 : decode cX0_load 40 = .ok (.ireturn, 1) := by decide +kernel
theorem dX0_loveLeft_0 : decode cX0_loveLeft 0 = .ok (.iconst 0, 1) := by decide +kernel
theorem dX0_loveLeft_1 : decode cX0_loveLeft 1 = .ok (.istore_n 3, 1) := by decide +kernel
theorem dX0_loveLeft_2 : decode cX0_loveLeft 2 = .ok (.iconst 0, 1) := by decide +kernel
theorem dX0_loveLeft_3 : decode cX0_loveLeft 3 = .ok (.istore 4, 2) := by decide +kernel
theorem dX0_loveLeft_5 : decode cX0_loveLeft 5 = .ok (.iload 4, 2) := by decide +kernel
theorem dX0_loveLeft_7 : decode cX0_loveLeft 7 = .ok (.aload_n 0, 1) := by decide +kernel
theorem dX0_loveLeft_8 : decode cX0_loveLeft 8 = .ok (.getfield 22, 3) := by decide +kernel
theorem dX0_loveLeft_11 : decode cX0_loveLeft 11 = .ok (.if_icmp .ge 39, 3) := by decide +kernel
theorem dX0_loveLeft_14 : decode cX0_loveLeft 14 = .ok (.iload_n 3, 1) := by decide +kernel
theorem dX0_loveLeft_15 : decode cX0_loveLeft 15 = .ok (.iload 4, 2) := by decide +kernel
theorem dX0_loveLeft_17 : decode cX0_loveLeft 17 = .ok (.iload_n 1, 1) := by decide +kernel
theorem dX0_loveLeft_18 : decode cX0_loveLeft 18 = .ok (.if_icmp .eq 23, 3) := by decide +kernel
theorem dX0_loveLeft_21 : decode cX0_loveLeft 21 = .ok (.iload_n 2, 1) := by decide +kernel
theorem dX0_loveLeft_22 : decode cX0_loveLeft 22 = .ok (.iload 4, 2) := by decide +kernel
theorem dX0_loveLeft_24 : decode cX0_loveLeft 24 = .ok (.ishr, 1) := by decide +kernel
theorem dX0_loveLeft_25 : decode cX0_loveLeft 25 = .ok (.iconst 1, 1) := by decide +kernel
theorem dX0_loveLeft_26 : decode cX0_loveLeft 26 = .ok (.iand, 1) := by decide +kernel
theorem dX0_loveLeft_27 : decode cX0_loveLeft 27 = .ok (.iconst 1, 1) := by decide +kernel
theorem dX0_loveLeft_28 : decode cX0_loveLeft 28 = .ok (.if_icmp .ne 13, 3) := by decide +kernel
theorem dX0_loveLeft_31 : decode cX0_loveLeft 31 = .ok (.aload_n 0, 1) := by decide +kernel
theorem dX0_loveLeft_32 : decode cX0_loveLeft 32 = .ok (.iload_n 1, 1) := by decide +kernel
theorem dX0_loveLeft_33 : decode cX0_loveLeft 33 = .ok (.iload 4, 2) := by decide +kernel
theorem dX0_loveLeft_35 : decode cX0_loveLeft 35 = .ok (.invokevirtual 25, 3) := by decide +kernel
theorem dX0_loveLeft_38 : decode cX0_loveLeft 38 = .ok (.goto 4, 3) := by decide +kernel
theorem dX0_loveLeft_41 : decode cX0_loveLeft 41 = .ok (.iconst 0, 1) := by decide +kernel
theorem dX0_loveLeft_42 : decode cX0_loveLeft 42 = .ok (.iadd, 1) := by decide +kernel
theorem dX0_loveLeft_43 : decode cX0_loveLeft 43 = .ok (.istore_n 3, 1) := by decide +kernel
theorem dX0_loveLeft_44 : decode cX0_loveLeft 44 = .ok (.iinc 4 1, 3) := by decide +kernel
theorem dX0_loveLeft_47 : decode cX0_loveLeft 47 = .ok (.goto (-42), 3) := by decide +kernel
theorem dX0_loveLeft_50 : decode cX0_loveLeft 50 = .ok (.iload_n 3, 1) := by decide +kernel
theorem dX0_loveLeft_51 : decode cX0_loveLeft 51 = .ok (.ireturn, 1) := by decide +kernel
theorem dX0_onLeft_0 : decode cX0_onLeft 0 = .ok (.iload_n 2, 1) := by decide +kernel
theorem dX0_onLeft_1 : decode cX0_onLeft 1 = .ok (.iconst 0, 1) := by decide +kernel
theorem dX0_onLeft_2 : decode cX0_onLeft 2 = .ok (.invokestatic 29, 3) := by decide +kernel
theorem dX0_onLeft_5 : decode cX0_onLeft 5 = .ok (.aload_n 0, 1) := by decide +kernel
theorem dX0_onLeft_6 : decode cX0_onLeft 6 = .ok (.getfield 34, 3) := by decide +kernel
theorem dX0_onLeft_9 : decode cX0_onLeft 9 = .ok (.imul, 1) := by decide +kernel
theorem dX0_onLeft_10 : decode cX0_onLeft 10 = .ok (.bipush 10, 2) := by decide +kernel
theorem dX0_onLeft_12 : decode cX0_onLeft 12 = .ok (.idiv, 1) := by decide +kernel
theorem dX0_onLeft_13 : decode cX0_onLeft 13 = .ok (.istore_n 3, 1) := by decide +kernel
theorem dX0_onLeft_14 : decode cX0_onLeft 14 = .ok (.aload_n 0, 1) := by decide +kernel
theorem dX0_onLeft_15 : decode cX0_onLeft 15 = .ok (.iload_n 1, 1) := by decide +kernel
theorem dX0_onLeft_16 : decode cX0_onLeft 16 = .ok (.invokevirtual 37, 3) := by decide +kernel
theorem dX0_onLeft_19 : decode cX0_onLeft 19 = .ok (.tableswitch 41 1 4 #[29, 33, 41, 37], 29) := by decide +kernel
theorem dX0_onLeft_48 : decode cX0_onLeft 48 = .ok (.iload_n 3, 1) := by decide +kernel
theorem dX0_onLeft_49 : decode cX0_onLeft 49 = .ok (.iconst 2, 1) := by decide +kernel
theorem dX0_onLeft_50 : decode cX0_onLeft 50 = .ok (.idiv, 1) := by decide +kernel
theorem dX0_onLeft_51 : decode cX0_onLeft 51 = .ok (.ireturn, 1) := by decide +kernel
theorem dX0_onLeft_52 : decode cX0_onLeft 52 = .ok (.iload_n 3, 1) := by decide +kernel
theorem dX0_onLeft_53 : decode cX0_onLeft 53 = .ok (.iconst 2, 1) := by decide +kernel
theorem dX0_onLeft_54 : decode cX0_onLeft 54 = .ok (.idiv, 1) := by decide +kernel
theorem dX0_onLeft_55 : decode cX0_onLeft 55 = .ok (.ireturn, 1) := by decide +kernel
theorem dX0_onLeft_56 : decode cX0_onLeft 56 = .ok (.iload_n 3, 1) := by decide +kernel
theorem dX0_onLeft_57 : decode cX0_onLeft 57 = .ok (.iconst 3, 1) := by decide +kernel
theorem dX0_onLeft_58 : decode cX0_onLeft 58 = .ok (.idiv, 1) := by decide +kernel
theorem dX0_onLeft_59 : decode cX0_onLeft 59 = .ok (.ireturn, 1) := by decide +kernel
theorem dX0_onLeft_60 : decode cX0_onLeft 60 = .ok (.iload_n 3, 1) := by decide +kernel
theorem dX0_onLeft_61 : decode cX0_onLeft 61 = .ok (.ireturn, 1) := by decide +kernel
theorem dX0_left_0 : decode cX0_left 0 = .ok (.aload_n 0, 1) := by decide +kernel
theorem dX0_left_1 : decode cX0_left 1 = .ok (.aload_n 1, 1) := by decide +kernel
theorem dX0_left_2 : decode cX0_left 2 = .ok (.iload_n 2, 1) := by decide +kernel
theorem dX0_left_3 : decode cX0_left 3 = .ok (.invokestatic 40, 3) := by decide +kernel
theorem dX0_left_6 : decode cX0_left 6 = .ok (.aload_n 0, 1) := by decide +kernel
theorem dX0_left_7 : decode cX0_left 7 = .ok (.iload_n 2, 1) := by decide +kernel
theorem dX0_left_8 : decode cX0_left 8 = .ok (.aload_n 1, 1) := by decide +kernel
theorem dX0_left_9 : decode cX0_left 9 = .ok (.getfield 46, 3) := by decide +kernel
theorem dX0_left_12 : decode cX0_left 12 = .ok (.invokestatic 51, 3) := by decide +kernel
theorem dX0_left_15 : decode cX0_left 15 = .ok (.iadd, 1) := by decide +kernel
theorem dX0_left_16 : decode cX0_left 16 = .ok (.ireturn, 1) := by decide +kernel
theorem dX0_goodsLeft_0 : decode cX0_goodsLeft 0 = .ok (.iconst 0, 1) := by decide +kernel
theorem dX0_goodsLeft_1 : decode cX0_goodsLeft 1 = .ok (.istore_n 3, 1) := by decide +kernel
theorem dX0_goodsLeft_2 : decode cX0_goodsLeft 2 = .ok (.iconst 0, 1) := by decide +kernel
theorem dX0_goodsLeft_3 : decode cX0_goodsLeft 3 = .ok (.istore 4, 2) := by decide +kernel
theorem dX0_goodsLeft_5 : decode cX0_goodsLeft 5 = .ok (.iload 4, 2) := by decide +kernel
theorem dX0_goodsLeft_7 : decode cX0_goodsLeft 7 = .ok (.aload_n 0, 1) := by decide +kernel
theorem dX0_goodsLeft_8 : decode cX0_goodsLeft 8 = .ok (.getfield 9, 3) := by decide +kernel
theorem dX0_goodsLeft_11 : decode cX0_goodsLeft 11 = .ok (.if_icmp .ge 32, 3) := by decide +kernel
theorem dX0_goodsLeft_14 : decode cX0_goodsLeft 14 = .ok (.iload_n 3, 1) := by decide +kernel
theorem dX0_goodsLeft_15 : decode cX0_goodsLeft 15 = .ok (.aload_n 1, 1) := by decide +kernel
theorem dX0_goodsLeft_16 : decode cX0_goodsLeft 16 = .ok (.iload 4, 2) := by decide +kernel
theorem dX0_goodsLeft_18 : decode cX0_goodsLeft 18 = .ok (.iload_n 2, 1) := by decide +kernel
theorem dX0_goodsLeft_19 : decode cX0_goodsLeft 19 = .ok (.invokevirtual 55, 3) := by decide +kernel
theorem dX0_goodsLeft_22 : decode cX0_goodsLeft 22 = .ok (.ifCond .eq 12, 3) := by decide +kernel
theorem dX0_goodsLeft_25 : decode cX0_goodsLeft 25 = .ok (.aload_n 0, 1) := by decide +kernel
theorem dX0_goodsLeft_26 : decode cX0_goodsLeft 26 = .ok (.iload 4, 2) := by decide +kernel
theorem dX0_goodsLeft_28 : decode cX0_goodsLeft 28 = .ok (.invokevirtual 15, 3) := by decide +kernel
theorem dX0_goodsLeft_31 : decode cX0_goodsLeft 31 = .ok (.goto 4, 3) := by decide +kernel
theorem dX0_goodsLeft_34 : decode cX0_goodsLeft 34 = .ok (.iconst 0, 1) := by decide +kernel
theorem dX0_goodsLeft_35 : decode cX0_goodsLeft 35 = .ok (.iadd, 1) := by decide +kernel
theorem dX0_goodsLeft_36 : decode cX0_goodsLeft 36 = .ok (.istore_n 3, 1) := by decide +kernel
theorem dX0_goodsLeft_37 : decode cX0_goodsLeft 37 = .ok (.iinc 4 1, 3) := by decide +kernel
theorem dX0_goodsLeft_40 : decode cX0_goodsLeft 40 = .ok (.goto (-35), 3) := by decide +kernel
theorem dX0_goodsLeft_43 : decode cX0_goodsLeft 43 = .ok (.iload_n 3, 1) := by decide +kernel
theorem dX0_goodsLeft_44 : decode cX0_goodsLeft 44 = .ok (.ireturn, 1) := by decide +kernel
theorem dX0_owed_0 : decode cX0_owed 0 = .ok (.aload_n 0, 1) := by decide +kernel
theorem dX0_owed_1 : decode cX0_owed 1 = .ok (.iload_n 2, 1) := by decide +kernel
theorem dX0_owed_2 : decode cX0_owed 2 = .ok (.aload_n 0, 1) := by decide +kernel
theorem dX0_owed_3 : decode cX0_owed 3 = .ok (.aload_n 1, 1) := by decide +kernel
theorem dX0_owed_4 : decode cX0_owed 4 = .ok (.iload_n 2, 1) := by decide +kernel
theorem dX0_owed_5 : decode cX0_owed 5 = .ok (.invokestatic 40, 3) := by decide +kernel
theorem dX0_owed_8 : decode cX0_owed 8 = .ok (.aload_n 0, 1) := by decide +kernel
theorem dX0_owed_9 : decode cX0_owed 9 = .ok (.iload_n 2, 1) := by decide +kernel
theorem dX0_owed_10 : decode cX0_owed 10 = .ok (.aload_n 1, 1) := by decide +kernel
theorem dX0_owed_11 : decode cX0_owed 11 = .ok (.getfield 46, 3) := by decide +kernel
theorem dX0_owed_14 : decode cX0_owed 14 = .ok (.invokestatic 51, 3) := by decide +kernel
theorem dX0_owed_17 : decode cX0_owed 17 = .ok (.iadd, 1) := by decide +kernel
theorem dX0_owed_18 : decode cX0_owed 18 = .ok (.invokestatic 59, 3) := by decide +kernel
theorem dX0_owed_21 : decode cX0_owed 21 = .ok (.ireturn, 1) := by decide +kernel
theorem dX0_owedWith_0 : decode cX0_owedWith 0 = .ok (.aload_n 0, 1) := by decide +kernel
theorem dX0_owedWith_1 : decode cX0_owedWith 1 = .ok (.iload_n 2, 1) := by decide +kernel
theorem dX0_owedWith_2 : decode cX0_owedWith 2 = .ok (.iload_n 3, 1) := by decide +kernel
theorem dX0_owedWith_3 : decode cX0_owedWith 3 = .ok (.invokevirtual 25, 3) := by decide +kernel
theorem dX0_owedWith_6 : decode cX0_owedWith 6 = .ok (.istore 4, 2) := by decide +kernel
theorem dX0_owedWith_8 : decode cX0_owedWith 8 = .ok (.aload_n 0, 1) := by decide +kernel
theorem dX0_owedWith_9 : decode cX0_owedWith 9 = .ok (.iload_n 2, 1) := by decide +kernel
theorem dX0_owedWith_10 : decode cX0_owedWith 10 = .ok (.aload_n 0, 1) := by decide +kernel
theorem dX0_owedWith_11 : decode cX0_owedWith 11 = .ok (.aload_n 1, 1) := by decide +kernel
theorem dX0_owedWith_12 : decode cX0_owedWith 12 = .ok (.iload_n 2, 1) := by decide +kernel
theorem dX0_owedWith_13 : decode cX0_owedWith 13 = .ok (.invokestatic 62, 3) := by decide +kernel
theorem dX0_owedWith_16 : decode cX0_owedWith 16 = .ok (.iload 4, 2) := by decide +kernel
theorem dX0_owedWith_18 : decode cX0_owedWith 18 = .ok (.isub, 1) := by decide +kernel
theorem dX0_owedWith_19 : decode cX0_owedWith 19 = .ok (.iload 4, 2) := by decide +kernel
theorem dX0_owedWith_21 : decode cX0_owedWith 21 = .ok (.iconst 2, 1) := by decide +kernel
theorem dX0_owedWith_22 : decode cX0_owedWith 22 = .ok (.idiv, 1) := by decide +kernel
theorem dX0_owedWith_23 : decode cX0_owedWith 23 = .ok (.iadd, 1) := by decide +kernel
theorem dX0_owedWith_24 : decode cX0_owedWith 24 = .ok (.invokestatic 59, 3) := by decide +kernel
theorem dX0_owedWith_27 : decode cX0_owedWith 27 = .ok (.ireturn, 1) := by decide +kernel
theorem dX0_owedAmong_0 : decode cX0_owedAmong 0 = .ok (.aload_n 0, 1) := by decide +kernel
theorem dX0_owedAmong_1 : decode cX0_owedAmong 1 = .ok (.iload_n 2, 1) := by decide +kernel
theorem dX0_owedAmong_2 : decode cX0_owedAmong 2 = .ok (.aload_n 0, 1) := by decide +kernel
theorem dX0_owedAmong_3 : decode cX0_owedAmong 3 = .ok (.aload_n 1, 1) := by decide +kernel
theorem dX0_owedAmong_4 : decode cX0_owedAmong 4 = .ok (.iload_n 2, 1) := by decide +kernel
theorem dX0_owedAmong_5 : decode cX0_owedAmong 5 = .ok (.invokestatic 40, 3) := by decide +kernel
theorem dX0_owedAmong_8 : decode cX0_owedAmong 8 = .ok (.aload_n 0, 1) := by decide +kernel
theorem dX0_owedAmong_9 : decode cX0_owedAmong 9 = .ok (.iload_n 2, 1) := by decide +kernel
theorem dX0_owedAmong_10 : decode cX0_owedAmong 10 = .ok (.iload_n 3, 1) := by decide +kernel
theorem dX0_owedAmong_11 : decode cX0_owedAmong 11 = .ok (.invokestatic 51, 3) := by decide +kernel
theorem dX0_owedAmong_14 : decode cX0_owedAmong 14 = .ok (.iadd, 1) := by decide +kernel
theorem dX0_owedAmong_15 : decode cX0_owedAmong 15 = .ok (.invokestatic 59, 3) := by decide +kernel
theorem dX0_owedAmong_18 : decode cX0_owedAmong 18 = .ok (.ireturn, 1) := by decide +kernel
theorem dX0_owedPacking_0 : decode cX0_owedPacking 0 = .ok (.aload_n 0, 1) := by decide +kernel
theorem dX0_owedPacking_1 : decode cX0_owedPacking 1 = .ok (.aload_n 1, 1) := by decide +kernel
theorem dX0_owedPacking_2 : decode cX0_owedPacking 2 = .ok (.iload_n 2, 1) := by decide +kernel
theorem dX0_owedPacking_3 : decode cX0_owedPacking 3 = .ok (.invokevirtual 65, 3) := by decide +kernel
theorem dX0_owedPacking_6 : decode cX0_owedPacking 6 = .ok (.iload_n 3, 1) := by decide +kernel
theorem dX0_owedPacking_7 : decode cX0_owedPacking 7 = .ok (.iconst (-1), 1) := by decide +kernel
theorem dX0_owedPacking_8 : decode cX0_owedPacking 8 = .ok (.ixor, 1) := by decide +kernel
theorem dX0_owedPacking_9 : decode cX0_owedPacking 9 = .ok (.iand, 1) := by decide +kernel
theorem dX0_owedPacking_10 : decode cX0_owedPacking 10 = .ok (.invokestatic 68, 3) := by decide +kernel
theorem dX0_owedPacking_13 : decode cX0_owedPacking 13 = .ok (.istore 4, 2) := by decide +kernel
theorem dX0_owedPacking_15 : decode cX0_owedPacking 15 = .ok (.aload_n 0, 1) := by decide +kernel
theorem dX0_owedPacking_16 : decode cX0_owedPacking 16 = .ok (.iload_n 2, 1) := by decide +kernel
theorem dX0_owedPacking_17 : decode cX0_owedPacking 17 = .ok (.iload 4, 2) := by decide +kernel
theorem dX0_owedPacking_19 : decode cX0_owedPacking 19 = .ok (.aload_n 0, 1) := by decide +kernel
theorem dX0_owedPacking_20 : decode cX0_owedPacking 20 = .ok (.iload_n 2, 1) := by decide +kernel
theorem dX0_owedPacking_21 : decode cX0_owedPacking 21 = .ok (.aload_n 1, 1) := by decide +kernel
theorem dX0_owedPacking_22 : decode cX0_owedPacking 22 = .ok (.getfield 46, 3) := by decide +kernel
theorem dX0_owedPacking_25 : decode cX0_owedPacking 25 = .ok (.invokestatic 51, 3) := by decide +kernel
theorem dX0_owedPacking_28 : decode cX0_owedPacking 28 = .ok (.iadd, 1) := by decide +kernel
theorem dX0_owedPacking_29 : decode cX0_owedPacking 29 = .ok (.invokestatic 59, 3) := by decide +kernel
theorem dX0_owedPacking_32 : decode cX0_owedPacking 32 = .ok (.ireturn, 1) := by decide +kernel
theorem dX0_bestLoad_0 : decode cX0_bestLoad 0 = .ok (.aload_n 1, 1) := by decide +kernel
theorem dX0_bestLoad_1 : decode cX0_bestLoad 1 = .ok (.iload_n 2, 1) := by decide +kernel
theorem dX0_bestLoad_2 : decode cX0_bestLoad 2 = .ok (.invokevirtual 65, 3) := by decide +kernel
theorem dX0_bestLoad_5 : decode cX0_bestLoad 5 = .ok (.istore_n 3, 1) := by decide +kernel
theorem dX0_bestLoad_6 : decode cX0_bestLoad 6 = .ok (.iconst 0, 1) := by decide +kernel
theorem dX0_bestLoad_7 : decode cX0_bestLoad 7 = .ok (.istore 4, 2) := by decide +kernel
theorem dX0_bestLoad_9 : decode cX0_bestLoad 9 = .ok (.iload 4, 2) := by decide +kernel
theorem dX0_bestLoad_11 : decode cX0_bestLoad 11 = .ok (.aload_n 0, 1) := by decide +kernel
theorem dX0_bestLoad_12 : decode cX0_bestLoad 12 = .ok (.getfield 9, 3) := by decide +kernel
theorem dX0_bestLoad_15 : decode cX0_bestLoad 15 = .ok (.if_icmp .ge 32, 3) := by decide +kernel
theorem dX0_bestLoad_18 : decode cX0_bestLoad 18 = .ok (.iload_n 3, 1) := by decide +kernel
theorem dX0_bestLoad_19 : decode cX0_bestLoad 19 = .ok (.aload_n 0, 1) := by decide +kernel
theorem dX0_bestLoad_20 : decode cX0_bestLoad 20 = .ok (.iload 4, 2) := by decide +kernel
theorem dX0_bestLoad_22 : decode cX0_bestLoad 22 = .ok (.invokevirtual 72, 3) := by decide +kernel
theorem dX0_bestLoad_25 : decode cX0_bestLoad 25 = .ok (.iconst 2, 1) := by decide +kernel
theorem dX0_bestLoad_26 : decode cX0_bestLoad 26 = .ok (.if_icmp .ne 12, 3) := by decide +kernel
theorem dX0_bestLoad_29 : decode cX0_bestLoad 29 = .ok (.iconst 1, 1) := by decide +kernel
theorem dX0_bestLoad_30 : decode cX0_bestLoad 30 = .ok (.iload 4, 2) := by decide +kernel
theorem dX0_bestLoad_32 : decode cX0_bestLoad 32 = .ok (.ishl, 1) := by decide +kernel
theorem dX0_bestLoad_33 : decode cX0_bestLoad 33 = .ok (.iconst (-1), 1) := by decide +kernel
theorem dX0_bestLoad_34 : decode cX0_bestLoad 34 = .ok (.ixor, 1) := by decide +kernel
theorem dX0_bestLoad_35 : decode cX0_bestLoad 35 = .ok (.goto 4, 3) := by decide +kernel
theorem dX0_bestLoad_38 : decode cX0_bestLoad 38 = .ok (.iconst (-1), 1) := by decide +kernel
theorem dX0_bestLoad_39 : decode cX0_bestLoad 39 = .ok (.iand, 1) := by decide +kernel
theorem dX0_bestLoad_40 : decode cX0_bestLoad 40 = .ok (.istore_n 3, 1) := by decide +kernel
theorem dX0_bestLoad_41 : decode cX0_bestLoad 41 = .ok (.iinc 4 1, 3) := by decide +kernel
theorem dX0_bestLoad_44 : decode cX0_bestLoad 44 = .ok (.goto (-35), 3) := by decide +kernel
theorem dX0_bestLoad_47 : decode cX0_bestLoad 47 = .ok (.iconst 0, 1) := by decide +kernel
theorem dX0_bestLoad_48 : decode cX0_bestLoad 48 = .ok (.istore 4, 2) := by decide +kernel
theorem dX0_bestLoad_50 : decode cX0_bestLoad 50 = .ok (.aload_n 0, 1) := by decide +kernel
theorem dX0_bestLoad_51 : decode cX0_bestLoad 51 = .ok (.aload_n 1, 1) := by decide +kernel
theorem dX0_bestLoad_52 : decode cX0_bestLoad 52 = .ok (.iload_n 2, 1) := by decide +kernel
theorem dX0_bestLoad_53 : decode cX0_bestLoad 53 = .ok (.iconst 0, 1) := by decide +kernel
theorem dX0_bestLoad_54 : decode cX0_bestLoad 54 = .ok (.invokestatic 75, 3) := by decide +kernel
theorem dX0_bestLoad_57 : decode cX0_bestLoad 57 = .ok (.istore 5, 2) := by decide +kernel
theorem dX0_bestLoad_59 : decode cX0_bestLoad 59 = .ok (.iconst 1, 1) := by decide +kernel
theorem dX0_bestLoad_60 : decode cX0_bestLoad 60 = .ok (.istore 6, 2) := by decide +kernel
theorem dX0_bestLoad_62 : decode cX0_bestLoad 62 = .ok (.iload 6, 2) := by decide +kernel
theorem dX0_bestLoad_64 : decode cX0_bestLoad 64 = .ok (.sipush 256, 3) := by decide +kernel
theorem dX0_bestLoad_67 : decode cX0_bestLoad 67 = .ok (.if_icmp .ge 67, 3) := by decide +kernel
theorem dX0_bestLoad_70 : decode cX0_bestLoad 70 = .ok (.iload 6, 2) := by decide +kernel
theorem dX0_bestLoad_72 : decode cX0_bestLoad 72 = .ok (.iload_n 3, 1) := by decide +kernel
theorem dX0_bestLoad_73 : decode cX0_bestLoad 73 = .ok (.iconst (-1), 1) := by decide +kernel
theorem dX0_bestLoad_74 : decode cX0_bestLoad 74 = .ok (.ixor, 1) := by decide +kernel
theorem dX0_bestLoad_75 : decode cX0_bestLoad 75 = .ok (.iand, 1) := by decide +kernel
theorem dX0_bestLoad_76 : decode cX0_bestLoad 76 = .ok (.ifCond .ne 52, 3) := by decide +kernel
theorem dX0_bestLoad_79 : decode cX0_bestLoad 79 = .ok (.aload_n 0, 1) := by decide +kernel
theorem dX0_bestLoad_80 : decode cX0_bestLoad 80 = .ok (.iload 6, 2) := by decide +kernel
theorem dX0_bestLoad_82 : decode cX0_bestLoad 82 = .ok (.invokestatic 79, 3) := by decide +kernel
theorem dX0_bestLoad_85 : decode cX0_bestLoad 85 = .ok (.aload_n 0, 1) := by decide +kernel
theorem dX0_bestLoad_86 : decode cX0_bestLoad 86 = .ok (.iload_n 2, 1) := by decide +kernel
theorem dX0_bestLoad_87 : decode cX0_bestLoad 87 = .ok (.invokevirtual 82, 3) := by decide +kernel
theorem dX0_bestLoad_90 : decode cX0_bestLoad 90 = .ok (.if_icmp .gt 38, 3) := by decide +kernel
theorem dX0_bestLoad_93 : decode cX0_bestLoad 93 = .ok (.aload_n 0, 1) := by decide +kernel
theorem dX0_bestLoad_94 : decode cX0_bestLoad 94 = .ok (.aload_n 1, 1) := by decide +kernel
theorem dX0_bestLoad_95 : decode cX0_bestLoad 95 = .ok (.iload_n 2, 1) := by decide +kernel
theorem dX0_bestLoad_96 : decode cX0_bestLoad 96 = .ok (.iload 6, 2) := by decide +kernel
theorem dX0_bestLoad_98 : decode cX0_bestLoad 98 = .ok (.invokestatic 75, 3) := by decide +kernel
theorem dX0_bestLoad_101 : decode cX0_bestLoad 101 = .ok (.istore 7, 2) := by decide +kernel
theorem dX0_bestLoad_103 : decode cX0_bestLoad 103 = .ok (.iload 7, 2) := by decide +kernel
theorem dX0_bestLoad_105 : decode cX0_bestLoad 105 = .ok (.iload 5, 2) := by decide +kernel
theorem dX0_bestLoad_107 : decode cX0_bestLoad 107 = .ok (.if_icmp .ge 8, 3) := by decide +kernel
theorem dX0_bestLoad_110 : decode cX0_bestLoad 110 = .ok (.iload 6, 2) := by decide +kernel
theorem dX0_bestLoad_112 : decode cX0_bestLoad 112 = .ok (.goto 5, 3) := by decide +kernel
theorem dX0_bestLoad_115 : decode cX0_bestLoad 115 = .ok (.iload 4, 2) := by decide +kernel
theorem dX0_bestLoad_117 : decode cX0_bestLoad 117 = .ok (.istore 4, 2) := by decide +kernel
theorem dX0_bestLoad_119 : decode cX0_bestLoad 119 = .ok (.iload 7, 2) := by decide +kernel
theorem dX0_bestLoad_121 : decode cX0_bestLoad 121 = .ok (.iload 5, 2) := by decide +kernel
theorem dX0_bestLoad_123 : decode cX0_bestLoad 123 = .ok (.invokestatic 85, 3) := by decide +kernel
theorem dX0_bestLoad_126 : decode cX0_bestLoad 126 = .ok (.istore 5, 2) := by decide +kernel
theorem dX0_bestLoad_128 : decode cX0_bestLoad 128 = .ok (.iinc 6 1, 3) := by decide +kernel
theorem dX0_bestLoad_131 : decode cX0_bestLoad 131 = .ok (.goto (-69), 3) := by decide +kernel
theorem dX0_bestLoad_134 : decode cX0_bestLoad 134 = .ok (.iload 4, 2) := by decide +kernel
theorem dX0_bestLoad_136 : decode cX0_bestLoad 136 = .ok (.ireturn, 1) := by decide +kernel
theorem dX1_init_0 : decode cX1_init 0 = .ok (.aload_n 0, 1) := by decide +kernel
theorem dX1_init_1 : decode cX1_init 1 = .ok (.invokespecial 3, 3) := by decide +kernel
theorem dX1_init_4 : decode cX1_init 4 = .ok (.aload_n 0, 1) := by decide +kernel
theorem dX1_init_5 : decode cX1_init 5 = .ok (.iconst 0, 1) := by decide +kernel
theorem dX1_init_6 : decode cX1_init 6 = .ok (.putfield 9, 3) := by decide +kernel
theorem dX1_init_9 : decode cX1_init 9 = .ok (.aload_n 0, 1) := by decide +kernel
theorem dX1_init_10 : decode cX1_init 10 = .ok (.iconst 0, 1) := by decide +kernel
theorem dX1_init_11 : decode cX1_init 11 = .ok (.putfield 15, 3) := by decide +kernel
theorem dX1_init_14 : decode cX1_init 14 = .ok (.aload_n 0, 1) := by decide +kernel
theorem dX1_init_15 : decode cX1_init 15 = .ok (.bipush 10, 2) := by decide +kernel
theorem dX1_init_17 : decode cX1_init 17 = .ok (.putfield 18, 3) := by decide +kernel
theorem dX1_init_20 : decode cX1_init 20 = .ok (.aload_n 0, 1) := by decide +kernel
theorem dX1_init_21 : decode cX1_init 21 = .ok (.bipush 6, 2) := by decide +kernel
theorem dX1_init_23 : decode cX1_init 23 = .ok (.newarray .int, 2) := by decide +kernel
theorem dX1_init_25 : decode cX1_init 25 = .ok (.putfield 21, 3) := by decide +kernel
theorem dX1_init_28 : decode cX1_init 28 = .ok (.aload_n 0, 1) := by decide +kernel
theorem dX1_init_29 : decode cX1_init 29 = .ok (.bipush 6, 2) := by decide +kernel
theorem dX1_init_31 : decode cX1_init 31 = .ok (.newarray .int, 2) := by decide +kernel
theorem dX1_init_33 : decode cX1_init 33 = .ok (.putfield 25, 3) := by decide +kernel
theorem dX1_init_36 : decode cX1_init 36 = .ok (.aload_n 0, 1) := by decide +kernel
theorem dX1_init_37 : decode cX1_init 37 = .ok (.bipush 6, 2) := by decide +kernel
theorem dX1_init_39 : decode cX1_init 39 = .ok (.newarray .int, 2) := by decide +kernel
theorem dX1_init_41 : decode cX1_init 41 = .ok (.putfield 28, 3) := by decide +kernel
theorem dX1_init_44 : decode cX1_init 44 = .ok (.aload_n 0, 1) := by decide +kernel
theorem dX1_init_45 : decode cX1_init 45 = .ok (.bipush 36, 2) := by decide +kernel
theorem dX1_init_47 : decode cX1_init 47 = .ok (.newarray .int, 2) := by decide +kernel
theorem dX1_init_49 : decode cX1_init 49 = .ok (.putfield 31, 3) := by decide +kernel
theorem dX1_init_52 : decode cX1_init 52 = .ok (.aload_n 0, 1) := by decide +kernel
theorem dX1_init_53 : decode cX1_init 53 = .ok (.bipush 8, 2) := by decide +kernel
theorem dX1_init_55 : decode cX1_init 55 = .ok (.newarray .int, 2) := by decide +kernel
theorem dX1_init_57 : decode cX1_init 57 = .ok (.putfield 34, 3) := by decide +kernel
theorem dX1_init_60 : decode cX1_init 60 = .ok (.aload_n 0, 1) := by decide +kernel
theorem dX1_init_61 : decode cX1_init 61 = .ok (.bipush 8, 2) := by decide +kernel
theorem dX1_init_63 : decode cX1_init 63 = .ok (.newarray .int, 2) := by decide +kernel
theorem dX1_init_65 : decode cX1_init 65 = .ok (.putfield 37, 3) := by decide +kernel
theorem dX1_init_68 : decode cX1_init 68 = .ok (.aload_n 0, 1) := by decide +kernel
theorem dX1_init_69 : decode cX1_init 69 = .ok (.bipush 8, 2) := by decide +kernel
theorem dX1_init_71 : decode cX1_init 71 = .ok (.newarray .int, 2) := by decide +kernel
theorem dX1_init_73 : decode cX1_init 73 = .ok (.putfield 40, 3) := by decide +kernel
theorem dX1_init_76 : decode cX1_init 76 = .ok (.aload_n 0, 1) := by decide +kernel
theorem dX1_init_77 : decode cX1_init 77 = .ok (.bipush 8, 2) := by decide +kernel
theorem dX1_init_79 : decode cX1_init 79 = .ok (.newarray .int, 2) := by decide +kernel
theorem dX1_init_81 : decode cX1_init 81 = .ok (.putfield 43, 3) := by decide +kernel
theorem dX1_init_84 : decode cX1_init 84 = .ok (.aload_n 0, 1) := by decide +kernel
theorem dX1_init_85 : decode cX1_init 85 = .ok (.bipush 8, 2) := by decide +kernel
theorem dX1_init_87 : decode cX1_init 87 = .ok (.newarray .int, 2) := by decide +kernel
theorem dX1_init_89 : decode cX1_init 89 = .ok (.putfield 46, 3) := by decide +kernel
theorem dX1_init_92 : decode cX1_init 92 = .ok (.return_, 1) := by decide +kernel
theorem dX1_empty_0 : decode cX1_empty 0 = .ok (.aload_n 0, 1) := by decide +kernel
theorem dX1_empty_1 : decode cX1_empty 1 = .ok (.iconst 0, 1) := by decide +kernel
theorem dX1_empty_2 : decode cX1_empty 2 = .ok (.putfield 9, 3) := by decide +kernel
theorem dX1_empty_5 : decode cX1_empty 5 = .ok (.aload_n 0, 1) := by decide +kernel
theorem dX1_empty_6 : decode cX1_empty 6 = .ok (.iconst 0, 1) := by decide +kernel
theorem dX1_empty_7 : decode cX1_empty 7 = .ok (.putfield 15, 3) := by decide +kernel
theorem dX1_empty_10 : decode cX1_empty 10 = .ok (.aload_n 0, 1) := by decide +kernel
theorem dX1_empty_11 : decode cX1_empty 11 = .ok (.bipush 10, 2) := by decide +kernel
theorem dX1_empty_13 : decode cX1_empty 13 = .ok (.putfield 18, 3) := by decide +kernel
theorem dX1_empty_16 : decode cX1_empty 16 = .ok (.aload_n 0, 1) := by decide +kernel
theorem dX1_empty_17 : decode cX1_empty 17 = .ok (.getfield 31, 3) := by decide +kernel
theorem dX1_empty_20 : decode cX1_empty 20 = .ok (.iconst 0, 1) := by decide +kernel
theorem dX1_empty_21 : decode cX1_empty 21 = .ok (.invokestatic 49, 3) := by decide +kernel
theorem dX1_empty_24 : decode cX1_empty 24 = .ok (.return_, 1) := by decide +kernel
theorem dX1_addPerson_0 : decode cX1_addPerson 0 = .ok (.aload_n 0, 1) := by decide +kernel
theorem dX1_addPerson_1 : decode cX1_addPerson 1 = .ok (.getfield 9, 3) := by decide +kernel
theorem dX1_addPerson_4 : decode cX1_addPerson 4 = .ok (.bipush 6, 2) := by decide +kernel
theorem dX1_addPerson_6 : decode cX1_addPerson 6 = .ok (.if_icmp .ge 14, 3) := by decide +kernel
theorem dX1_addPerson_9 : decode cX1_addPerson 9 = .ok (.iload_n 1, 1) := by decide +kernel
theorem dX1_addPerson_10 : decode cX1_addPerson 10 = .ok (.iconst 4, 1) := by decide +kernel
theorem dX1_addPerson_11 : decode cX1_addPerson 11 = .ok (.if_icmp .gt 9, 3) := by decide +kernel
theorem dX1_addPerson_14 : decode cX1_addPerson 14 = .ok (.iload_n 3, 1) := by decide +kernel
theorem dX1_addPerson_15 : decode cX1_addPerson 15 = .ok (.bipush 20, 2) := by decide +kernel
theorem dX1_addPerson_17 : decode cX1_addPerson 17 = .ok (.if_icmp .le 5, 3) := by decide +kernel
theorem dX1_addPerson_20 : decode cX1_addPerson 20 = .ok (.iconst 0, 1) := by decide +kernel
theorem dX1_addPerson_21 : decode cX1_addPerson 21 = .ok (.ireturn, 1) := by decide +kernel
theorem dX1_addPerson_22 : decode cX1_addPerson 22 = .ok (.aload_n 0, 1) := by decide +kernel
theorem dX1_addPerson_23 : decode cX1_addPerson 23 = .ok (.getfield 21, 3) := by decide +kernel
theorem dX1_addPerson_26 : decode cX1_addPerson 26 = .ok (.aload_n 0, 1) := by decide +kernel
theorem dX1_addPerson_27 : decode cX1_addPerson 27 = .ok (.getfield 9, 3) := by decide +kernel
theorem dX1_addPerson_30 : decode cX1_addPerson 30 = .ok (.iload_n 1, 1) := by decide +kernel
theorem dX1_addPerson_31 : decode cX1_addPerson 31 = .ok (.invokestatic 55, 3) := by decide +kernel
theorem dX1_addPerson_34 : decode cX1_addPerson 34 = .ok (.aload_n 0, 1) := by decide +kernel
theorem dX1_addPerson_35 : decode cX1_addPerson 35 = .ok (.getfield 25, 3) := by decide +kernel
theorem dX1_addPerson_38 : decode cX1_addPerson 38 = .ok (.aload_n 0, 1) := by decide +kernel
theorem dX1_addPerson_39 : decode cX1_addPerson 39 = .ok (.getfield 9, 3) := by decide +kernel
theorem dX1_addPerson_42 : decode cX1_addPerson 42 = .ok (.iload_n 2, 1) := by decide +kernel
theorem dX1_addPerson_43 : decode cX1_addPerson 43 = .ok (.invokestatic 55, 3) := by decide +kernel
theorem dX1_addPerson_46 : decode cX1_addPerson 46 = .ok (.aload_n 0, 1) := by decide +kernel
theorem dX1_addPerson_47 : decode cX1_addPerson 47 = .ok (.getfield 28, 3) := by decide +kernel
theorem dX1_addPerson_50 : decode cX1_addPerson 50 = .ok (.aload_n 0, 1) := by decide +kernel
theorem dX1_addPerson_51 : decode cX1_addPerson 51 = .ok (.getfield 9, 3) := by decide +kernel
theorem dX1_addPerson_54 : decode cX1_addPerson 54 = .ok (.iload_n 3, 1) := by decide +kernel
theorem dX1_addPerson_55 : decode cX1_addPerson 55 = .ok (.invokestatic 55, 3) := by decide +kernel
theorem dX1_addPerson_58 : decode cX1_addPerson 58 = .ok (.aload_n 0, 1) := by decide +kernel
theorem dX1_addPerson_59 : decode cX1_addPerson 59 = .ok (.dup, 1) := by decide +kernel
theorem dX1_addPerson_60 : decode cX1_addPerson 60 = .ok (.getfield 9, 3) := by decide +kernel
theorem dX1_addPerson_63 : decode cX1_addPerson 63 = .ok (.iconst 1, 1) := by decide +kernel
theorem dX1_addPerson_64 : decode cX1_addPerson 64 = .ok (.iadd, 1) := by decide +kernel
theorem dX1_addPerson_65 : decode cX1_addPerson 65 = .ok (.putfield 9, 3) := by decide +kernel
theorem dX1_addPerson_68 : decode cX1_addPerson 68 = .ok (.iconst 1, 1) := by decide +kernel
theorem dX1_addPerson_69 : decode cX1_addPerson 69 = .ok (.ireturn, 1) := by decide +kernel
theorem dX1_addGood_0 : decode cX1_addGood 0 = .ok (.iload_n 3, 1) := by decide +kernel
theorem dX1_addGood_1 : decode cX1_addGood 1 = .ok (.iconst 1, 1) := by decide +kernel
theorem dX1_addGood_2 : decode cX1_addGood 2 = .ok (.if_icmp .lt 20, 3) := by decide +kernel
theorem dX1_addGood_5 : decode cX1_addGood 5 = .ok (.iload_n 3, 1) := by decide +kernel
theorem dX1_addGood_6 : decode cX1_addGood 6 = .ok (.bipush 40, 2) := by decide +kernel
theorem dX1_addGood_8 : decode cX1_addGood 8 = .ok (.if_icmp .gt 14, 3) := by decide +kernel
theorem dX1_addGood_11 : decode cX1_addGood 11 = .ok (.iload 4, 2) := by decide +kernel
theorem dX1_addGood_13 : decode cX1_addGood 13 = .ok (.bipush 20, 2) := by decide +kernel
theorem dX1_addGood_15 : decode cX1_addGood 15 = .ok (.if_icmp .gt 7, 3) := by decide +kernel
theorem dX1_addGood_18 : decode cX1_addGood 18 = .ok (.iconst 1, 1) := by decide +kernel
theorem dX1_addGood_19 : decode cX1_addGood 19 = .ok (.goto 4, 3) := by decide +kernel
theorem dX1_addGood_22 : decode cX1_addGood 22 = .ok (.iconst 0, 1) := by decide +kernel
theorem dX1_addGood_23 : decode cX1_addGood 23 = .ok (.istore 5, 2) := by decide +kernel
theorem dX1_addGood_25 : decode cX1_addGood 25 = .ok (.aload_n 0, 1) := by decide +kernel
theorem dX1_addGood_26 : decode cX1_addGood 26 = .ok (.getfield 15, 3) := by decide +kernel
theorem dX1_addGood_29 : decode cX1_addGood 29 = .ok (.bipush 8, 2) := by decide +kernel
theorem dX1_addGood_31 : decode cX1_addGood 31 = .ok (.if_icmp .ge 21, 3) := by decide +kernel
theorem dX1_addGood_34 : decode cX1_addGood 34 = .ok (.iload_n 1, 1) := by decide +kernel
theorem dX1_addGood_35 : decode cX1_addGood 35 = .ok (.iconst 3, 1) := by decide +kernel
theorem dX1_addGood_36 : decode cX1_addGood 36 = .ok (.if_icmp .gt 16, 3) := by decide +kernel
theorem dX1_addGood_39 : decode cX1_addGood 39 = .ok (.aload_n 0, 1) := by decide +kernel
theorem dX1_addGood_40 : decode cX1_addGood 40 = .ok (.iload_n 2, 1) := by decide +kernel
theorem dX1_addGood_41 : decode cX1_addGood 41 = .ok (.invokevirtual 59, 3) := by decide +kernel
theorem dX1_addGood_44 : decode cX1_addGood 44 = .ok (.ifCond .eq 8, 3) := by decide +kernel
theorem dX1_addGood_47 : decode cX1_addGood 47 = .ok (.iload 5, 2) := by decide +kernel
theorem dX1_addGood_49 : decode cX1_addGood 49 = .ok (.ifCond .ne 5, 3) := by decide +kernel
theorem dX1_addGood_52 : decode cX1_addGood 52 = .ok (.iconst 0, 1) := by decide +kernel
theorem dX1_addGood_53 : decode cX1_addGood 53 = .ok (.ireturn, 1) := by decide +kernel
theorem dX1_addGood_54 : decode cX1_addGood 54 = .ok (.aload_n 0, 1) := by decide +kernel
theorem dX1_addGood_55 : decode cX1_addGood 55 = .ok (.getfield 34, 3) := by decide +kernel
theorem dX1_addGood_58 : decode cX1_addGood 58 = .ok (.aload_n 0, 1) := by decide +kernel
theorem dX1_addGood_59 : decode cX1_addGood 59 = .ok (.getfield 15, 3) := by decide +kernel
theorem dX1_addGood_62 : decode cX1_addGood 62 = .ok (.iload_n 1, 1) := by decide +kernel
theorem dX1_addGood_63 : decode cX1_addGood 63 = .ok (.invokestatic 55, 3) := by decide +kernel
theorem dX1_addGood_66 : decode cX1_addGood 66 = .ok (.aload_n 0, 1) := by decide +kernel
theorem dX1_addGood_67 : decode cX1_addGood 67 = .ok (.getfield 37, 3) := by decide +kernel
theorem dX1_addGood_70 : decode cX1_addGood 70 = .ok (.aload_n 0, 1) := by decide +kernel
theorem dX1_addGood_71 : decode cX1_addGood 71 = .ok (.getfield 15, 3) := by decide +kernel
theorem dX1_addGood_74 : decode cX1_addGood 74 = .ok (.iload_n 2, 1) := by decide +kernel
theorem dX1_addGood_75 : decode cX1_addGood 75 = .ok (.invokestatic 55, 3) := by decide +kernel
theorem dX1_addGood_78 : decode cX1_addGood 78 = .ok (.aload_n 0, 1) := by decide +kernel
theorem dX1_addGood_79 : decode cX1_addGood 79 = .ok (.getfield 40, 3) := by decide +kernel
theorem dX1_addGood_82 : decode cX1_addGood 82 = .ok (.aload_n 0, 1) := by decide +kernel
theorem dX1_addGood_83 : decode cX1_addGood 83 = .ok (.getfield 15, 3) := by decide +kernel
theorem dX1_addGood_86 : decode cX1_addGood 86 = .ok (.iload_n 3, 1) := by decide +kernel
theorem dX1_addGood_87 : decode cX1_addGood 87 = .ok (.invokestatic 55, 3) := by decide +kernel
theorem dX1_addGood_90 : decode cX1_addGood 90 = .ok (.aload_n 0, 1) := by decide +kernel
theorem dX1_addGood_91 : decode cX1_addGood 91 = .ok (.getfield 43, 3) := by decide +kernel
theorem dX1_addGood_94 : decode cX1_addGood 94 = .ok (.aload_n 0, 1) := by decide +kernel
theorem dX1_addGood_95 : decode cX1_addGood 95 = .ok (.getfield 15, 3) := by decide +kernel
theorem dX1_addGood_98 : decode cX1_addGood 98 = .ok (.iload 4, 2) := by decide +kernel
theorem dX1_addGood_100 : decode cX1_addGood 100 = .ok (.invokestatic 55, 3) := by decide +kernel
theorem dX1_addGood_103 : decode cX1_addGood 103 = .ok (.aload_n 0, 1) := by decide +kernel
theorem dX1_addGood_104 : decode cX1_addGood 104 = .ok (.getfield 46, 3) := by decide +kernel
theorem dX1_addGood_107 : decode cX1_addGood 107 = .ok (.aload_n 0, 1) := by decide +kernel
theorem dX1_addGood_108 : decode cX1_addGood 108 = .ok (.getfield 15, 3) := by decide +kernel
theorem dX1_addGood_111 : decode cX1_addGood 111 = .ok (.iload_n 1, 1) := by decide +kernel
theorem dX1_addGood_112 : decode cX1_addGood 112 = .ok (.iload_n 3, 1) := by decide +kernel
theorem dX1_addGood_113 : decode cX1_addGood 113 = .ok (.invokestatic 63, 3) := by decide +kernel
theorem dX1_addGood_116 : decode cX1_addGood 116 = .ok (.invokestatic 55, 3) := by decide +kernel
theorem dX1_addGood_119 : decode cX1_addGood 119 = .ok (.aload_n 0, 1) := by decide +kernel
theorem dX1_addGood_120 : decode cX1_addGood 120 = .ok (.dup, 1) := by decide +kernel
theorem dX1_addGood_121 : decode cX1_addGood 121 = .ok (.getfield 15, 3) := by decide +kernel
theorem dX1_addGood_124 : decode cX1_addGood 124 = .ok (.iconst 1, 1) := by decide +kernel
theorem dX1_addGood_125 : decode cX1_addGood 125 = .ok (.iadd, 1) := by decide +kernel
theorem dX1_addGood_126 : decode cX1_addGood 126 = .ok (.putfield 15, 3) := by decide +kernel
theorem dX1_addGood_129 : decode cX1_addGood 129 = .ok (.iconst 1, 1) := by decide +kernel
theorem dX1_addGood_130 : decode cX1_addGood 130 = .ok (.ireturn, 1) := by decide +kernel
theorem dX1_setLove_0 : decode cX1_setLove 0 = .ok (.iload_n 1, 1) := by decide +kernel
theorem dX1_setLove_1 : decode cX1_setLove 1 = .ok (.iload_n 2, 1) := by decide +kernel
theorem dX1_setLove_2 : decode cX1_setLove 2 = .ok (.if_icmp .eq 25, 3) := by decide +kernel
theorem dX1_setLove_5 : decode cX1_setLove 5 = .ok (.aload_n 0, 1) := by decide +kernel
theorem dX1_setLove_6 : decode cX1_setLove 6 = .ok (.iload_n 1, 1) := by decide +kernel
theorem dX1_setLove_7 : decode cX1_setLove 7 = .ok (.invokevirtual 59, 3) := by decide +kernel
theorem dX1_setLove_10 : decode cX1_setLove 10 = .ok (.ifCond .eq 17, 3) := by decide +kernel
theorem dX1_setLove_13 : decode cX1_setLove 13 = .ok (.aload_n 0, 1) := by decide +kernel
theorem dX1_setLove_14 : decode cX1_setLove 14 = .ok (.iload_n 2, 1) := by decide +kernel
theorem dX1_setLove_15 : decode cX1_setLove 15 = .ok (.invokevirtual 59, 3) := by decide +kernel
theorem dX1_setLove_18 : decode cX1_setLove 18 = .ok (.ifCond .eq 9, 3) := by decide +kernel
theorem dX1_setLove_21 : decode cX1_setLove 21 = .ok (.iload_n 3, 1) := by decide +kernel
theorem dX1_setLove_22 : decode cX1_setLove 22 = .ok (.bipush 20, 2) := by decide +kernel
theorem dX1_setLove_24 : decode cX1_setLove 24 = .ok (.if_icmp .le 5, 3) := by decide +kernel
theorem dX1_setLove_27 : decode cX1_setLove 27 = .ok (.iconst 0, 1) := by decide +kernel
theorem dX1_setLove_28 : decode cX1_setLove 28 = .ok (.ireturn, 1) := by decide +kernel
theorem dX1_setLove_29 : decode cX1_setLove 29 = .ok (.aload_n 0, 1) := by decide +kernel
theorem dX1_setLove_30 : decode cX1_setLove 30 = .ok (.getfield 31, 3) := by decide +kernel
theorem dX1_setLove_33 : decode cX1_setLove 33 = .ok (.bipush 6, 2) := by decide +kernel
theorem dX1_setLove_35 : decode cX1_setLove 35 = .ok (.iload_n 1, 1) := by decide +kernel
theorem dX1_setLove_36 : decode cX1_setLove 36 = .ok (.imul, 1) := by decide +kernel
theorem dX1_setLove_37 : decode cX1_setLove 37 = .ok (.iload_n 2, 1) := by decide +kernel
theorem dX1_setLove_38 : decode cX1_setLove 38 = .ok (.iadd, 1) := by decide +kernel
theorem dX1_setLove_39 : decode cX1_setLove 39 = .ok (.iload_n 3, 1) := by decide +kernel
theorem dX1_setLove_40 : decode cX1_setLove 40 = .ok (.invokestatic 55, 3) := by decide +kernel
theorem dX1_setLove_43 : decode cX1_setLove 43 = .ok (.iconst 1, 1) := by decide +kernel
theorem dX1_setLove_44 : decode cX1_setLove 44 = .ok (.ireturn, 1) := by decide +kernel
theorem dX1_setTenths_0 : decode cX1_setTenths 0 = .ok (.iload_n 1, 1) := by decide +kernel
theorem dX1_setTenths_1 : decode cX1_setTenths 1 = .ok (.iconst 1, 1) := by decide +kernel
theorem dX1_setTenths_2 : decode cX1_setTenths 2 = .ok (.if_icmp .lt 9, 3) := by decide +kernel
theorem dX1_setTenths_5 : decode cX1_setTenths 5 = .ok (.iload_n 1, 1) := by decide +kernel
theorem dX1_setTenths_6 : decode cX1_setTenths 6 = .ok (.bipush 20, 2) := by decide +kernel
theorem dX1_setTenths_8 : decode cX1_setTenths 8 = .ok (.if_icmp .le 5, 3) := by decide +kernel
theorem dX1_setTenths_11 : decode cX1_setTenths 11 = .ok (.iconst 0, 1) := by decide +kernel
theorem dX1_setTenths_12 : decode cX1_setTenths 12 = .ok (.ireturn, 1) := by decide +kernel
theorem dX1_setTenths_13 : decode cX1_setTenths 13 = .ok (.aload_n 0, 1) := by decide +kernel
theorem dX1_setTenths_14 : decode cX1_setTenths 14 = .ok (.iload_n 1, 1) := by decide +kernel
theorem dX1_setTenths_15 : decode cX1_setTenths 15 = .ok (.putfield 18, 3) := by decide +kernel
theorem dX1_setTenths_18 : decode cX1_setTenths 18 = .ok (.iconst 1, 1) := by decide +kernel
theorem dX1_setTenths_19 : decode cX1_setTenths 19 = .ok (.ireturn, 1) := by decide +kernel
theorem dX1_isPerson_0 : decode cX1_isPerson 0 = .ok (.iload_n 1, 1) := by decide +kernel
theorem dX1_isPerson_1 : decode cX1_isPerson 1 = .ok (.ifCond .lt 15, 3) := by decide +kernel
theorem dX1_isPerson_4 : decode cX1_isPerson 4 = .ok (.iload_n 1, 1) := by decide +kernel
theorem dX1_isPerson_5 : decode cX1_isPerson 5 = .ok (.aload_n 0, 1) := by decide +kernel
theorem dX1_isPerson_6 : decode cX1_isPerson 6 = .ok (.getfield 9, 3) := by decide +kernel
theorem dX1_isPerson_9 : decode cX1_isPerson 9 = .ok (.if_icmp .ge 7, 3) := by decide +kernel
theorem dX1_isPerson_12 : decode cX1_isPerson 12 = .ok (.iconst 1, 1) := by decide +kernel
theorem dX1_isPerson_13 : decode cX1_isPerson 13 = .ok (.goto 4, 3) := by decide +kernel
theorem dX1_isPerson_16 : decode cX1_isPerson 16 = .ok (.iconst 0, 1) := by decide +kernel
theorem dX1_isPerson_17 : decode cX1_isPerson 17 = .ok (.ireturn, 1) := by decide +kernel
theorem dX1_isGood_0 : decode cX1_isGood 0 = .ok (.iload_n 1, 1) := by decide +kernel
theorem dX1_isGood_1 : decode cX1_isGood 1 = .ok (.ifCond .lt 15, 3) := by decide +kernel
theorem dX1_isGood_4 : decode cX1_isGood 4 = .ok (.iload_n 1, 1) := by decide +kernel
theorem dX1_isGood_5 : decode cX1_isGood 5 = .ok (.aload_n 0, 1) := by decide +kernel
theorem dX1_isGood_6 : decode cX1_isGood 6 = .ok (.getfield 15, 3) := by decide +kernel
theorem dX1_isGood_9 : decode cX1_isGood 9 = .ok (.if_icmp .ge 7, 3) := by decide +kernel
theorem dX1_isGood_12 : decode cX1_isGood 12 = .ok (.iconst 1, 1) := by decide +kernel
theorem dX1_isGood_13 : decode cX1_isGood 13 = .ok (.goto 4, 3) := by decide +kernel
theorem dX1_isGood_16 : decode cX1_isGood 16 = .ok (.iconst 0, 1) := by decide +kernel
theorem dX1_isGood_17 : decode cX1_isGood 17 = .ok (.ireturn, 1) := by decide +kernel
theorem dX1_kindOf_0 : decode cX1_kindOf 0 = .ok (.aload_n 0, 1) := by decide +kernel
theorem dX1_kindOf_1 : decode cX1_kindOf 1 = .ok (.getfield 21, 3) := by decide +kernel
theorem dX1_kindOf_4 : decode cX1_kindOf 4 = .ok (.iload_n 1, 1) := by decide +kernel
theorem dX1_kindOf_5 : decode cX1_kindOf 5 = .ok (.invokestatic 67, 3) := by decide +kernel
theorem dX1_kindOf_8 : decode cX1_kindOf 8 = .ok (.ireturn, 1) := by decide +kernel
theorem dX1_purseOf_0 : decode cX1_purseOf 0 = .ok (.aload_n 0, 1) := by decide +kernel
theorem dX1_purseOf_1 : decode cX1_purseOf 1 = .ok (.getfield 25, 3) := by decide +kernel
theorem dX1_purseOf_4 : decode cX1_purseOf 4 = .ok (.iload_n 1, 1) := by decide +kernel
theorem dX1_purseOf_5 : decode cX1_purseOf 5 = .ok (.invokestatic 67, 3) := by decide +kernel
theorem dX1_purseOf_8 : decode cX1_purseOf 8 = .ok (.ireturn, 1) := by decide +kernel
theorem dX1_strengthOf_0 : decode cX1_strengthOf 0 = .ok (.aload_n 0, 1) := by decide +kernel
theorem dX1_strengthOf_1 : decode cX1_strengthOf 1 = .ok (.getfield 28, 3) := by decide +kernel
theorem dX1_strengthOf_4 : decode cX1_strengthOf 4 = .ok (.iload_n 1, 1) := by decide +kernel
theorem dX1_strengthOf_5 : decode cX1_strengthOf 5 = .ok (.invokestatic 67, 3) := by decide +kernel
theorem dX1_strengthOf_8 : decode cX1_strengthOf 8 = .ok (.ireturn, 1) := by decide +kernel
theorem dX1_loveOf_0 : decode cX1_loveOf 0 = .ok (.aload_n 0, 1) := by decide +kernel
theorem dX1_loveOf_1 : decode cX1_loveOf 1 = .ok (.iload_n 1, 1) := by decide +kernel
theorem dX1_loveOf_2 : decode cX1_loveOf 2 = .ok (.invokevirtual 59, 3) := by decide +kernel
theorem dX1_loveOf_5 : decode cX1_loveOf 5 = .ok (.ifCond .eq 27, 3) := by decide +kernel
theorem dX1_loveOf_8 : decode cX1_loveOf 8 = .ok (.aload_n 0, 1) := by decide +kernel
theorem dX1_loveOf_9 : decode cX1_loveOf 9 = .ok (.iload_n 2, 1) := by decide +kernel
theorem dX1_loveOf_10 : decode cX1_loveOf 10 = .ok (.invokevirtual 59, 3) := by decide +kernel
theorem dX1_loveOf_13 : decode cX1_loveOf 13 = .ok (.ifCond .eq 19, 3) := by decide +kernel
theorem dX1_loveOf_16 : decode cX1_loveOf 16 = .ok (.aload_n 0, 1) := by decide +kernel
theorem dX1_loveOf_17 : decode cX1_loveOf 17 = .ok (.getfield 31, 3) := by decide +kernel
theorem dX1_loveOf_20 : decode cX1_loveOf 20 = .ok (.bipush 6, 2) := by decide +kernel
theorem dX1_loveOf_22 : decode cX1_loveOf 22 = .ok (.iload_n 1, 1) := by decide +kernel
theorem dX1_loveOf_23 : decode cX1_loveOf 23 = .ok (.imul, 1) := by decide +kernel
theorem dX1_loveOf_24 : decode cX1_loveOf 24 = .ok (.iload_n 2, 1) := by decide +kernel
theorem dX1_loveOf_25 : decode cX1_loveOf 25 = .ok (.iadd, 1) := by decide +kernel
theorem dX1_loveOf_26 : decode cX1_loveOf 26 = .ok (.invokestatic 67, 3) := by decide +kernel
theorem dX1_loveOf_29 : decode cX1_loveOf 29 = .ok (.goto 4, 3) := by decide +kernel
theorem dX1_loveOf_32 : decode cX1_loveOf 32 = .ok (.iconst 0, 1) := by decide +kernel
theorem dX1_loveOf_33 : decode cX1_loveOf 33 = .ok (.ireturn, 1) := by decide +kernel
theorem dX1_sortOf_0 : decode cX1_sortOf 0 = .ok (.aload_n 0, 1) := by decide +kernel
theorem dX1_sortOf_1 : decode cX1_sortOf 1 = .ok (.getfield 34, 3) := by decide +kernel
theorem dX1_sortOf_4 : decode cX1_sortOf 4 = .ok (.iload_n 1, 1) := by decide +kernel
theorem dX1_sortOf_5 : decode cX1_sortOf 5 = .ok (.invokestatic 67, 3) := by decide +kernel
theorem dX1_sortOf_8 : decode cX1_sortOf 8 = .ok (.ireturn, 1) := by decide +kernel
theorem dX1_firstOwnerOf_0 : decode cX1_firstOwnerOf 0 = .ok (.aload_n 0, 1) := by decide +kernel
theorem dX1_firstOwnerOf_1 : decode cX1_firstOwnerOf 1 = .ok (.iload_n 1, 1) := by decide +kernel
theorem dX1_firstOwnerOf_2 : decode cX1_firstOwnerOf 2 = .ok (.invokevirtual 71, 3) := by decide +kernel
theorem dX1_firstOwnerOf_5 : decode cX1_firstOwnerOf 5 = .ok (.ifCond .eq 14, 3) := by decide +kernel
theorem dX1_firstOwnerOf_8 : decode cX1_firstOwnerOf 8 = .ok (.aload_n 0, 1) := by decide +kernel
theorem dX1_firstOwnerOf_9 : decode cX1_firstOwnerOf 9 = .ok (.getfield 37, 3) := by decide +kernel
theorem dX1_firstOwnerOf_12 : decode cX1_firstOwnerOf 12 = .ok (.iload_n 1, 1) := by decide +kernel
theorem dX1_firstOwnerOf_13 : decode cX1_firstOwnerOf 13 = .ok (.invokestatic 67, 3) := by decide +kernel
theorem dX1_firstOwnerOf_16 : decode cX1_firstOwnerOf 16 = .ok (.goto 5, 3) := by decide +kernel
theorem dX1_firstOwnerOf_19 : decode cX1_firstOwnerOf 19 = .ok (.bipush (-4), 2) := by decide +kernel
theorem dX1_firstOwnerOf_21 : decode cX1_firstOwnerOf 21 = .ok (.ireturn, 1) := by decide +kernel
theorem dX1_worthOf_0 : decode cX1_worthOf 0 = .ok (.aload_n 0, 1) := by decide +kernel
theorem dX1_worthOf_1 : decode cX1_worthOf 1 = .ok (.getfield 40, 3) := by decide +kernel
theorem dX1_worthOf_4 : decode cX1_worthOf 4 = .ok (.iload_n 1, 1) := by decide +kernel
theorem dX1_worthOf_5 : decode cX1_worthOf 5 = .ok (.invokestatic 67, 3) := by decide +kernel
theorem dX1_worthOf_8 : decode cX1_worthOf 8 = .ok (.ireturn, 1) := by decide +kernel
theorem dX1_heavyOf_0 : decode cX1_heavyOf 0 = .ok (.aload_n 0, 1) := by decide +kernel
theorem dX1_heavyOf_1 : decode cX1_heavyOf 1 = .ok (.getfield 43, 3) := by decide +kernel
theorem dX1_heavyOf_4 : decode cX1_heavyOf 4 = .ok (.iload_n 1, 1) := by decide +kernel
theorem dX1_heavyOf_5 : decode cX1_heavyOf 5 = .ok (.invokestatic 67, 3) := by decide +kernel
theorem dX1_heavyOf_8 : decode cX1_heavyOf 8 = .ok (.ireturn, 1) := by decide +kernel
theorem dX1_countOf_0 : decode cX1_countOf 0 = .ok (.aload_n 0, 1) := by decide +kernel
theorem dX1_countOf_1 : decode cX1_countOf 1 = .ok (.getfield 46, 3) := by decide +kernel
theorem dX1_countOf_4 : decode cX1_countOf 4 = .ok (.iload_n 1, 1) := by decide +kernel
theorem dX1_countOf_5 : decode cX1_countOf 5 = .ok (.invokestatic 67, 3) := by decide +kernel
theorem dX1_countOf_8 : decode cX1_countOf 8 = .ok (.ireturn, 1) := by decide +kernel
theorem dX1_counted_0 : decode cX1_counted 0 = .ok (.iload_n 0, 1) := by decide +kernel
theorem dX1_counted_1 : decode cX1_counted 1 = .ok (.tableswitch 38 1 3 #[27, 30, 34], 27) := by decide +kernel
theorem dX1_counted_28 : decode cX1_counted 28 = .ok (.iload_n 1, 1) := by decide +kernel
theorem dX1_counted_29 : decode cX1_counted 29 = .ok (.ineg, 1) := by decide +kernel
theorem dX1_counted_30 : decode cX1_counted 30 = .ok (.ireturn, 1) := by decide +kernel
theorem dX1_counted_31 : decode cX1_counted 31 = .ok (.iconst 3, 1) := by decide +kernel
theorem dX1_counted_32 : decode cX1_counted 32 = .ok (.iload_n 1, 1) := by decide +kernel
theorem dX1_counted_33 : decode cX1_counted 33 = .ok (.imul, 1) := by decide +kernel
theorem dX1_counted_34 : decode cX1_counted 34 = .ok (.ireturn, 1) := by decide +kernel
theorem dX1_counted_35 : decode cX1_counted 35 = .ok (.iload_n 1, 1) := by decide +kernel
theorem dX1_counted_36 : decode cX1_counted 36 = .ok (.iconst 2, 1) := by decide +kernel
theorem dX1_counted_37 : decode cX1_counted 37 = .ok (.idiv, 1) := by decide +kernel
theorem dX1_counted_38 : decode cX1_counted 38 = .ok (.ireturn, 1) := by decide +kernel
theorem dX1_counted_39 : decode cX1_counted 39 = .ok (.iload_n 1, 1) := by decide +kernel
theorem dX1_counted_40 : decode cX1_counted 40 = .ok (.ireturn, 1) := by decide +kernel
theorem dX1_isLonelyGrandmother_0 : decode cX1_isLonelyGrandmother 0 = .ok (.iconst 0, 1) := by decide +kernel
theorem dX1_isLonelyGrandmother_1 : decode cX1_isLonelyGrandmother 1 = .ok (.istore_n 2, 1) := by decide +kernel
theorem dX1_isLonelyGrandmother_2 : decode cX1_isLonelyGrandmother 2 = .ok (.iload_n 2, 1) := by decide +kernel
theorem dX1_isLonelyGrandmother_3 : decode cX1_isLonelyGrandmother 3 = .ok (.aload_n 0, 1) := by decide +kernel
theorem dX1_isLonelyGrandmother_4 : decode cX1_isLonelyGrandmother 4 = .ok (.getfield 9, 3) := by decide +kernel
theorem dX1_isLonelyGrandmother_7 : decode cX1_isLonelyGrandmother 7 = .ok (.if_icmp .ge 27, 3) := by decide +kernel
theorem dX1_isLonelyGrandmother_10 : decode cX1_isLonelyGrandmother 10 = .ok (.iload_n 1, 1) := by decide +kernel
theorem dX1_isLonelyGrandmother_11 : decode cX1_isLonelyGrandmother 11 = .ok (.iconst 1, 1) := by decide +kernel
theorem dX1_isLonelyGrandmother_12 : decode cX1_isLonelyGrandmother 12 = .ok (.iload_n 2, 1) := by decide +kernel
theorem dX1_isLonelyGrandmother_13 : decode cX1_isLonelyGrandmother 13 = .ok (.ishl, 1) := by decide +kernel
theorem dX1_isLonelyGrandmother_14 : decode cX1_isLonelyGrandmother 14 = .ok (.if_icmp .ne 14, 3) := by decide +kernel
theorem dX1_isLonelyGrandmother_17 : decode cX1_isLonelyGrandmother 17 = .ok (.aload_n 0, 1) := by decide +kernel
theorem dX1_isLonelyGrandmother_18 : decode cX1_isLonelyGrandmother 18 = .ok (.iload_n 2, 1) := by decide +kernel
theorem dX1_isLonelyGrandmother_19 : decode cX1_isLonelyGrandmother 19 = .ok (.invokevirtual 74, 3) := by decide +kernel
theorem dX1_isLonelyGrandmother_22 : decode cX1_isLonelyGrandmother 22 = .ok (.iconst 3, 1) := by decide +kernel
theorem dX1_isLonelyGrandmother_23 : decode cX1_isLonelyGrandmother 23 = .ok (.if_icmp .ne 5, 3) := by decide +kernel
theorem dX1_isLonelyGrandmother_26 : decode cX1_isLonelyGrandmother 26 = .ok (.iconst 1, 1) := by decide +kernel
theorem dX1_isLonelyGrandmother_27 : decode cX1_isLonelyGrandmother 27 = .ok (.ireturn, 1) := by decide +kernel
theorem dX1_isLonelyGrandmother_28 : decode cX1_isLonelyGrandmother 28 = .ok (.iinc 2 1, 3) := by decide +kernel
theorem dX1_isLonelyGrandmother_31 : decode cX1_isLonelyGrandmother 31 = .ok (.goto (-29), 3) := by decide +kernel
theorem dX1_isLonelyGrandmother_34 : decode cX1_isLonelyGrandmother 34 = .ok (.iconst 0, 1) := by decide +kernel
theorem dX1_isLonelyGrandmother_35 : decode cX1_isLonelyGrandmother 35 = .ok (.ireturn, 1) := by decide +kernel
theorem dX2_feeToLeave_0 : decode cX2_feeToLeave 0 = .ok (.aload_n 1, 1) := by decide +kernel
theorem dX2_feeToLeave_1 : decode cX2_feeToLeave 1 = .ok (.iload_n 2, 1) := by decide +kernel
theorem dX2_feeToLeave_2 : decode cX2_feeToLeave 2 = .ok (.invokevirtual 9, 3) := by decide +kernel
theorem dX2_feeToLeave_5 : decode cX2_feeToLeave 5 = .ok (.ifCond .eq 20, 3) := by decide +kernel
theorem dX2_feeToLeave_8 : decode cX2_feeToLeave 8 = .ok (.aload_n 0, 1) := by decide +kernel
theorem dX2_feeToLeave_9 : decode cX2_feeToLeave 9 = .ok (.aload_n 1, 1) := by decide +kernel
theorem dX2_feeToLeave_10 : decode cX2_feeToLeave 10 = .ok (.getfield 15, 3) := by decide +kernel
theorem dX2_feeToLeave_13 : decode cX2_feeToLeave 13 = .ok (.iconst 1, 1) := by decide +kernel
theorem dX2_feeToLeave_14 : decode cX2_feeToLeave 14 = .ok (.iload_n 2, 1) := by decide +kernel
theorem dX2_feeToLeave_15 : decode cX2_feeToLeave 15 = .ok (.ishl, 1) := by decide +kernel
theorem dX2_feeToLeave_16 : decode cX2_feeToLeave 16 = .ok (.iconst (-1), 1) := by decide +kernel
theorem dX2_feeToLeave_17 : decode cX2_feeToLeave 17 = .ok (.ixor, 1) := by decide +kernel
theorem dX2_feeToLeave_18 : decode cX2_feeToLeave 18 = .ok (.iand, 1) := by decide +kernel
theorem dX2_feeToLeave_19 : decode cX2_feeToLeave 19 = .ok (.invokevirtual 19, 3) := by decide +kernel
theorem dX2_feeToLeave_22 : decode cX2_feeToLeave 22 = .ok (.ifCond .eq 6, 3) := by decide +kernel
theorem dX2_feeToLeave_25 : decode cX2_feeToLeave 25 = .ok (.bipush (-2), 2) := by decide +kernel
theorem dX2_feeToLeave_27 : decode cX2_feeToLeave 27 = .ok (.ireturn, 1) := by decide +kernel
theorem dX2_feeToLeave_28 : decode cX2_feeToLeave 28 = .ok (.aload_n 0, 1) := by decide +kernel
theorem dX2_feeToLeave_29 : decode cX2_feeToLeave 29 = .ok (.aload_n 1, 1) := by decide +kernel
theorem dX2_feeToLeave_30 : decode cX2_feeToLeave 30 = .ok (.iload_n 2, 1) := by decide +kernel
theorem dX2_feeToLeave_31 : decode cX2_feeToLeave 31 = .ok (.invokestatic 24, 3) := by decide +kernel
theorem dX2_feeToLeave_34 : decode cX2_feeToLeave 34 = .ok (.istore_n 3, 1) := by decide +kernel
theorem dX2_feeToLeave_35 : decode cX2_feeToLeave 35 = .ok (.iload_n 3, 1) := by decide +kernel
theorem dX2_feeToLeave_36 : decode cX2_feeToLeave 36 = .ok (.aload_n 1, 1) := by decide +kernel
theorem dX2_feeToLeave_37 : decode cX2_feeToLeave 37 = .ok (.iload_n 2, 1) := by decide +kernel
theorem dX2_feeToLeave_38 : decode cX2_feeToLeave 38 = .ok (.invokevirtual 30, 3) := by decide +kernel
theorem dX2_feeToLeave_41 : decode cX2_feeToLeave 41 = .ok (.if_icmp .gt 7, 3) := by decide +kernel
theorem dX2_feeToLeave_44 : decode cX2_feeToLeave 44 = .ok (.iload_n 3, 1) := by decide +kernel
theorem dX2_feeToLeave_45 : decode cX2_feeToLeave 45 = .ok (.goto 5, 3) := by decide +kernel
theorem dX2_feeToLeave_48 : decode cX2_feeToLeave 48 = .ok (.bipush (-2), 2) := by decide +kernel
theorem dX2_feeToLeave_50 : decode cX2_feeToLeave 50 = .ok (.ireturn, 1) := by decide +kernel
theorem dX2_feeToReturn_0 : decode cX2_feeToReturn 0 = .ok (.aload_n 1, 1) := by decide +kernel
theorem dX2_feeToReturn_1 : decode cX2_feeToReturn 1 = .ok (.iload_n 2, 1) := by decide +kernel
theorem dX2_feeToReturn_2 : decode cX2_feeToReturn 2 = .ok (.invokevirtual 9, 3) := by decide +kernel
theorem dX2_feeToReturn_5 : decode cX2_feeToReturn 5 = .ok (.ifCond .eq 6, 3) := by decide +kernel
theorem dX2_feeToReturn_8 : decode cX2_feeToReturn 8 = .ok (.bipush (-2), 2) := by decide +kernel
theorem dX2_feeToReturn_10 : decode cX2_feeToReturn 10 = .ok (.ireturn, 1) := by decide +kernel
theorem dX2_feeToReturn_11 : decode cX2_feeToReturn 11 = .ok (.aload_n 0, 1) := by decide +kernel
theorem dX2_feeToReturn_12 : decode cX2_feeToReturn 12 = .ok (.iload_n 2, 1) := by decide +kernel
theorem dX2_feeToReturn_13 : decode cX2_feeToReturn 13 = .ok (.invokevirtual 34, 3) := by decide +kernel
theorem dX2_feeToReturn_16 : decode cX2_feeToReturn 16 = .ok (.iconst 2, 1) := by decide +kernel
theorem dX2_feeToReturn_17 : decode cX2_feeToReturn 17 = .ok (.if_icmp .ne 11, 3) := by decide +kernel
theorem dX2_feeToReturn_20 : decode cX2_feeToReturn 20 = .ok (.aload_n 1, 1) := by decide +kernel
theorem dX2_feeToReturn_21 : decode cX2_feeToReturn 21 = .ok (.iload_n 2, 1) := by decide +kernel
theorem dX2_feeToReturn_22 : decode cX2_feeToReturn 22 = .ok (.invokevirtual 37, 3) := by decide +kernel
theorem dX2_feeToReturn_25 : decode cX2_feeToReturn 25 = .ok (.goto 4, 3) := by decide +kernel
theorem dX2_feeToReturn_28 : decode cX2_feeToReturn 28 = .ok (.iconst 0, 1) := by decide +kernel
theorem dX2_feeToReturn_29 : decode cX2_feeToReturn 29 = .ok (.istore_n 3, 1) := by decide +kernel
theorem dX2_feeToReturn_30 : decode cX2_feeToReturn 30 = .ok (.iload_n 3, 1) := by decide +kernel
theorem dX2_feeToReturn_31 : decode cX2_feeToReturn 31 = .ok (.aload_n 1, 1) := by decide +kernel
theorem dX2_feeToReturn_32 : decode cX2_feeToReturn 32 = .ok (.iload_n 2, 1) := by decide +kernel
theorem dX2_feeToReturn_33 : decode cX2_feeToReturn 33 = .ok (.invokevirtual 30, 3) := by decide +kernel
theorem dX2_feeToReturn_36 : decode cX2_feeToReturn 36 = .ok (.if_icmp .gt 7, 3) := by decide +kernel
theorem dX2_feeToReturn_39 : decode cX2_feeToReturn 39 = .ok (.iload_n 3, 1) := by decide +kernel
theorem dX2_feeToReturn_40 : decode cX2_feeToReturn 40 = .ok (.goto 5, 3) := by decide +kernel
theorem dX2_feeToReturn_43 : decode cX2_feeToReturn 43 = .ok (.bipush (-2), 2) := by decide +kernel
theorem dX2_feeToReturn_45 : decode cX2_feeToReturn 45 = .ok (.ireturn, 1) := by decide +kernel
theorem dX2_depart_0 : decode cX2_depart 0 = .ok (.aload_n 0, 1) := by decide +kernel
theorem dX2_depart_1 : decode cX2_depart 1 = .ok (.iload_n 1, 1) := by decide +kernel
theorem dX2_depart_2 : decode cX2_depart 2 = .ok (.iload_n 2, 1) := by decide +kernel
theorem dX2_depart_3 : decode cX2_depart 3 = .ok (.invokevirtual 40, 3) := by decide +kernel
theorem dX2_depart_6 : decode cX2_depart 6 = .ok (.aload_n 0, 1) := by decide +kernel
theorem dX2_depart_7 : decode cX2_depart 7 = .ok (.iload_n 1, 1) := by decide +kernel
theorem dX2_depart_8 : decode cX2_depart 8 = .ok (.iload_n 2, 1) := by decide +kernel
theorem dX2_depart_9 : decode cX2_depart 9 = .ok (.invokevirtual 44, 3) := by decide +kernel
theorem dX2_depart_12 : decode cX2_depart 12 = .ok (.return_, 1) := by decide +kernel
theorem dX2_arrive_0 : decode cX2_arrive 0 = .ok (.aload_n 0, 1) := by decide +kernel
theorem dX2_arrive_1 : decode cX2_arrive 1 = .ok (.iload_n 1, 1) := by decide +kernel
theorem dX2_arrive_2 : decode cX2_arrive 2 = .ok (.iload_n 2, 1) := by decide +kernel
theorem dX2_arrive_3 : decode cX2_arrive 3 = .ok (.invokevirtual 40, 3) := by decide +kernel
theorem dX2_arrive_6 : decode cX2_arrive 6 = .ok (.aload_n 0, 1) := by decide +kernel
theorem dX2_arrive_7 : decode cX2_arrive 7 = .ok (.iload_n 1, 1) := by decide +kernel
theorem dX2_arrive_8 : decode cX2_arrive 8 = .ok (.invokevirtual 47, 3) := by decide +kernel
theorem dX2_arrive_11 : decode cX2_arrive 11 = .ok (.return_, 1) := by decide +kernel
theorem dX2_cross_0 : decode cX2_cross 0 = .ok (.aload_n 1, 1) := by decide +kernel
theorem dX2_cross_1 : decode cX2_cross 1 = .ok (.iload_n 2, 1) := by decide +kernel
theorem dX2_cross_2 : decode cX2_cross 2 = .ok (.invokevirtual 9, 3) := by decide +kernel
theorem dX2_cross_5 : decode cX2_cross 5 = .ok (.istore_n 3, 1) := by decide +kernel
theorem dX2_cross_6 : decode cX2_cross 6 = .ok (.iload_n 3, 1) := by decide +kernel
theorem dX2_cross_7 : decode cX2_cross 7 = .ok (.ifCond .eq 12, 3) := by decide +kernel
theorem dX2_cross_10 : decode cX2_cross 10 = .ok (.aload_n 0, 1) := by decide +kernel
theorem dX2_cross_11 : decode cX2_cross 11 = .ok (.aload_n 1, 1) := by decide +kernel
theorem dX2_cross_12 : decode cX2_cross 12 = .ok (.iload_n 2, 1) := by decide +kernel
theorem dX2_cross_13 : decode cX2_cross 13 = .ok (.invokestatic 51, 3) := by decide +kernel
theorem dX2_cross_16 : decode cX2_cross 16 = .ok (.goto 9, 3) := by decide +kernel
theorem dX2_cross_19 : decode cX2_cross 19 = .ok (.aload_n 0, 1) := by decide +kernel
theorem dX2_cross_20 : decode cX2_cross 20 = .ok (.aload_n 1, 1) := by decide +kernel
theorem dX2_cross_21 : decode cX2_cross 21 = .ok (.iload_n 2, 1) := by decide +kernel
theorem dX2_cross_22 : decode cX2_cross 22 = .ok (.invokestatic 56, 3) := by decide +kernel
theorem dX2_cross_25 : decode cX2_cross 25 = .ok (.istore 4, 2) := by decide +kernel
theorem dX2_cross_27 : decode cX2_cross 27 = .ok (.iload 4, 2) := by decide +kernel
theorem dX2_cross_29 : decode cX2_cross 29 = .ok (.ifCond .ge 5, 3) := by decide +kernel
theorem dX2_cross_32 : decode cX2_cross 32 = .ok (.iconst 0, 1) := by decide +kernel
theorem dX2_cross_33 : decode cX2_cross 33 = .ok (.ireturn, 1) := by decide +kernel
theorem dX2_cross_34 : decode cX2_cross 34 = .ok (.iload_n 3, 1) := by decide +kernel
theorem dX2_cross_35 : decode cX2_cross 35 = .ok (.ifCond .eq 13, 3) := by decide +kernel
theorem dX2_cross_38 : decode cX2_cross 38 = .ok (.aload_n 1, 1) := by decide +kernel
theorem dX2_cross_39 : decode cX2_cross 39 = .ok (.iload_n 2, 1) := by decide +kernel
theorem dX2_cross_40 : decode cX2_cross 40 = .ok (.iload 4, 2) := by decide +kernel
theorem dX2_cross_42 : decode cX2_cross 42 = .ok (.invokestatic 59, 3) := by decide +kernel
theorem dX2_cross_45 : decode cX2_cross 45 = .ok (.goto 10, 3) := by decide +kernel
theorem dX2_cross_48 : decode cX2_cross 48 = .ok (.aload_n 1, 1) := by decide +kernel
theorem dX2_cross_49 : decode cX2_cross 49 = .ok (.iload_n 2, 1) := by decide +kernel
theorem dX2_cross_50 : decode cX2_cross 50 = .ok (.iload 4, 2) := by decide +kernel
theorem dX2_cross_52 : decode cX2_cross 52 = .ok (.invokestatic 63, 3) := by decide +kernel
theorem dX2_cross_55 : decode cX2_cross 55 = .ok (.iload 4, 2) := by decide +kernel
theorem dX2_cross_57 : decode cX2_cross 57 = .ok (.ireturn, 1) := by decide +kernel
theorem dX3_init_0 : decode cX3_init 0 = .ok (.aload_n 0, 1) := by decide +kernel
theorem dX3_init_1 : decode cX3_init 1 = .ok (.invokespecial 3, 3) := by decide +kernel
theorem dX3_init_4 : decode cX3_init 4 = .ok (.aload_n 0, 1) := by decide +kernel
theorem dX3_init_5 : decode cX3_init 5 = .ok (.bipush 6, 2) := by decide +kernel
theorem dX3_init_7 : decode cX3_init 7 = .ok (.newarray .int, 2) := by decide +kernel
theorem dX3_init_9 : decode cX3_init 9 = .ok (.putfield 9, 3) := by decide +kernel
theorem dX3_init_12 : decode cX3_init 12 = .ok (.aload_n 0, 1) := by decide +kernel
theorem dX3_init_13 : decode cX3_init 13 = .ok (.bipush 6, 2) := by decide +kernel
theorem dX3_init_15 : decode cX3_init 15 = .ok (.newarray .int, 2) := by decide +kernel
theorem dX3_init_17 : decode cX3_init 17 = .ok (.putfield 15, 3) := by decide +kernel
theorem dX3_init_20 : decode cX3_init 20 = .ok (.aload_n 0, 1) := by decide +kernel
theorem dX3_init_21 : decode cX3_init 21 = .ok (.iconst 0, 1) := by decide +kernel
theorem dX3_init_22 : decode cX3_init 22 = .ok (.putfield 18, 3) := by decide +kernel
theorem dX3_init_25 : decode cX3_init 25 = .ok (.return_, 1) := by decide +kernel
theorem dX3_add_0 : decode cX3_add 0 = .ok (.aload_n 0, 1) := by decide +kernel
theorem dX3_add_1 : decode cX3_add 1 = .ok (.getfield 18, 3) := by decide +kernel
theorem dX3_add_4 : decode cX3_add 4 = .ok (.bipush 6, 2) := by decide +kernel
theorem dX3_add_6 : decode cX3_add 6 = .ok (.if_icmp .lt 5, 3) := by decide +kernel
theorem dX3_add_9 : decode cX3_add 9 = .ok (.iconst 0, 1) := by decide +kernel
theorem dX3_add_10 : decode cX3_add 10 = .ok (.ireturn, 1) := by decide +kernel
theorem dX3_add_11 : decode cX3_add 11 = .ok (.aload_n 0, 1) := by decide +kernel
theorem dX3_add_12 : decode cX3_add 12 = .ok (.getfield 9, 3) := by decide +kernel
theorem dX3_add_15 : decode cX3_add 15 = .ok (.aload_n 0, 1) := by decide +kernel
theorem dX3_add_16 : decode cX3_add 16 = .ok (.getfield 18, 3) := by decide +kernel
theorem dX3_add_19 : decode cX3_add 19 = .ok (.iload_n 1, 1) := by decide +kernel
theorem dX3_add_20 : decode cX3_add 20 = .ok (.invokestatic 22, 3) := by decide +kernel
theorem dX3_add_23 : decode cX3_add 23 = .ok (.aload_n 0, 1) := by decide +kernel
theorem dX3_add_24 : decode cX3_add 24 = .ok (.getfield 15, 3) := by decide +kernel
theorem dX3_add_27 : decode cX3_add 27 = .ok (.aload_n 0, 1) := by decide +kernel
theorem dX3_add_28 : decode cX3_add 28 = .ok (.getfield 18, 3) := by decide +kernel
theorem dX3_add_31 : decode cX3_add 31 = .ok (.iload_n 2, 1) := by decide +kernel
theorem dX3_add_32 : decode cX3_add 32 = .ok (.invokestatic 22, 3) := by decide +kernel
theorem dX3_add_35 : decode cX3_add 35 = .ok (.aload_n 0, 1) := by decide +kernel
theorem dX3_add_36 : decode cX3_add 36 = .ok (.dup, 1) := by decide +kernel
theorem dX3_add_37 : decode cX3_add 37 = .ok (.getfield 18, 3) := by decide +kernel
theorem dX3_add_40 : decode cX3_add 40 = .ok (.iconst 1, 1) := by decide +kernel
theorem dX3_add_41 : decode cX3_add 41 = .ok (.iadd, 1) := by decide +kernel
theorem dX3_add_42 : decode cX3_add 42 = .ok (.putfield 18, 3) := by decide +kernel
theorem dX3_add_45 : decode cX3_add 45 = .ok (.iconst 1, 1) := by decide +kernel
theorem dX3_add_46 : decode cX3_add 46 = .ok (.ireturn, 1) := by decide +kernel
theorem dX3_empty_0 : decode cX3_empty 0 = .ok (.aload_n 0, 1) := by decide +kernel
theorem dX3_empty_1 : decode cX3_empty 1 = .ok (.iconst 0, 1) := by decide +kernel
theorem dX3_empty_2 : decode cX3_empty 2 = .ok (.putfield 18, 3) := by decide +kernel
theorem dX3_empty_5 : decode cX3_empty 5 = .ok (.return_, 1) := by decide +kernel
theorem dX3_holds_0 : decode cX3_holds 0 = .ok (.iload_n 1, 1) := by decide +kernel
theorem dX3_holds_1 : decode cX3_holds 1 = .ok (.ifCond .lt 15, 3) := by decide +kernel
theorem dX3_holds_4 : decode cX3_holds 4 = .ok (.iload_n 1, 1) := by decide +kernel
theorem dX3_holds_5 : decode cX3_holds 5 = .ok (.aload_n 0, 1) := by decide +kernel
theorem dX3_holds_6 : decode cX3_holds 6 = .ok (.getfield 18, 3) := by decide +kernel
theorem dX3_holds_9 : decode cX3_holds 9 = .ok (.if_icmp .ge 7, 3) := by decide +kernel
theorem dX3_holds_12 : decode cX3_holds 12 = .ok (.iconst 1, 1) := by decide +kernel
theorem dX3_holds_13 : decode cX3_holds 13 = .ok (.goto 4, 3) := by decide +kernel
theorem dX3_holds_16 : decode cX3_holds 16 = .ok (.iconst 0, 1) := by decide +kernel
theorem dX3_holds_17 : decode cX3_holds 17 = .ok (.ireturn, 1) := by decide +kernel
theorem dX3_swearer_0 : decode cX3_swearer 0 = .ok (.aload_n 0, 1) := by decide +kernel
theorem dX3_swearer_1 : decode cX3_swearer 1 = .ok (.getfield 9, 3) := by decide +kernel
theorem dX3_swearer_4 : decode cX3_swearer 4 = .ok (.iload_n 1, 1) := by decide +kernel
theorem dX3_swearer_5 : decode cX3_swearer 5 = .ok (.invokestatic 28, 3) := by decide +kernel
theorem dX3_swearer_8 : decode cX3_swearer 8 = .ok (.ireturn, 1) := by decide +kernel
theorem dX3_sum_0 : decode cX3_sum 0 = .ok (.aload_n 0, 1) := by decide +kernel
theorem dX3_sum_1 : decode cX3_sum 1 = .ok (.getfield 15, 3) := by decide +kernel
theorem dX3_sum_4 : decode cX3_sum 4 = .ok (.iload_n 1, 1) := by decide +kernel
theorem dX3_sum_5 : decode cX3_sum 5 = .ok (.invokestatic 28, 3) := by decide +kernel
theorem dX3_sum_8 : decode cX3_sum 8 = .ok (.ireturn, 1) := by decide +kernel
theorem dX4_init_0 : decode cX4_init 0 = .ok (.aload_n 0, 1) := by decide +kernel
theorem dX4_init_1 : decode cX4_init 1 = .ok (.invokespecial 3, 3) := by decide +kernel
theorem dX4_init_4 : decode cX4_init 4 = .ok (.aload_n 0, 1) := by decide +kernel
theorem dX4_init_5 : decode cX4_init 5 = .ok (.bipush 64, 2) := by decide +kernel
theorem dX4_init_7 : decode cX4_init 7 = .ok (.newarray .int, 2) := by decide +kernel
theorem dX4_init_9 : decode cX4_init 9 = .ok (.putfield 9, 3) := by decide +kernel
theorem dX4_init_12 : decode cX4_init 12 = .ok (.aload_n 0, 1) := by decide +kernel
theorem dX4_init_13 : decode cX4_init 13 = .ok (.bipush 64, 2) := by decide +kernel
theorem dX4_init_15 : decode cX4_init 15 = .ok (.newarray .int, 2) := by decide +kernel
theorem dX4_init_17 : decode cX4_init 17 = .ok (.putfield 15, 3) := by decide +kernel
theorem dX4_init_20 : decode cX4_init 20 = .ok (.return_, 1) := by decide +kernel
theorem dX4_reckon_0 : decode cX4_reckon 0 = .ok (.aload_n 0, 1) := by decide +kernel
theorem dX4_reckon_1 : decode cX4_reckon 1 = .ok (.getfield 9, 3) := by decide +kernel
theorem dX4_reckon_4 : decode cX4_reckon 4 = .ok (.iconst 0, 1) := by decide +kernel
theorem dX4_reckon_5 : decode cX4_reckon 5 = .ok (.iconst 0, 1) := by decide +kernel
theorem dX4_reckon_6 : decode cX4_reckon 6 = .ok (.invokestatic 18, 3) := by decide +kernel
theorem dX4_reckon_9 : decode cX4_reckon 9 = .ok (.aload_n 0, 1) := by decide +kernel
theorem dX4_reckon_10 : decode cX4_reckon 10 = .ok (.getfield 15, 3) := by decide +kernel
theorem dX4_reckon_13 : decode cX4_reckon 13 = .ok (.iconst 0, 1) := by decide +kernel
theorem dX4_reckon_14 : decode cX4_reckon 14 = .ok (.bipush (-4), 2) := by decide +kernel
theorem dX4_reckon_16 : decode cX4_reckon 16 = .ok (.invokestatic 18, 3) := by decide +kernel
theorem dX4_reckon_19 : decode cX4_reckon 19 = .ok (.iconst 1, 1) := by decide +kernel
theorem dX4_reckon_20 : decode cX4_reckon 20 = .ok (.istore_n 3, 1) := by decide +kernel
theorem dX4_reckon_21 : decode cX4_reckon 21 = .ok (.iload_n 3, 1) := by decide +kernel
theorem dX4_reckon_22 : decode cX4_reckon 22 = .ok (.bipush 64, 2) := by decide +kernel
theorem dX4_reckon_24 : decode cX4_reckon 24 = .ok (.if_icmp .ge 27, 3) := by decide +kernel
theorem dX4_reckon_27 : decode cX4_reckon 27 = .ok (.iload_n 3, 1) := by decide +kernel
theorem dX4_reckon_28 : decode cX4_reckon 28 = .ok (.aload_n 2, 1) := by decide +kernel
theorem dX4_reckon_29 : decode cX4_reckon 29 = .ok (.getfield 24, 3) := by decide +kernel
theorem dX4_reckon_32 : decode cX4_reckon 32 = .ok (.iconst (-1), 1) := by decide +kernel
theorem dX4_reckon_33 : decode cX4_reckon 33 = .ok (.ixor, 1) := by decide +kernel
theorem dX4_reckon_34 : decode cX4_reckon 34 = .ok (.iand, 1) := by decide +kernel
theorem dX4_reckon_35 : decode cX4_reckon 35 = .ok (.ifCond .ne 10, 3) := by decide +kernel
theorem dX4_reckon_38 : decode cX4_reckon 38 = .ok (.aload_n 0, 1) := by decide +kernel
theorem dX4_reckon_39 : decode cX4_reckon 39 = .ok (.aload_n 1, 1) := by decide +kernel
theorem dX4_reckon_40 : decode cX4_reckon 40 = .ok (.aload_n 2, 1) := by decide +kernel
theorem dX4_reckon_41 : decode cX4_reckon 41 = .ok (.iload_n 3, 1) := by decide +kernel
theorem dX4_reckon_42 : decode cX4_reckon 42 = .ok (.invokevirtual 30, 3) := by decide +kernel
theorem dX4_reckon_45 : decode cX4_reckon 45 = .ok (.iinc 3 1, 3) := by decide +kernel
theorem dX4_reckon_48 : decode cX4_reckon 48 = .ok (.goto (-27), 3) := by decide +kernel
theorem dX4_reckon_51 : decode cX4_reckon 51 = .ok (.return_, 1) := by decide +kernel
theorem dX4_reckonSet_0 : decode cX4_reckonSet 0 = .ok (.bipush (-4), 2) := by decide +kernel
theorem dX4_reckonSet_2 : decode cX4_reckonSet 2 = .ok (.istore 4, 2) := by decide +kernel
theorem dX4_reckonSet_4 : decode cX4_reckonSet 4 = .ok (.bipush (-4), 2) := by decide +kernel
theorem dX4_reckonSet_6 : decode cX4_reckonSet 6 = .ok (.istore 5, 2) := by decide +kernel
theorem dX4_reckonSet_8 : decode cX4_reckonSet 8 = .ok (.iconst 0, 1) := by decide +kernel
theorem dX4_reckonSet_9 : decode cX4_reckonSet 9 = .ok (.istore 6, 2) := by decide +kernel
theorem dX4_reckonSet_11 : decode cX4_reckonSet 11 = .ok (.iload 6, 2) := by decide +kernel
theorem dX4_reckonSet_13 : decode cX4_reckonSet 13 = .ok (.aload_n 1, 1) := by decide +kernel
theorem dX4_reckonSet_14 : decode cX4_reckonSet 14 = .ok (.getfield 34, 3) := by decide +kernel
theorem dX4_reckonSet_17 : decode cX4_reckonSet 17 = .ok (.if_icmp .ge 87, 3) := by decide +kernel
theorem dX4_reckonSet_20 : decode cX4_reckonSet 20 = .ok (.iload_n 3, 1) := by decide +kernel
theorem dX4_reckonSet_21 : decode cX4_reckonSet 21 = .ok (.iconst 1, 1) := by decide +kernel
theorem dX4_reckonSet_22 : decode cX4_reckonSet 22 = .ok (.iload 6, 2) := by decide +kernel
theorem dX4_reckonSet_24 : decode cX4_reckonSet 24 = .ok (.ishl, 1) := by decide +kernel
theorem dX4_reckonSet_25 : decode cX4_reckonSet 25 = .ok (.iconst (-1), 1) := by decide +kernel
theorem dX4_reckonSet_26 : decode cX4_reckonSet 26 = .ok (.ixor, 1) := by decide +kernel
theorem dX4_reckonSet_27 : decode cX4_reckonSet 27 = .ok (.iand, 1) := by decide +kernel
theorem dX4_reckonSet_28 : decode cX4_reckonSet 28 = .ok (.istore 7, 2) := by decide +kernel
theorem dX4_reckonSet_30 : decode cX4_reckonSet 30 = .ok (.iload 7, 2) := by decide +kernel
theorem dX4_reckonSet_32 : decode cX4_reckonSet 32 = .ok (.iload_n 3, 1) := by decide +kernel
theorem dX4_reckonSet_33 : decode cX4_reckonSet 33 = .ok (.if_icmp .eq 65, 3) := by decide +kernel
theorem dX4_reckonSet_36 : decode cX4_reckonSet 36 = .ok (.aload_n 1, 1) := by decide +kernel
theorem dX4_reckonSet_37 : decode cX4_reckonSet 37 = .ok (.iload 7, 2) := by decide +kernel
theorem dX4_reckonSet_39 : decode cX4_reckonSet 39 = .ok (.invokevirtual 39, 3) := by decide +kernel
theorem dX4_reckonSet_42 : decode cX4_reckonSet 42 = .ok (.ifCond .ne 56, 3) := by decide +kernel
theorem dX4_reckonSet_45 : decode cX4_reckonSet 45 = .ok (.aload_n 0, 1) := by decide +kernel
theorem dX4_reckonSet_46 : decode cX4_reckonSet 46 = .ok (.iload 7, 2) := by decide +kernel
theorem dX4_reckonSet_48 : decode cX4_reckonSet 48 = .ok (.invokevirtual 43, 3) := by decide +kernel
theorem dX4_reckonSet_51 : decode cX4_reckonSet 51 = .ok (.bipush (-4), 2) := by decide +kernel
theorem dX4_reckonSet_53 : decode cX4_reckonSet 53 = .ok (.if_icmp .ne 6, 3) := by decide +kernel
theorem dX4_reckonSet_56 : decode cX4_reckonSet 56 = .ok (.goto 42, 3) := by decide +kernel
theorem dX4_reckonSet_59 : decode cX4_reckonSet 59 = .ok (.aload_n 0, 1) := by decide +kernel
theorem dX4_reckonSet_60 : decode cX4_reckonSet 60 = .ok (.iload 7, 2) := by decide +kernel
theorem dX4_reckonSet_62 : decode cX4_reckonSet 62 = .ok (.invokevirtual 43, 3) := by decide +kernel
theorem dX4_reckonSet_65 : decode cX4_reckonSet 65 = .ok (.aload_n 1, 1) := by decide +kernel
theorem dX4_reckonSet_66 : decode cX4_reckonSet 66 = .ok (.aload_n 2, 1) := by decide +kernel
theorem dX4_reckonSet_67 : decode cX4_reckonSet 67 = .ok (.iload 6, 2) := by decide +kernel
theorem dX4_reckonSet_69 : decode cX4_reckonSet 69 = .ok (.iload_n 3, 1) := by decide +kernel
theorem dX4_reckonSet_70 : decode cX4_reckonSet 70 = .ok (.invokestatic 47, 3) := by decide +kernel
theorem dX4_reckonSet_73 : decode cX4_reckonSet 73 = .ok (.iadd, 1) := by decide +kernel
theorem dX4_reckonSet_74 : decode cX4_reckonSet 74 = .ok (.istore 8, 2) := by decide +kernel
theorem dX4_reckonSet_76 : decode cX4_reckonSet 76 = .ok (.iload 4, 2) := by decide +kernel
theorem dX4_reckonSet_78 : decode cX4_reckonSet 78 = .ok (.bipush (-4), 2) := by decide +kernel
theorem dX4_reckonSet_80 : decode cX4_reckonSet 80 = .ok (.if_icmp .eq 10, 3) := by decide +kernel
theorem dX4_reckonSet_83 : decode cX4_reckonSet 83 = .ok (.iload 8, 2) := by decide +kernel
theorem dX4_reckonSet_85 : decode cX4_reckonSet 85 = .ok (.iload 4, 2) := by decide +kernel
theorem dX4_reckonSet_87 : decode cX4_reckonSet 87 = .ok (.if_icmp .ge 11, 3) := by decide +kernel
theorem dX4_reckonSet_90 : decode cX4_reckonSet 90 = .ok (.iload 8, 2) := by decide +kernel
theorem dX4_reckonSet_92 : decode cX4_reckonSet 92 = .ok (.istore 4, 2) := by decide +kernel
theorem dX4_reckonSet_94 : decode cX4_reckonSet 94 = .ok (.iload 6, 2) := by decide +kernel
theorem dX4_reckonSet_96 : decode cX4_reckonSet 96 = .ok (.istore 5, 2) := by decide +kernel
theorem dX4_reckonSet_98 : decode cX4_reckonSet 98 = .ok (.iinc 6 1, 3) := by decide +kernel
theorem dX4_reckonSet_101 : decode cX4_reckonSet 101 = .ok (.goto (-90), 3) := by decide +kernel
theorem dX4_reckonSet_104 : decode cX4_reckonSet 104 = .ok (.aload_n 0, 1) := by decide +kernel
theorem dX4_reckonSet_105 : decode cX4_reckonSet 105 = .ok (.getfield 9, 3) := by decide +kernel
theorem dX4_reckonSet_108 : decode cX4_reckonSet 108 = .ok (.iload_n 3, 1) := by decide +kernel
theorem dX4_reckonSet_109 : decode cX4_reckonSet 109 = .ok (.iload 4, 2) := by decide +kernel
theorem dX4_reckonSet_111 : decode cX4_reckonSet 111 = .ok (.invokestatic 18, 3) := by decide +kernel
theorem dX4_reckonSet_114 : decode cX4_reckonSet 114 = .ok (.aload_n 0, 1) := by decide +kernel
theorem dX4_reckonSet_115 : decode cX4_reckonSet 115 = .ok (.getfield 15, 3) := by decide +kernel
theorem dX4_reckonSet_118 : decode cX4_reckonSet 118 = .ok (.iload_n 3, 1) := by decide +kernel
theorem dX4_reckonSet_119 : decode cX4_reckonSet 119 = .ok (.iload 5, 2) := by decide +kernel
theorem dX4_reckonSet_121 : decode cX4_reckonSet 121 = .ok (.invokestatic 18, 3) := by decide +kernel
theorem dX4_reckonSet_124 : decode cX4_reckonSet 124 = .ok (.return_, 1) := by decide +kernel
theorem dX4_least_0 : decode cX4_least 0 = .ok (.aload_n 0, 1) := by decide +kernel
theorem dX4_least_1 : decode cX4_least 1 = .ok (.getfield 9, 3) := by decide +kernel
theorem dX4_least_4 : decode cX4_least 4 = .ok (.iload_n 1, 1) := by decide +kernel
theorem dX4_least_5 : decode cX4_least 5 = .ok (.invokestatic 53, 3) := by decide +kernel
theorem dX4_least_8 : decode cX4_least 8 = .ok (.ireturn, 1) := by decide +kernel
theorem dX4_leaver_0 : decode cX4_leaver 0 = .ok (.iload_n 1, 1) := by decide +kernel
theorem dX4_leaver_1 : decode cX4_leaver 1 = .ok (.istore_n 3, 1) := by decide +kernel
theorem dX4_leaver_2 : decode cX4_leaver 2 = .ok (.iconst 1, 1) := by decide +kernel
theorem dX4_leaver_3 : decode cX4_leaver 3 = .ok (.istore 4, 2) := by decide +kernel
theorem dX4_leaver_5 : decode cX4_leaver 5 = .ok (.iload 4, 2) := by decide +kernel
theorem dX4_leaver_7 : decode cX4_leaver 7 = .ok (.iload_n 2, 1) := by decide +kernel
theorem dX4_leaver_8 : decode cX4_leaver 8 = .ok (.if_icmp .ge 28, 3) := by decide +kernel
theorem dX4_leaver_11 : decode cX4_leaver 11 = .ok (.iload_n 3, 1) := by decide +kernel
theorem dX4_leaver_12 : decode cX4_leaver 12 = .ok (.ifCond .le 24, 3) := by decide +kernel
theorem dX4_leaver_15 : decode cX4_leaver 15 = .ok (.iload_n 3, 1) := by decide +kernel
theorem dX4_leaver_16 : decode cX4_leaver 16 = .ok (.iconst 1, 1) := by decide +kernel
theorem dX4_leaver_17 : decode cX4_leaver 17 = .ok (.aload_n 0, 1) := by decide +kernel
theorem dX4_leaver_18 : decode cX4_leaver 18 = .ok (.getfield 15, 3) := by decide +kernel
theorem dX4_leaver_21 : decode cX4_leaver 21 = .ok (.iload_n 3, 1) := by decide +kernel
theorem dX4_leaver_22 : decode cX4_leaver 22 = .ok (.invokestatic 53, 3) := by decide +kernel
theorem dX4_leaver_25 : decode cX4_leaver 25 = .ok (.ishl, 1) := by decide +kernel
theorem dX4_leaver_26 : decode cX4_leaver 26 = .ok (.iconst (-1), 1) := by decide +kernel
theorem dX4_leaver_27 : decode cX4_leaver 27 = .ok (.ixor, 1) := by decide +kernel
theorem dX4_leaver_28 : decode cX4_leaver 28 = .ok (.iand, 1) := by decide +kernel
theorem dX4_leaver_29 : decode cX4_leaver 29 = .ok (.istore_n 3, 1) := by decide +kernel
theorem dX4_leaver_30 : decode cX4_leaver 30 = .ok (.iinc 4 1, 3) := by decide +kernel
theorem dX4_leaver_33 : decode cX4_leaver 33 = .ok (.goto (-28), 3) := by decide +kernel
theorem dX4_leaver_36 : decode cX4_leaver 36 = .ok (.iload_n 3, 1) := by decide +kernel
theorem dX4_leaver_37 : decode cX4_leaver 37 = .ok (.ifCond .le 14, 3) := by decide +kernel
theorem dX4_leaver_40 : decode cX4_leaver 40 = .ok (.aload_n 0, 1) := by decide +kernel
theorem dX4_leaver_41 : decode cX4_leaver 41 = .ok (.getfield 15, 3) := by decide +kernel
theorem dX4_leaver_44 : decode cX4_leaver 44 = .ok (.iload_n 3, 1) := by decide +kernel
theorem dX4_leaver_45 : decode cX4_leaver 45 = .ok (.invokestatic 53, 3) := by decide +kernel
theorem dX4_leaver_48 : decode cX4_leaver 48 = .ok (.goto 5, 3) := by decide +kernel
theorem dX4_leaver_51 : decode cX4_leaver 51 = .ok (.bipush (-4), 2) := by decide +kernel
theorem dX4_leaver_53 : decode cX4_leaver 53 = .ok (.ireturn, 1) := by decide +kernel
theorem dX5_init_0 : decode cX5_init 0 = .ok (.aload_n 0, 1) := by decide +kernel
theorem dX5_init_1 : decode cX5_init 1 = .ok (.invokespecial 1, 3) := by decide +kernel
theorem dX5_init_4 : decode cX5_init 4 = .ok (.aload_n 0, 1) := by decide +kernel
theorem dX5_init_5 : decode cX5_init 5 = .ok (.iconst 0, 1) := by decide +kernel
theorem dX5_init_6 : decode cX5_init 6 = .ok (.putfield 7, 3) := by decide +kernel
theorem dX5_init_9 : decode cX5_init 9 = .ok (.aload_n 0, 1) := by decide +kernel
theorem dX5_init_10 : decode cX5_init 10 = .ok (.iconst 0, 1) := by decide +kernel
theorem dX5_init_11 : decode cX5_init 11 = .ok (.putfield 13, 3) := by decide +kernel
theorem dX5_init_14 : decode cX5_init 14 = .ok (.aload_n 0, 1) := by decide +kernel
theorem dX5_init_15 : decode cX5_init 15 = .ok (.iload_n 1, 1) := by decide +kernel
theorem dX5_init_16 : decode cX5_init 16 = .ok (.iconst 1, 1) := by decide +kernel
theorem dX5_init_17 : decode cX5_init 17 = .ok (.invokestatic 16, 3) := by decide +kernel
theorem dX5_init_20 : decode cX5_init 20 = .ok (.anewarray 22, 3) := by decide +kernel
theorem dX5_init_23 : decode cX5_init 23 = .ok (.putfield 24, 3) := by decide +kernel
theorem dX5_init_26 : decode cX5_init 26 = .ok (.iconst 0, 1) := by decide +kernel
theorem dX5_init_27 : decode cX5_init 27 = .ok (.istore_n 2, 1) := by decide +kernel
theorem dX5_init_28 : decode cX5_init 28 = .ok (.iload_n 2, 1) := by decide +kernel
theorem dX5_init_29 : decode cX5_init 29 = .ok (.aload_n 0, 1) := by decide +kernel
theorem dX5_init_30 : decode cX5_init 30 = .ok (.getfield 24, 3) := by decide +kernel
theorem dX5_init_33 : decode cX5_init 33 = .ok (.arraylength, 1) := by decide +kernel
theorem dX5_init_34 : decode cX5_init 34 = .ok (.if_icmp .ge 22, 3) := by decide +kernel
theorem dX5_init_37 : decode cX5_init 37 = .ok (.aload_n 0, 1) := by decide +kernel
theorem dX5_init_38 : decode cX5_init 38 = .ok (.getfield 24, 3) := by decide +kernel
theorem dX5_init_41 : decode cX5_init 41 = .ok (.iload_n 2, 1) := by decide +kernel
theorem dX5_init_42 : decode cX5_init 42 = .ok (.new 22, 3) := by decide +kernel
theorem dX5_init_45 : decode cX5_init 45 = .ok (.dup, 1) := by decide +kernel
theorem dX5_init_46 : decode cX5_init 46 = .ok (.invokespecial 28, 3) := by decide +kernel
theorem dX5_init_49 : decode cX5_init 49 = .ok (.aastore, 1) := by decide +kernel
theorem dX5_init_50 : decode cX5_init 50 = .ok (.iinc 2 1, 3) := by decide +kernel
theorem dX5_init_53 : decode cX5_init 53 = .ok (.goto (-25), 3) := by decide +kernel
theorem dX5_init_56 : decode cX5_init 56 = .ok (.return_, 1) := by decide +kernel
theorem dX5_empty_0 : decode cX5_empty 0 = .ok (.aload_n 0, 1) := by decide +kernel
theorem dX5_empty_1 : decode cX5_empty 1 = .ok (.iconst 0, 1) := by decide +kernel
theorem dX5_empty_2 : decode cX5_empty 2 = .ok (.putfield 13, 3) := by decide +kernel
theorem dX5_empty_5 : decode cX5_empty 5 = .ok (.return_, 1) := by decide +kernel
theorem dX5_put_0 : decode cX5_put 0 = .ok (.aload_n 0, 1) := by decide +kernel
theorem dX5_put_1 : decode cX5_put 1 = .ok (.aload_n 0, 1) := by decide +kernel
theorem dX5_put_2 : decode cX5_put 2 = .ok (.getfield 7, 3) := by decide +kernel
theorem dX5_put_5 : decode cX5_put 5 = .ok (.invokevirtual 29, 3) := by decide +kernel
theorem dX5_put_8 : decode cX5_put 8 = .ok (.astore_n 2, 1) := by decide +kernel
theorem dX5_put_9 : decode cX5_put 9 = .ok (.aload_n 2, 1) := by decide +kernel
theorem dX5_put_10 : decode cX5_put 10 = .ok (.ifnonnull 4, 3) := by decide +kernel
theorem dX5_put_13 : decode cX5_put 13 = .ok (.return_, 1) := by decide +kernel
theorem dX5_put_14 : decode cX5_put 14 = .ok (.aload_n 2, 1) := by decide +kernel
theorem dX5_put_15 : decode cX5_put 15 = .ok (.aload_n 1, 1) := by decide +kernel
theorem dX5_put_16 : decode cX5_put 16 = .ok (.invokevirtual 33, 3) := by decide +kernel
theorem dX5_put_19 : decode cX5_put 19 = .ok (.aload_n 0, 1) := by decide +kernel
theorem dX5_put_20 : decode cX5_put 20 = .ok (.aload_n 0, 1) := by decide +kernel
theorem dX5_put_21 : decode cX5_put 21 = .ok (.getfield 7, 3) := by decide +kernel
theorem dX5_put_24 : decode cX5_put 24 = .ok (.iconst 1, 1) := by decide +kernel
theorem dX5_put_25 : decode cX5_put 25 = .ok (.iadd, 1) := by decide +kernel
theorem dX5_put_26 : decode cX5_put 26 = .ok (.aload_n 0, 1) := by decide +kernel
theorem dX5_put_27 : decode cX5_put 27 = .ok (.getfield 24, 3) := by decide +kernel
theorem dX5_put_30 : decode cX5_put 30 = .ok (.arraylength, 1) := by decide +kernel
theorem dX5_put_31 : decode cX5_put 31 = .ok (.if_icmp .ge 12, 3) := by decide +kernel
theorem dX5_put_34 : decode cX5_put 34 = .ok (.aload_n 0, 1) := by decide +kernel
theorem dX5_put_35 : decode cX5_put 35 = .ok (.getfield 7, 3) := by decide +kernel
theorem dX5_put_38 : decode cX5_put 38 = .ok (.iconst 1, 1) := by decide +kernel
theorem dX5_put_39 : decode cX5_put 39 = .ok (.iadd, 1) := by decide +kernel
theorem dX5_put_40 : decode cX5_put 40 = .ok (.goto 4, 3) := by decide +kernel
theorem dX5_put_43 : decode cX5_put 43 = .ok (.iconst 0, 1) := by decide +kernel
theorem dX5_put_44 : decode cX5_put 44 = .ok (.putfield 7, 3) := by decide +kernel
theorem dX5_put_47 : decode cX5_put 47 = .ok (.aload_n 0, 1) := by decide +kernel
theorem dX5_put_48 : decode cX5_put 48 = .ok (.aload_n 0, 1) := by decide +kernel
theorem dX5_put_49 : decode cX5_put 49 = .ok (.getfield 13, 3) := by decide +kernel
theorem dX5_put_52 : decode cX5_put 52 = .ok (.iconst 1, 1) := by decide +kernel
theorem dX5_put_53 : decode cX5_put 53 = .ok (.iadd, 1) := by decide +kernel
theorem dX5_put_54 : decode cX5_put 54 = .ok (.aload_n 0, 1) := by decide +kernel
theorem dX5_put_55 : decode cX5_put 55 = .ok (.getfield 24, 3) := by decide +kernel
theorem dX5_put_58 : decode cX5_put 58 = .ok (.arraylength, 1) := by decide +kernel
theorem dX5_put_59 : decode cX5_put 59 = .ok (.invokestatic 37, 3) := by decide +kernel
theorem dX5_put_62 : decode cX5_put 62 = .ok (.putfield 13, 3) := by decide +kernel
theorem dX5_put_65 : decode cX5_put 65 = .ok (.return_, 1) := by decide +kernel
theorem dX5_take_0 : decode cX5_take 0 = .ok (.aload_n 0, 1) := by decide +kernel
theorem dX5_take_1 : decode cX5_take 1 = .ok (.getfield 7, 3) := by decide +kernel
theorem dX5_take_4 : decode cX5_take 4 = .ok (.ifCond .le 12, 3) := by decide +kernel
theorem dX5_take_7 : decode cX5_take 7 = .ok (.aload_n 0, 1) := by decide +kernel
theorem dX5_take_8 : decode cX5_take 8 = .ok (.getfield 7, 3) := by decide +kernel
theorem dX5_take_11 : decode cX5_take 11 = .ok (.iconst 1, 1) := by decide +kernel
theorem dX5_take_12 : decode cX5_take 12 = .ok (.isub, 1) := by decide +kernel
theorem dX5_take_13 : decode cX5_take 13 = .ok (.goto 10, 3) := by decide +kernel
theorem dX5_take_16 : decode cX5_take 16 = .ok (.aload_n 0, 1) := by decide +kernel
theorem dX5_take_17 : decode cX5_take 17 = .ok (.getfield 24, 3) := by decide +kernel
theorem dX5_take_20 : decode cX5_take 20 = .ok (.arraylength, 1) := by decide +kernel
theorem dX5_take_21 : decode cX5_take 21 = .ok (.iconst 1, 1) := by decide +kernel
theorem dX5_take_22 : decode cX5_take 22 = .ok (.isub, 1) := by decide +kernel
theorem dX5_take_23 : decode cX5_take 23 = .ok (.istore_n 2, 1) := by decide +kernel
theorem dX5_take_24 : decode cX5_take 24 = .ok (.aload_n 0, 1) := by decide +kernel
theorem dX5_take_25 : decode cX5_take 25 = .ok (.iload_n 2, 1) := by decide +kernel
theorem dX5_take_26 : decode cX5_take 26 = .ok (.invokevirtual 29, 3) := by decide +kernel
theorem dX5_take_29 : decode cX5_take 29 = .ok (.astore_n 3, 1) := by decide +kernel
theorem dX5_take_30 : decode cX5_take 30 = .ok (.aload_n 0, 1) := by decide +kernel
theorem dX5_take_31 : decode cX5_take 31 = .ok (.getfield 13, 3) := by decide +kernel
theorem dX5_take_34 : decode cX5_take 34 = .ok (.iconst 1, 1) := by decide +kernel
theorem dX5_take_35 : decode cX5_take 35 = .ok (.if_icmp .lt 7, 3) := by decide +kernel
theorem dX5_take_38 : decode cX5_take 38 = .ok (.aload_n 3, 1) := by decide +kernel
theorem dX5_take_39 : decode cX5_take 39 = .ok (.ifnonnull 5, 3) := by decide +kernel
theorem dX5_take_42 : decode cX5_take 42 = .ok (.iconst 0, 1) := by decide +kernel
theorem dX5_take_43 : decode cX5_take 43 = .ok (.ireturn, 1) := by decide +kernel
theorem dX5_take_44 : decode cX5_take 44 = .ok (.aload_n 1, 1) := by decide +kernel
theorem dX5_take_45 : decode cX5_take 45 = .ok (.aload_n 3, 1) := by decide +kernel
theorem dX5_take_46 : decode cX5_take 46 = .ok (.invokevirtual 33, 3) := by decide +kernel
theorem dX5_take_49 : decode cX5_take 49 = .ok (.aload_n 0, 1) := by decide +kernel
theorem dX5_take_50 : decode cX5_take 50 = .ok (.iload_n 2, 1) := by decide +kernel
theorem dX5_take_51 : decode cX5_take 51 = .ok (.putfield 7, 3) := by decide +kernel
theorem dX5_take_54 : decode cX5_take 54 = .ok (.aload_n 0, 1) := by decide +kernel
theorem dX5_take_55 : decode cX5_take 55 = .ok (.dup, 1) := by decide +kernel
theorem dX5_take_56 : decode cX5_take 56 = .ok (.getfield 13, 3) := by decide +kernel
theorem dX5_take_59 : decode cX5_take 59 = .ok (.iconst 1, 1) := by decide +kernel
theorem dX5_take_60 : decode cX5_take 60 = .ok (.isub, 1) := by decide +kernel
theorem dX5_take_61 : decode cX5_take 61 = .ok (.putfield 13, 3) := by decide +kernel
theorem dX5_take_64 : decode cX5_take 64 = .ok (.iconst 1, 1) := by decide +kernel
theorem dX5_take_65 : decode cX5_take 65 = .ok (.ireturn, 1) := by decide +kernel
theorem dX5_row_0 : decode cX5_row 0 = .ok (.iload_n 1, 1) := by decide +kernel
theorem dX5_row_1 : decode cX5_row 1 = .ok (.ifCond .lt 21, 3) := by decide +kernel
theorem dX5_row_4 : decode cX5_row 4 = .ok (.iload_n 1, 1) := by decide +kernel
theorem dX5_row_5 : decode cX5_row 5 = .ok (.aload_n 0, 1) := by decide +kernel
theorem dX5_row_6 : decode cX5_row 6 = .ok (.getfield 24, 3) := by decide +kernel
theorem dX5_row_9 : decode cX5_row 9 = .ok (.arraylength, 1) := by decide +kernel
theorem dX5_row_10 : decode cX5_row 10 = .ok (.if_icmp .ge 12, 3) := by decide +kernel
theorem dX5_row_13 : decode cX5_row 13 = .ok (.aload_n 0, 1) := by decide +kernel
theorem dX5_row_14 : decode cX5_row 14 = .ok (.getfield 24, 3) := by decide +kernel
theorem dX5_row_17 : decode cX5_row 17 = .ok (.iload_n 1, 1) := by decide +kernel
theorem dX5_row_18 : decode cX5_row 18 = .ok (.aaload, 1) := by decide +kernel
theorem dX5_row_19 : decode cX5_row 19 = .ok (.goto 4, 3) := by decide +kernel
theorem dX5_row_22 : decode cX5_row 22 = .ok (.aconst_null, 1) := by decide +kernel
theorem dX5_row_23 : decode cX5_row 23 = .ok (.areturn, 1) := by decide +kernel
theorem dX6_init_0 : decode cX6_init 0 = .ok (.aload_n 0, 1) := by decide +kernel
theorem dX6_init_1 : decode cX6_init 1 = .ok (.invokespecial 3, 3) := by decide +kernel
theorem dX6_init_4 : decode cX6_init 4 = .ok (.aload_n 0, 1) := by decide +kernel
theorem dX6_init_5 : decode cX6_init 5 = .ok (.iconst 4, 1) := by decide +kernel
theorem dX6_init_6 : decode cX6_init 6 = .ok (.newarray .int, 2) := by decide +kernel
theorem dX6_init_8 : decode cX6_init 8 = .ok (.putfield 9, 3) := by decide +kernel
theorem dX6_init_11 : decode cX6_init 11 = .ok (.return_, 1) := by decide +kernel
theorem dX6_firstFault_0 : decode cX6_firstFault 0 = .ok (.aload_n 2, 1) := by decide +kernel
theorem dX6_firstFault_1 : decode cX6_firstFault 1 = .ok (.invokevirtual 15, 3) := by decide +kernel
theorem dX6_firstFault_4 : decode cX6_firstFault 4 = .ok (.iconst 0, 1) := by decide +kernel
theorem dX6_firstFault_5 : decode cX6_firstFault 5 = .ok (.istore_n 3, 1) := by decide +kernel
theorem dX6_firstFault_6 : decode cX6_firstFault 6 = .ok (.iconst 0, 1) := by decide +kernel
theorem dX6_firstFault_7 : decode cX6_firstFault 7 = .ok (.istore 4, 2) := by decide +kernel
theorem dX6_firstFault_9 : decode cX6_firstFault 9 = .ok (.iload 4, 2) := by decide +kernel
theorem dX6_firstFault_11 : decode cX6_firstFault 11 = .ok (.sipush 200, 3) := by decide +kernel
theorem dX6_firstFault_14 : decode cX6_firstFault 14 = .ok (.if_icmp .ge 58, 3) := by decide +kernel
theorem dX6_firstFault_17 : decode cX6_firstFault 17 = .ok (.iload_n 3, 1) := by decide +kernel
theorem dX6_firstFault_18 : decode cX6_firstFault 18 = .ok (.aload_n 1, 1) := by decide +kernel
theorem dX6_firstFault_19 : decode cX6_firstFault 19 = .ok (.getfield 20, 3) := by decide +kernel
theorem dX6_firstFault_22 : decode cX6_firstFault 22 = .ok (.if_icmp .ge 50, 3) := by decide +kernel
theorem dX6_firstFault_25 : decode cX6_firstFault 25 = .ok (.aload_n 0, 1) := by decide +kernel
theorem dX6_firstFault_26 : decode cX6_firstFault 26 = .ok (.aload_n 1, 1) := by decide +kernel
theorem dX6_firstFault_27 : decode cX6_firstFault 27 = .ok (.iload_n 3, 1) := by decide +kernel
theorem dX6_firstFault_28 : decode cX6_firstFault 28 = .ok (.iconst 1, 1) := by decide +kernel
theorem dX6_firstFault_29 : decode cX6_firstFault 29 = .ok (.iadd, 1) := by decide +kernel
theorem dX6_firstFault_30 : decode cX6_firstFault 30 = .ok (.aload_n 1, 1) := by decide +kernel
theorem dX6_firstFault_31 : decode cX6_firstFault 31 = .ok (.iload_n 3, 1) := by decide +kernel
theorem dX6_firstFault_32 : decode cX6_firstFault 32 = .ok (.invokevirtual 26, 3) := by decide +kernel
theorem dX6_firstFault_35 : decode cX6_firstFault 35 = .ok (.invokestatic 30, 3) := by decide +kernel
theorem dX6_firstFault_38 : decode cX6_firstFault 38 = .ok (.invokevirtual 34, 3) := by decide +kernel
theorem dX6_firstFault_41 : decode cX6_firstFault 41 = .ok (.istore 5, 2) := by decide +kernel
theorem dX6_firstFault_43 : decode cX6_firstFault 43 = .ok (.iload 5, 2) := by decide +kernel
theorem dX6_firstFault_45 : decode cX6_firstFault 45 = .ok (.ifCond .lt 16, 3) := by decide +kernel
theorem dX6_firstFault_48 : decode cX6_firstFault 48 = .ok (.aload_n 0, 1) := by decide +kernel
theorem dX6_firstFault_49 : decode cX6_firstFault 49 = .ok (.aload_n 1, 1) := by decide +kernel
theorem dX6_firstFault_50 : decode cX6_firstFault 50 = .ok (.iload_n 3, 1) := by decide +kernel
theorem dX6_firstFault_51 : decode cX6_firstFault 51 = .ok (.invokevirtual 26, 3) := by decide +kernel
theorem dX6_firstFault_54 : decode cX6_firstFault 54 = .ok (.aload_n 2, 1) := by decide +kernel
theorem dX6_firstFault_55 : decode cX6_firstFault 55 = .ok (.invokevirtual 38, 3) := by decide +kernel
theorem dX6_firstFault_58 : decode cX6_firstFault 58 = .ok (.ifCond .ne 5, 3) := by decide +kernel
theorem dX6_firstFault_61 : decode cX6_firstFault 61 = .ok (.iload_n 3, 1) := by decide +kernel
theorem dX6_firstFault_62 : decode cX6_firstFault 62 = .ok (.ireturn, 1) := by decide +kernel
theorem dX6_firstFault_63 : decode cX6_firstFault 63 = .ok (.iload 5, 2) := by decide +kernel
theorem dX6_firstFault_65 : decode cX6_firstFault 65 = .ok (.istore_n 3, 1) := by decide +kernel
theorem dX6_firstFault_66 : decode cX6_firstFault 66 = .ok (.iinc 4 1, 3) := by decide +kernel
theorem dX6_firstFault_69 : decode cX6_firstFault 69 = .ok (.goto (-60), 3) := by decide +kernel
theorem dX6_firstFault_72 : decode cX6_firstFault 72 = .ok (.bipush (-4), 2) := by decide +kernel
theorem dX6_firstFault_74 : decode cX6_firstFault 74 = .ok (.ireturn, 1) := by decide +kernel
theorem dX6_numbersOf_0 : decode cX6_numbersOf 0 = .ok (.iload_n 0, 1) := by decide +kernel
theorem dX6_numbersOf_1 : decode cX6_numbersOf 1 = .ok (.lookupswitch 51 #[(103, 45), (112, 43), (116, 49), (118, 47)], 43) := by decide +kernel
theorem dX6_numbersOf_44 : decode cX6_numbersOf 44 = .ok (.iconst 3, 1) := by decide +kernel
theorem dX6_numbersOf_45 : decode cX6_numbersOf 45 = .ok (.ireturn, 1) := by decide +kernel
theorem dX6_numbersOf_46 : decode cX6_numbersOf 46 = .ok (.iconst 4, 1) := by decide +kernel
theorem dX6_numbersOf_47 : decode cX6_numbersOf 47 = .ok (.ireturn, 1) := by decide +kernel
theorem dX6_numbersOf_48 : decode cX6_numbersOf 48 = .ok (.iconst 3, 1) := by decide +kernel
theorem dX6_numbersOf_49 : decode cX6_numbersOf 49 = .ok (.ireturn, 1) := by decide +kernel
theorem dX6_numbersOf_50 : decode cX6_numbersOf 50 = .ok (.iconst 1, 1) := by decide +kernel
theorem dX6_numbersOf_51 : decode cX6_numbersOf 51 = .ok (.ireturn, 1) := by decide +kernel
theorem dX6_numbersOf_52 : decode cX6_numbersOf 52 = .ok (.iconst 0, 1) := by decide +kernel
theorem dX6_numbersOf_53 : decode cX6_numbersOf 53 = .ok (.ireturn, 1) := by decide +kernel
theorem dX6_behindNumbers_0 : decode cX6_behindNumbers 0 = .ok (.iload_n 2, 1) := by decide +kernel
theorem dX6_behindNumbers_1 : decode cX6_behindNumbers 1 = .ok (.istore 4, 2) := by decide +kernel
theorem dX6_behindNumbers_3 : decode cX6_behindNumbers 3 = .ok (.iconst 0, 1) := by decide +kernel
theorem dX6_behindNumbers_4 : decode cX6_behindNumbers 4 = .ok (.istore 5, 2) := by decide +kernel
theorem dX6_behindNumbers_6 : decode cX6_behindNumbers 6 = .ok (.iload 5, 2) := by decide +kernel
theorem dX6_behindNumbers_8 : decode cX6_behindNumbers 8 = .ok (.iload_n 3, 1) := by decide +kernel
theorem dX6_behindNumbers_9 : decode cX6_behindNumbers 9 = .ok (.if_icmp .ge 109, 3) := by decide +kernel
theorem dX6_behindNumbers_12 : decode cX6_behindNumbers 12 = .ok (.aload_n 1, 1) := by decide +kernel
theorem dX6_behindNumbers_13 : decode cX6_behindNumbers 13 = .ok (.iload 4, 2) := by decide +kernel
theorem dX6_behindNumbers_15 : decode cX6_behindNumbers 15 = .ok (.invokevirtual 26, 3) := by decide +kernel
theorem dX6_behindNumbers_18 : decode cX6_behindNumbers 18 = .ok (.invokestatic 42, 3) := by decide +kernel
theorem dX6_behindNumbers_21 : decode cX6_behindNumbers 21 = .ok (.ifCond .ne 5, 3) := by decide +kernel
theorem dX6_behindNumbers_24 : decode cX6_behindNumbers 24 = .ok (.iconst (-1), 1) := by decide +kernel
theorem dX6_behindNumbers_25 : decode cX6_behindNumbers 25 = .ok (.ireturn, 1) := by decide +kernel
theorem dX6_behindNumbers_26 : decode cX6_behindNumbers 26 = .ok (.aload_n 1, 1) := by decide +kernel
theorem dX6_behindNumbers_27 : decode cX6_behindNumbers 27 = .ok (.iload 4, 2) := by decide +kernel
theorem dX6_behindNumbers_29 : decode cX6_behindNumbers 29 = .ok (.invokevirtual 26, 3) := by decide +kernel
theorem dX6_behindNumbers_32 : decode cX6_behindNumbers 32 = .ok (.bipush 48, 2) := by decide +kernel
theorem dX6_behindNumbers_34 : decode cX6_behindNumbers 34 = .ok (.isub, 1) := by decide +kernel
theorem dX6_behindNumbers_35 : decode cX6_behindNumbers 35 = .ok (.istore 6, 2) := by decide +kernel
theorem dX6_behindNumbers_37 : decode cX6_behindNumbers 37 = .ok (.iinc 4 1, 3) := by decide +kernel
theorem dX6_behindNumbers_40 : decode cX6_behindNumbers 40 = .ok (.aload_n 1, 1) := by decide +kernel
theorem dX6_behindNumbers_41 : decode cX6_behindNumbers 41 = .ok (.iload 4, 2) := by decide +kernel
theorem dX6_behindNumbers_43 : decode cX6_behindNumbers 43 = .ok (.invokevirtual 26, 3) := by decide +kernel
theorem dX6_behindNumbers_46 : decode cX6_behindNumbers 46 = .ok (.invokestatic 42, 3) := by decide +kernel
theorem dX6_behindNumbers_49 : decode cX6_behindNumbers 49 = .ok (.ifCond .eq 23, 3) := by decide +kernel
theorem dX6_behindNumbers_52 : decode cX6_behindNumbers 52 = .ok (.iload 6, 2) := by decide +kernel
theorem dX6_behindNumbers_54 : decode cX6_behindNumbers 54 = .ok (.bipush 10, 2) := by decide +kernel
theorem dX6_behindNumbers_56 : decode cX6_behindNumbers 56 = .ok (.imul, 1) := by decide +kernel
theorem dX6_behindNumbers_57 : decode cX6_behindNumbers 57 = .ok (.aload_n 1, 1) := by decide +kernel
theorem dX6_behindNumbers_58 : decode cX6_behindNumbers 58 = .ok (.iload 4, 2) := by decide +kernel
theorem dX6_behindNumbers_60 : decode cX6_behindNumbers 60 = .ok (.invokevirtual 26, 3) := by decide +kernel
theorem dX6_behindNumbers_63 : decode cX6_behindNumbers 63 = .ok (.iadd, 1) := by decide +kernel
theorem dX6_behindNumbers_64 : decode cX6_behindNumbers 64 = .ok (.bipush 48, 2) := by decide +kernel
theorem dX6_behindNumbers_66 : decode cX6_behindNumbers 66 = .ok (.isub, 1) := by decide +kernel
theorem dX6_behindNumbers_67 : decode cX6_behindNumbers 67 = .ok (.istore 6, 2) := by decide +kernel
theorem dX6_behindNumbers_69 : decode cX6_behindNumbers 69 = .ok (.iinc 4 1, 3) := by decide +kernel
theorem dX6_behindNumbers_72 : decode cX6_behindNumbers 72 = .ok (.aload_n 0, 1) := by decide +kernel
theorem dX6_behindNumbers_73 : decode cX6_behindNumbers 73 = .ok (.getfield 9, 3) := by decide +kernel
theorem dX6_behindNumbers_76 : decode cX6_behindNumbers 76 = .ok (.iload 5, 2) := by decide +kernel
theorem dX6_behindNumbers_78 : decode cX6_behindNumbers 78 = .ok (.iload 6, 2) := by decide +kernel
theorem dX6_behindNumbers_80 : decode cX6_behindNumbers 80 = .ok (.invokestatic 46, 3) := by decide +kernel
theorem dX6_behindNumbers_83 : decode cX6_behindNumbers 83 = .ok (.aload_n 1, 1) := by decide +kernel
theorem dX6_behindNumbers_84 : decode cX6_behindNumbers 84 = .ok (.iload 4, 2) := by decide +kernel
theorem dX6_behindNumbers_86 : decode cX6_behindNumbers 86 = .ok (.invokevirtual 26, 3) := by decide +kernel
theorem dX6_behindNumbers_89 : decode cX6_behindNumbers 89 = .ok (.iload 5, 2) := by decide +kernel
theorem dX6_behindNumbers_91 : decode cX6_behindNumbers 91 = .ok (.iload_n 3, 1) := by decide +kernel
theorem dX6_behindNumbers_92 : decode cX6_behindNumbers 92 = .ok (.iconst 1, 1) := by decide +kernel
theorem dX6_behindNumbers_93 : decode cX6_behindNumbers 93 = .ok (.isub, 1) := by decide +kernel
theorem dX6_behindNumbers_94 : decode cX6_behindNumbers 94 = .ok (.if_icmp .ne 8, 3) := by decide +kernel
theorem dX6_behindNumbers_97 : decode cX6_behindNumbers 97 = .ok (.bipush 59, 2) := by decide +kernel
theorem dX6_behindNumbers_99 : decode cX6_behindNumbers 99 = .ok (.goto 5, 3) := by decide +kernel
theorem dX6_behindNumbers_102 : decode cX6_behindNumbers 102 = .ok (.bipush 44, 2) := by decide +kernel
theorem dX6_behindNumbers_104 : decode cX6_behindNumbers 104 = .ok (.if_icmp .eq 5, 3) := by decide +kernel
theorem dX6_behindNumbers_107 : decode cX6_behindNumbers 107 = .ok (.iconst (-1), 1) := by decide +kernel
theorem dX6_behindNumbers_108 : decode cX6_behindNumbers 108 = .ok (.ireturn, 1) := by decide +kernel
theorem dX6_behindNumbers_109 : decode cX6_behindNumbers 109 = .ok (.iinc 4 1, 3) := by decide +kernel
theorem dX6_behindNumbers_112 : decode cX6_behindNumbers 112 = .ok (.iinc 5 1, 3) := by decide +kernel
theorem dX6_behindNumbers_115 : decode cX6_behindNumbers 115 = .ok (.goto (-109), 3) := by decide +kernel
theorem dX6_behindNumbers_118 : decode cX6_behindNumbers 118 = .ok (.iload_n 3, 1) := by decide +kernel
theorem dX6_behindNumbers_119 : decode cX6_behindNumbers 119 = .ok (.ifCond .le 8, 3) := by decide +kernel
theorem dX6_behindNumbers_122 : decode cX6_behindNumbers 122 = .ok (.iload 4, 2) := by decide +kernel
theorem dX6_behindNumbers_124 : decode cX6_behindNumbers 124 = .ok (.goto 4, 3) := by decide +kernel
theorem dX6_behindNumbers_127 : decode cX6_behindNumbers 127 = .ok (.iconst (-1), 1) := by decide +kernel
theorem dX6_behindNumbers_128 : decode cX6_behindNumbers 128 = .ok (.ireturn, 1) := by decide +kernel
theorem dX6_isFigure_0 : decode cX6_isFigure 0 = .ok (.iload_n 0, 1) := by decide +kernel
theorem dX6_isFigure_1 : decode cX6_isFigure 1 = .ok (.bipush 48, 2) := by decide +kernel
theorem dX6_isFigure_3 : decode cX6_isFigure 3 = .ok (.if_icmp .lt 13, 3) := by decide +kernel
theorem dX6_isFigure_6 : decode cX6_isFigure 6 = .ok (.iload_n 0, 1) := by decide +kernel
theorem dX6_isFigure_7 : decode cX6_isFigure 7 = .ok (.bipush 57, 2) := by decide +kernel
theorem dX6_isFigure_9 : decode cX6_isFigure 9 = .ok (.if_icmp .gt 7, 3) := by decide +kernel
theorem dX6_isFigure_12 : decode cX6_isFigure 12 = .ok (.iconst 1, 1) := by decide +kernel
theorem dX6_isFigure_13 : decode cX6_isFigure 13 = .ok (.goto 4, 3) := by decide +kernel
theorem dX6_isFigure_16 : decode cX6_isFigure 16 = .ok (.iconst 0, 1) := by decide +kernel
theorem dX6_isFigure_17 : decode cX6_isFigure 17 = .ok (.ireturn, 1) := by decide +kernel
theorem dX6_tell_0 : decode cX6_tell 0 = .ok (.aload_n 0, 1) := by decide +kernel
theorem dX6_tell_1 : decode cX6_tell 1 = .ok (.getfield 9, 3) := by decide +kernel
theorem dX6_tell_4 : decode cX6_tell 4 = .ok (.iconst 0, 1) := by decide +kernel
theorem dX6_tell_5 : decode cX6_tell 5 = .ok (.invokestatic 52, 3) := by decide +kernel
theorem dX6_tell_8 : decode cX6_tell 8 = .ok (.istore_n 3, 1) := by decide +kernel
theorem dX6_tell_9 : decode cX6_tell 9 = .ok (.aload_n 0, 1) := by decide +kernel
theorem dX6_tell_10 : decode cX6_tell 10 = .ok (.getfield 9, 3) := by decide +kernel
theorem dX6_tell_13 : decode cX6_tell 13 = .ok (.iconst 1, 1) := by decide +kernel
theorem dX6_tell_14 : decode cX6_tell 14 = .ok (.invokestatic 52, 3) := by decide +kernel
theorem dX6_tell_17 : decode cX6_tell 17 = .ok (.istore 4, 2) := by decide +kernel
theorem dX6_tell_19 : decode cX6_tell 19 = .ok (.aload_n 0, 1) := by decide +kernel
theorem dX6_tell_20 : decode cX6_tell 20 = .ok (.getfield 9, 3) := by decide +kernel
theorem dX6_tell_23 : decode cX6_tell 23 = .ok (.iconst 2, 1) := by decide +kernel
theorem dX6_tell_24 : decode cX6_tell 24 = .ok (.invokestatic 52, 3) := by decide +kernel
theorem dX6_tell_27 : decode cX6_tell 27 = .ok (.istore 5, 2) := by decide +kernel
theorem dX6_tell_29 : decode cX6_tell 29 = .ok (.aload_n 0, 1) := by decide +kernel
theorem dX6_tell_30 : decode cX6_tell 30 = .ok (.getfield 9, 3) := by decide +kernel
theorem dX6_tell_33 : decode cX6_tell 33 = .ok (.iconst 3, 1) := by decide +kernel
theorem dX6_tell_34 : decode cX6_tell 34 = .ok (.invokestatic 52, 3) := by decide +kernel
theorem dX6_tell_37 : decode cX6_tell 37 = .ok (.istore 6, 2) := by decide +kernel
theorem dX6_tell_39 : decode cX6_tell 39 = .ok (.iload_n 1, 1) := by decide +kernel
theorem dX6_tell_40 : decode cX6_tell 40 = .ok (.lookupswitch 82 #[(103, 54), (112, 44), (116, 76), (118, 66)], 44) := by decide +kernel
theorem dX6_tell_84 : decode cX6_tell 84 = .ok (.aload_n 2, 1) := by decide +kernel
theorem dX6_tell_85 : decode cX6_tell 85 = .ok (.iload_n 3, 1) := by decide +kernel
theorem dX6_tell_86 : decode cX6_tell 86 = .ok (.iload 4, 2) := by decide +kernel
theorem dX6_tell_88 : decode cX6_tell 88 = .ok (.iload 5, 2) := by decide +kernel
theorem dX6_tell_90 : decode cX6_tell 90 = .ok (.invokevirtual 56, 3) := by decide +kernel
theorem dX6_tell_93 : decode cX6_tell 93 = .ok (.ireturn, 1) := by decide +kernel
theorem dX6_tell_94 : decode cX6_tell 94 = .ok (.aload_n 2, 1) := by decide +kernel
theorem dX6_tell_95 : decode cX6_tell 95 = .ok (.iload_n 3, 1) := by decide +kernel
theorem dX6_tell_96 : decode cX6_tell 96 = .ok (.iload 4, 2) := by decide +kernel
theorem dX6_tell_98 : decode cX6_tell 98 = .ok (.iload 5, 2) := by decide +kernel
theorem dX6_tell_100 : decode cX6_tell 100 = .ok (.iload 6, 2) := by decide +kernel
theorem dX6_tell_102 : decode cX6_tell 102 = .ok (.invokevirtual 60, 3) := by decide +kernel
theorem dX6_tell_105 : decode cX6_tell 105 = .ok (.ireturn, 1) := by decide +kernel
theorem dX6_tell_106 : decode cX6_tell 106 = .ok (.aload_n 2, 1) := by decide +kernel
theorem dX6_tell_107 : decode cX6_tell 107 = .ok (.iload_n 3, 1) := by decide +kernel
theorem dX6_tell_108 : decode cX6_tell 108 = .ok (.iload 4, 2) := by decide +kernel
theorem dX6_tell_110 : decode cX6_tell 110 = .ok (.iload 5, 2) := by decide +kernel
theorem dX6_tell_112 : decode cX6_tell 112 = .ok (.invokevirtual 64, 3) := by decide +kernel
theorem dX6_tell_115 : decode cX6_tell 115 = .ok (.ireturn, 1) := by decide +kernel
theorem dX6_tell_116 : decode cX6_tell 116 = .ok (.aload_n 2, 1) := by decide +kernel
theorem dX6_tell_117 : decode cX6_tell 117 = .ok (.iload_n 3, 1) := by decide +kernel
theorem dX6_tell_118 : decode cX6_tell 118 = .ok (.invokevirtual 67, 3) := by decide +kernel
theorem dX6_tell_121 : decode cX6_tell 121 = .ok (.ireturn, 1) := by decide +kernel
theorem dX6_tell_122 : decode cX6_tell 122 = .ok (.iconst 0, 1) := by decide +kernel
theorem dX6_tell_123 : decode cX6_tell 123 = .ok (.ireturn, 1) := by decide +kernel
theorem dX7_get_0 : decode cX7_get 0 = .ok (.iload_n 1, 1) := by decide +kernel
theorem dX7_get_1 : decode cX7_get 1 = .ok (.ifCond .lt 15, 3) := by decide +kernel
theorem dX7_get_4 : decode cX7_get 4 = .ok (.iload_n 1, 1) := by decide +kernel
theorem dX7_get_5 : decode cX7_get 5 = .ok (.aload_n 0, 1) := by decide +kernel
theorem dX7_get_6 : decode cX7_get 6 = .ok (.arraylength, 1) := by decide +kernel
theorem dX7_get_7 : decode cX7_get 7 = .ok (.if_icmp .ge 9, 3) := by decide +kernel
theorem dX7_get_10 : decode cX7_get 10 = .ok (.aload_n 0, 1) := by decide +kernel
theorem dX7_get_11 : decode cX7_get 11 = .ok (.iload_n 1, 1) := by decide +kernel
theorem dX7_get_12 : decode cX7_get 12 = .ok (.iaload, 1) := by decide +kernel
theorem dX7_get_13 : decode cX7_get 13 = .ok (.goto 4, 3) := by decide +kernel
theorem dX7_get_16 : decode cX7_get 16 = .ok (.iconst 0, 1) := by decide +kernel
theorem dX7_get_17 : decode cX7_get 17 = .ok (.ireturn, 1) := by decide +kernel
theorem dX7_put_0 : decode cX7_put 0 = .ok (.iload_n 1, 1) := by decide +kernel
theorem dX7_put_1 : decode cX7_put 1 = .ok (.ifCond .lt 13, 3) := by decide +kernel
theorem dX7_put_4 : decode cX7_put 4 = .ok (.iload_n 1, 1) := by decide +kernel
theorem dX7_put_5 : decode cX7_put 5 = .ok (.aload_n 0, 1) := by decide +kernel
theorem dX7_put_6 : decode cX7_put 6 = .ok (.arraylength, 1) := by decide +kernel
theorem dX7_put_7 : decode cX7_put 7 = .ok (.if_icmp .ge 7, 3) := by decide +kernel
theorem dX7_put_10 : decode cX7_put 10 = .ok (.aload_n 0, 1) := by decide +kernel
theorem dX7_put_11 : decode cX7_put 11 = .ok (.iload_n 1, 1) := by decide +kernel
theorem dX7_put_12 : decode cX7_put 12 = .ok (.iload_n 2, 1) := by decide +kernel
theorem dX7_put_13 : decode cX7_put 13 = .ok (.iastore, 1) := by decide +kernel
theorem dX7_put_14 : decode cX7_put 14 = .ok (.return_, 1) := by decide +kernel
theorem dX7_fill_0 : decode cX7_fill 0 = .ok (.iconst 0, 1) := by decide +kernel
theorem dX7_fill_1 : decode cX7_fill 1 = .ok (.istore_n 2, 1) := by decide +kernel
theorem dX7_fill_2 : decode cX7_fill 2 = .ok (.iload_n 2, 1) := by decide +kernel
theorem dX7_fill_3 : decode cX7_fill 3 = .ok (.aload_n 0, 1) := by decide +kernel
theorem dX7_fill_4 : decode cX7_fill 4 = .ok (.arraylength, 1) := by decide +kernel
theorem dX7_fill_5 : decode cX7_fill 5 = .ok (.if_icmp .ge 13, 3) := by decide +kernel
theorem dX7_fill_8 : decode cX7_fill 8 = .ok (.aload_n 0, 1) := by decide +kernel
theorem dX7_fill_9 : decode cX7_fill 9 = .ok (.iload_n 2, 1) := by decide +kernel
theorem dX7_fill_10 : decode cX7_fill 10 = .ok (.iload_n 1, 1) := by decide +kernel
theorem dX7_fill_11 : decode cX7_fill 11 = .ok (.iastore, 1) := by decide +kernel
theorem dX7_fill_12 : decode cX7_fill 12 = .ok (.iinc 2 1, 3) := by decide +kernel
theorem dX7_fill_15 : decode cX7_fill 15 = .ok (.goto (-13), 3) := by decide +kernel
theorem dX7_fill_18 : decode cX7_fill 18 = .ok (.return_, 1) := by decide +kernel
theorem dX7_copy_0 : decode cX7_copy 0 = .ok (.iconst 0, 1) := by decide +kernel
theorem dX7_copy_1 : decode cX7_copy 1 = .ok (.istore_n 2, 1) := by decide +kernel
theorem dX7_copy_2 : decode cX7_copy 2 = .ok (.iload_n 2, 1) := by decide +kernel
theorem dX7_copy_3 : decode cX7_copy 3 = .ok (.aload_n 0, 1) := by decide +kernel
theorem dX7_copy_4 : decode cX7_copy 4 = .ok (.arraylength, 1) := by decide +kernel
theorem dX7_copy_5 : decode cX7_copy 5 = .ok (.if_icmp .ge 21, 3) := by decide +kernel
theorem dX7_copy_8 : decode cX7_copy 8 = .ok (.iload_n 2, 1) := by decide +kernel
theorem dX7_copy_9 : decode cX7_copy 9 = .ok (.aload_n 1, 1) := by decide +kernel
theorem dX7_copy_10 : decode cX7_copy 10 = .ok (.arraylength, 1) := by decide +kernel
theorem dX7_copy_11 : decode cX7_copy 11 = .ok (.if_icmp .ge 15, 3) := by decide +kernel
theorem dX7_copy_14 : decode cX7_copy 14 = .ok (.aload_n 1, 1) := by decide +kernel
theorem dX7_copy_15 : decode cX7_copy 15 = .ok (.iload_n 2, 1) := by decide +kernel
theorem dX7_copy_16 : decode cX7_copy 16 = .ok (.aload_n 0, 1) := by decide +kernel
theorem dX7_copy_17 : decode cX7_copy 17 = .ok (.iload_n 2, 1) := by decide +kernel
theorem dX7_copy_18 : decode cX7_copy 18 = .ok (.iaload, 1) := by decide +kernel
theorem dX7_copy_19 : decode cX7_copy 19 = .ok (.iastore, 1) := by decide +kernel
theorem dX7_copy_20 : decode cX7_copy 20 = .ok (.iinc 2 1, 3) := by decide +kernel
theorem dX7_copy_23 : decode cX7_copy 23 = .ok (.goto (-21), 3) := by decide +kernel
theorem dX7_copy_26 : decode cX7_copy 26 = .ok (.return_, 1) := by decide +kernel
theorem dX8_init_0 : decode cX8_init 0 = .ok (.aload_n 0, 1) := by decide +kernel
theorem dX8_init_1 : decode cX8_init 1 = .ok (.invokespecial 3, 3) := by decide +kernel
theorem dX8_init_4 : decode cX8_init 4 = .ok (.aload_n 0, 1) := by decide +kernel
theorem dX8_init_5 : decode cX8_init 5 = .ok (.iconst 0, 1) := by decide +kernel
theorem dX8_init_6 : decode cX8_init 6 = .ok (.putfield 9, 3) := by decide +kernel
theorem dX8_init_9 : decode cX8_init 9 = .ok (.aload_n 0, 1) := by decide +kernel
theorem dX8_init_10 : decode cX8_init 10 = .ok (.iconst 0, 1) := by decide +kernel
theorem dX8_init_11 : decode cX8_init 11 = .ok (.putfield 15, 3) := by decide +kernel
theorem dX8_init_14 : decode cX8_init 14 = .ok (.aload_n 0, 1) := by decide +kernel
theorem dX8_init_15 : decode cX8_init 15 = .ok (.bipush 8, 2) := by decide +kernel
theorem dX8_init_17 : decode cX8_init 17 = .ok (.newarray .int, 2) := by decide +kernel
theorem dX8_init_19 : decode cX8_init 19 = .ok (.putfield 18, 3) := by decide +kernel
theorem dX8_init_22 : decode cX8_init 22 = .ok (.aload_n 0, 1) := by decide +kernel
theorem dX8_init_23 : decode cX8_init 23 = .ok (.bipush 6, 2) := by decide +kernel
theorem dX8_init_25 : decode cX8_init 25 = .ok (.newarray .int, 2) := by decide +kernel
theorem dX8_init_27 : decode cX8_init 27 = .ok (.putfield 22, 3) := by decide +kernel
theorem dX8_init_30 : decode cX8_init 30 = .ok (.aload_n 0, 1) := by decide +kernel
theorem dX8_init_31 : decode cX8_init 31 = .ok (.bipush 6, 2) := by decide +kernel
theorem dX8_init_33 : decode cX8_init 33 = .ok (.newarray .int, 2) := by decide +kernel
theorem dX8_init_35 : decode cX8_init 35 = .ok (.putfield 25, 3) := by decide +kernel
theorem dX8_init_38 : decode cX8_init 38 = .ok (.aload_n 0, 1) := by decide +kernel
theorem dX8_init_39 : decode cX8_init 39 = .ok (.bipush 6, 2) := by decide +kernel
theorem dX8_init_41 : decode cX8_init 41 = .ok (.newarray .int, 2) := by decide +kernel
theorem dX8_init_43 : decode cX8_init 43 = .ok (.putfield 28, 3) := by decide +kernel
theorem dX8_init_46 : decode cX8_init 46 = .ok (.aload_n 0, 1) := by decide +kernel
theorem dX8_init_47 : decode cX8_init 47 = .ok (.iconst 0, 1) := by decide +kernel
theorem dX8_init_48 : decode cX8_init 48 = .ok (.putfield 31, 3) := by decide +kernel
theorem dX8_init_51 : decode cX8_init 51 = .ok (.return_, 1) := by decide +kernel
theorem dX8_begin_0 : decode cX8_begin 0 = .ok (.aload_n 0, 1) := by decide +kernel
theorem dX8_begin_1 : decode cX8_begin 1 = .ok (.iconst 1, 1) := by decide +kernel
theorem dX8_begin_2 : decode cX8_begin 2 = .ok (.aload_n 1, 1) := by decide +kernel
theorem dX8_begin_3 : decode cX8_begin 3 = .ok (.getfield 34, 3) := by decide +kernel
theorem dX8_begin_6 : decode cX8_begin 6 = .ok (.ishl, 1) := by decide +kernel
theorem dX8_begin_7 : decode cX8_begin 7 = .ok (.iconst 1, 1) := by decide +kernel
theorem dX8_begin_8 : decode cX8_begin 8 = .ok (.isub, 1) := by decide +kernel
theorem dX8_begin_9 : decode cX8_begin 9 = .ok (.putfield 9, 3) := by decide +kernel
theorem dX8_begin_12 : decode cX8_begin 12 = .ok (.aload_n 0, 1) := by decide +kernel
theorem dX8_begin_13 : decode cX8_begin 13 = .ok (.iconst 0, 1) := by decide +kernel
theorem dX8_begin_14 : decode cX8_begin 14 = .ok (.putfield 15, 3) := by decide +kernel
theorem dX8_begin_17 : decode cX8_begin 17 = .ok (.aload_n 0, 1) := by decide +kernel
theorem dX8_begin_18 : decode cX8_begin 18 = .ok (.aload_n 1, 1) := by decide +kernel
theorem dX8_begin_19 : decode cX8_begin 19 = .ok (.getfield 39, 3) := by decide +kernel
theorem dX8_begin_22 : decode cX8_begin 22 = .ok (.putfield 31, 3) := by decide +kernel
theorem dX8_begin_25 : decode cX8_begin 25 = .ok (.iconst 0, 1) := by decide +kernel
theorem dX8_begin_26 : decode cX8_begin 26 = .ok (.istore_n 2, 1) := by decide +kernel
theorem dX8_begin_27 : decode cX8_begin 27 = .ok (.iload_n 2, 1) := by decide +kernel
theorem dX8_begin_28 : decode cX8_begin 28 = .ok (.bipush 8, 2) := by decide +kernel
theorem dX8_begin_30 : decode cX8_begin 30 = .ok (.if_icmp .ge 22, 3) := by decide +kernel
theorem dX8_begin_33 : decode cX8_begin 33 = .ok (.aload_n 0, 1) := by decide +kernel
theorem dX8_begin_34 : decode cX8_begin 34 = .ok (.getfield 18, 3) := by decide +kernel
theorem dX8_begin_37 : decode cX8_begin 37 = .ok (.iload_n 2, 1) := by decide +kernel
theorem dX8_begin_38 : decode cX8_begin 38 = .ok (.aload_n 1, 1) := by decide +kernel
theorem dX8_begin_39 : decode cX8_begin 39 = .ok (.iload_n 2, 1) := by decide +kernel
theorem dX8_begin_40 : decode cX8_begin 40 = .ok (.invokevirtual 40, 3) := by decide +kernel
theorem dX8_begin_43 : decode cX8_begin 43 = .ok (.invokestatic 44, 3) := by decide +kernel
theorem dX8_begin_46 : decode cX8_begin 46 = .ok (.iinc 2 1, 3) := by decide +kernel
theorem dX8_begin_49 : decode cX8_begin 49 = .ok (.goto (-22), 3) := by decide +kernel
theorem dX8_begin_52 : decode cX8_begin 52 = .ok (.iconst 0, 1) := by decide +kernel
theorem dX8_begin_53 : decode cX8_begin 53 = .ok (.istore_n 2, 1) := by decide +kernel
theorem dX8_begin_54 : decode cX8_begin 54 = .ok (.iload_n 2, 1) := by decide +kernel
theorem dX8_begin_55 : decode cX8_begin 55 = .ok (.bipush 6, 2) := by decide +kernel
theorem dX8_begin_57 : decode cX8_begin 57 = .ok (.if_icmp .ge 22, 3) := by decide +kernel
theorem dX8_begin_60 : decode cX8_begin 60 = .ok (.aload_n 0, 1) := by decide +kernel
theorem dX8_begin_61 : decode cX8_begin 61 = .ok (.getfield 22, 3) := by decide +kernel
theorem dX8_begin_64 : decode cX8_begin 64 = .ok (.iload_n 2, 1) := by decide +kernel
theorem dX8_begin_65 : decode cX8_begin 65 = .ok (.aload_n 1, 1) := by decide +kernel
theorem dX8_begin_66 : decode cX8_begin 66 = .ok (.iload_n 2, 1) := by decide +kernel
theorem dX8_begin_67 : decode cX8_begin 67 = .ok (.invokevirtual 50, 3) := by decide +kernel
theorem dX8_begin_70 : decode cX8_begin 70 = .ok (.invokestatic 44, 3) := by decide +kernel
theorem dX8_begin_73 : decode cX8_begin 73 = .ok (.iinc 2 1, 3) := by decide +kernel
theorem dX8_begin_76 : decode cX8_begin 76 = .ok (.goto (-22), 3) := by decide +kernel
theorem dX8_begin_79 : decode cX8_begin 79 = .ok (.aload_n 0, 1) := by decide +kernel
theorem dX8_begin_80 : decode cX8_begin 80 = .ok (.getfield 25, 3) := by decide +kernel
theorem dX8_begin_83 : decode cX8_begin 83 = .ok (.iconst 0, 1) := by decide +kernel
theorem dX8_begin_84 : decode cX8_begin 84 = .ok (.invokestatic 53, 3) := by decide +kernel
theorem dX8_begin_87 : decode cX8_begin 87 = .ok (.aload_n 0, 1) := by decide +kernel
theorem dX8_begin_88 : decode cX8_begin 88 = .ok (.getfield 28, 3) := by decide +kernel
theorem dX8_begin_91 : decode cX8_begin 91 = .ok (.iconst 0, 1) := by decide +kernel
theorem dX8_begin_92 : decode cX8_begin 92 = .ok (.invokestatic 53, 3) := by decide +kernel
theorem dX8_begin_95 : decode cX8_begin 95 = .ok (.return_, 1) := by decide +kernel
theorem dX8_copy_0 : decode cX8_copy 0 = .ok (.aload_n 0, 1) := by decide +kernel
theorem dX8_copy_1 : decode cX8_copy 1 = .ok (.aload_n 1, 1) := by decide +kernel
theorem dX8_copy_2 : decode cX8_copy 2 = .ok (.getfield 9, 3) := by decide +kernel
theorem dX8_copy_5 : decode cX8_copy 5 = .ok (.putfield 9, 3) := by decide +kernel
theorem dX8_copy_8 : decode cX8_copy 8 = .ok (.aload_n 0, 1) := by decide +kernel
theorem dX8_copy_9 : decode cX8_copy 9 = .ok (.aload_n 1, 1) := by decide +kernel
theorem dX8_copy_10 : decode cX8_copy 10 = .ok (.getfield 15, 3) := by decide +kernel
theorem dX8_copy_13 : decode cX8_copy 13 = .ok (.putfield 15, 3) := by decide +kernel
theorem dX8_copy_16 : decode cX8_copy 16 = .ok (.aload_n 0, 1) := by decide +kernel
theorem dX8_copy_17 : decode cX8_copy 17 = .ok (.aload_n 1, 1) := by decide +kernel
theorem dX8_copy_18 : decode cX8_copy 18 = .ok (.getfield 31, 3) := by decide +kernel
theorem dX8_copy_21 : decode cX8_copy 21 = .ok (.putfield 31, 3) := by decide +kernel
theorem dX8_copy_24 : decode cX8_copy 24 = .ok (.aload_n 1, 1) := by decide +kernel
theorem dX8_copy_25 : decode cX8_copy 25 = .ok (.getfield 18, 3) := by decide +kernel
theorem dX8_copy_28 : decode cX8_copy 28 = .ok (.aload_n 0, 1) := by decide +kernel
theorem dX8_copy_29 : decode cX8_copy 29 = .ok (.getfield 18, 3) := by decide +kernel
theorem dX8_copy_32 : decode cX8_copy 32 = .ok (.invokestatic 57, 3) := by decide +kernel
theorem dX8_copy_35 : decode cX8_copy 35 = .ok (.aload_n 1, 1) := by decide +kernel
theorem dX8_copy_36 : decode cX8_copy 36 = .ok (.getfield 22, 3) := by decide +kernel
theorem dX8_copy_39 : decode cX8_copy 39 = .ok (.aload_n 0, 1) := by decide +kernel
theorem dX8_copy_40 : decode cX8_copy 40 = .ok (.getfield 22, 3) := by decide +kernel
theorem dX8_copy_43 : decode cX8_copy 43 = .ok (.invokestatic 57, 3) := by decide +kernel
theorem dX8_copy_46 : decode cX8_copy 46 = .ok (.aload_n 1, 1) := by decide +kernel
theorem dX8_copy_47 : decode cX8_copy 47 = .ok (.getfield 25, 3) := by decide +kernel
theorem dX8_copy_50 : decode cX8_copy 50 = .ok (.aload_n 0, 1) := by decide +kernel
theorem dX8_copy_51 : decode cX8_copy 51 = .ok (.getfield 25, 3) := by decide +kernel
theorem dX8_copy_54 : decode cX8_copy 54 = .ok (.invokestatic 57, 3) := by decide +kernel
theorem dX8_copy_57 : decode cX8_copy 57 = .ok (.aload_n 1, 1) := by decide +kernel
theorem dX8_copy_58 : decode cX8_copy 58 = .ok (.getfield 28, 3) := by decide +kernel
theorem dX8_copy_61 : decode cX8_copy 61 = .ok (.aload_n 0, 1) := by decide +kernel
theorem dX8_copy_62 : decode cX8_copy 62 = .ok (.getfield 28, 3) := by decide +kernel
theorem dX8_copy_65 : decode cX8_copy 65 = .ok (.invokestatic 57, 3) := by decide +kernel
theorem dX8_copy_68 : decode cX8_copy 68 = .ok (.return_, 1) := by decide +kernel
theorem dX8_isHere_0 : decode cX8_isHere 0 = .ok (.iload_n 1, 1) := by decide +kernel
theorem dX8_isHere_1 : decode cX8_isHere 1 = .ok (.ifCond .lt 25, 3) := by decide +kernel
theorem dX8_isHere_4 : decode cX8_isHere 4 = .ok (.iload_n 1, 1) := by decide +kernel
theorem dX8_isHere_5 : decode cX8_isHere 5 = .ok (.bipush 6, 2) := by decide +kernel
theorem dX8_isHere_7 : decode cX8_isHere 7 = .ok (.if_icmp .ge 19, 3) := by decide +kernel
theorem dX8_isHere_10 : decode cX8_isHere 10 = .ok (.aload_n 0, 1) := by decide +kernel
theorem dX8_isHere_11 : decode cX8_isHere 11 = .ok (.getfield 9, 3) := by decide +kernel
theorem dX8_isHere_14 : decode cX8_isHere 14 = .ok (.iload_n 1, 1) := by decide +kernel
theorem dX8_isHere_15 : decode cX8_isHere 15 = .ok (.ishr, 1) := by decide +kernel
theorem dX8_isHere_16 : decode cX8_isHere 16 = .ok (.iconst 1, 1) := by decide +kernel
theorem dX8_isHere_17 : decode cX8_isHere 17 = .ok (.iand, 1) := by decide +kernel
theorem dX8_isHere_18 : decode cX8_isHere 18 = .ok (.iconst 1, 1) := by decide +kernel
theorem dX8_isHere_19 : decode cX8_isHere 19 = .ok (.if_icmp .ne 7, 3) := by decide +kernel
theorem dX8_isHere_22 : decode cX8_isHere 22 = .ok (.iconst 1, 1) := by decide +kernel
theorem dX8_isHere_23 : decode cX8_isHere 23 = .ok (.goto 4, 3) := by decide +kernel
theorem dX8_isHere_26 : decode cX8_isHere 26 = .ok (.iconst 0, 1) := by decide +kernel
theorem dX8_isHere_27 : decode cX8_isHere 27 = .ok (.ireturn, 1) := by decide +kernel
theorem dX8_isPacked_0 : decode cX8_isPacked 0 = .ok (.iload_n 1, 1) := by decide +kernel
theorem dX8_isPacked_1 : decode cX8_isPacked 1 = .ok (.ifCond .lt 25, 3) := by decide +kernel
theorem dX8_isPacked_4 : decode cX8_isPacked 4 = .ok (.iload_n 1, 1) := by decide +kernel
theorem dX8_isPacked_5 : decode cX8_isPacked 5 = .ok (.bipush 8, 2) := by decide +kernel
theorem dX8_isPacked_7 : decode cX8_isPacked 7 = .ok (.if_icmp .ge 19, 3) := by decide +kernel
theorem dX8_isPacked_10 : decode cX8_isPacked 10 = .ok (.aload_n 0, 1) := by decide +kernel
theorem dX8_isPacked_11 : decode cX8_isPacked 11 = .ok (.getfield 15, 3) := by decide +kernel
theorem dX8_isPacked_14 : decode cX8_isPacked 14 = .ok (.iload_n 1, 1) := by decide +kernel
theorem dX8_isPacked_15 : decode cX8_isPacked 15 = .ok (.ishr, 1) := by decide +kernel
theorem dX8_isPacked_16 : decode cX8_isPacked 16 = .ok (.iconst 1, 1) := by decide +kernel
theorem dX8_isPacked_17 : decode cX8_isPacked 17 = .ok (.iand, 1) := by decide +kernel
theorem dX8_isPacked_18 : decode cX8_isPacked 18 = .ok (.iconst 1, 1) := by decide +kernel
theorem dX8_isPacked_19 : decode cX8_isPacked 19 = .ok (.if_icmp .ne 7, 3) := by decide +kernel
theorem dX8_isPacked_22 : decode cX8_isPacked 22 = .ok (.iconst 1, 1) := by decide +kernel
theorem dX8_isPacked_23 : decode cX8_isPacked 23 = .ok (.goto 4, 3) := by decide +kernel
theorem dX8_isPacked_26 : decode cX8_isPacked 26 = .ok (.iconst 0, 1) := by decide +kernel
theorem dX8_isPacked_27 : decode cX8_isPacked 27 = .ok (.ireturn, 1) := by decide +kernel
theorem dX8_ownerOf_0 : decode cX8_ownerOf 0 = .ok (.iload_n 1, 1) := by decide +kernel
theorem dX8_ownerOf_1 : decode cX8_ownerOf 1 = .ok (.ifCond .lt 22, 3) := by decide +kernel
theorem dX8_ownerOf_4 : decode cX8_ownerOf 4 = .ok (.iload_n 1, 1) := by decide +kernel
theorem dX8_ownerOf_5 : decode cX8_ownerOf 5 = .ok (.aload_n 0, 1) := by decide +kernel
theorem dX8_ownerOf_6 : decode cX8_ownerOf 6 = .ok (.getfield 31, 3) := by decide +kernel
theorem dX8_ownerOf_9 : decode cX8_ownerOf 9 = .ok (.if_icmp .ge 14, 3) := by decide +kernel
theorem dX8_ownerOf_12 : decode cX8_ownerOf 12 = .ok (.aload_n 0, 1) := by decide +kernel
theorem dX8_ownerOf_13 : decode cX8_ownerOf 13 = .ok (.getfield 18, 3) := by decide +kernel
theorem dX8_ownerOf_16 : decode cX8_ownerOf 16 = .ok (.iload_n 1, 1) := by decide +kernel
theorem dX8_ownerOf_17 : decode cX8_ownerOf 17 = .ok (.invokestatic 61, 3) := by decide +kernel
theorem dX8_ownerOf_20 : decode cX8_ownerOf 20 = .ok (.goto 5, 3) := by decide +kernel
theorem dX8_ownerOf_23 : decode cX8_ownerOf 23 = .ok (.bipush (-4), 2) := by decide +kernel
theorem dX8_ownerOf_25 : decode cX8_ownerOf 25 = .ok (.ireturn, 1) := by decide +kernel
theorem dX8_lies_0 : decode cX8_lies 0 = .ok (.iload_n 1, 1) := by decide +kernel
theorem dX8_lies_1 : decode cX8_lies 1 = .ok (.ifCond .lt 45, 3) := by decide +kernel
theorem dX8_lies_4 : decode cX8_lies 4 = .ok (.iload_n 1, 1) := by decide +kernel
theorem dX8_lies_5 : decode cX8_lies 5 = .ok (.aload_n 0, 1) := by decide +kernel
theorem dX8_lies_6 : decode cX8_lies 6 = .ok (.getfield 31, 3) := by decide +kernel
theorem dX8_lies_9 : decode cX8_lies 9 = .ok (.if_icmp .ge 37, 3) := by decide +kernel
theorem dX8_lies_12 : decode cX8_lies 12 = .ok (.iload_n 1, 1) := by decide +kernel
theorem dX8_lies_13 : decode cX8_lies 13 = .ok (.aload_n 0, 1) := by decide +kernel
theorem dX8_lies_14 : decode cX8_lies 14 = .ok (.getfield 18, 3) := by decide +kernel
theorem dX8_lies_17 : decode cX8_lies 17 = .ok (.arraylength, 1) := by decide +kernel
theorem dX8_lies_18 : decode cX8_lies 18 = .ok (.if_icmp .ge 28, 3) := by decide +kernel
theorem dX8_lies_21 : decode cX8_lies 21 = .ok (.aload_n 0, 1) := by decide +kernel
theorem dX8_lies_22 : decode cX8_lies 22 = .ok (.getfield 18, 3) := by decide +kernel
theorem dX8_lies_25 : decode cX8_lies 25 = .ok (.iload_n 1, 1) := by decide +kernel
theorem dX8_lies_26 : decode cX8_lies 26 = .ok (.iaload, 1) := by decide +kernel
theorem dX8_lies_27 : decode cX8_lies 27 = .ok (.iload_n 2, 1) := by decide +kernel
theorem dX8_lies_28 : decode cX8_lies 28 = .ok (.if_icmp .ne 18, 3) := by decide +kernel
theorem dX8_lies_31 : decode cX8_lies 31 = .ok (.aload_n 0, 1) := by decide +kernel
theorem dX8_lies_32 : decode cX8_lies 32 = .ok (.getfield 15, 3) := by decide +kernel
theorem dX8_lies_35 : decode cX8_lies 35 = .ok (.iload_n 1, 1) := by decide +kernel
theorem dX8_lies_36 : decode cX8_lies 36 = .ok (.ishr, 1) := by decide +kernel
theorem dX8_lies_37 : decode cX8_lies 37 = .ok (.iconst 1, 1) := by decide +kernel
theorem dX8_lies_38 : decode cX8_lies 38 = .ok (.iand, 1) := by decide +kernel
theorem dX8_lies_39 : decode cX8_lies 39 = .ok (.ifCond .ne 7, 3) := by decide +kernel
theorem dX8_lies_42 : decode cX8_lies 42 = .ok (.iconst 1, 1) := by decide +kernel
theorem dX8_lies_43 : decode cX8_lies 43 = .ok (.goto 4, 3) := by decide +kernel
theorem dX8_lies_46 : decode cX8_lies 46 = .ok (.iconst 0, 1) := by decide +kernel
theorem dX8_lies_47 : decode cX8_lies 47 = .ok (.ireturn, 1) := by decide +kernel
theorem dX8_owned_0 : decode cX8_owned 0 = .ok (.iconst 0, 1) := by decide +kernel
theorem dX8_owned_1 : decode cX8_owned 1 = .ok (.istore_n 2, 1) := by decide +kernel
theorem dX8_owned_2 : decode cX8_owned 2 = .ok (.iconst 0, 1) := by decide +kernel
theorem dX8_owned_3 : decode cX8_owned 3 = .ok (.istore_n 3, 1) := by decide +kernel
theorem dX8_owned_4 : decode cX8_owned 4 = .ok (.iload_n 3, 1) := by decide +kernel
theorem dX8_owned_5 : decode cX8_owned 5 = .ok (.aload_n 0, 1) := by decide +kernel
theorem dX8_owned_6 : decode cX8_owned 6 = .ok (.getfield 31, 3) := by decide +kernel
theorem dX8_owned_9 : decode cX8_owned 9 = .ok (.if_icmp .ge 28, 3) := by decide +kernel
theorem dX8_owned_12 : decode cX8_owned 12 = .ok (.iload_n 2, 1) := by decide +kernel
theorem dX8_owned_13 : decode cX8_owned 13 = .ok (.aload_n 0, 1) := by decide +kernel
theorem dX8_owned_14 : decode cX8_owned 14 = .ok (.iload_n 3, 1) := by decide +kernel
theorem dX8_owned_15 : decode cX8_owned 15 = .ok (.invokevirtual 65, 3) := by decide +kernel
theorem dX8_owned_18 : decode cX8_owned 18 = .ok (.iload_n 1, 1) := by decide +kernel
theorem dX8_owned_19 : decode cX8_owned 19 = .ok (.if_icmp .ne 9, 3) := by decide +kernel
theorem dX8_owned_22 : decode cX8_owned 22 = .ok (.iconst 1, 1) := by decide +kernel
theorem dX8_owned_23 : decode cX8_owned 23 = .ok (.iload_n 3, 1) := by decide +kernel
theorem dX8_owned_24 : decode cX8_owned 24 = .ok (.ishl, 1) := by decide +kernel
theorem dX8_owned_25 : decode cX8_owned 25 = .ok (.goto 4, 3) := by decide +kernel
theorem dX8_owned_28 : decode cX8_owned 28 = .ok (.iconst 0, 1) := by decide +kernel
theorem dX8_owned_29 : decode cX8_owned 29 = .ok (.ior, 1) := by decide +kernel
theorem dX8_owned_30 : decode cX8_owned 30 = .ok (.istore_n 2, 1) := by decide +kernel
theorem dX8_owned_31 : decode cX8_owned 31 = .ok (.iinc 3 1, 3) := by decide +kernel
theorem dX8_owned_34 : decode cX8_owned 34 = .ok (.goto (-30), 3) := by decide +kernel
theorem dX8_owned_37 : decode cX8_owned 37 = .ok (.iload_n 2, 1) := by decide +kernel
theorem dX8_owned_38 : decode cX8_owned 38 = .ok (.ireturn, 1) := by decide +kernel
theorem dX8_coinsOf_0 : decode cX8_coinsOf 0 = .ok (.aload_n 0, 1) := by decide +kernel
theorem dX8_coinsOf_1 : decode cX8_coinsOf 1 = .ok (.getfield 22, 3) := by decide +kernel
theorem dX8_coinsOf_4 : decode cX8_coinsOf 4 = .ok (.iload_n 1, 1) := by decide +kernel
theorem dX8_coinsOf_5 : decode cX8_coinsOf 5 = .ok (.invokestatic 61, 3) := by decide +kernel
theorem dX8_coinsOf_8 : decode cX8_coinsOf 8 = .ok (.ireturn, 1) := by decide +kernel
theorem dX8_paidBy_0 : decode cX8_paidBy 0 = .ok (.aload_n 0, 1) := by decide +kernel
theorem dX8_paidBy_1 : decode cX8_paidBy 1 = .ok (.getfield 25, 3) := by decide +kernel
theorem dX8_paidBy_4 : decode cX8_paidBy 4 = .ok (.iload_n 1, 1) := by decide +kernel
theorem dX8_paidBy_5 : decode cX8_paidBy 5 = .ok (.invokestatic 61, 3) := by decide +kernel
theorem dX8_paidBy_8 : decode cX8_paidBy 8 = .ok (.ireturn, 1) := by decide +kernel
theorem dX8_paidLastBy_0 : decode cX8_paidLastBy 0 = .ok (.aload_n 0, 1) := by decide +kernel
theorem dX8_paidLastBy_1 : decode cX8_paidLastBy 1 = .ok (.getfield 28, 3) := by decide +kernel
theorem dX8_paidLastBy_4 : decode cX8_paidLastBy 4 = .ok (.iload_n 1, 1) := by decide +kernel
theorem dX8_paidLastBy_5 : decode cX8_paidLastBy 5 = .ok (.invokestatic 61, 3) := by decide +kernel
theorem dX8_paidLastBy_8 : decode cX8_paidLastBy 8 = .ok (.ireturn, 1) := by decide +kernel
theorem dX8_setPacked_0 : decode cX8_setPacked 0 = .ok (.aload_n 0, 1) := by decide +kernel
theorem dX8_setPacked_1 : decode cX8_setPacked 1 = .ok (.iload_n 2, 1) := by decide +kernel
theorem dX8_setPacked_2 : decode cX8_setPacked 2 = .ok (.ifCond .eq 14, 3) := by decide +kernel
theorem dX8_setPacked_5 : decode cX8_setPacked 5 = .ok (.aload_n 0, 1) := by decide +kernel
theorem dX8_setPacked_6 : decode cX8_setPacked 6 = .ok (.getfield 15, 3) := by decide +kernel
theorem dX8_setPacked_9 : decode cX8_setPacked 9 = .ok (.iconst 1, 1) := by decide +kernel
theorem dX8_setPacked_10 : decode cX8_setPacked 10 = .ok (.iload_n 1, 1) := by decide +kernel
theorem dX8_setPacked_11 : decode cX8_setPacked 11 = .ok (.ishl, 1) := by decide +kernel
theorem dX8_setPacked_12 : decode cX8_setPacked 12 = .ok (.ior, 1) := by decide +kernel
theorem dX8_setPacked_13 : decode cX8_setPacked 13 = .ok (.goto 13, 3) := by decide +kernel
theorem dX8_setPacked_16 : decode cX8_setPacked 16 = .ok (.aload_n 0, 1) := by decide +kernel
theorem dX8_setPacked_17 : decode cX8_setPacked 17 = .ok (.getfield 15, 3) := by decide +kernel
theorem dX8_setPacked_20 : decode cX8_setPacked 20 = .ok (.iconst 1, 1) := by decide +kernel
theorem dX8_setPacked_21 : decode cX8_setPacked 21 = .ok (.iload_n 1, 1) := by decide +kernel
theorem dX8_setPacked_22 : decode cX8_setPacked 22 = .ok (.ishl, 1) := by decide +kernel
theorem dX8_setPacked_23 : decode cX8_setPacked 23 = .ok (.iconst (-1), 1) := by decide +kernel
theorem dX8_setPacked_24 : decode cX8_setPacked 24 = .ok (.ixor, 1) := by decide +kernel
theorem dX8_setPacked_25 : decode cX8_setPacked 25 = .ok (.iand, 1) := by decide +kernel
theorem dX8_setPacked_26 : decode cX8_setPacked 26 = .ok (.putfield 15, 3) := by decide +kernel
theorem dX8_setPacked_29 : decode cX8_setPacked 29 = .ok (.return_, 1) := by decide +kernel
theorem dX8_handOver_0 : decode cX8_handOver 0 = .ok (.aload_n 0, 1) := by decide +kernel
theorem dX8_handOver_1 : decode cX8_handOver 1 = .ok (.getfield 18, 3) := by decide +kernel
theorem dX8_handOver_4 : decode cX8_handOver 4 = .ok (.iload_n 1, 1) := by decide +kernel
theorem dX8_handOver_5 : decode cX8_handOver 5 = .ok (.iload_n 2, 1) := by decide +kernel
theorem dX8_handOver_6 : decode cX8_handOver 6 = .ok (.invokestatic 44, 3) := by decide +kernel
theorem dX8_handOver_9 : decode cX8_handOver 9 = .ok (.aload_n 0, 1) := by decide +kernel
theorem dX8_handOver_10 : decode cX8_handOver 10 = .ok (.iload_n 1, 1) := by decide +kernel
theorem dX8_handOver_11 : decode cX8_handOver 11 = .ok (.iconst 0, 1) := by decide +kernel
theorem dX8_handOver_12 : decode cX8_handOver 12 = .ok (.invokevirtual 68, 3) := by decide +kernel
theorem dX8_handOver_15 : decode cX8_handOver 15 = .ok (.return_, 1) := by decide +kernel
theorem dX8_pay_0 : decode cX8_pay 0 = .ok (.aload_n 0, 1) := by decide +kernel
theorem dX8_pay_1 : decode cX8_pay 1 = .ok (.getfield 22, 3) := by decide +kernel
theorem dX8_pay_4 : decode cX8_pay 4 = .ok (.iload_n 1, 1) := by decide +kernel
theorem dX8_pay_5 : decode cX8_pay 5 = .ok (.aload_n 0, 1) := by decide +kernel
theorem dX8_pay_6 : decode cX8_pay 6 = .ok (.iload_n 1, 1) := by decide +kernel
theorem dX8_pay_7 : decode cX8_pay 7 = .ok (.invokevirtual 72, 3) := by decide +kernel
theorem dX8_pay_10 : decode cX8_pay 10 = .ok (.iload_n 2, 1) := by decide +kernel
theorem dX8_pay_11 : decode cX8_pay 11 = .ok (.isub, 1) := by decide +kernel
theorem dX8_pay_12 : decode cX8_pay 12 = .ok (.invokestatic 44, 3) := by decide +kernel
theorem dX8_pay_15 : decode cX8_pay 15 = .ok (.aload_n 0, 1) := by decide +kernel
theorem dX8_pay_16 : decode cX8_pay 16 = .ok (.getfield 25, 3) := by decide +kernel
theorem dX8_pay_19 : decode cX8_pay 19 = .ok (.iload_n 1, 1) := by decide +kernel
theorem dX8_pay_20 : decode cX8_pay 20 = .ok (.aload_n 0, 1) := by decide +kernel
theorem dX8_pay_21 : decode cX8_pay 21 = .ok (.iload_n 1, 1) := by decide +kernel
theorem dX8_pay_22 : decode cX8_pay 22 = .ok (.invokevirtual 75, 3) := by decide +kernel
theorem dX8_pay_25 : decode cX8_pay 25 = .ok (.iload_n 2, 1) := by decide +kernel
theorem dX8_pay_26 : decode cX8_pay 26 = .ok (.iadd, 1) := by decide +kernel
theorem dX8_pay_27 : decode cX8_pay 27 = .ok (.invokestatic 44, 3) := by decide +kernel
theorem dX8_pay_30 : decode cX8_pay 30 = .ok (.return_, 1) := by decide +kernel
theorem dX8_goOut_0 : decode cX8_goOut 0 = .ok (.aload_n 0, 1) := by decide +kernel
theorem dX8_goOut_1 : decode cX8_goOut 1 = .ok (.dup, 1) := by decide +kernel
theorem dX8_goOut_2 : decode cX8_goOut 2 = .ok (.getfield 9, 3) := by decide +kernel
theorem dX8_goOut_5 : decode cX8_goOut 5 = .ok (.iconst 1, 1) := by decide +kernel
theorem dX8_goOut_6 : decode cX8_goOut 6 = .ok (.iload_n 1, 1) := by decide +kernel
theorem dX8_goOut_7 : decode cX8_goOut 7 = .ok (.ishl, 1) := by decide +kernel
theorem dX8_goOut_8 : decode cX8_goOut 8 = .ok (.iconst (-1), 1) := by decide +kernel
theorem dX8_goOut_9 : decode cX8_goOut 9 = .ok (.ixor, 1) := by decide +kernel
theorem dX8_goOut_10 : decode cX8_goOut 10 = .ok (.iand, 1) := by decide +kernel
theorem dX8_goOut_11 : decode cX8_goOut 11 = .ok (.putfield 9, 3) := by decide +kernel
theorem dX8_goOut_14 : decode cX8_goOut 14 = .ok (.aload_n 0, 1) := by decide +kernel
theorem dX8_goOut_15 : decode cX8_goOut 15 = .ok (.getfield 28, 3) := by decide +kernel
theorem dX8_goOut_18 : decode cX8_goOut 18 = .ok (.iload_n 1, 1) := by decide +kernel
theorem dX8_goOut_19 : decode cX8_goOut 19 = .ok (.iload_n 2, 1) := by decide +kernel
theorem dX8_goOut_20 : decode cX8_goOut 20 = .ok (.invokestatic 44, 3) := by decide +kernel
theorem dX8_goOut_23 : decode cX8_goOut 23 = .ok (.iconst 0, 1) := by decide +kernel
theorem dX8_goOut_24 : decode cX8_goOut 24 = .ok (.istore_n 3, 1) := by decide +kernel
theorem dX8_goOut_25 : decode cX8_goOut 25 = .ok (.iload_n 3, 1) := by decide +kernel
theorem dX8_goOut_26 : decode cX8_goOut 26 = .ok (.aload_n 0, 1) := by decide +kernel
theorem dX8_goOut_27 : decode cX8_goOut 27 = .ok (.getfield 31, 3) := by decide +kernel
theorem dX8_goOut_30 : decode cX8_goOut 30 = .ok (.if_icmp .ge 28, 3) := by decide +kernel
theorem dX8_goOut_33 : decode cX8_goOut 33 = .ok (.aload_n 0, 1) := by decide +kernel
theorem dX8_goOut_34 : decode cX8_goOut 34 = .ok (.iload_n 3, 1) := by decide +kernel
theorem dX8_goOut_35 : decode cX8_goOut 35 = .ok (.iload_n 1, 1) := by decide +kernel
theorem dX8_goOut_36 : decode cX8_goOut 36 = .ok (.invokevirtual 78, 3) := by decide +kernel
theorem dX8_goOut_39 : decode cX8_goOut 39 = .ok (.ifCond .eq 13, 3) := by decide +kernel
theorem dX8_goOut_42 : decode cX8_goOut 42 = .ok (.aload_n 0, 1) := by decide +kernel
theorem dX8_goOut_43 : decode cX8_goOut 43 = .ok (.getfield 18, 3) := by decide +kernel
theorem dX8_goOut_46 : decode cX8_goOut 46 = .ok (.iload_n 3, 1) := by decide +kernel
theorem dX8_goOut_47 : decode cX8_goOut 47 = .ok (.bipush (-4), 2) := by decide +kernel
theorem dX8_goOut_49 : decode cX8_goOut 49 = .ok (.invokestatic 44, 3) := by decide +kernel
theorem dX8_goOut_52 : decode cX8_goOut 52 = .ok (.iinc 3 1, 3) := by decide +kernel
theorem dX8_goOut_55 : decode cX8_goOut 55 = .ok (.goto (-30), 3) := by decide +kernel
theorem dX8_goOut_58 : decode cX8_goOut 58 = .ok (.return_, 1) := by decide +kernel
theorem dX8_comeIn_0 : decode cX8_comeIn 0 = .ok (.aload_n 0, 1) := by decide +kernel
theorem dX8_comeIn_1 : decode cX8_comeIn 1 = .ok (.dup, 1) := by decide +kernel
theorem dX8_comeIn_2 : decode cX8_comeIn 2 = .ok (.getfield 9, 3) := by decide +kernel
theorem dX8_comeIn_5 : decode cX8_comeIn 5 = .ok (.iconst 1, 1) := by decide +kernel
theorem dX8_comeIn_6 : decode cX8_comeIn 6 = .ok (.iload_n 1, 1) := by decide +kernel
theorem dX8_comeIn_7 : decode cX8_comeIn 7 = .ok (.ishl, 1) := by decide +kernel
theorem dX8_comeIn_8 : decode cX8_comeIn 8 = .ok (.ior, 1) := by decide +kernel
theorem dX8_comeIn_9 : decode cX8_comeIn 9 = .ok (.putfield 9, 3) := by decide +kernel
theorem dX8_comeIn_12 : decode cX8_comeIn 12 = .ok (.return_, 1) := by decide +kernel
theorem dX9_init_0 : decode cX9_init 0 = .ok (.aload_n 0, 1) := by decide +kernel
theorem dX9_init_1 : decode cX9_init 1 = .ok (.invokespecial 3, 3) := by decide +kernel
theorem dX9_init_4 : decode cX9_init 4 = .ok (.aload_n 0, 1) := by decide +kernel
theorem dX9_init_5 : decode cX9_init 5 = .ok (.sipush 200, 3) := by decide +kernel
theorem dX9_init_8 : decode cX9_init 8 = .ok (.newarray .char, 2) := by decide +kernel
theorem dX9_init_10 : decode cX9_init 10 = .ok (.putfield 9, 3) := by decide +kernel
theorem dX9_init_13 : decode cX9_init 13 = .ok (.aload_n 0, 1) := by decide +kernel
theorem dX9_init_14 : decode cX9_init 14 = .ok (.iconst 0, 1) := by decide +kernel
theorem dX9_init_15 : decode cX9_init 15 = .ok (.putfield 15, 3) := by decide +kernel
theorem dX9_init_18 : decode cX9_init 18 = .ok (.return_, 1) := by decide +kernel
theorem dX9_add_0 : decode cX9_add 0 = .ok (.aload_n 0, 1) := by decide +kernel
theorem dX9_add_1 : decode cX9_add 1 = .ok (.getfield 15, 3) := by decide +kernel
theorem dX9_add_4 : decode cX9_add 4 = .ok (.ifCond .lt 15, 3) := by decide +kernel
theorem dX9_add_7 : decode cX9_add 7 = .ok (.aload_n 0, 1) := by decide +kernel
theorem dX9_add_8 : decode cX9_add 8 = .ok (.getfield 15, 3) := by decide +kernel
theorem dX9_add_11 : decode cX9_add 11 = .ok (.aload_n 0, 1) := by decide +kernel
theorem dX9_add_12 : decode cX9_add 12 = .ok (.getfield 9, 3) := by decide +kernel
theorem dX9_add_15 : decode cX9_add 15 = .ok (.arraylength, 1) := by decide +kernel
theorem dX9_add_16 : decode cX9_add 16 = .ok (.if_icmp .lt 5, 3) := by decide +kernel
theorem dX9_add_19 : decode cX9_add 19 = .ok (.iconst 0, 1) := by decide +kernel
theorem dX9_add_20 : decode cX9_add 20 = .ok (.ireturn, 1) := by decide +kernel
theorem dX9_add_21 : decode cX9_add 21 = .ok (.aload_n 0, 1) := by decide +kernel
theorem dX9_add_22 : decode cX9_add 22 = .ok (.getfield 9, 3) := by decide +kernel
theorem dX9_add_25 : decode cX9_add 25 = .ok (.aload_n 0, 1) := by decide +kernel
theorem dX9_add_26 : decode cX9_add 26 = .ok (.getfield 15, 3) := by decide +kernel
theorem dX9_add_29 : decode cX9_add 29 = .ok (.iload_n 1, 1) := by decide +kernel
theorem dX9_add_30 : decode cX9_add 30 = .ok (.castore, 1) := by decide +kernel
theorem dX9_add_31 : decode cX9_add 31 = .ok (.aload_n 0, 1) := by decide +kernel
theorem dX9_add_32 : decode cX9_add 32 = .ok (.dup, 1) := by decide +kernel
theorem dX9_add_33 : decode cX9_add 33 = .ok (.getfield 15, 3) := by decide +kernel
theorem dX9_add_36 : decode cX9_add 36 = .ok (.iconst 1, 1) := by decide +kernel
theorem dX9_add_37 : decode cX9_add 37 = .ok (.iadd, 1) := by decide +kernel
theorem dX9_add_38 : decode cX9_add 38 = .ok (.putfield 15, 3) := by decide +kernel
theorem dX9_add_41 : decode cX9_add 41 = .ok (.iconst 1, 1) := by decide +kernel
theorem dX9_add_42 : decode cX9_add 42 = .ok (.ireturn, 1) := by decide +kernel
theorem dX9_empty_0 : decode cX9_empty 0 = .ok (.aload_n 0, 1) := by decide +kernel
theorem dX9_empty_1 : decode cX9_empty 1 = .ok (.iconst 0, 1) := by decide +kernel
theorem dX9_empty_2 : decode cX9_empty 2 = .ok (.putfield 15, 3) := by decide +kernel
theorem dX9_empty_5 : decode cX9_empty 5 = .ok (.return_, 1) := by decide +kernel
theorem dX9_sign_0 : decode cX9_sign 0 = .ok (.iload_n 1, 1) := by decide +kernel
theorem dX9_sign_1 : decode cX9_sign 1 = .ok (.ifCond .lt 29, 3) := by decide +kernel
theorem dX9_sign_4 : decode cX9_sign 4 = .ok (.iload_n 1, 1) := by decide +kernel
theorem dX9_sign_5 : decode cX9_sign 5 = .ok (.aload_n 0, 1) := by decide +kernel
theorem dX9_sign_6 : decode cX9_sign 6 = .ok (.getfield 15, 3) := by decide +kernel
theorem dX9_sign_9 : decode cX9_sign 9 = .ok (.if_icmp .ge 21, 3) := by decide +kernel
theorem dX9_sign_12 : decode cX9_sign 12 = .ok (.iload_n 1, 1) := by decide +kernel
theorem dX9_sign_13 : decode cX9_sign 13 = .ok (.aload_n 0, 1) := by decide +kernel
theorem dX9_sign_14 : decode cX9_sign 14 = .ok (.getfield 9, 3) := by decide +kernel
theorem dX9_sign_17 : decode cX9_sign 17 = .ok (.arraylength, 1) := by decide +kernel
theorem dX9_sign_18 : decode cX9_sign 18 = .ok (.if_icmp .ge 12, 3) := by decide +kernel
theorem dX9_sign_21 : decode cX9_sign 21 = .ok (.aload_n 0, 1) := by decide +kernel
theorem dX9_sign_22 : decode cX9_sign 22 = .ok (.getfield 9, 3) := by decide +kernel
theorem dX9_sign_25 : decode cX9_sign 25 = .ok (.iload_n 1, 1) := by decide +kernel
theorem dX9_sign_26 : decode cX9_sign 26 = .ok (.caload, 1) := by decide +kernel
theorem dX9_sign_27 : decode cX9_sign 27 = .ok (.goto 5, 3) := by decide +kernel
theorem dX9_sign_30 : decode cX9_sign 30 = .ok (.bipush 32, 2) := by decide +kernel
theorem dX9_sign_32 : decode cX9_sign 32 = .ok (.ireturn, 1) := by decide +kernel
theorem dX10_play_0 : decode cX10_play 0 = .ok (.iload 5, 2) := by decide +kernel
theorem dX10_play_2 : decode cX10_play 2 = .ok (.ifCond .gt 22, 3) := by decide +kernel
theorem dX10_play_5 : decode cX10_play 5 = .ok (.aload_n 0, 1) := by decide +kernel
theorem dX10_play_6 : decode cX10_play 6 = .ok (.aload_n 1, 1) := by decide +kernel
theorem dX10_play_7 : decode cX10_play 7 = .ok (.iload_n 3, 1) := by decide +kernel
theorem dX10_play_8 : decode cX10_play 8 = .ok (.invokestatic 9, 3) := by decide +kernel
theorem dX10_play_11 : decode cX10_play 11 = .ok (.sipush 4096, 3) := by decide +kernel
theorem dX10_play_14 : decode cX10_play 14 = .ok (.imul, 1) := by decide +kernel
theorem dX10_play_15 : decode cX10_play 15 = .ok (.aload_n 0, 1) := by decide +kernel
theorem dX10_play_16 : decode cX10_play 16 = .ok (.aload_n 1, 1) := by decide +kernel
theorem dX10_play_17 : decode cX10_play 17 = .ok (.iload 4, 2) := by decide +kernel
theorem dX10_play_19 : decode cX10_play 19 = .ok (.invokestatic 9, 3) := by decide +kernel
theorem dX10_play_22 : decode cX10_play 22 = .ok (.iadd, 1) := by decide +kernel
theorem dX10_play_23 : decode cX10_play 23 = .ok (.ireturn, 1) := by decide +kernel
theorem dX10_play_24 : decode cX10_play 24 = .ok (.aload_n 0, 1) := by decide +kernel
theorem dX10_play_25 : decode cX10_play 25 = .ok (.aload_n 1, 1) := by decide +kernel
theorem dX10_play_26 : decode cX10_play 26 = .ok (.aload_n 2, 1) := by decide +kernel
theorem dX10_play_27 : decode cX10_play 27 = .ok (.iload 4, 2) := by decide +kernel
theorem dX10_play_29 : decode cX10_play 29 = .ok (.iload_n 3, 1) := by decide +kernel
theorem dX10_play_30 : decode cX10_play 30 = .ok (.iload 5, 2) := by decide +kernel
theorem dX10_play_32 : decode cX10_play 32 = .ok (.iconst 1, 1) := by decide +kernel
theorem dX10_play_33 : decode cX10_play 33 = .ok (.isub, 1) := by decide +kernel
theorem dX10_play_34 : decode cX10_play 34 = .ok (.invokestatic 17, 3) := by decide +kernel
theorem dX10_play_37 : decode cX10_play 37 = .ok (.invokestatic 21, 3) := by decide +kernel
theorem dX10_play_40 : decode cX10_play 40 = .ok (.istore 6, 2) := by decide +kernel
theorem dX10_play_42 : decode cX10_play 42 = .ok (.bipush (-4), 2) := by decide +kernel
theorem dX10_play_44 : decode cX10_play 44 = .ok (.istore 7, 2) := by decide +kernel
theorem dX10_play_46 : decode cX10_play 46 = .ok (.iconst 0, 1) := by decide +kernel
theorem dX10_play_47 : decode cX10_play 47 = .ok (.istore 8, 2) := by decide +kernel
theorem dX10_play_49 : decode cX10_play 49 = .ok (.iload 8, 2) := by decide +kernel
theorem dX10_play_51 : decode cX10_play 51 = .ok (.aload_n 0, 1) := by decide +kernel
theorem dX10_play_52 : decode cX10_play 52 = .ok (.getfield 25, 3) := by decide +kernel
theorem dX10_play_55 : decode cX10_play 55 = .ok (.if_icmp .ge 73, 3) := by decide +kernel
theorem dX10_play_58 : decode cX10_play 58 = .ok (.aload_n 1, 1) := by decide +kernel
theorem dX10_play_59 : decode cX10_play 59 = .ok (.iload 8, 2) := by decide +kernel
theorem dX10_play_61 : decode cX10_play 61 = .ok (.iload_n 3, 1) := by decide +kernel
theorem dX10_play_62 : decode cX10_play 62 = .ok (.invokevirtual 31, 3) := by decide +kernel
theorem dX10_play_65 : decode cX10_play 65 = .ok (.ifCond .eq 57, 3) := by decide +kernel
theorem dX10_play_68 : decode cX10_play 68 = .ok (.aload_n 1, 1) := by decide +kernel
theorem dX10_play_69 : decode cX10_play 69 = .ok (.iload 8, 2) := by decide +kernel
theorem dX10_play_71 : decode cX10_play 71 = .ok (.iload 4, 2) := by decide +kernel
theorem dX10_play_73 : decode cX10_play 73 = .ok (.invokevirtual 37, 3) := by decide +kernel
theorem dX10_play_76 : decode cX10_play 76 = .ok (.aload_n 0, 1) := by decide +kernel
theorem dX10_play_77 : decode cX10_play 77 = .ok (.aload_n 1, 1) := by decide +kernel
theorem dX10_play_78 : decode cX10_play 78 = .ok (.aload_n 2, 1) := by decide +kernel
theorem dX10_play_79 : decode cX10_play 79 = .ok (.iload 4, 2) := by decide +kernel
theorem dX10_play_81 : decode cX10_play 81 = .ok (.iload_n 3, 1) := by decide +kernel
theorem dX10_play_82 : decode cX10_play 82 = .ok (.iload 5, 2) := by decide +kernel
theorem dX10_play_84 : decode cX10_play 84 = .ok (.iconst 1, 1) := by decide +kernel
theorem dX10_play_85 : decode cX10_play 85 = .ok (.isub, 1) := by decide +kernel
theorem dX10_play_86 : decode cX10_play 86 = .ok (.invokestatic 17, 3) := by decide +kernel
theorem dX10_play_89 : decode cX10_play 89 = .ok (.invokestatic 21, 3) := by decide +kernel
theorem dX10_play_92 : decode cX10_play 92 = .ok (.istore 9, 2) := by decide +kernel
theorem dX10_play_94 : decode cX10_play 94 = .ok (.aload_n 1, 1) := by decide +kernel
theorem dX10_play_95 : decode cX10_play 95 = .ok (.iload 8, 2) := by decide +kernel
theorem dX10_play_97 : decode cX10_play 97 = .ok (.iload_n 3, 1) := by decide +kernel
theorem dX10_play_98 : decode cX10_play 98 = .ok (.invokevirtual 37, 3) := by decide +kernel
theorem dX10_play_101 : decode cX10_play 101 = .ok (.iload 9, 2) := by decide +kernel
theorem dX10_play_103 : decode cX10_play 103 = .ok (.invokestatic 41, 3) := by decide +kernel
theorem dX10_play_106 : decode cX10_play 106 = .ok (.iload 6, 2) := by decide +kernel
theorem dX10_play_108 : decode cX10_play 108 = .ok (.invokestatic 41, 3) := by decide +kernel
theorem dX10_play_111 : decode cX10_play 111 = .ok (.if_icmp .ge 11, 3) := by decide +kernel
theorem dX10_play_114 : decode cX10_play 114 = .ok (.iload 9, 2) := by decide +kernel
theorem dX10_play_116 : decode cX10_play 116 = .ok (.istore 6, 2) := by decide +kernel
theorem dX10_play_118 : decode cX10_play 118 = .ok (.iload 8, 2) := by decide +kernel
theorem dX10_play_120 : decode cX10_play 120 = .ok (.istore 7, 2) := by decide +kernel
theorem dX10_play_122 : decode cX10_play 122 = .ok (.iinc 8 1, 3) := by decide +kernel
theorem dX10_play_125 : decode cX10_play 125 = .ok (.goto (-76), 3) := by decide +kernel
theorem dX10_play_128 : decode cX10_play 128 = .ok (.aload_n 2, 1) := by decide +kernel
theorem dX10_play_129 : decode cX10_play 129 = .ok (.iload 5, 2) := by decide +kernel
theorem dX10_play_131 : decode cX10_play 131 = .ok (.iload 7, 2) := by decide +kernel
theorem dX10_play_133 : decode cX10_play 133 = .ok (.invokestatic 44, 3) := by decide +kernel
theorem dX10_play_136 : decode cX10_play 136 = .ok (.iload 6, 2) := by decide +kernel
theorem dX10_play_138 : decode cX10_play 138 = .ok (.ireturn, 1) := by decide +kernel
theorem dX10_movers_0 : decode cX10_movers 0 = .ok (.iload_n 0, 1) := by decide +kernel
theorem dX10_movers_1 : decode cX10_movers 1 = .ok (.sipush 4096, 3) := by decide +kernel
theorem dX10_movers_4 : decode cX10_movers 4 = .ok (.idiv, 1) := by decide +kernel
theorem dX10_movers_5 : decode cX10_movers 5 = .ok (.ireturn, 1) := by decide +kernel
theorem dX10_swapped_0 : decode cX10_swapped 0 = .ok (.iload_n 0, 1) := by decide +kernel
theorem dX10_swapped_1 : decode cX10_swapped 1 = .ok (.sipush 4096, 3) := by decide +kernel
theorem dX10_swapped_4 : decode cX10_swapped 4 = .ok (.irem, 1) := by decide +kernel
theorem dX10_swapped_5 : decode cX10_swapped 5 = .ok (.sipush 4096, 3) := by decide +kernel
theorem dX10_swapped_8 : decode cX10_swapped 8 = .ok (.imul, 1) := by decide +kernel
theorem dX10_swapped_9 : decode cX10_swapped 9 = .ok (.iload_n 0, 1) := by decide +kernel
theorem dX10_swapped_10 : decode cX10_swapped 10 = .ok (.sipush 4096, 3) := by decide +kernel
theorem dX10_swapped_13 : decode cX10_swapped 13 = .ok (.idiv, 1) := by decide +kernel
theorem dX10_swapped_14 : decode cX10_swapped 14 = .ok (.iadd, 1) := by decide +kernel
theorem dX10_swapped_15 : decode cX10_swapped 15 = .ok (.ireturn, 1) := by decide +kernel
theorem dX11_init_0 : decode cX11_init 0 = .ok (.aload_n 0, 1) := by decide +kernel
theorem dX11_init_1 : decode cX11_init 1 = .ok (.invokespecial 1, 3) := by decide +kernel
theorem dX11_init_4 : decode cX11_init 4 = .ok (.aload_n 0, 1) := by decide +kernel
theorem dX11_init_5 : decode cX11_init 5 = .ok (.new 7, 3) := by decide +kernel
theorem dX11_init_8 : decode cX11_init 8 = .ok (.dup, 1) := by decide +kernel
theorem dX11_init_9 : decode cX11_init 9 = .ok (.invokespecial 9, 3) := by decide +kernel
theorem dX11_init_12 : decode cX11_init 12 = .ok (.putfield 10, 3) := by decide +kernel
theorem dX11_init_15 : decode cX11_init 15 = .ok (.aload_n 0, 1) := by decide +kernel
theorem dX11_init_16 : decode cX11_init 16 = .ok (.new 16, 3) := by decide +kernel
theorem dX11_init_19 : decode cX11_init 19 = .ok (.dup, 1) := by decide +kernel
theorem dX11_init_20 : decode cX11_init 20 = .ok (.invokespecial 18, 3) := by decide +kernel
theorem dX11_init_23 : decode cX11_init 23 = .ok (.putfield 19, 3) := by decide +kernel
theorem dX11_init_26 : decode cX11_init 26 = .ok (.aload_n 0, 1) := by decide +kernel
theorem dX11_init_27 : decode cX11_init 27 = .ok (.new 23, 3) := by decide +kernel
theorem dX11_init_30 : decode cX11_init 30 = .ok (.dup, 1) := by decide +kernel
theorem dX11_init_31 : decode cX11_init 31 = .ok (.invokespecial 25, 3) := by decide +kernel
theorem dX11_init_34 : decode cX11_init 34 = .ok (.putfield 26, 3) := by decide +kernel
theorem dX11_init_37 : decode cX11_init 37 = .ok (.aload_n 0, 1) := by decide +kernel
theorem dX11_init_38 : decode cX11_init 38 = .ok (.new 23, 3) := by decide +kernel
theorem dX11_init_41 : decode cX11_init 41 = .ok (.dup, 1) := by decide +kernel
theorem dX11_init_42 : decode cX11_init 42 = .ok (.invokespecial 25, 3) := by decide +kernel
theorem dX11_init_45 : decode cX11_init 45 = .ok (.putfield 30, 3) := by decide +kernel
theorem dX11_init_48 : decode cX11_init 48 = .ok (.aload_n 0, 1) := by decide +kernel
theorem dX11_init_49 : decode cX11_init 49 = .ok (.new 33, 3) := by decide +kernel
theorem dX11_init_52 : decode cX11_init 52 = .ok (.dup, 1) := by decide +kernel
theorem dX11_init_53 : decode cX11_init 53 = .ok (.bipush 8, 2) := by decide +kernel
theorem dX11_init_55 : decode cX11_init 55 = .ok (.invokespecial 35, 3) := by decide +kernel
theorem dX11_init_58 : decode cX11_init 58 = .ok (.putfield 38, 3) := by decide +kernel
theorem dX11_init_61 : decode cX11_init 61 = .ok (.aload_n 0, 1) := by decide +kernel
theorem dX11_init_62 : decode cX11_init 62 = .ok (.new 33, 3) := by decide +kernel
theorem dX11_init_65 : decode cX11_init 65 = .ok (.dup, 1) := by decide +kernel
theorem dX11_init_66 : decode cX11_init 66 = .ok (.iconst 2, 1) := by decide +kernel
theorem dX11_init_67 : decode cX11_init 67 = .ok (.invokespecial 35, 3) := by decide +kernel
theorem dX11_init_70 : decode cX11_init 70 = .ok (.putfield 42, 3) := by decide +kernel
theorem dX11_init_73 : decode cX11_init 73 = .ok (.aload_n 0, 1) := by decide +kernel
theorem dX11_init_74 : decode cX11_init 74 = .ok (.new 45, 3) := by decide +kernel
theorem dX11_init_77 : decode cX11_init 77 = .ok (.dup, 1) := by decide +kernel
theorem dX11_init_78 : decode cX11_init 78 = .ok (.invokespecial 47, 3) := by decide +kernel
theorem dX11_init_81 : decode cX11_init 81 = .ok (.putfield 48, 3) := by decide +kernel
theorem dX11_init_84 : decode cX11_init 84 = .ok (.aload_n 0, 1) := by decide +kernel
theorem dX11_init_85 : decode cX11_init 85 = .ok (.new 52, 3) := by decide +kernel
theorem dX11_init_88 : decode cX11_init 88 = .ok (.dup, 1) := by decide +kernel
theorem dX11_init_89 : decode cX11_init 89 = .ok (.invokespecial 54, 3) := by decide +kernel
theorem dX11_init_92 : decode cX11_init 92 = .ok (.putfield 55, 3) := by decide +kernel
theorem dX11_init_95 : decode cX11_init 95 = .ok (.aload_n 0, 1) := by decide +kernel
theorem dX11_init_96 : decode cX11_init 96 = .ok (.iconst 5, 1) := by decide +kernel
theorem dX11_init_97 : decode cX11_init 97 = .ok (.newarray .int, 2) := by decide +kernel
theorem dX11_init_99 : decode cX11_init 99 = .ok (.putfield 59, 3) := by decide +kernel
theorem dX11_init_102 : decode cX11_init 102 = .ok (.aload_n 0, 1) := by decide +kernel
theorem dX11_init_103 : decode cX11_init 103 = .ok (.new 63, 3) := by decide +kernel
theorem dX11_init_106 : decode cX11_init 106 = .ok (.dup, 1) := by decide +kernel
theorem dX11_init_107 : decode cX11_init 107 = .ok (.invokespecial 65, 3) := by decide +kernel
theorem dX11_init_110 : decode cX11_init 110 = .ok (.putfield 66, 3) := by decide +kernel
theorem dX11_init_113 : decode cX11_init 113 = .ok (.aload_n 0, 1) := by decide +kernel
theorem dX11_init_114 : decode cX11_init 114 = .ok (.new 63, 3) := by decide +kernel
theorem dX11_init_117 : decode cX11_init 117 = .ok (.dup, 1) := by decide +kernel
theorem dX11_init_118 : decode cX11_init 118 = .ok (.invokespecial 65, 3) := by decide +kernel
theorem dX11_init_121 : decode cX11_init 121 = .ok (.putfield 70, 3) := by decide +kernel
theorem dX11_init_124 : decode cX11_init 124 = .ok (.iconst 0, 1) := by decide +kernel
theorem dX11_init_125 : decode cX11_init 125 = .ok (.istore_n 1, 1) := by decide +kernel
theorem dX11_init_126 : decode cX11_init 126 = .ok (.iload_n 1, 1) := by decide +kernel
theorem dX11_init_127 : decode cX11_init 127 = .ok (.ldc 73, 2) := by decide +kernel
theorem dX11_init_129 : decode cX11_init 129 = .ok (.invokevirtual 75, 3) := by decide +kernel
theorem dX11_init_132 : decode cX11_init 132 = .ok (.if_icmp .ge 23, 3) := by decide +kernel
theorem dX11_init_135 : decode cX11_init 135 = .ok (.aload_n 0, 1) := by decide +kernel
theorem dX11_init_136 : decode cX11_init 136 = .ok (.getfield 10, 3) := by decide +kernel
theorem dX11_init_139 : decode cX11_init 139 = .ok (.ldc 73, 2) := by decide +kernel
theorem dX11_init_141 : decode cX11_init 141 = .ok (.iload_n 1, 1) := by decide +kernel
theorem dX11_init_142 : decode cX11_init 142 = .ok (.invokevirtual 81, 3) := by decide +kernel
theorem dX11_init_145 : decode cX11_init 145 = .ok (.invokevirtual 85, 3) := by decide +kernel
theorem dX11_init_148 : decode cX11_init 148 = .ok (.pop, 1) := by decide +kernel
theorem dX11_init_149 : decode cX11_init 149 = .ok (.iinc 1 1, 3) := by decide +kernel
theorem dX11_init_152 : decode cX11_init 152 = .ok (.goto (-26), 3) := by decide +kernel
theorem dX11_init_155 : decode cX11_init 155 = .ok (.aload_n 0, 1) := by decide +kernel
theorem dX11_init_156 : decode cX11_init 156 = .ok (.getfield 19, 3) := by decide +kernel
theorem dX11_init_159 : decode cX11_init 159 = .ok (.aload_n 0, 1) := by decide +kernel
theorem dX11_init_160 : decode cX11_init 160 = .ok (.getfield 10, 3) := by decide +kernel
theorem dX11_init_163 : decode cX11_init 163 = .ok (.aload_n 0, 1) := by decide +kernel
theorem dX11_init_164 : decode cX11_init 164 = .ok (.getfield 66, 3) := by decide +kernel
theorem dX11_init_167 : decode cX11_init 167 = .ok (.invokevirtual 89, 3) := by decide +kernel
theorem dX11_init_170 : decode cX11_init 170 = .ok (.pop, 1) := by decide +kernel
theorem dX11_init_171 : decode cX11_init 171 = .ok (.aload_n 0, 1) := by decide +kernel
theorem dX11_init_172 : decode cX11_init 172 = .ok (.getfield 26, 3) := by decide +kernel
theorem dX11_init_175 : decode cX11_init 175 = .ok (.aload_n 0, 1) := by decide +kernel
theorem dX11_init_176 : decode cX11_init 176 = .ok (.getfield 66, 3) := by decide +kernel
theorem dX11_init_179 : decode cX11_init 179 = .ok (.invokevirtual 93, 3) := by decide +kernel
theorem dX11_init_182 : decode cX11_init 182 = .ok (.aload_n 0, 1) := by decide +kernel
theorem dX11_init_183 : decode cX11_init 183 = .ok (.getfield 10, 3) := by decide +kernel
theorem dX11_init_186 : decode cX11_init 186 = .ok (.invokevirtual 97, 3) := by decide +kernel
theorem dX11_init_189 : decode cX11_init 189 = .ok (.return_, 1) := by decide +kernel
theorem dX11_write_0 : decode cX11_write 0 = .ok (.iload_n 1, 1) := by decide +kernel
theorem dX11_write_1 : decode cX11_write 1 = .ok (.bipush 32, 2) := by decide +kernel
theorem dX11_write_3 : decode cX11_write 3 = .ok (.if_icmp .lt 9, 3) := by decide +kernel
theorem dX11_write_6 : decode cX11_write 6 = .ok (.iload_n 1, 1) := by decide +kernel
theorem dX11_write_7 : decode cX11_write 7 = .ok (.bipush 126, 2) := by decide +kernel
theorem dX11_write_9 : decode cX11_write 9 = .ok (.if_icmp .le 5, 3) := by decide +kernel
theorem dX11_write_12 : decode cX11_write 12 = .ok (.iconst (-1), 1) := by decide +kernel
theorem dX11_write_13 : decode cX11_write 13 = .ok (.ireturn, 1) := by decide +kernel
theorem dX11_write_14 : decode cX11_write 14 = .ok (.aload_n 0, 1) := by decide +kernel
theorem dX11_write_15 : decode cX11_write 15 = .ok (.getfield 10, 3) := by decide +kernel
theorem dX11_write_18 : decode cX11_write 18 = .ok (.iload_n 1, 1) := by decide +kernel
theorem dX11_write_19 : decode cX11_write 19 = .ok (.i2c, 1) := by decide +kernel
theorem dX11_write_20 : decode cX11_write 20 = .ok (.invokevirtual 85, 3) := by decide +kernel
theorem dX11_write_23 : decode cX11_write 23 = .ok (.ifCond .eq 13, 3) := by decide +kernel
theorem dX11_write_26 : decode cX11_write 26 = .ok (.aload_n 0, 1) := by decide +kernel
theorem dX11_write_27 : decode cX11_write 27 = .ok (.getfield 10, 3) := by decide +kernel
theorem dX11_write_30 : decode cX11_write 30 = .ok (.getfield 100, 3) := by decide +kernel
theorem dX11_write_33 : decode cX11_write 33 = .ok (.goto 5, 3) := by decide +kernel
theorem dX11_write_36 : decode cX11_write 36 = .ok (.bipush (-3), 2) := by decide +kernel
theorem dX11_write_38 : decode cX11_write 38 = .ok (.ireturn, 1) := by decide +kernel
theorem dX11_wipe_0 : decode cX11_wipe 0 = .ok (.aload_n 0, 1) := by decide +kernel
theorem dX11_wipe_1 : decode cX11_wipe 1 = .ok (.getfield 10, 3) := by decide +kernel
theorem dX11_wipe_4 : decode cX11_wipe 4 = .ok (.getfield 100, 3) := by decide +kernel
theorem dX11_wipe_7 : decode cX11_wipe 7 = .ok (.istore_n 1, 1) := by decide +kernel
theorem dX11_wipe_8 : decode cX11_wipe 8 = .ok (.aload_n 0, 1) := by decide +kernel
theorem dX11_wipe_9 : decode cX11_wipe 9 = .ok (.getfield 10, 3) := by decide +kernel
theorem dX11_wipe_12 : decode cX11_wipe 12 = .ok (.invokevirtual 97, 3) := by decide +kernel
theorem dX11_wipe_15 : decode cX11_wipe 15 = .ok (.iload_n 1, 1) := by decide +kernel
theorem dX11_wipe_16 : decode cX11_wipe 16 = .ok (.ireturn, 1) := by decide +kernel
theorem dX11_fault_0 : decode cX11_fault 0 = .ok (.aload_n 0, 1) := by decide +kernel
theorem dX11_fault_1 : decode cX11_fault 1 = .ok (.getfield 19, 3) := by decide +kernel
theorem dX11_fault_4 : decode cX11_fault 4 = .ok (.aload_n 0, 1) := by decide +kernel
theorem dX11_fault_5 : decode cX11_fault 5 = .ok (.getfield 10, 3) := by decide +kernel
theorem dX11_fault_8 : decode cX11_fault 8 = .ok (.aload_n 0, 1) := by decide +kernel
theorem dX11_fault_9 : decode cX11_fault 9 = .ok (.getfield 70, 3) := by decide +kernel
theorem dX11_fault_12 : decode cX11_fault 12 = .ok (.invokevirtual 89, 3) := by decide +kernel
theorem dX11_fault_15 : decode cX11_fault 15 = .ok (.ireturn, 1) := by decide +kernel
theorem dX11_lay_0 : decode cX11_lay 0 = .ok (.aload_n 0, 1) := by decide +kernel
theorem dX11_lay_1 : decode cX11_lay 1 = .ok (.getfield 19, 3) := by decide +kernel
theorem dX11_lay_4 : decode cX11_lay 4 = .ok (.aload_n 0, 1) := by decide +kernel
theorem dX11_lay_5 : decode cX11_lay 5 = .ok (.getfield 10, 3) := by decide +kernel
theorem dX11_lay_8 : decode cX11_lay 8 = .ok (.aload_n 0, 1) := by decide +kernel
theorem dX11_lay_9 : decode cX11_lay 9 = .ok (.getfield 70, 3) := by decide +kernel
theorem dX11_lay_12 : decode cX11_lay 12 = .ok (.invokevirtual 89, 3) := by decide +kernel
theorem dX11_lay_15 : decode cX11_lay 15 = .ok (.bipush (-4), 2) := by decide +kernel
theorem dX11_lay_17 : decode cX11_lay 17 = .ok (.if_icmp .ne 14, 3) := by decide +kernel
theorem dX11_lay_20 : decode cX11_lay 20 = .ok (.aload_n 0, 1) := by decide +kernel
theorem dX11_lay_21 : decode cX11_lay 21 = .ok (.getfield 70, 3) := by decide +kernel
theorem dX11_lay_24 : decode cX11_lay 24 = .ok (.getfield 103, 3) := by decide +kernel
theorem dX11_lay_27 : decode cX11_lay 27 = .ok (.iconst 1, 1) := by decide +kernel
theorem dX11_lay_28 : decode cX11_lay 28 = .ok (.if_icmp .ge 6, 3) := by decide +kernel
theorem dX11_lay_31 : decode cX11_lay 31 = .ok (.bipush (-2), 2) := by decide +kernel
theorem dX11_lay_33 : decode cX11_lay 33 = .ok (.ireturn, 1) := by decide +kernel
theorem dX11_lay_34 : decode cX11_lay 34 = .ok (.aload_n 0, 1) := by decide +kernel
theorem dX11_lay_35 : decode cX11_lay 35 = .ok (.getfield 66, 3) := by decide +kernel
theorem dX11_lay_38 : decode cX11_lay 38 = .ok (.astore_n 1, 1) := by decide +kernel
theorem dX11_lay_39 : decode cX11_lay 39 = .ok (.aload_n 0, 1) := by decide +kernel
theorem dX11_lay_40 : decode cX11_lay 40 = .ok (.aload_n 0, 1) := by decide +kernel
theorem dX11_lay_41 : decode cX11_lay 41 = .ok (.getfield 70, 3) := by decide +kernel
theorem dX11_lay_44 : decode cX11_lay 44 = .ok (.putfield 66, 3) := by decide +kernel
theorem dX11_lay_47 : decode cX11_lay 47 = .ok (.aload_n 0, 1) := by decide +kernel
theorem dX11_lay_48 : decode cX11_lay 48 = .ok (.aload_n 1, 1) := by decide +kernel
theorem dX11_lay_49 : decode cX11_lay 49 = .ok (.putfield 70, 3) := by decide +kernel
theorem dX11_lay_52 : decode cX11_lay 52 = .ok (.aload_n 0, 1) := by decide +kernel
theorem dX11_lay_53 : decode cX11_lay 53 = .ok (.getfield 26, 3) := by decide +kernel
theorem dX11_lay_56 : decode cX11_lay 56 = .ok (.aload_n 0, 1) := by decide +kernel
theorem dX11_lay_57 : decode cX11_lay 57 = .ok (.getfield 66, 3) := by decide +kernel
theorem dX11_lay_60 : decode cX11_lay 60 = .ok (.invokevirtual 93, 3) := by decide +kernel
theorem dX11_lay_63 : decode cX11_lay 63 = .ok (.aload_n 0, 1) := by decide +kernel
theorem dX11_lay_64 : decode cX11_lay 64 = .ok (.getfield 38, 3) := by decide +kernel
theorem dX11_lay_67 : decode cX11_lay 67 = .ok (.invokevirtual 106, 3) := by decide +kernel
theorem dX11_lay_70 : decode cX11_lay 70 = .ok (.aload_n 0, 1) := by decide +kernel
theorem dX11_lay_71 : decode cX11_lay 71 = .ok (.getfield 42, 3) := by decide +kernel
theorem dX11_lay_74 : decode cX11_lay 74 = .ok (.invokevirtual 106, 3) := by decide +kernel
theorem dX11_lay_77 : decode cX11_lay 77 = .ok (.aload_n 0, 1) := by decide +kernel
theorem dX11_lay_78 : decode cX11_lay 78 = .ok (.getfield 48, 3) := by decide +kernel
theorem dX11_lay_81 : decode cX11_lay 81 = .ok (.invokevirtual 107, 3) := by decide +kernel
theorem dX11_lay_84 : decode cX11_lay 84 = .ok (.aload_n 0, 1) := by decide +kernel
theorem dX11_lay_85 : decode cX11_lay 85 = .ok (.getfield 66, 3) := by decide +kernel
theorem dX11_lay_88 : decode cX11_lay 88 = .ok (.getfield 103, 3) := by decide +kernel
theorem dX11_lay_91 : decode cX11_lay 91 = .ok (.ireturn, 1) := by decide +kernel
theorem dX11_person_0 : decode cX11_person 0 = .ok (.aload_n 0, 1) := by decide +kernel
theorem dX11_person_1 : decode cX11_person 1 = .ok (.getfield 66, 3) := by decide +kernel
theorem dX11_person_4 : decode cX11_person 4 = .ok (.iload_n 1, 1) := by decide +kernel
theorem dX11_person_5 : decode cX11_person 5 = .ok (.invokevirtual 108, 3) := by decide +kernel
theorem dX11_person_8 : decode cX11_person 8 = .ok (.ifCond .ne 5, 3) := by decide +kernel
theorem dX11_person_11 : decode cX11_person 11 = .ok (.iconst (-1), 1) := by decide +kernel
theorem dX11_person_12 : decode cX11_person 12 = .ok (.ireturn, 1) := by decide +kernel
theorem dX11_person_13 : decode cX11_person 13 = .ok (.iload_n 2, 1) := by decide +kernel
theorem dX11_person_14 : decode cX11_person 14 = .ok (.tableswitch 87 0 4 #[34, 43, 52, 61, 78], 34) := by decide +kernel
theorem dX11_person_48 : decode cX11_person 48 = .ok (.aload_n 0, 1) := by decide +kernel
theorem dX11_person_49 : decode cX11_person 49 = .ok (.getfield 66, 3) := by decide +kernel
theorem dX11_person_52 : decode cX11_person 52 = .ok (.iload_n 1, 1) := by decide +kernel
theorem dX11_person_53 : decode cX11_person 53 = .ok (.invokevirtual 112, 3) := by decide +kernel
theorem dX11_person_56 : decode cX11_person 56 = .ok (.ireturn, 1) := by decide +kernel
theorem dX11_person_57 : decode cX11_person 57 = .ok (.aload_n 0, 1) := by decide +kernel
theorem dX11_person_58 : decode cX11_person 58 = .ok (.getfield 26, 3) := by decide +kernel
theorem dX11_person_61 : decode cX11_person 61 = .ok (.iload_n 1, 1) := by decide +kernel
theorem dX11_person_62 : decode cX11_person 62 = .ok (.invokevirtual 116, 3) := by decide +kernel
theorem dX11_person_65 : decode cX11_person 65 = .ok (.ireturn, 1) := by decide +kernel
theorem dX11_person_66 : decode cX11_person 66 = .ok (.aload_n 0, 1) := by decide +kernel
theorem dX11_person_67 : decode cX11_person 67 = .ok (.getfield 66, 3) := by decide +kernel
theorem dX11_person_70 : decode cX11_person 70 = .ok (.iload_n 1, 1) := by decide +kernel
theorem dX11_person_71 : decode cX11_person 71 = .ok (.invokevirtual 119, 3) := by decide +kernel
theorem dX11_person_74 : decode cX11_person 74 = .ok (.ireturn, 1) := by decide +kernel
theorem dX11_person_75 : decode cX11_person 75 = .ok (.aload_n 0, 1) := by decide +kernel
theorem dX11_person_76 : decode cX11_person 76 = .ok (.getfield 26, 3) := by decide +kernel
theorem dX11_person_79 : decode cX11_person 79 = .ok (.iload_n 1, 1) := by decide +kernel
theorem dX11_person_80 : decode cX11_person 80 = .ok (.invokevirtual 122, 3) := by decide +kernel
theorem dX11_person_83 : decode cX11_person 83 = .ok (.ifCond .eq 7, 3) := by decide +kernel
theorem dX11_person_86 : decode cX11_person 86 = .ok (.iconst 1, 1) := by decide +kernel
theorem dX11_person_87 : decode cX11_person 87 = .ok (.goto 4, 3) := by decide +kernel
theorem dX11_person_90 : decode cX11_person 90 = .ok (.iconst 0, 1) := by decide +kernel
theorem dX11_person_91 : decode cX11_person 91 = .ok (.ireturn, 1) := by decide +kernel
theorem dX11_person_92 : decode cX11_person 92 = .ok (.aload_n 0, 1) := by decide +kernel
theorem dX11_person_93 : decode cX11_person 93 = .ok (.getfield 26, 3) := by decide +kernel
theorem dX11_person_96 : decode cX11_person 96 = .ok (.iload_n 1, 1) := by decide +kernel
theorem dX11_person_97 : decode cX11_person 97 = .ok (.invokevirtual 125, 3) := by decide +kernel
theorem dX11_person_100 : decode cX11_person 100 = .ok (.ireturn, 1) := by decide +kernel
theorem dX11_person_101 : decode cX11_person 101 = .ok (.iconst (-1), 1) := by decide +kernel
theorem dX11_person_102 : decode cX11_person 102 = .ok (.ireturn, 1) := by decide +kernel
theorem dX11_good_0 : decode cX11_good 0 = .ok (.aload_n 0, 1) := by decide +kernel
theorem dX11_good_1 : decode cX11_good 1 = .ok (.getfield 66, 3) := by decide +kernel
theorem dX11_good_4 : decode cX11_good 4 = .ok (.iload_n 1, 1) := by decide +kernel
theorem dX11_good_5 : decode cX11_good 5 = .ok (.invokevirtual 128, 3) := by decide +kernel
theorem dX11_good_8 : decode cX11_good 8 = .ok (.ifCond .ne 5, 3) := by decide +kernel
theorem dX11_good_11 : decode cX11_good 11 = .ok (.iconst (-1), 1) := by decide +kernel
theorem dX11_good_12 : decode cX11_good 12 = .ok (.ireturn, 1) := by decide +kernel
theorem dX11_good_13 : decode cX11_good 13 = .ok (.iload_n 2, 1) := by decide +kernel
theorem dX11_good_14 : decode cX11_good 14 = .ok (.tableswitch 87 0 4 #[34, 43, 52, 61, 70], 34) := by decide +kernel
theorem dX11_good_48 : decode cX11_good 48 = .ok (.aload_n 0, 1) := by decide +kernel
theorem dX11_good_49 : decode cX11_good 49 = .ok (.getfield 66, 3) := by decide +kernel
theorem dX11_good_52 : decode cX11_good 52 = .ok (.iload_n 1, 1) := by decide +kernel
theorem dX11_good_53 : decode cX11_good 53 = .ok (.invokevirtual 131, 3) := by decide +kernel
theorem dX11_good_56 : decode cX11_good 56 = .ok (.ireturn, 1) := by decide +kernel
theorem dX11_good_57 : decode cX11_good 57 = .ok (.aload_n 0, 1) := by decide +kernel
theorem dX11_good_58 : decode cX11_good 58 = .ok (.getfield 26, 3) := by decide +kernel
theorem dX11_good_61 : decode cX11_good 61 = .ok (.iload_n 1, 1) := by decide +kernel
theorem dX11_good_62 : decode cX11_good 62 = .ok (.invokevirtual 134, 3) := by decide +kernel
theorem dX11_good_65 : decode cX11_good 65 = .ok (.ireturn, 1) := by decide +kernel
theorem dX11_good_66 : decode cX11_good 66 = .ok (.aload_n 0, 1) := by decide +kernel
theorem dX11_good_67 : decode cX11_good 67 = .ok (.getfield 66, 3) := by decide +kernel
theorem dX11_good_70 : decode cX11_good 70 = .ok (.iload_n 1, 1) := by decide +kernel
theorem dX11_good_71 : decode cX11_good 71 = .ok (.invokevirtual 137, 3) := by decide +kernel
theorem dX11_good_74 : decode cX11_good 74 = .ok (.ireturn, 1) := by decide +kernel
theorem dX11_good_75 : decode cX11_good 75 = .ok (.aload_n 0, 1) := by decide +kernel
theorem dX11_good_76 : decode cX11_good 76 = .ok (.getfield 66, 3) := by decide +kernel
theorem dX11_good_79 : decode cX11_good 79 = .ok (.iload_n 1, 1) := by decide +kernel
theorem dX11_good_80 : decode cX11_good 80 = .ok (.invokevirtual 140, 3) := by decide +kernel
theorem dX11_good_83 : decode cX11_good 83 = .ok (.ireturn, 1) := by decide +kernel
theorem dX11_good_84 : decode cX11_good 84 = .ok (.aload_n 0, 1) := by decide +kernel
theorem dX11_good_85 : decode cX11_good 85 = .ok (.getfield 26, 3) := by decide +kernel
theorem dX11_good_88 : decode cX11_good 88 = .ok (.iload_n 1, 1) := by decide +kernel
theorem dX11_good_89 : decode cX11_good 89 = .ok (.invokevirtual 143, 3) := by decide +kernel
theorem dX11_good_92 : decode cX11_good 92 = .ok (.ifCond .eq 7, 3) := by decide +kernel
theorem dX11_good_95 : decode cX11_good 95 = .ok (.iconst 1, 1) := by decide +kernel
theorem dX11_good_96 : decode cX11_good 96 = .ok (.goto 4, 3) := by decide +kernel
theorem dX11_good_99 : decode cX11_good 99 = .ok (.iconst 0, 1) := by decide +kernel
theorem dX11_good_100 : decode cX11_good 100 = .ok (.ireturn, 1) := by decide +kernel
theorem dX11_good_101 : decode cX11_good 101 = .ok (.iconst (-1), 1) := by decide +kernel
theorem dX11_good_102 : decode cX11_good 102 = .ok (.ireturn, 1) := by decide +kernel
theorem dX11_love_0 : decode cX11_love 0 = .ok (.aload_n 0, 1) := by decide +kernel
theorem dX11_love_1 : decode cX11_love 1 = .ok (.iload_n 1, 1) := by decide +kernel
theorem dX11_love_2 : decode cX11_love 2 = .ok (.iload_n 2, 1) := by decide +kernel
theorem dX11_love_3 : decode cX11_love 3 = .ok (.invokevirtual 146, 3) := by decide +kernel
theorem dX11_love_6 : decode cX11_love 6 = .ok (.ifCond .eq 15, 3) := by decide +kernel
theorem dX11_love_9 : decode cX11_love 9 = .ok (.aload_n 0, 1) := by decide +kernel
theorem dX11_love_10 : decode cX11_love 10 = .ok (.getfield 66, 3) := by decide +kernel
theorem dX11_love_13 : decode cX11_love 13 = .ok (.iload_n 1, 1) := by decide +kernel
theorem dX11_love_14 : decode cX11_love 14 = .ok (.iload_n 2, 1) := by decide +kernel
theorem dX11_love_15 : decode cX11_love 15 = .ok (.invokevirtual 150, 3) := by decide +kernel
theorem dX11_love_18 : decode cX11_love 18 = .ok (.goto 4, 3) := by decide +kernel
theorem dX11_love_21 : decode cX11_love 21 = .ok (.iconst (-1), 1) := by decide +kernel
theorem dX11_love_22 : decode cX11_love 22 = .ok (.ireturn, 1) := by decide +kernel
theorem dX11_pack_0 : decode cX11_pack 0 = .ok (.aload_n 0, 1) := by decide +kernel
theorem dX11_pack_1 : decode cX11_pack 1 = .ok (.getfield 66, 3) := by decide +kernel
theorem dX11_pack_4 : decode cX11_pack 4 = .ok (.iload_n 1, 1) := by decide +kernel
theorem dX11_pack_5 : decode cX11_pack 5 = .ok (.invokevirtual 128, 3) := by decide +kernel
theorem dX11_pack_8 : decode cX11_pack 8 = .ok (.ifCond .ne 5, 3) := by decide +kernel
theorem dX11_pack_11 : decode cX11_pack 11 = .ok (.iconst (-1), 1) := by decide +kernel
theorem dX11_pack_12 : decode cX11_pack 12 = .ok (.ireturn, 1) := by decide +kernel
theorem dX11_pack_13 : decode cX11_pack 13 = .ok (.aload_n 0, 1) := by decide +kernel
theorem dX11_pack_14 : decode cX11_pack 14 = .ok (.getfield 26, 3) := by decide +kernel
theorem dX11_pack_17 : decode cX11_pack 17 = .ok (.iload_n 1, 1) := by decide +kernel
theorem dX11_pack_18 : decode cX11_pack 18 = .ok (.invokevirtual 134, 3) := by decide +kernel
theorem dX11_pack_21 : decode cX11_pack 21 = .ok (.istore_n 3, 1) := by decide +kernel
theorem dX11_pack_22 : decode cX11_pack 22 = .ok (.aload_n 0, 1) := by decide +kernel
theorem dX11_pack_23 : decode cX11_pack 23 = .ok (.getfield 26, 3) := by decide +kernel
theorem dX11_pack_26 : decode cX11_pack 26 = .ok (.iload_n 3, 1) := by decide +kernel
theorem dX11_pack_27 : decode cX11_pack 27 = .ok (.invokevirtual 122, 3) := by decide +kernel
theorem dX11_pack_30 : decode cX11_pack 30 = .ok (.ifCond .eq 27, 3) := by decide +kernel
theorem dX11_pack_33 : decode cX11_pack 33 = .ok (.aload_n 0, 1) := by decide +kernel
theorem dX11_pack_34 : decode cX11_pack 34 = .ok (.getfield 26, 3) := by decide +kernel
theorem dX11_pack_37 : decode cX11_pack 37 = .ok (.iload_n 1, 1) := by decide +kernel
theorem dX11_pack_38 : decode cX11_pack 38 = .ok (.invokevirtual 143, 3) := by decide +kernel
theorem dX11_pack_41 : decode cX11_pack 41 = .ok (.iload_n 2, 1) := by decide +kernel
theorem dX11_pack_42 : decode cX11_pack 42 = .ok (.if_icmp .eq 15, 3) := by decide +kernel
theorem dX11_pack_45 : decode cX11_pack 45 = .ok (.aload_n 0, 1) := by decide +kernel
theorem dX11_pack_46 : decode cX11_pack 46 = .ok (.getfield 66, 3) := by decide +kernel
theorem dX11_pack_49 : decode cX11_pack 49 = .ok (.iload_n 1, 1) := by decide +kernel
theorem dX11_pack_50 : decode cX11_pack 50 = .ok (.invokevirtual 131, 3) := by decide +kernel
theorem dX11_pack_53 : decode cX11_pack 53 = .ok (.iconst 2, 1) := by decide +kernel
theorem dX11_pack_54 : decode cX11_pack 54 = .ok (.if_icmp .ne 6, 3) := by decide +kernel
theorem dX11_pack_57 : decode cX11_pack 57 = .ok (.bipush (-2), 2) := by decide +kernel
theorem dX11_pack_59 : decode cX11_pack 59 = .ok (.ireturn, 1) := by decide +kernel
theorem dX11_pack_60 : decode cX11_pack 60 = .ok (.aload_n 0, 1) := by decide +kernel
theorem dX11_pack_61 : decode cX11_pack 61 = .ok (.getfield 66, 3) := by decide +kernel
theorem dX11_pack_64 : decode cX11_pack 64 = .ok (.aload_n 0, 1) := by decide +kernel
theorem dX11_pack_65 : decode cX11_pack 65 = .ok (.getfield 26, 3) := by decide +kernel
theorem dX11_pack_68 : decode cX11_pack 68 = .ok (.iload_n 3, 1) := by decide +kernel
theorem dX11_pack_69 : decode cX11_pack 69 = .ok (.invokevirtual 154, 3) := by decide +kernel
theorem dX11_pack_72 : decode cX11_pack 72 = .ok (.aload_n 0, 1) := by decide +kernel
theorem dX11_pack_73 : decode cX11_pack 73 = .ok (.getfield 26, 3) := by decide +kernel
theorem dX11_pack_76 : decode cX11_pack 76 = .ok (.getfield 157, 3) := by decide +kernel
theorem dX11_pack_79 : decode cX11_pack 79 = .ok (.iand, 1) := by decide +kernel
theorem dX11_pack_80 : decode cX11_pack 80 = .ok (.invokestatic 160, 3) := by decide +kernel
theorem dX11_pack_83 : decode cX11_pack 83 = .ok (.istore 4, 2) := by decide +kernel
theorem dX11_pack_85 : decode cX11_pack 85 = .ok (.iload_n 2, 1) := by decide +kernel
theorem dX11_pack_86 : decode cX11_pack 86 = .ok (.ifCond .eq 17, 3) := by decide +kernel
theorem dX11_pack_89 : decode cX11_pack 89 = .ok (.iload 4, 2) := by decide +kernel
theorem dX11_pack_91 : decode cX11_pack 91 = .ok (.aload_n 0, 1) := by decide +kernel
theorem dX11_pack_92 : decode cX11_pack 92 = .ok (.getfield 66, 3) := by decide +kernel
theorem dX11_pack_95 : decode cX11_pack 95 = .ok (.iload_n 1, 1) := by decide +kernel
theorem dX11_pack_96 : decode cX11_pack 96 = .ok (.invokevirtual 140, 3) := by decide +kernel
theorem dX11_pack_99 : decode cX11_pack 99 = .ok (.iadd, 1) := by decide +kernel
theorem dX11_pack_100 : decode cX11_pack 100 = .ok (.goto 14, 3) := by decide +kernel
theorem dX11_pack_103 : decode cX11_pack 103 = .ok (.iload 4, 2) := by decide +kernel
theorem dX11_pack_105 : decode cX11_pack 105 = .ok (.aload_n 0, 1) := by decide +kernel
theorem dX11_pack_106 : decode cX11_pack 106 = .ok (.getfield 66, 3) := by decide +kernel
theorem dX11_pack_109 : decode cX11_pack 109 = .ok (.iload_n 1, 1) := by decide +kernel
theorem dX11_pack_110 : decode cX11_pack 110 = .ok (.invokevirtual 140, 3) := by decide +kernel
theorem dX11_pack_113 : decode cX11_pack 113 = .ok (.isub, 1) := by decide +kernel
theorem dX11_pack_114 : decode cX11_pack 114 = .ok (.istore 5, 2) := by decide +kernel
theorem dX11_pack_116 : decode cX11_pack 116 = .ok (.iload_n 2, 1) := by decide +kernel
theorem dX11_pack_117 : decode cX11_pack 117 = .ok (.ifCond .eq 19, 3) := by decide +kernel
theorem dX11_pack_120 : decode cX11_pack 120 = .ok (.iload 5, 2) := by decide +kernel
theorem dX11_pack_122 : decode cX11_pack 122 = .ok (.aload_n 0, 1) := by decide +kernel
theorem dX11_pack_123 : decode cX11_pack 123 = .ok (.getfield 66, 3) := by decide +kernel
theorem dX11_pack_126 : decode cX11_pack 126 = .ok (.iload_n 3, 1) := by decide +kernel
theorem dX11_pack_127 : decode cX11_pack 127 = .ok (.invokevirtual 119, 3) := by decide +kernel
theorem dX11_pack_130 : decode cX11_pack 130 = .ok (.if_icmp .le 6, 3) := by decide +kernel
theorem dX11_pack_133 : decode cX11_pack 133 = .ok (.bipush (-2), 2) := by decide +kernel
theorem dX11_pack_135 : decode cX11_pack 135 = .ok (.ireturn, 1) := by decide +kernel
theorem dX11_pack_136 : decode cX11_pack 136 = .ok (.aload_n 0, 1) := by decide +kernel
theorem dX11_pack_137 : decode cX11_pack 137 = .ok (.getfield 38, 3) := by decide +kernel
theorem dX11_pack_140 : decode cX11_pack 140 = .ok (.aload_n 0, 1) := by decide +kernel
theorem dX11_pack_141 : decode cX11_pack 141 = .ok (.getfield 26, 3) := by decide +kernel
theorem dX11_pack_144 : decode cX11_pack 144 = .ok (.invokevirtual 166, 3) := by decide +kernel
theorem dX11_pack_147 : decode cX11_pack 147 = .ok (.aload_n 0, 1) := by decide +kernel
theorem dX11_pack_148 : decode cX11_pack 148 = .ok (.getfield 26, 3) := by decide +kernel
theorem dX11_pack_151 : decode cX11_pack 151 = .ok (.iload_n 1, 1) := by decide +kernel
theorem dX11_pack_152 : decode cX11_pack 152 = .ok (.iload_n 2, 1) := by decide +kernel
theorem dX11_pack_153 : decode cX11_pack 153 = .ok (.invokevirtual 170, 3) := by decide +kernel
theorem dX11_pack_156 : decode cX11_pack 156 = .ok (.iload 5, 2) := by decide +kernel
theorem dX11_pack_158 : decode cX11_pack 158 = .ok (.ireturn, 1) := by decide +kernel
theorem dX11_give_0 : decode cX11_give 0 = .ok (.aload_n 0, 1) := by decide +kernel
theorem dX11_give_1 : decode cX11_give 1 = .ok (.getfield 66, 3) := by decide +kernel
theorem dX11_give_4 : decode cX11_give 4 = .ok (.iload_n 1, 1) := by decide +kernel
theorem dX11_give_5 : decode cX11_give 5 = .ok (.invokevirtual 128, 3) := by decide +kernel
theorem dX11_give_8 : decode cX11_give 8 = .ok (.ifCond .eq 14, 3) := by decide +kernel
theorem dX11_give_11 : decode cX11_give 11 = .ok (.aload_n 0, 1) := by decide +kernel
theorem dX11_give_12 : decode cX11_give 12 = .ok (.getfield 66, 3) := by decide +kernel
theorem dX11_give_15 : decode cX11_give 15 = .ok (.iload_n 2, 1) := by decide +kernel
theorem dX11_give_16 : decode cX11_give 16 = .ok (.invokevirtual 108, 3) := by decide +kernel
theorem dX11_give_19 : decode cX11_give 19 = .ok (.ifCond .ne 5, 3) := by decide +kernel
theorem dX11_give_22 : decode cX11_give 22 = .ok (.iconst (-1), 1) := by decide +kernel
theorem dX11_give_23 : decode cX11_give 23 = .ok (.ireturn, 1) := by decide +kernel
theorem dX11_give_24 : decode cX11_give 24 = .ok (.aload_n 0, 1) := by decide +kernel
theorem dX11_give_25 : decode cX11_give 25 = .ok (.getfield 26, 3) := by decide +kernel
theorem dX11_give_28 : decode cX11_give 28 = .ok (.iload_n 1, 1) := by decide +kernel
theorem dX11_give_29 : decode cX11_give 29 = .ok (.invokevirtual 134, 3) := by decide +kernel
theorem dX11_give_32 : decode cX11_give 32 = .ok (.istore_n 3, 1) := by decide +kernel
theorem dX11_give_33 : decode cX11_give 33 = .ok (.iload_n 3, 1) := by decide +kernel
theorem dX11_give_34 : decode cX11_give 34 = .ok (.iload_n 2, 1) := by decide +kernel
theorem dX11_give_35 : decode cX11_give 35 = .ok (.if_icmp .eq 25, 3) := by decide +kernel
theorem dX11_give_38 : decode cX11_give 38 = .ok (.aload_n 0, 1) := by decide +kernel
theorem dX11_give_39 : decode cX11_give 39 = .ok (.getfield 26, 3) := by decide +kernel
theorem dX11_give_42 : decode cX11_give 42 = .ok (.iload_n 3, 1) := by decide +kernel
theorem dX11_give_43 : decode cX11_give 43 = .ok (.invokevirtual 122, 3) := by decide +kernel
theorem dX11_give_46 : decode cX11_give 46 = .ok (.ifCond .eq 14, 3) := by decide +kernel
theorem dX11_give_49 : decode cX11_give 49 = .ok (.aload_n 0, 1) := by decide +kernel
theorem dX11_give_50 : decode cX11_give 50 = .ok (.getfield 26, 3) := by decide +kernel
theorem dX11_give_53 : decode cX11_give 53 = .ok (.iload_n 2, 1) := by decide +kernel
theorem dX11_give_54 : decode cX11_give 54 = .ok (.invokevirtual 122, 3) := by decide +kernel
theorem dX11_give_57 : decode cX11_give 57 = .ok (.ifCond .ne 6, 3) := by decide +kernel
theorem dX11_give_60 : decode cX11_give 60 = .ok (.bipush (-2), 2) := by decide +kernel
theorem dX11_give_62 : decode cX11_give 62 = .ok (.ireturn, 1) := by decide +kernel
theorem dX11_give_63 : decode cX11_give 63 = .ok (.aload_n 0, 1) := by decide +kernel
theorem dX11_give_64 : decode cX11_give 64 = .ok (.getfield 38, 3) := by decide +kernel
theorem dX11_give_67 : decode cX11_give 67 = .ok (.aload_n 0, 1) := by decide +kernel
theorem dX11_give_68 : decode cX11_give 68 = .ok (.getfield 26, 3) := by decide +kernel
theorem dX11_give_71 : decode cX11_give 71 = .ok (.invokevirtual 166, 3) := by decide +kernel
theorem dX11_give_74 : decode cX11_give 74 = .ok (.aload_n 0, 1) := by decide +kernel
theorem dX11_give_75 : decode cX11_give 75 = .ok (.getfield 26, 3) := by decide +kernel
theorem dX11_give_78 : decode cX11_give 78 = .ok (.iload_n 1, 1) := by decide +kernel
theorem dX11_give_79 : decode cX11_give 79 = .ok (.iload_n 2, 1) := by decide +kernel
theorem dX11_give_80 : decode cX11_give 80 = .ok (.invokevirtual 174, 3) := by decide +kernel
theorem dX11_give_83 : decode cX11_give 83 = .ok (.iload_n 3, 1) := by decide +kernel
theorem dX11_give_84 : decode cX11_give 84 = .ok (.ireturn, 1) := by decide +kernel
theorem dX11_leave_0 : decode cX11_leave 0 = .ok (.aload_n 0, 1) := by decide +kernel
theorem dX11_leave_1 : decode cX11_leave 1 = .ok (.getfield 66, 3) := by decide +kernel
theorem dX11_leave_4 : decode cX11_leave 4 = .ok (.iload_n 1, 1) := by decide +kernel
theorem dX11_leave_5 : decode cX11_leave 5 = .ok (.invokevirtual 108, 3) := by decide +kernel
theorem dX11_leave_8 : decode cX11_leave 8 = .ok (.ifCond .ne 5, 3) := by decide +kernel
theorem dX11_leave_11 : decode cX11_leave 11 = .ok (.iconst (-1), 1) := by decide +kernel
theorem dX11_leave_12 : decode cX11_leave 12 = .ok (.ireturn, 1) := by decide +kernel
theorem dX11_leave_13 : decode cX11_leave 13 = .ok (.aload_n 0, 1) := by decide +kernel
theorem dX11_leave_14 : decode cX11_leave 14 = .ok (.getfield 66, 3) := by decide +kernel
theorem dX11_leave_17 : decode cX11_leave 17 = .ok (.aload_n 0, 1) := by decide +kernel
theorem dX11_leave_18 : decode cX11_leave 18 = .ok (.getfield 26, 3) := by decide +kernel
theorem dX11_leave_21 : decode cX11_leave 21 = .ok (.iload_n 1, 1) := by decide +kernel
theorem dX11_leave_22 : decode cX11_leave 22 = .ok (.invokestatic 178, 3) := by decide +kernel
theorem dX11_leave_25 : decode cX11_leave 25 = .ok (.istore_n 2, 1) := by decide +kernel
theorem dX11_leave_26 : decode cX11_leave 26 = .ok (.iload_n 2, 1) := by decide +kernel
theorem dX11_leave_27 : decode cX11_leave 27 = .ok (.ifCond .ge 6, 3) := by decide +kernel
theorem dX11_leave_30 : decode cX11_leave 30 = .ok (.bipush (-2), 2) := by decide +kernel
theorem dX11_leave_32 : decode cX11_leave 32 = .ok (.ireturn, 1) := by decide +kernel
theorem dX11_leave_33 : decode cX11_leave 33 = .ok (.aload_n 0, 1) := by decide +kernel
theorem dX11_leave_34 : decode cX11_leave 34 = .ok (.getfield 38, 3) := by decide +kernel
theorem dX11_leave_37 : decode cX11_leave 37 = .ok (.aload_n 0, 1) := by decide +kernel
theorem dX11_leave_38 : decode cX11_leave 38 = .ok (.getfield 26, 3) := by decide +kernel
theorem dX11_leave_41 : decode cX11_leave 41 = .ok (.invokevirtual 166, 3) := by decide +kernel
theorem dX11_leave_44 : decode cX11_leave 44 = .ok (.aload_n 0, 1) := by decide +kernel
theorem dX11_leave_45 : decode cX11_leave 45 = .ok (.getfield 26, 3) := by decide +kernel
theorem dX11_leave_48 : decode cX11_leave 48 = .ok (.iload_n 1, 1) := by decide +kernel
theorem dX11_leave_49 : decode cX11_leave 49 = .ok (.iload_n 2, 1) := by decide +kernel
theorem dX11_leave_50 : decode cX11_leave 50 = .ok (.invokestatic 184, 3) := by decide +kernel
theorem dX11_leave_53 : decode cX11_leave 53 = .ok (.iload_n 2, 1) := by decide +kernel
theorem dX11_leave_54 : decode cX11_leave 54 = .ok (.ireturn, 1) := by decide +kernel
theorem dX11_leaveBoth_0 : decode cX11_leaveBoth 0 = .ok (.aload_n 0, 1) := by decide +kernel
theorem dX11_leaveBoth_1 : decode cX11_leaveBoth 1 = .ok (.iload_n 1, 1) := by decide +kernel
theorem dX11_leaveBoth_2 : decode cX11_leaveBoth 2 = .ok (.iload_n 2, 1) := by decide +kernel
theorem dX11_leaveBoth_3 : decode cX11_leaveBoth 3 = .ok (.invokevirtual 146, 3) := by decide +kernel
theorem dX11_leaveBoth_6 : decode cX11_leaveBoth 6 = .ok (.ifCond .ne 5, 3) := by decide +kernel
theorem dX11_leaveBoth_9 : decode cX11_leaveBoth 9 = .ok (.iconst (-1), 1) := by decide +kernel
theorem dX11_leaveBoth_10 : decode cX11_leaveBoth 10 = .ok (.ireturn, 1) := by decide +kernel
theorem dX11_leaveBoth_11 : decode cX11_leaveBoth 11 = .ok (.aload_n 0, 1) := by decide +kernel
theorem dX11_leaveBoth_12 : decode cX11_leaveBoth 12 = .ok (.iload_n 1, 1) := by decide +kernel
theorem dX11_leaveBoth_13 : decode cX11_leaveBoth 13 = .ok (.iload_n 2, 1) := by decide +kernel
theorem dX11_leaveBoth_14 : decode cX11_leaveBoth 14 = .ok (.invokevirtual 188, 3) := by decide +kernel
theorem dX11_leaveBoth_17 : decode cX11_leaveBoth 17 = .ok (.ifCond .ne 6, 3) := by decide +kernel
theorem dX11_leaveBoth_20 : decode cX11_leaveBoth 20 = .ok (.bipush (-2), 2) := by decide +kernel
theorem dX11_leaveBoth_22 : decode cX11_leaveBoth 22 = .ok (.ireturn, 1) := by decide +kernel
theorem dX11_leaveBoth_23 : decode cX11_leaveBoth 23 = .ok (.aload_n 0, 1) := by decide +kernel
theorem dX11_leaveBoth_24 : decode cX11_leaveBoth 24 = .ok (.getfield 66, 3) := by decide +kernel
theorem dX11_leaveBoth_27 : decode cX11_leaveBoth 27 = .ok (.aload_n 0, 1) := by decide +kernel
theorem dX11_leaveBoth_28 : decode cX11_leaveBoth 28 = .ok (.getfield 26, 3) := by decide +kernel
theorem dX11_leaveBoth_31 : decode cX11_leaveBoth 31 = .ok (.iload_n 1, 1) := by decide +kernel
theorem dX11_leaveBoth_32 : decode cX11_leaveBoth 32 = .ok (.iload_n 2, 1) := by decide +kernel
theorem dX11_leaveBoth_33 : decode cX11_leaveBoth 33 = .ok (.invokestatic 191, 3) := by decide +kernel
theorem dX11_leaveBoth_36 : decode cX11_leaveBoth 36 = .ok (.istore_n 3, 1) := by decide +kernel
theorem dX11_leaveBoth_37 : decode cX11_leaveBoth 37 = .ok (.aload_n 0, 1) := by decide +kernel
theorem dX11_leaveBoth_38 : decode cX11_leaveBoth 38 = .ok (.getfield 66, 3) := by decide +kernel
theorem dX11_leaveBoth_41 : decode cX11_leaveBoth 41 = .ok (.aload_n 0, 1) := by decide +kernel
theorem dX11_leaveBoth_42 : decode cX11_leaveBoth 42 = .ok (.getfield 26, 3) := by decide +kernel
theorem dX11_leaveBoth_45 : decode cX11_leaveBoth 45 = .ok (.iload_n 2, 1) := by decide +kernel
theorem dX11_leaveBoth_46 : decode cX11_leaveBoth 46 = .ok (.iload_n 1, 1) := by decide +kernel
theorem dX11_leaveBoth_47 : decode cX11_leaveBoth 47 = .ok (.invokestatic 191, 3) := by decide +kernel
theorem dX11_leaveBoth_50 : decode cX11_leaveBoth 50 = .ok (.istore 4, 2) := by decide +kernel
theorem dX11_leaveBoth_52 : decode cX11_leaveBoth 52 = .ok (.aload_n 0, 1) := by decide +kernel
theorem dX11_leaveBoth_53 : decode cX11_leaveBoth 53 = .ok (.getfield 26, 3) := by decide +kernel
theorem dX11_leaveBoth_56 : decode cX11_leaveBoth 56 = .ok (.getfield 195, 3) := by decide +kernel
theorem dX11_leaveBoth_59 : decode cX11_leaveBoth 59 = .ok (.iconst 1, 1) := by decide +kernel
theorem dX11_leaveBoth_60 : decode cX11_leaveBoth 60 = .ok (.iload_n 1, 1) := by decide +kernel
theorem dX11_leaveBoth_61 : decode cX11_leaveBoth 61 = .ok (.ishl, 1) := by decide +kernel
theorem dX11_leaveBoth_62 : decode cX11_leaveBoth 62 = .ok (.iconst (-1), 1) := by decide +kernel
theorem dX11_leaveBoth_63 : decode cX11_leaveBoth 63 = .ok (.ixor, 1) := by decide +kernel
theorem dX11_leaveBoth_64 : decode cX11_leaveBoth 64 = .ok (.iand, 1) := by decide +kernel
theorem dX11_leaveBoth_65 : decode cX11_leaveBoth 65 = .ok (.iconst 1, 1) := by decide +kernel
theorem dX11_leaveBoth_66 : decode cX11_leaveBoth 66 = .ok (.iload_n 2, 1) := by decide +kernel
theorem dX11_leaveBoth_67 : decode cX11_leaveBoth 67 = .ok (.ishl, 1) := by decide +kernel
theorem dX11_leaveBoth_68 : decode cX11_leaveBoth 68 = .ok (.iconst (-1), 1) := by decide +kernel
theorem dX11_leaveBoth_69 : decode cX11_leaveBoth 69 = .ok (.ixor, 1) := by decide +kernel
theorem dX11_leaveBoth_70 : decode cX11_leaveBoth 70 = .ok (.iand, 1) := by decide +kernel
theorem dX11_leaveBoth_71 : decode cX11_leaveBoth 71 = .ok (.istore 5, 2) := by decide +kernel
theorem dX11_leaveBoth_73 : decode cX11_leaveBoth 73 = .ok (.iload_n 3, 1) := by decide +kernel
theorem dX11_leaveBoth_74 : decode cX11_leaveBoth 74 = .ok (.aload_n 0, 1) := by decide +kernel
theorem dX11_leaveBoth_75 : decode cX11_leaveBoth 75 = .ok (.getfield 26, 3) := by decide +kernel
theorem dX11_leaveBoth_78 : decode cX11_leaveBoth 78 = .ok (.iload_n 1, 1) := by decide +kernel
theorem dX11_leaveBoth_79 : decode cX11_leaveBoth 79 = .ok (.invokevirtual 116, 3) := by decide +kernel
theorem dX11_leaveBoth_82 : decode cX11_leaveBoth 82 = .ok (.if_icmp .gt 28, 3) := by decide +kernel
theorem dX11_leaveBoth_85 : decode cX11_leaveBoth 85 = .ok (.iload 4, 2) := by decide +kernel
theorem dX11_leaveBoth_87 : decode cX11_leaveBoth 87 = .ok (.aload_n 0, 1) := by decide +kernel
theorem dX11_leaveBoth_88 : decode cX11_leaveBoth 88 = .ok (.getfield 26, 3) := by decide +kernel
theorem dX11_leaveBoth_91 : decode cX11_leaveBoth 91 = .ok (.iload_n 2, 1) := by decide +kernel
theorem dX11_leaveBoth_92 : decode cX11_leaveBoth 92 = .ok (.invokevirtual 116, 3) := by decide +kernel
theorem dX11_leaveBoth_95 : decode cX11_leaveBoth 95 = .ok (.if_icmp .gt 15, 3) := by decide +kernel
theorem dX11_leaveBoth_98 : decode cX11_leaveBoth 98 = .ok (.aload_n 0, 1) := by decide +kernel
theorem dX11_leaveBoth_99 : decode cX11_leaveBoth 99 = .ok (.getfield 66, 3) := by decide +kernel
theorem dX11_leaveBoth_102 : decode cX11_leaveBoth 102 = .ok (.iload 5, 2) := by decide +kernel
theorem dX11_leaveBoth_104 : decode cX11_leaveBoth 104 = .ok (.invokevirtual 198, 3) := by decide +kernel
theorem dX11_leaveBoth_107 : decode cX11_leaveBoth 107 = .ok (.ifCond .eq 6, 3) := by decide +kernel
theorem dX11_leaveBoth_110 : decode cX11_leaveBoth 110 = .ok (.bipush (-2), 2) := by decide +kernel
theorem dX11_leaveBoth_112 : decode cX11_leaveBoth 112 = .ok (.ireturn, 1) := by decide +kernel
theorem dX11_leaveBoth_113 : decode cX11_leaveBoth 113 = .ok (.aload_n 0, 1) := by decide +kernel
theorem dX11_leaveBoth_114 : decode cX11_leaveBoth 114 = .ok (.getfield 38, 3) := by decide +kernel
theorem dX11_leaveBoth_117 : decode cX11_leaveBoth 117 = .ok (.aload_n 0, 1) := by decide +kernel
theorem dX11_leaveBoth_118 : decode cX11_leaveBoth 118 = .ok (.getfield 26, 3) := by decide +kernel
theorem dX11_leaveBoth_121 : decode cX11_leaveBoth 121 = .ok (.invokevirtual 166, 3) := by decide +kernel
theorem dX11_leaveBoth_124 : decode cX11_leaveBoth 124 = .ok (.aload_n 0, 1) := by decide +kernel
theorem dX11_leaveBoth_125 : decode cX11_leaveBoth 125 = .ok (.getfield 26, 3) := by decide +kernel
theorem dX11_leaveBoth_128 : decode cX11_leaveBoth 128 = .ok (.iload_n 1, 1) := by decide +kernel
theorem dX11_leaveBoth_129 : decode cX11_leaveBoth 129 = .ok (.iload_n 3, 1) := by decide +kernel
theorem dX11_leaveBoth_130 : decode cX11_leaveBoth 130 = .ok (.invokestatic 184, 3) := by decide +kernel
theorem dX11_leaveBoth_133 : decode cX11_leaveBoth 133 = .ok (.aload_n 0, 1) := by decide +kernel
theorem dX11_leaveBoth_134 : decode cX11_leaveBoth 134 = .ok (.getfield 26, 3) := by decide +kernel
theorem dX11_leaveBoth_137 : decode cX11_leaveBoth 137 = .ok (.iload_n 2, 1) := by decide +kernel
theorem dX11_leaveBoth_138 : decode cX11_leaveBoth 138 = .ok (.iload 4, 2) := by decide +kernel
theorem dX11_leaveBoth_140 : decode cX11_leaveBoth 140 = .ok (.invokestatic 184, 3) := by decide +kernel
theorem dX11_leaveBoth_143 : decode cX11_leaveBoth 143 = .ok (.iload_n 3, 1) := by decide +kernel
theorem dX11_leaveBoth_144 : decode cX11_leaveBoth 144 = .ok (.iload 4, 2) := by decide +kernel
theorem dX11_leaveBoth_146 : decode cX11_leaveBoth 146 = .ok (.iadd, 1) := by decide +kernel
theorem dX11_leaveBoth_147 : decode cX11_leaveBoth 147 = .ok (.ireturn, 1) := by decide +kernel
theorem dX11_comeBack_0 : decode cX11_comeBack 0 = .ok (.aload_n 0, 1) := by decide +kernel
theorem dX11_comeBack_1 : decode cX11_comeBack 1 = .ok (.getfield 66, 3) := by decide +kernel
theorem dX11_comeBack_4 : decode cX11_comeBack 4 = .ok (.iload_n 1, 1) := by decide +kernel
theorem dX11_comeBack_5 : decode cX11_comeBack 5 = .ok (.invokevirtual 108, 3) := by decide +kernel
theorem dX11_comeBack_8 : decode cX11_comeBack 8 = .ok (.ifCond .ne 5, 3) := by decide +kernel
theorem dX11_comeBack_11 : decode cX11_comeBack 11 = .ok (.iconst (-1), 1) := by decide +kernel
theorem dX11_comeBack_12 : decode cX11_comeBack 12 = .ok (.ireturn, 1) := by decide +kernel
theorem dX11_comeBack_13 : decode cX11_comeBack 13 = .ok (.aload_n 0, 1) := by decide +kernel
theorem dX11_comeBack_14 : decode cX11_comeBack 14 = .ok (.getfield 66, 3) := by decide +kernel
theorem dX11_comeBack_17 : decode cX11_comeBack 17 = .ok (.aload_n 0, 1) := by decide +kernel
theorem dX11_comeBack_18 : decode cX11_comeBack 18 = .ok (.getfield 26, 3) := by decide +kernel
theorem dX11_comeBack_21 : decode cX11_comeBack 21 = .ok (.iload_n 1, 1) := by decide +kernel
theorem dX11_comeBack_22 : decode cX11_comeBack 22 = .ok (.invokestatic 201, 3) := by decide +kernel
theorem dX11_comeBack_25 : decode cX11_comeBack 25 = .ok (.istore_n 2, 1) := by decide +kernel
theorem dX11_comeBack_26 : decode cX11_comeBack 26 = .ok (.iload_n 2, 1) := by decide +kernel
theorem dX11_comeBack_27 : decode cX11_comeBack 27 = .ok (.ifCond .ge 6, 3) := by decide +kernel
theorem dX11_comeBack_30 : decode cX11_comeBack 30 = .ok (.bipush (-2), 2) := by decide +kernel
theorem dX11_comeBack_32 : decode cX11_comeBack 32 = .ok (.ireturn, 1) := by decide +kernel
theorem dX11_comeBack_33 : decode cX11_comeBack 33 = .ok (.aload_n 0, 1) := by decide +kernel
theorem dX11_comeBack_34 : decode cX11_comeBack 34 = .ok (.getfield 38, 3) := by decide +kernel
theorem dX11_comeBack_37 : decode cX11_comeBack 37 = .ok (.aload_n 0, 1) := by decide +kernel
theorem dX11_comeBack_38 : decode cX11_comeBack 38 = .ok (.getfield 26, 3) := by decide +kernel
theorem dX11_comeBack_41 : decode cX11_comeBack 41 = .ok (.invokevirtual 166, 3) := by decide +kernel
theorem dX11_comeBack_44 : decode cX11_comeBack 44 = .ok (.aload_n 0, 1) := by decide +kernel
theorem dX11_comeBack_45 : decode cX11_comeBack 45 = .ok (.getfield 26, 3) := by decide +kernel
theorem dX11_comeBack_48 : decode cX11_comeBack 48 = .ok (.iload_n 1, 1) := by decide +kernel
theorem dX11_comeBack_49 : decode cX11_comeBack 49 = .ok (.iload_n 2, 1) := by decide +kernel
theorem dX11_comeBack_50 : decode cX11_comeBack 50 = .ok (.invokestatic 204, 3) := by decide +kernel
theorem dX11_comeBack_53 : decode cX11_comeBack 53 = .ok (.iload_n 2, 1) := by decide +kernel
theorem dX11_comeBack_54 : decode cX11_comeBack 54 = .ok (.ireturn, 1) := by decide +kernel
theorem dX11_undo_0 : decode cX11_undo 0 = .ok (.aload_n 0, 1) := by decide +kernel
theorem dX11_undo_1 : decode cX11_undo 1 = .ok (.getfield 38, 3) := by decide +kernel
theorem dX11_undo_4 : decode cX11_undo 4 = .ok (.aload_n 0, 1) := by decide +kernel
theorem dX11_undo_5 : decode cX11_undo 5 = .ok (.getfield 26, 3) := by decide +kernel
theorem dX11_undo_8 : decode cX11_undo 8 = .ok (.invokevirtual 207, 3) := by decide +kernel
theorem dX11_undo_11 : decode cX11_undo 11 = .ok (.ifCond .eq 13, 3) := by decide +kernel
theorem dX11_undo_14 : decode cX11_undo 14 = .ok (.aload_n 0, 1) := by decide +kernel
theorem dX11_undo_15 : decode cX11_undo 15 = .ok (.getfield 38, 3) := by decide +kernel
theorem dX11_undo_18 : decode cX11_undo 18 = .ok (.getfield 211, 3) := by decide +kernel
theorem dX11_undo_21 : decode cX11_undo 21 = .ok (.goto 5, 3) := by decide +kernel
theorem dX11_undo_24 : decode cX11_undo 24 = .ok (.bipush (-2), 2) := by decide +kernel
theorem dX11_undo_26 : decode cX11_undo 26 = .ok (.ireturn, 1) := by decide +kernel
theorem dX11_owes_0 : decode cX11_owes 0 = .ok (.aload_n 0, 1) := by decide +kernel
theorem dX11_owes_1 : decode cX11_owes 1 = .ok (.getfield 66, 3) := by decide +kernel
theorem dX11_owes_4 : decode cX11_owes 4 = .ok (.iload_n 1, 1) := by decide +kernel
theorem dX11_owes_5 : decode cX11_owes 5 = .ok (.invokevirtual 108, 3) := by decide +kernel
theorem dX11_owes_8 : decode cX11_owes 8 = .ok (.ifCond .ne 5, 3) := by decide +kernel
theorem dX11_owes_11 : decode cX11_owes 11 = .ok (.iconst (-1), 1) := by decide +kernel
theorem dX11_owes_12 : decode cX11_owes 12 = .ok (.ireturn, 1) := by decide +kernel
theorem dX11_owes_13 : decode cX11_owes 13 = .ok (.aload_n 0, 1) := by decide +kernel
theorem dX11_owes_14 : decode cX11_owes 14 = .ok (.getfield 26, 3) := by decide +kernel
theorem dX11_owes_17 : decode cX11_owes 17 = .ok (.iload_n 1, 1) := by decide +kernel
theorem dX11_owes_18 : decode cX11_owes 18 = .ok (.invokevirtual 122, 3) := by decide +kernel
theorem dX11_owes_21 : decode cX11_owes 21 = .ok (.ifCond .eq 18, 3) := by decide +kernel
theorem dX11_owes_24 : decode cX11_owes 24 = .ok (.aload_n 0, 1) := by decide +kernel
theorem dX11_owes_25 : decode cX11_owes 25 = .ok (.getfield 66, 3) := by decide +kernel
theorem dX11_owes_28 : decode cX11_owes 28 = .ok (.aload_n 0, 1) := by decide +kernel
theorem dX11_owes_29 : decode cX11_owes 29 = .ok (.getfield 26, 3) := by decide +kernel
theorem dX11_owes_32 : decode cX11_owes 32 = .ok (.iload_n 1, 1) := by decide +kernel
theorem dX11_owes_33 : decode cX11_owes 33 = .ok (.invokestatic 214, 3) := by decide +kernel
theorem dX11_owes_36 : decode cX11_owes 36 = .ok (.goto 5, 3) := by decide +kernel
theorem dX11_owes_39 : decode cX11_owes 39 = .ok (.bipush (-2), 2) := by decide +kernel
theorem dX11_owes_41 : decode cX11_owes 41 = .ok (.ireturn, 1) := by decide +kernel
theorem dX11_owesWith_0 : decode cX11_owesWith 0 = .ok (.aload_n 0, 1) := by decide +kernel
theorem dX11_owesWith_1 : decode cX11_owesWith 1 = .ok (.iload_n 1, 1) := by decide +kernel
theorem dX11_owesWith_2 : decode cX11_owesWith 2 = .ok (.iload_n 2, 1) := by decide +kernel
theorem dX11_owesWith_3 : decode cX11_owesWith 3 = .ok (.invokevirtual 146, 3) := by decide +kernel
theorem dX11_owesWith_6 : decode cX11_owesWith 6 = .ok (.ifCond .ne 5, 3) := by decide +kernel
theorem dX11_owesWith_9 : decode cX11_owesWith 9 = .ok (.iconst (-1), 1) := by decide +kernel
theorem dX11_owesWith_10 : decode cX11_owesWith 10 = .ok (.ireturn, 1) := by decide +kernel
theorem dX11_owesWith_11 : decode cX11_owesWith 11 = .ok (.aload_n 0, 1) := by decide +kernel
theorem dX11_owesWith_12 : decode cX11_owesWith 12 = .ok (.iload_n 1, 1) := by decide +kernel
theorem dX11_owesWith_13 : decode cX11_owesWith 13 = .ok (.iload_n 2, 1) := by decide +kernel
theorem dX11_owesWith_14 : decode cX11_owesWith 14 = .ok (.invokevirtual 188, 3) := by decide +kernel
theorem dX11_owesWith_17 : decode cX11_owesWith 17 = .ok (.ifCond .eq 19, 3) := by decide +kernel
theorem dX11_owesWith_20 : decode cX11_owesWith 20 = .ok (.aload_n 0, 1) := by decide +kernel
theorem dX11_owesWith_21 : decode cX11_owesWith 21 = .ok (.getfield 66, 3) := by decide +kernel
theorem dX11_owesWith_24 : decode cX11_owesWith 24 = .ok (.aload_n 0, 1) := by decide +kernel
theorem dX11_owesWith_25 : decode cX11_owesWith 25 = .ok (.getfield 26, 3) := by decide +kernel
theorem dX11_owesWith_28 : decode cX11_owesWith 28 = .ok (.iload_n 1, 1) := by decide +kernel
theorem dX11_owesWith_29 : decode cX11_owesWith 29 = .ok (.iload_n 2, 1) := by decide +kernel
theorem dX11_owesWith_30 : decode cX11_owesWith 30 = .ok (.invokestatic 191, 3) := by decide +kernel
theorem dX11_owesWith_33 : decode cX11_owesWith 33 = .ok (.goto 5, 3) := by decide +kernel
theorem dX11_owesWith_36 : decode cX11_owesWith 36 = .ok (.bipush (-2), 2) := by decide +kernel
theorem dX11_owesWith_38 : decode cX11_owesWith 38 = .ok (.ireturn, 1) := by decide +kernel
theorem dX11_packing_0 : decode cX11_packing 0 = .ok (.aload_n 0, 1) := by decide +kernel
theorem dX11_packing_1 : decode cX11_packing 1 = .ok (.getfield 66, 3) := by decide +kernel
theorem dX11_packing_4 : decode cX11_packing 4 = .ok (.iload_n 1, 1) := by decide +kernel
theorem dX11_packing_5 : decode cX11_packing 5 = .ok (.invokevirtual 108, 3) := by decide +kernel
theorem dX11_packing_8 : decode cX11_packing 8 = .ok (.ifCond .eq 10, 3) := by decide +kernel
theorem dX11_packing_11 : decode cX11_packing 11 = .ok (.iload_n 2, 1) := by decide +kernel
theorem dX11_packing_12 : decode cX11_packing 12 = .ok (.invokestatic 217, 3) := by decide +kernel
theorem dX11_packing_15 : decode cX11_packing 15 = .ok (.ifCond .ne 5, 3) := by decide +kernel
theorem dX11_packing_18 : decode cX11_packing 18 = .ok (.iconst (-1), 1) := by decide +kernel
theorem dX11_packing_19 : decode cX11_packing 19 = .ok (.ireturn, 1) := by decide +kernel
theorem dX11_packing_20 : decode cX11_packing 20 = .ok (.aload_n 0, 1) := by decide +kernel
theorem dX11_packing_21 : decode cX11_packing 21 = .ok (.getfield 26, 3) := by decide +kernel
theorem dX11_packing_24 : decode cX11_packing 24 = .ok (.iload_n 1, 1) := by decide +kernel
theorem dX11_packing_25 : decode cX11_packing 25 = .ok (.invokevirtual 122, 3) := by decide +kernel
theorem dX11_packing_28 : decode cX11_packing 28 = .ok (.ifCond .ne 6, 3) := by decide +kernel
theorem dX11_packing_31 : decode cX11_packing 31 = .ok (.bipush (-2), 2) := by decide +kernel
theorem dX11_packing_33 : decode cX11_packing 33 = .ok (.ireturn, 1) := by decide +kernel
theorem dX11_packing_34 : decode cX11_packing 34 = .ok (.aload_n 0, 1) := by decide +kernel
theorem dX11_packing_35 : decode cX11_packing 35 = .ok (.getfield 66, 3) := by decide +kernel
theorem dX11_packing_38 : decode cX11_packing 38 = .ok (.aload_n 0, 1) := by decide +kernel
theorem dX11_packing_39 : decode cX11_packing 39 = .ok (.getfield 26, 3) := by decide +kernel
theorem dX11_packing_42 : decode cX11_packing 42 = .ok (.iload_n 1, 1) := by decide +kernel
theorem dX11_packing_43 : decode cX11_packing 43 = .ok (.invokestatic 220, 3) := by decide +kernel
theorem dX11_packing_46 : decode cX11_packing 46 = .ok (.istore_n 3, 1) := by decide +kernel
theorem dX11_packing_47 : decode cX11_packing 47 = .ok (.iload_n 2, 1) := by decide +kernel
theorem dX11_packing_48 : decode cX11_packing 48 = .ok (.ifCond .ne 7, 3) := by decide +kernel
theorem dX11_packing_51 : decode cX11_packing 51 = .ok (.iload_n 3, 1) := by decide +kernel
theorem dX11_packing_52 : decode cX11_packing 52 = .ok (.goto 16, 3) := by decide +kernel
theorem dX11_packing_55 : decode cX11_packing 55 = .ok (.aload_n 0, 1) := by decide +kernel
theorem dX11_packing_56 : decode cX11_packing 56 = .ok (.getfield 66, 3) := by decide +kernel
theorem dX11_packing_59 : decode cX11_packing 59 = .ok (.aload_n 0, 1) := by decide +kernel
theorem dX11_packing_60 : decode cX11_packing 60 = .ok (.getfield 26, 3) := by decide +kernel
theorem dX11_packing_63 : decode cX11_packing 63 = .ok (.iload_n 1, 1) := by decide +kernel
theorem dX11_packing_64 : decode cX11_packing 64 = .ok (.iload_n 3, 1) := by decide +kernel
theorem dX11_packing_65 : decode cX11_packing 65 = .ok (.invokestatic 223, 3) := by decide +kernel
theorem dX11_packing_68 : decode cX11_packing 68 = .ok (.ireturn, 1) := by decide +kernel
theorem dX11_giving_0 : decode cX11_giving 0 = .ok (.aload_n 0, 1) := by decide +kernel
theorem dX11_giving_1 : decode cX11_giving 1 = .ok (.getfield 66, 3) := by decide +kernel
theorem dX11_giving_4 : decode cX11_giving 4 = .ok (.iload_n 1, 1) := by decide +kernel
theorem dX11_giving_5 : decode cX11_giving 5 = .ok (.invokevirtual 128, 3) := by decide +kernel
theorem dX11_giving_8 : decode cX11_giving 8 = .ok (.ifCond .eq 10, 3) := by decide +kernel
theorem dX11_giving_11 : decode cX11_giving 11 = .ok (.iload_n 2, 1) := by decide +kernel
theorem dX11_giving_12 : decode cX11_giving 12 = .ok (.invokestatic 217, 3) := by decide +kernel
theorem dX11_giving_15 : decode cX11_giving 15 = .ok (.ifCond .ne 5, 3) := by decide +kernel
theorem dX11_giving_18 : decode cX11_giving 18 = .ok (.iconst (-1), 1) := by decide +kernel
theorem dX11_giving_19 : decode cX11_giving 19 = .ok (.ireturn, 1) := by decide +kernel
theorem dX11_giving_20 : decode cX11_giving 20 = .ok (.aload_n 0, 1) := by decide +kernel
theorem dX11_giving_21 : decode cX11_giving 21 = .ok (.getfield 26, 3) := by decide +kernel
theorem dX11_giving_24 : decode cX11_giving 24 = .ok (.iload_n 1, 1) := by decide +kernel
theorem dX11_giving_25 : decode cX11_giving 25 = .ok (.invokevirtual 134, 3) := by decide +kernel
theorem dX11_giving_28 : decode cX11_giving 28 = .ok (.istore_n 3, 1) := by decide +kernel
theorem dX11_giving_29 : decode cX11_giving 29 = .ok (.aload_n 0, 1) := by decide +kernel
theorem dX11_giving_30 : decode cX11_giving 30 = .ok (.getfield 26, 3) := by decide +kernel
theorem dX11_giving_33 : decode cX11_giving 33 = .ok (.iload_n 3, 1) := by decide +kernel
theorem dX11_giving_34 : decode cX11_giving 34 = .ok (.invokevirtual 122, 3) := by decide +kernel
theorem dX11_giving_37 : decode cX11_giving 37 = .ok (.ifCond .ne 6, 3) := by decide +kernel
theorem dX11_giving_40 : decode cX11_giving 40 = .ok (.bipush (-2), 2) := by decide +kernel
theorem dX11_giving_42 : decode cX11_giving 42 = .ok (.ireturn, 1) := by decide +kernel
theorem dX11_giving_43 : decode cX11_giving 43 = .ok (.bipush (-4), 2) := by decide +kernel
theorem dX11_giving_45 : decode cX11_giving 45 = .ok (.istore 4, 2) := by decide +kernel
theorem dX11_giving_47 : decode cX11_giving 47 = .ok (.bipush (-4), 2) := by decide +kernel
theorem dX11_giving_49 : decode cX11_giving 49 = .ok (.istore 5, 2) := by decide +kernel
theorem dX11_giving_51 : decode cX11_giving 51 = .ok (.iconst 0, 1) := by decide +kernel
theorem dX11_giving_52 : decode cX11_giving 52 = .ok (.istore 6, 2) := by decide +kernel
theorem dX11_giving_54 : decode cX11_giving 54 = .ok (.iload 6, 2) := by decide +kernel
theorem dX11_giving_56 : decode cX11_giving 56 = .ok (.aload_n 0, 1) := by decide +kernel
theorem dX11_giving_57 : decode cX11_giving 57 = .ok (.getfield 66, 3) := by decide +kernel
theorem dX11_giving_60 : decode cX11_giving 60 = .ok (.getfield 103, 3) := by decide +kernel
theorem dX11_giving_63 : decode cX11_giving 63 = .ok (.if_icmp .ge 58, 3) := by decide +kernel
theorem dX11_giving_66 : decode cX11_giving 66 = .ok (.iload 6, 2) := by decide +kernel
theorem dX11_giving_68 : decode cX11_giving 68 = .ok (.iload_n 3, 1) := by decide +kernel
theorem dX11_giving_69 : decode cX11_giving 69 = .ok (.if_icmp .eq 46, 3) := by decide +kernel
theorem dX11_giving_72 : decode cX11_giving 72 = .ok (.aload_n 0, 1) := by decide +kernel
theorem dX11_giving_73 : decode cX11_giving 73 = .ok (.getfield 26, 3) := by decide +kernel
theorem dX11_giving_76 : decode cX11_giving 76 = .ok (.iload 6, 2) := by decide +kernel
theorem dX11_giving_78 : decode cX11_giving 78 = .ok (.invokevirtual 122, 3) := by decide +kernel
theorem dX11_giving_81 : decode cX11_giving 81 = .ok (.ifCond .eq 34, 3) := by decide +kernel
theorem dX11_giving_84 : decode cX11_giving 84 = .ok (.aload_n 0, 1) := by decide +kernel
theorem dX11_giving_85 : decode cX11_giving 85 = .ok (.iload_n 1, 1) := by decide +kernel
theorem dX11_giving_86 : decode cX11_giving 86 = .ok (.iload 6, 2) := by decide +kernel
theorem dX11_giving_88 : decode cX11_giving 88 = .ok (.invokevirtual 226, 3) := by decide +kernel
theorem dX11_giving_91 : decode cX11_giving 91 = .ok (.istore 7, 2) := by decide +kernel
theorem dX11_giving_93 : decode cX11_giving 93 = .ok (.iload 4, 2) := by decide +kernel
theorem dX11_giving_95 : decode cX11_giving 95 = .ok (.bipush (-4), 2) := by decide +kernel
theorem dX11_giving_97 : decode cX11_giving 97 = .ok (.if_icmp .eq 10, 3) := by decide +kernel
theorem dX11_giving_100 : decode cX11_giving 100 = .ok (.iload 7, 2) := by decide +kernel
theorem dX11_giving_102 : decode cX11_giving 102 = .ok (.iload 5, 2) := by decide +kernel
theorem dX11_giving_104 : decode cX11_giving 104 = .ok (.if_icmp .ge 11, 3) := by decide +kernel
theorem dX11_giving_107 : decode cX11_giving 107 = .ok (.iload 6, 2) := by decide +kernel
theorem dX11_giving_109 : decode cX11_giving 109 = .ok (.istore 4, 2) := by decide +kernel
theorem dX11_giving_111 : decode cX11_giving 111 = .ok (.iload 7, 2) := by decide +kernel
theorem dX11_giving_113 : decode cX11_giving 113 = .ok (.istore 5, 2) := by decide +kernel
theorem dX11_giving_115 : decode cX11_giving 115 = .ok (.iinc 6 1, 3) := by decide +kernel
theorem dX11_giving_118 : decode cX11_giving 118 = .ok (.goto (-64), 3) := by decide +kernel
theorem dX11_giving_121 : decode cX11_giving 121 = .ok (.iload_n 2, 1) := by decide +kernel
theorem dX11_giving_122 : decode cX11_giving 122 = .ok (.ifCond .ne 8, 3) := by decide +kernel
theorem dX11_giving_125 : decode cX11_giving 125 = .ok (.iload 4, 2) := by decide +kernel
theorem dX11_giving_127 : decode cX11_giving 127 = .ok (.goto 5, 3) := by decide +kernel
theorem dX11_giving_130 : decode cX11_giving 130 = .ok (.iload 5, 2) := by decide +kernel
theorem dX11_giving_132 : decode cX11_giving 132 = .ok (.ireturn, 1) := by decide +kernel
theorem dX11_order_0 : decode cX11_order 0 = .ok (.iload_n 1, 1) := by decide +kernel
theorem dX11_order_1 : decode cX11_order 1 = .ok (.ifCond .lt 9, 3) := by decide +kernel
theorem dX11_order_4 : decode cX11_order 4 = .ok (.iload_n 1, 1) := by decide +kernel
theorem dX11_order_5 : decode cX11_order 5 = .ok (.bipush 6, 2) := by decide +kernel
theorem dX11_order_7 : decode cX11_order 7 = .ok (.if_icmp .le 5, 3) := by decide +kernel
theorem dX11_order_10 : decode cX11_order 10 = .ok (.iconst (-1), 1) := by decide +kernel
theorem dX11_order_11 : decode cX11_order 11 = .ok (.ireturn, 1) := by decide +kernel
theorem dX11_order_12 : decode cX11_order 12 = .ok (.aload_n 0, 1) := by decide +kernel
theorem dX11_order_13 : decode cX11_order 13 = .ok (.getfield 55, 3) := by decide +kernel
theorem dX11_order_16 : decode cX11_order 16 = .ok (.aload_n 0, 1) := by decide +kernel
theorem dX11_order_17 : decode cX11_order 17 = .ok (.getfield 66, 3) := by decide +kernel
theorem dX11_order_20 : decode cX11_order 20 = .ok (.aload_n 0, 1) := by decide +kernel
theorem dX11_order_21 : decode cX11_order 21 = .ok (.getfield 26, 3) := by decide +kernel
theorem dX11_order_24 : decode cX11_order 24 = .ok (.invokevirtual 229, 3) := by decide +kernel
theorem dX11_order_27 : decode cX11_order 27 = .ok (.aload_n 0, 1) := by decide +kernel
theorem dX11_order_28 : decode cX11_order 28 = .ok (.getfield 55, 3) := by decide +kernel
theorem dX11_order_31 : decode cX11_order 31 = .ok (.aload_n 0, 1) := by decide +kernel
theorem dX11_order_32 : decode cX11_order 32 = .ok (.getfield 26, 3) := by decide +kernel
theorem dX11_order_35 : decode cX11_order 35 = .ok (.getfield 195, 3) := by decide +kernel
theorem dX11_order_38 : decode cX11_order 38 = .ok (.invokevirtual 233, 3) := by decide +kernel
theorem dX11_order_41 : decode cX11_order 41 = .ok (.istore_n 2, 1) := by decide +kernel
theorem dX11_order_42 : decode cX11_order 42 = .ok (.iload_n 1, 1) := by decide +kernel
theorem dX11_order_43 : decode cX11_order 43 = .ok (.ifCond .eq 9, 3) := by decide +kernel
theorem dX11_order_46 : decode cX11_order 46 = .ok (.iload_n 2, 1) := by decide +kernel
theorem dX11_order_47 : decode cX11_order 47 = .ok (.bipush (-4), 2) := by decide +kernel
theorem dX11_order_49 : decode cX11_order 49 = .ok (.if_icmp .ne 7, 3) := by decide +kernel
theorem dX11_order_52 : decode cX11_order 52 = .ok (.iload_n 2, 1) := by decide +kernel
theorem dX11_order_53 : decode cX11_order 53 = .ok (.goto 18, 3) := by decide +kernel
theorem dX11_order_56 : decode cX11_order 56 = .ok (.aload_n 0, 1) := by decide +kernel
theorem dX11_order_57 : decode cX11_order 57 = .ok (.getfield 55, 3) := by decide +kernel
theorem dX11_order_60 : decode cX11_order 60 = .ok (.aload_n 0, 1) := by decide +kernel
theorem dX11_order_61 : decode cX11_order 61 = .ok (.getfield 26, 3) := by decide +kernel
theorem dX11_order_64 : decode cX11_order 64 = .ok (.getfield 195, 3) := by decide +kernel
theorem dX11_order_67 : decode cX11_order 67 = .ok (.iload_n 1, 1) := by decide +kernel
theorem dX11_order_68 : decode cX11_order 68 = .ok (.invokevirtual 236, 3) := by decide +kernel
theorem dX11_order_71 : decode cX11_order 71 = .ok (.ireturn, 1) := by decide +kernel
theorem dX11_stuck_0 : decode cX11_stuck 0 = .ok (.iconst 0, 1) := by decide +kernel
theorem dX11_stuck_1 : decode cX11_stuck 1 = .ok (.istore_n 1, 1) := by decide +kernel
theorem dX11_stuck_2 : decode cX11_stuck 2 = .ok (.iconst 0, 1) := by decide +kernel
theorem dX11_stuck_3 : decode cX11_stuck 3 = .ok (.istore_n 2, 1) := by decide +kernel
theorem dX11_stuck_4 : decode cX11_stuck 4 = .ok (.iload_n 2, 1) := by decide +kernel
theorem dX11_stuck_5 : decode cX11_stuck 5 = .ok (.aload_n 0, 1) := by decide +kernel
theorem dX11_stuck_6 : decode cX11_stuck 6 = .ok (.getfield 66, 3) := by decide +kernel
theorem dX11_stuck_9 : decode cX11_stuck 9 = .ok (.getfield 103, 3) := by decide +kernel
theorem dX11_stuck_12 : decode cX11_stuck 12 = .ok (.if_icmp .ge 41, 3) := by decide +kernel
theorem dX11_stuck_15 : decode cX11_stuck 15 = .ok (.aload_n 0, 1) := by decide +kernel
theorem dX11_stuck_16 : decode cX11_stuck 16 = .ok (.getfield 26, 3) := by decide +kernel
theorem dX11_stuck_19 : decode cX11_stuck 19 = .ok (.iload_n 2, 1) := by decide +kernel
theorem dX11_stuck_20 : decode cX11_stuck 20 = .ok (.invokevirtual 122, 3) := by decide +kernel
theorem dX11_stuck_23 : decode cX11_stuck 23 = .ok (.ifCond .eq 24, 3) := by decide +kernel
theorem dX11_stuck_26 : decode cX11_stuck 26 = .ok (.aload_n 0, 1) := by decide +kernel
theorem dX11_stuck_27 : decode cX11_stuck 27 = .ok (.getfield 66, 3) := by decide +kernel
theorem dX11_stuck_30 : decode cX11_stuck 30 = .ok (.aload_n 0, 1) := by decide +kernel
theorem dX11_stuck_31 : decode cX11_stuck 31 = .ok (.getfield 26, 3) := by decide +kernel
theorem dX11_stuck_34 : decode cX11_stuck 34 = .ok (.iload_n 2, 1) := by decide +kernel
theorem dX11_stuck_35 : decode cX11_stuck 35 = .ok (.invokestatic 178, 3) := by decide +kernel
theorem dX11_stuck_38 : decode cX11_stuck 38 = .ok (.ifCond .ge 9, 3) := by decide +kernel
theorem dX11_stuck_41 : decode cX11_stuck 41 = .ok (.iload_n 1, 1) := by decide +kernel
theorem dX11_stuck_42 : decode cX11_stuck 42 = .ok (.iconst 1, 1) := by decide +kernel
theorem dX11_stuck_43 : decode cX11_stuck 43 = .ok (.iload_n 2, 1) := by decide +kernel
theorem dX11_stuck_44 : decode cX11_stuck 44 = .ok (.ishl, 1) := by decide +kernel
theorem dX11_stuck_45 : decode cX11_stuck 45 = .ok (.ior, 1) := by decide +kernel
theorem dX11_stuck_46 : decode cX11_stuck 46 = .ok (.istore_n 1, 1) := by decide +kernel
theorem dX11_stuck_47 : decode cX11_stuck 47 = .ok (.iinc 2 1, 3) := by decide +kernel
theorem dX11_stuck_50 : decode cX11_stuck 50 = .ok (.goto (-46), 3) := by decide +kernel
theorem dX11_stuck_53 : decode cX11_stuck 53 = .ok (.iload_n 1, 1) := by decide +kernel
theorem dX11_stuck_54 : decode cX11_stuck 54 = .ok (.ireturn, 1) := by decide +kernel
theorem dX11_swear_0 : decode cX11_swear 0 = .ok (.aload_n 0, 1) := by decide +kernel
theorem dX11_swear_1 : decode cX11_swear 1 = .ok (.getfield 66, 3) := by decide +kernel
theorem dX11_swear_4 : decode cX11_swear 4 = .ok (.iload_n 1, 1) := by decide +kernel
theorem dX11_swear_5 : decode cX11_swear 5 = .ok (.invokevirtual 108, 3) := by decide +kernel
theorem dX11_swear_8 : decode cX11_swear 8 = .ok (.ifCond .eq 10, 3) := by decide +kernel
theorem dX11_swear_11 : decode cX11_swear 11 = .ok (.iload_n 2, 1) := by decide +kernel
theorem dX11_swear_12 : decode cX11_swear 12 = .ok (.invokestatic 239, 3) := by decide +kernel
theorem dX11_swear_15 : decode cX11_swear 15 = .ok (.ifCond .ne 5, 3) := by decide +kernel
theorem dX11_swear_18 : decode cX11_swear 18 = .ok (.iconst (-1), 1) := by decide +kernel
theorem dX11_swear_19 : decode cX11_swear 19 = .ok (.ireturn, 1) := by decide +kernel
theorem dX11_swear_20 : decode cX11_swear 20 = .ok (.aload_n 0, 1) := by decide +kernel
theorem dX11_swear_21 : decode cX11_swear 21 = .ok (.getfield 26, 3) := by decide +kernel
theorem dX11_swear_24 : decode cX11_swear 24 = .ok (.iload_n 1, 1) := by decide +kernel
theorem dX11_swear_25 : decode cX11_swear 25 = .ok (.invokevirtual 122, 3) := by decide +kernel
theorem dX11_swear_28 : decode cX11_swear 28 = .ok (.ifCond .ne 6, 3) := by decide +kernel
theorem dX11_swear_31 : decode cX11_swear 31 = .ok (.bipush (-2), 2) := by decide +kernel
theorem dX11_swear_33 : decode cX11_swear 33 = .ok (.ireturn, 1) := by decide +kernel
theorem dX11_swear_34 : decode cX11_swear 34 = .ok (.aload_n 0, 1) := by decide +kernel
theorem dX11_swear_35 : decode cX11_swear 35 = .ok (.getfield 48, 3) := by decide +kernel
theorem dX11_swear_38 : decode cX11_swear 38 = .ok (.iload_n 1, 1) := by decide +kernel
theorem dX11_swear_39 : decode cX11_swear 39 = .ok (.iload_n 2, 1) := by decide +kernel
theorem dX11_swear_40 : decode cX11_swear 40 = .ok (.invokevirtual 242, 3) := by decide +kernel
theorem dX11_swear_43 : decode cX11_swear 43 = .ok (.ifCond .eq 13, 3) := by decide +kernel
theorem dX11_swear_46 : decode cX11_swear 46 = .ok (.aload_n 0, 1) := by decide +kernel
theorem dX11_swear_47 : decode cX11_swear 47 = .ok (.getfield 48, 3) := by decide +kernel
theorem dX11_swear_50 : decode cX11_swear 50 = .ok (.getfield 244, 3) := by decide +kernel
theorem dX11_swear_53 : decode cX11_swear 53 = .ok (.goto 5, 3) := by decide +kernel
theorem dX11_swear_56 : decode cX11_swear 56 = .ok (.bipush (-3), 2) := by decide +kernel
theorem dX11_swear_58 : decode cX11_swear 58 = .ok (.ireturn, 1) := by decide +kernel
theorem dX11_forget_0 : decode cX11_forget 0 = .ok (.aload_n 0, 1) := by decide +kernel
theorem dX11_forget_1 : decode cX11_forget 1 = .ok (.getfield 48, 3) := by decide +kernel
theorem dX11_forget_4 : decode cX11_forget 4 = .ok (.getfield 244, 3) := by decide +kernel
theorem dX11_forget_7 : decode cX11_forget 7 = .ok (.istore_n 1, 1) := by decide +kernel
theorem dX11_forget_8 : decode cX11_forget 8 = .ok (.aload_n 0, 1) := by decide +kernel
theorem dX11_forget_9 : decode cX11_forget 9 = .ok (.getfield 48, 3) := by decide +kernel
theorem dX11_forget_12 : decode cX11_forget 12 = .ok (.invokevirtual 107, 3) := by decide +kernel
theorem dX11_forget_15 : decode cX11_forget 15 = .ok (.iload_n 1, 1) := by decide +kernel
theorem dX11_forget_16 : decode cX11_forget 16 = .ok (.ireturn, 1) := by decide +kernel
theorem dX11_isFalse_0 : decode cX11_isFalse 0 = .ok (.aload_n 0, 1) := by decide +kernel
theorem dX11_isFalse_1 : decode cX11_isFalse 1 = .ok (.getfield 48, 3) := by decide +kernel
theorem dX11_isFalse_4 : decode cX11_isFalse 4 = .ok (.iload_n 1, 1) := by decide +kernel
theorem dX11_isFalse_5 : decode cX11_isFalse 5 = .ok (.invokevirtual 247, 3) := by decide +kernel
theorem dX11_isFalse_8 : decode cX11_isFalse 8 = .ok (.ifCond .ne 5, 3) := by decide +kernel
theorem dX11_isFalse_11 : decode cX11_isFalse 11 = .ok (.iconst (-1), 1) := by decide +kernel
theorem dX11_isFalse_12 : decode cX11_isFalse 12 = .ok (.ireturn, 1) := by decide +kernel
theorem dX11_isFalse_13 : decode cX11_isFalse 13 = .ok (.aload_n 0, 1) := by decide +kernel
theorem dX11_isFalse_14 : decode cX11_isFalse 14 = .ok (.getfield 48, 3) := by decide +kernel
theorem dX11_isFalse_17 : decode cX11_isFalse 17 = .ok (.iload_n 1, 1) := by decide +kernel
theorem dX11_isFalse_18 : decode cX11_isFalse 18 = .ok (.invokevirtual 250, 3) := by decide +kernel
theorem dX11_isFalse_21 : decode cX11_isFalse 21 = .ok (.istore_n 2, 1) := by decide +kernel
theorem dX11_isFalse_22 : decode cX11_isFalse 22 = .ok (.aload_n 0, 1) := by decide +kernel
theorem dX11_isFalse_23 : decode cX11_isFalse 23 = .ok (.getfield 26, 3) := by decide +kernel
theorem dX11_isFalse_26 : decode cX11_isFalse 26 = .ok (.iload_n 2, 1) := by decide +kernel
theorem dX11_isFalse_27 : decode cX11_isFalse 27 = .ok (.invokevirtual 122, 3) := by decide +kernel
theorem dX11_isFalse_30 : decode cX11_isFalse 30 = .ok (.ifCond .ne 6, 3) := by decide +kernel
theorem dX11_isFalse_33 : decode cX11_isFalse 33 = .ok (.bipush (-2), 2) := by decide +kernel
theorem dX11_isFalse_35 : decode cX11_isFalse 35 = .ok (.ireturn, 1) := by decide +kernel
theorem dX11_isFalse_36 : decode cX11_isFalse 36 = .ok (.aload_n 0, 1) := by decide +kernel
theorem dX11_isFalse_37 : decode cX11_isFalse 37 = .ok (.getfield 48, 3) := by decide +kernel
theorem dX11_isFalse_40 : decode cX11_isFalse 40 = .ok (.iload_n 1, 1) := by decide +kernel
theorem dX11_isFalse_41 : decode cX11_isFalse 41 = .ok (.invokevirtual 253, 3) := by decide +kernel
theorem dX11_isFalse_44 : decode cX11_isFalse 44 = .ok (.istore_n 3, 1) := by decide +kernel
theorem dX11_isFalse_45 : decode cX11_isFalse 45 = .ok (.aload_n 0, 1) := by decide +kernel
theorem dX11_isFalse_46 : decode cX11_isFalse 46 = .ok (.getfield 66, 3) := by decide +kernel
theorem dX11_isFalse_49 : decode cX11_isFalse 49 = .ok (.aload_n 0, 1) := by decide +kernel
theorem dX11_isFalse_50 : decode cX11_isFalse 50 = .ok (.getfield 26, 3) := by decide +kernel
theorem dX11_isFalse_53 : decode cX11_isFalse 53 = .ok (.iload_n 2, 1) := by decide +kernel
theorem dX11_isFalse_54 : decode cX11_isFalse 54 = .ok (.invokestatic 256, 3) := by decide +kernel
theorem dX11_isFalse_57 : decode cX11_isFalse 57 = .ok (.istore 4, 2) := by decide +kernel
theorem dX11_isFalse_59 : decode cX11_isFalse 59 = .ok (.aload_n 0, 1) := by decide +kernel
theorem dX11_isFalse_60 : decode cX11_isFalse 60 = .ok (.getfield 66, 3) := by decide +kernel
theorem dX11_isFalse_63 : decode cX11_isFalse 63 = .ok (.iload_n 2, 1) := by decide +kernel
theorem dX11_isFalse_64 : decode cX11_isFalse 64 = .ok (.iload 4, 2) := by decide +kernel
theorem dX11_isFalse_66 : decode cX11_isFalse 66 = .ok (.invokestatic 259, 3) := by decide +kernel
theorem dX11_isFalse_69 : decode cX11_isFalse 69 = .ok (.iload_n 3, 1) := by decide +kernel
theorem dX11_isFalse_70 : decode cX11_isFalse 70 = .ok (.if_icmp .ne 9, 3) := by decide +kernel
theorem dX11_isFalse_73 : decode cX11_isFalse 73 = .ok (.sipush 256, 3) := by decide +kernel
theorem dX11_isFalse_76 : decode cX11_isFalse 76 = .ok (.goto 4, 3) := by decide +kernel
theorem dX11_isFalse_79 : decode cX11_isFalse 79 = .ok (.iconst 0, 1) := by decide +kernel
theorem dX11_isFalse_80 : decode cX11_isFalse 80 = .ok (.istore 5, 2) := by decide +kernel
theorem dX11_isFalse_82 : decode cX11_isFalse 82 = .ok (.iconst 0, 1) := by decide +kernel
theorem dX11_isFalse_83 : decode cX11_isFalse 83 = .ok (.istore 6, 2) := by decide +kernel
theorem dX11_isFalse_85 : decode cX11_isFalse 85 = .ok (.iload 6, 2) := by decide +kernel
theorem dX11_isFalse_87 : decode cX11_isFalse 87 = .ok (.aload_n 0, 1) := by decide +kernel
theorem dX11_isFalse_88 : decode cX11_isFalse 88 = .ok (.getfield 66, 3) := by decide +kernel
theorem dX11_isFalse_91 : decode cX11_isFalse 91 = .ok (.getfield 263, 3) := by decide +kernel
theorem dX11_isFalse_94 : decode cX11_isFalse 94 = .ok (.if_icmp .ge 55, 3) := by decide +kernel
theorem dX11_isFalse_97 : decode cX11_isFalse 97 = .ok (.aload_n 0, 1) := by decide +kernel
theorem dX11_isFalse_98 : decode cX11_isFalse 98 = .ok (.getfield 26, 3) := by decide +kernel
theorem dX11_isFalse_101 : decode cX11_isFalse 101 = .ok (.iload 6, 2) := by decide +kernel
theorem dX11_isFalse_103 : decode cX11_isFalse 103 = .ok (.iload_n 2, 1) := by decide +kernel
theorem dX11_isFalse_104 : decode cX11_isFalse 104 = .ok (.invokevirtual 266, 3) := by decide +kernel
theorem dX11_isFalse_107 : decode cX11_isFalse 107 = .ok (.ifCond .eq 36, 3) := by decide +kernel
theorem dX11_isFalse_110 : decode cX11_isFalse 110 = .ok (.aload_n 0, 1) := by decide +kernel
theorem dX11_isFalse_111 : decode cX11_isFalse 111 = .ok (.getfield 66, 3) := by decide +kernel
theorem dX11_isFalse_114 : decode cX11_isFalse 114 = .ok (.iload_n 2, 1) := by decide +kernel
theorem dX11_isFalse_115 : decode cX11_isFalse 115 = .ok (.iload 4, 2) := by decide +kernel
theorem dX11_isFalse_117 : decode cX11_isFalse 117 = .ok (.aload_n 0, 1) := by decide +kernel
theorem dX11_isFalse_118 : decode cX11_isFalse 118 = .ok (.getfield 66, 3) := by decide +kernel
theorem dX11_isFalse_121 : decode cX11_isFalse 121 = .ok (.iload 6, 2) := by decide +kernel
theorem dX11_isFalse_123 : decode cX11_isFalse 123 = .ok (.invokevirtual 269, 3) := by decide +kernel
theorem dX11_isFalse_126 : decode cX11_isFalse 126 = .ok (.isub, 1) := by decide +kernel
theorem dX11_isFalse_127 : decode cX11_isFalse 127 = .ok (.invokestatic 259, 3) := by decide +kernel
theorem dX11_isFalse_130 : decode cX11_isFalse 130 = .ok (.iload_n 3, 1) := by decide +kernel
theorem dX11_isFalse_131 : decode cX11_isFalse 131 = .ok (.if_icmp .ne 12, 3) := by decide +kernel
theorem dX11_isFalse_134 : decode cX11_isFalse 134 = .ok (.iload 5, 2) := by decide +kernel
theorem dX11_isFalse_136 : decode cX11_isFalse 136 = .ok (.iconst 1, 1) := by decide +kernel
theorem dX11_isFalse_137 : decode cX11_isFalse 137 = .ok (.iload 6, 2) := by decide +kernel
theorem dX11_isFalse_139 : decode cX11_isFalse 139 = .ok (.ishl, 1) := by decide +kernel
theorem dX11_isFalse_140 : decode cX11_isFalse 140 = .ok (.ior, 1) := by decide +kernel
theorem dX11_isFalse_141 : decode cX11_isFalse 141 = .ok (.istore 5, 2) := by decide +kernel
theorem dX11_isFalse_143 : decode cX11_isFalse 143 = .ok (.iinc 6 1, 3) := by decide +kernel
theorem dX11_isFalse_146 : decode cX11_isFalse 146 = .ok (.goto (-61), 3) := by decide +kernel
theorem dX11_isFalse_149 : decode cX11_isFalse 149 = .ok (.iload 5, 2) := by decide +kernel
theorem dX11_isFalse_151 : decode cX11_isFalse 151 = .ok (.ireturn, 1) := by decide +kernel
theorem dX11_loved_0 : decode cX11_loved 0 = .ok (.aload_n 0, 1) := by decide +kernel
theorem dX11_loved_1 : decode cX11_loved 1 = .ok (.getfield 48, 3) := by decide +kernel
theorem dX11_loved_4 : decode cX11_loved 4 = .ok (.iload_n 1, 1) := by decide +kernel
theorem dX11_loved_5 : decode cX11_loved 5 = .ok (.invokevirtual 247, 3) := by decide +kernel
theorem dX11_loved_8 : decode cX11_loved 8 = .ok (.ifCond .eq 26, 3) := by decide +kernel
theorem dX11_loved_11 : decode cX11_loved 11 = .ok (.aload_n 0, 1) := by decide +kernel
theorem dX11_loved_12 : decode cX11_loved 12 = .ok (.aload_n 0, 1) := by decide +kernel
theorem dX11_loved_13 : decode cX11_loved 13 = .ok (.getfield 48, 3) := by decide +kernel
theorem dX11_loved_16 : decode cX11_loved 16 = .ok (.iload_n 1, 1) := by decide +kernel
theorem dX11_loved_17 : decode cX11_loved 17 = .ok (.invokevirtual 250, 3) := by decide +kernel
theorem dX11_loved_20 : decode cX11_loved 20 = .ok (.iload_n 2, 1) := by decide +kernel
theorem dX11_loved_21 : decode cX11_loved 21 = .ok (.invokevirtual 146, 3) := by decide +kernel
theorem dX11_loved_24 : decode cX11_loved 24 = .ok (.ifCond .eq 10, 3) := by decide +kernel
theorem dX11_loved_27 : decode cX11_loved 27 = .ok (.iload_n 3, 1) := by decide +kernel
theorem dX11_loved_28 : decode cX11_loved 28 = .ok (.invokestatic 217, 3) := by decide +kernel
theorem dX11_loved_31 : decode cX11_loved 31 = .ok (.ifCond .ne 5, 3) := by decide +kernel
theorem dX11_loved_34 : decode cX11_loved 34 = .ok (.iconst (-1), 1) := by decide +kernel
theorem dX11_loved_35 : decode cX11_loved 35 = .ok (.ireturn, 1) := by decide +kernel
theorem dX11_loved_36 : decode cX11_loved 36 = .ok (.aload_n 0, 1) := by decide +kernel
theorem dX11_loved_37 : decode cX11_loved 37 = .ok (.getfield 48, 3) := by decide +kernel
theorem dX11_loved_40 : decode cX11_loved 40 = .ok (.iload_n 1, 1) := by decide +kernel
theorem dX11_loved_41 : decode cX11_loved 41 = .ok (.invokevirtual 250, 3) := by decide +kernel
theorem dX11_loved_44 : decode cX11_loved 44 = .ok (.istore 4, 2) := by decide +kernel
theorem dX11_loved_46 : decode cX11_loved 46 = .ok (.aload_n 0, 1) := by decide +kernel
theorem dX11_loved_47 : decode cX11_loved 47 = .ok (.iload 4, 2) := by decide +kernel
theorem dX11_loved_49 : decode cX11_loved 49 = .ok (.iload_n 2, 1) := by decide +kernel
theorem dX11_loved_50 : decode cX11_loved 50 = .ok (.invokevirtual 188, 3) := by decide +kernel
theorem dX11_loved_53 : decode cX11_loved 53 = .ok (.ifCond .ne 6, 3) := by decide +kernel
theorem dX11_loved_56 : decode cX11_loved 56 = .ok (.bipush (-2), 2) := by decide +kernel
theorem dX11_loved_58 : decode cX11_loved 58 = .ok (.ireturn, 1) := by decide +kernel
theorem dX11_loved_59 : decode cX11_loved 59 = .ok (.aload_n 0, 1) := by decide +kernel
theorem dX11_loved_60 : decode cX11_loved 60 = .ok (.getfield 66, 3) := by decide +kernel
theorem dX11_loved_63 : decode cX11_loved 63 = .ok (.aload_n 0, 1) := by decide +kernel
theorem dX11_loved_64 : decode cX11_loved 64 = .ok (.getfield 26, 3) := by decide +kernel
theorem dX11_loved_67 : decode cX11_loved 67 = .ok (.iload 4, 2) := by decide +kernel
theorem dX11_loved_69 : decode cX11_loved 69 = .ok (.invokestatic 256, 3) := by decide +kernel
theorem dX11_loved_72 : decode cX11_loved 72 = .ok (.aload_n 0, 1) := by decide +kernel
theorem dX11_loved_73 : decode cX11_loved 73 = .ok (.getfield 66, 3) := by decide +kernel
theorem dX11_loved_76 : decode cX11_loved 76 = .ok (.iload 4, 2) := by decide +kernel
theorem dX11_loved_78 : decode cX11_loved 78 = .ok (.iload_n 2, 1) := by decide +kernel
theorem dX11_loved_79 : decode cX11_loved 79 = .ok (.invokevirtual 150, 3) := by decide +kernel
theorem dX11_loved_82 : decode cX11_loved 82 = .ok (.isub, 1) := by decide +kernel
theorem dX11_loved_83 : decode cX11_loved 83 = .ok (.istore 5, 2) := by decide +kernel
theorem dX11_loved_85 : decode cX11_loved 85 = .ok (.iconst 0, 1) := by decide +kernel
theorem dX11_loved_86 : decode cX11_loved 86 = .ok (.istore 6, 2) := by decide +kernel
theorem dX11_loved_88 : decode cX11_loved 88 = .ok (.bipush (-4), 2) := by decide +kernel
theorem dX11_loved_90 : decode cX11_loved 90 = .ok (.istore 7, 2) := by decide +kernel
theorem dX11_loved_92 : decode cX11_loved 92 = .ok (.bipush 20, 2) := by decide +kernel
theorem dX11_loved_94 : decode cX11_loved 94 = .ok (.istore 8, 2) := by decide +kernel
theorem dX11_loved_96 : decode cX11_loved 96 = .ok (.iload 8, 2) := by decide +kernel
theorem dX11_loved_98 : decode cX11_loved 98 = .ok (.ifCond .lt 41, 3) := by decide +kernel
theorem dX11_loved_101 : decode cX11_loved 101 = .ok (.aload_n 0, 1) := by decide +kernel
theorem dX11_loved_102 : decode cX11_loved 102 = .ok (.getfield 66, 3) := by decide +kernel
theorem dX11_loved_105 : decode cX11_loved 105 = .ok (.iload 4, 2) := by decide +kernel
theorem dX11_loved_107 : decode cX11_loved 107 = .ok (.iload 5, 2) := by decide +kernel
theorem dX11_loved_109 : decode cX11_loved 109 = .ok (.iload 8, 2) := by decide +kernel
theorem dX11_loved_111 : decode cX11_loved 111 = .ok (.iadd, 1) := by decide +kernel
theorem dX11_loved_112 : decode cX11_loved 112 = .ok (.invokestatic 259, 3) := by decide +kernel
theorem dX11_loved_115 : decode cX11_loved 115 = .ok (.aload_n 0, 1) := by decide +kernel
theorem dX11_loved_116 : decode cX11_loved 116 = .ok (.getfield 48, 3) := by decide +kernel
theorem dX11_loved_119 : decode cX11_loved 119 = .ok (.iload_n 1, 1) := by decide +kernel
theorem dX11_loved_120 : decode cX11_loved 120 = .ok (.invokevirtual 253, 3) := by decide +kernel
theorem dX11_loved_123 : decode cX11_loved 123 = .ok (.if_icmp .ne 10, 3) := by decide +kernel
theorem dX11_loved_126 : decode cX11_loved 126 = .ok (.iinc 6 1, 3) := by decide +kernel
theorem dX11_loved_129 : decode cX11_loved 129 = .ok (.iload 8, 2) := by decide +kernel
theorem dX11_loved_131 : decode cX11_loved 131 = .ok (.istore 7, 2) := by decide +kernel
theorem dX11_loved_133 : decode cX11_loved 133 = .ok (.iinc 8 (-1), 3) := by decide +kernel
theorem dX11_loved_136 : decode cX11_loved 136 = .ok (.goto (-40), 3) := by decide +kernel
theorem dX11_loved_139 : decode cX11_loved 139 = .ok (.iload_n 3, 1) := by decide +kernel
theorem dX11_loved_140 : decode cX11_loved 140 = .ok (.ifCond .ne 8, 3) := by decide +kernel
theorem dX11_loved_143 : decode cX11_loved 143 = .ok (.iload 6, 2) := by decide +kernel
theorem dX11_loved_145 : decode cX11_loved 145 = .ok (.goto 5, 3) := by decide +kernel
theorem dX11_loved_148 : decode cX11_loved 148 = .ok (.iload 7, 2) := by decide +kernel
theorem dX11_loved_150 : decode cX11_loved 150 = .ok (.ireturn, 1) := by decide +kernel
theorem dX11_byTurns_0 : decode cX11_byTurns 0 = .ok (.aload_n 0, 1) := by decide +kernel
theorem dX11_byTurns_1 : decode cX11_byTurns 1 = .ok (.iload_n 1, 1) := by decide +kernel
theorem dX11_byTurns_2 : decode cX11_byTurns 2 = .ok (.iload_n 2, 1) := by decide +kernel
theorem dX11_byTurns_3 : decode cX11_byTurns 3 = .ok (.invokevirtual 146, 3) := by decide +kernel
theorem dX11_byTurns_6 : decode cX11_byTurns 6 = .ok (.ifCond .eq 21, 3) := by decide +kernel
theorem dX11_byTurns_9 : decode cX11_byTurns 9 = .ok (.iload_n 3, 1) := by decide +kernel
theorem dX11_byTurns_10 : decode cX11_byTurns 10 = .ok (.iconst 1, 1) := by decide +kernel
theorem dX11_byTurns_11 : decode cX11_byTurns 11 = .ok (.if_icmp .lt 16, 3) := by decide +kernel
theorem dX11_byTurns_14 : decode cX11_byTurns 14 = .ok (.iload_n 3, 1) := by decide +kernel
theorem dX11_byTurns_15 : decode cX11_byTurns 15 = .ok (.iconst 4, 1) := by decide +kernel
theorem dX11_byTurns_16 : decode cX11_byTurns 16 = .ok (.if_icmp .gt 11, 3) := by decide +kernel
theorem dX11_byTurns_19 : decode cX11_byTurns 19 = .ok (.iload 4, 2) := by decide +kernel
theorem dX11_byTurns_21 : decode cX11_byTurns 21 = .ok (.invokestatic 217, 3) := by decide +kernel
theorem dX11_byTurns_24 : decode cX11_byTurns 24 = .ok (.ifCond .ne 5, 3) := by decide +kernel
theorem dX11_byTurns_27 : decode cX11_byTurns 27 = .ok (.iconst (-1), 1) := by decide +kernel
theorem dX11_byTurns_28 : decode cX11_byTurns 28 = .ok (.ireturn, 1) := by decide +kernel
theorem dX11_byTurns_29 : decode cX11_byTurns 29 = .ok (.aload_n 0, 1) := by decide +kernel
theorem dX11_byTurns_30 : decode cX11_byTurns 30 = .ok (.iload_n 1, 1) := by decide +kernel
theorem dX11_byTurns_31 : decode cX11_byTurns 31 = .ok (.iload_n 2, 1) := by decide +kernel
theorem dX11_byTurns_32 : decode cX11_byTurns 32 = .ok (.invokevirtual 188, 3) := by decide +kernel
theorem dX11_byTurns_35 : decode cX11_byTurns 35 = .ok (.ifCond .ne 6, 3) := by decide +kernel
theorem dX11_byTurns_38 : decode cX11_byTurns 38 = .ok (.bipush (-2), 2) := by decide +kernel
theorem dX11_byTurns_40 : decode cX11_byTurns 40 = .ok (.ireturn, 1) := by decide +kernel
theorem dX11_byTurns_41 : decode cX11_byTurns 41 = .ok (.aload_n 0, 1) := by decide +kernel
theorem dX11_byTurns_42 : decode cX11_byTurns 42 = .ok (.getfield 30, 3) := by decide +kernel
theorem dX11_byTurns_45 : decode cX11_byTurns 45 = .ok (.aload_n 0, 1) := by decide +kernel
theorem dX11_byTurns_46 : decode cX11_byTurns 46 = .ok (.getfield 26, 3) := by decide +kernel
theorem dX11_byTurns_49 : decode cX11_byTurns 49 = .ok (.invokevirtual 272, 3) := by decide +kernel
theorem dX11_byTurns_52 : decode cX11_byTurns 52 = .ok (.aload_n 0, 1) := by decide +kernel
theorem dX11_byTurns_53 : decode cX11_byTurns 53 = .ok (.getfield 66, 3) := by decide +kernel
theorem dX11_byTurns_56 : decode cX11_byTurns 56 = .ok (.aload_n 0, 1) := by decide +kernel
theorem dX11_byTurns_57 : decode cX11_byTurns 57 = .ok (.getfield 30, 3) := by decide +kernel
theorem dX11_byTurns_60 : decode cX11_byTurns 60 = .ok (.aload_n 0, 1) := by decide +kernel
theorem dX11_byTurns_61 : decode cX11_byTurns 61 = .ok (.getfield 59, 3) := by decide +kernel
theorem dX11_byTurns_64 : decode cX11_byTurns 64 = .ok (.iload_n 1, 1) := by decide +kernel
theorem dX11_byTurns_65 : decode cX11_byTurns 65 = .ok (.iload_n 2, 1) := by decide +kernel
theorem dX11_byTurns_66 : decode cX11_byTurns 66 = .ok (.iload_n 3, 1) := by decide +kernel
theorem dX11_byTurns_67 : decode cX11_byTurns 67 = .ok (.invokestatic 275, 3) := by decide +kernel
theorem dX11_byTurns_70 : decode cX11_byTurns 70 = .ok (.istore 5, 2) := by decide +kernel
theorem dX11_byTurns_72 : decode cX11_byTurns 72 = .ok (.iload 4, 2) := by decide +kernel
theorem dX11_byTurns_74 : decode cX11_byTurns 74 = .ok (.ifCond .ne 11, 3) := by decide +kernel
theorem dX11_byTurns_77 : decode cX11_byTurns 77 = .ok (.iload 5, 2) := by decide +kernel
theorem dX11_byTurns_79 : decode cX11_byTurns 79 = .ok (.invokestatic 281, 3) := by decide +kernel
theorem dX11_byTurns_82 : decode cX11_byTurns 82 = .ok (.goto 11, 3) := by decide +kernel
theorem dX11_byTurns_85 : decode cX11_byTurns 85 = .ok (.aload_n 0, 1) := by decide +kernel
theorem dX11_byTurns_86 : decode cX11_byTurns 86 = .ok (.getfield 59, 3) := by decide +kernel
theorem dX11_byTurns_89 : decode cX11_byTurns 89 = .ok (.iload_n 3, 1) := by decide +kernel
theorem dX11_byTurns_90 : decode cX11_byTurns 90 = .ok (.invokestatic 284, 3) := by decide +kernel
theorem dX11_byTurns_93 : decode cX11_byTurns 93 = .ok (.ireturn, 1) := by decide +kernel
theorem dX11_chairs_0 : decode cX11_chairs 0 = .ok (.iload_n 1, 1) := by decide +kernel
theorem dX11_chairs_1 : decode cX11_chairs 1 = .ok (.invokestatic 239, 3) := by decide +kernel
theorem dX11_chairs_4 : decode cX11_chairs 4 = .ok (.ifCond .ne 5, 3) := by decide +kernel
theorem dX11_chairs_7 : decode cX11_chairs 7 = .ok (.iconst (-1), 1) := by decide +kernel
theorem dX11_chairs_8 : decode cX11_chairs 8 = .ok (.ireturn, 1) := by decide +kernel
theorem dX11_chairs_9 : decode cX11_chairs 9 = .ok (.iconst 0, 1) := by decide +kernel
theorem dX11_chairs_10 : decode cX11_chairs 10 = .ok (.istore_n 2, 1) := by decide +kernel
theorem dX11_chairs_11 : decode cX11_chairs 11 = .ok (.iconst 0, 1) := by decide +kernel
theorem dX11_chairs_12 : decode cX11_chairs 12 = .ok (.istore_n 3, 1) := by decide +kernel
theorem dX11_chairs_13 : decode cX11_chairs 13 = .ok (.iload_n 3, 1) := by decide +kernel
theorem dX11_chairs_14 : decode cX11_chairs 14 = .ok (.aload_n 0, 1) := by decide +kernel
theorem dX11_chairs_15 : decode cX11_chairs 15 = .ok (.getfield 66, 3) := by decide +kernel
theorem dX11_chairs_18 : decode cX11_chairs 18 = .ok (.getfield 103, 3) := by decide +kernel
theorem dX11_chairs_21 : decode cX11_chairs 21 = .ok (.if_icmp .ge 35, 3) := by decide +kernel
theorem dX11_chairs_24 : decode cX11_chairs 24 = .ok (.iload_n 2, 1) := by decide +kernel
theorem dX11_chairs_25 : decode cX11_chairs 25 = .ok (.aload_n 0, 1) := by decide +kernel
theorem dX11_chairs_26 : decode cX11_chairs 26 = .ok (.getfield 26, 3) := by decide +kernel
theorem dX11_chairs_29 : decode cX11_chairs 29 = .ok (.iload_n 3, 1) := by decide +kernel
theorem dX11_chairs_30 : decode cX11_chairs 30 = .ok (.invokevirtual 122, 3) := by decide +kernel
theorem dX11_chairs_33 : decode cX11_chairs 33 = .ok (.ifCond .eq 14, 3) := by decide +kernel
theorem dX11_chairs_36 : decode cX11_chairs 36 = .ok (.aload_n 0, 1) := by decide +kernel
theorem dX11_chairs_37 : decode cX11_chairs 37 = .ok (.getfield 26, 3) := by decide +kernel
theorem dX11_chairs_40 : decode cX11_chairs 40 = .ok (.iload_n 3, 1) := by decide +kernel
theorem dX11_chairs_41 : decode cX11_chairs 41 = .ok (.invokevirtual 154, 3) := by decide +kernel
theorem dX11_chairs_44 : decode cX11_chairs 44 = .ok (.goto 4, 3) := by decide +kernel
theorem dX11_chairs_47 : decode cX11_chairs 47 = .ok (.iconst 0, 1) := by decide +kernel
theorem dX11_chairs_48 : decode cX11_chairs 48 = .ok (.ior, 1) := by decide +kernel
theorem dX11_chairs_49 : decode cX11_chairs 49 = .ok (.istore_n 2, 1) := by decide +kernel
theorem dX11_chairs_50 : decode cX11_chairs 50 = .ok (.iinc 3 1, 3) := by decide +kernel
theorem dX11_chairs_53 : decode cX11_chairs 53 = .ok (.goto (-40), 3) := by decide +kernel
theorem dX11_chairs_56 : decode cX11_chairs 56 = .ok (.bipush (-4), 2) := by decide +kernel
theorem dX11_chairs_58 : decode cX11_chairs 58 = .ok (.istore_n 3, 1) := by decide +kernel
theorem dX11_chairs_59 : decode cX11_chairs 59 = .ok (.iconst 0, 1) := by decide +kernel
theorem dX11_chairs_60 : decode cX11_chairs 60 = .ok (.istore 4, 2) := by decide +kernel
theorem dX11_chairs_62 : decode cX11_chairs 62 = .ok (.iload 4, 2) := by decide +kernel
theorem dX11_chairs_64 : decode cX11_chairs 64 = .ok (.sipush 256, 3) := by decide +kernel
theorem dX11_chairs_67 : decode cX11_chairs 67 = .ok (.if_icmp .ge 64, 3) := by decide +kernel
theorem dX11_chairs_70 : decode cX11_chairs 70 = .ok (.iload_n 3, 1) := by decide +kernel
theorem dX11_chairs_71 : decode cX11_chairs 71 = .ok (.bipush (-4), 2) := by decide +kernel
theorem dX11_chairs_73 : decode cX11_chairs 73 = .ok (.if_icmp .eq 12, 3) := by decide +kernel
theorem dX11_chairs_76 : decode cX11_chairs 76 = .ok (.iload 4, 2) := by decide +kernel
theorem dX11_chairs_78 : decode cX11_chairs 78 = .ok (.invokestatic 290, 3) := by decide +kernel
theorem dX11_chairs_81 : decode cX11_chairs 81 = .ok (.iload_n 3, 1) := by decide +kernel
theorem dX11_chairs_82 : decode cX11_chairs 82 = .ok (.if_icmp .ge 7, 3) := by decide +kernel
theorem dX11_chairs_85 : decode cX11_chairs 85 = .ok (.iconst 1, 1) := by decide +kernel
theorem dX11_chairs_86 : decode cX11_chairs 86 = .ok (.goto 4, 3) := by decide +kernel
theorem dX11_chairs_89 : decode cX11_chairs 89 = .ok (.iconst 0, 1) := by decide +kernel
theorem dX11_chairs_90 : decode cX11_chairs 90 = .ok (.istore 5, 2) := by decide +kernel
theorem dX11_chairs_92 : decode cX11_chairs 92 = .ok (.iload 4, 2) := by decide +kernel
theorem dX11_chairs_94 : decode cX11_chairs 94 = .ok (.iload_n 2, 1) := by decide +kernel
theorem dX11_chairs_95 : decode cX11_chairs 95 = .ok (.iconst (-1), 1) := by decide +kernel
theorem dX11_chairs_96 : decode cX11_chairs 96 = .ok (.ixor, 1) := by decide +kernel
theorem dX11_chairs_97 : decode cX11_chairs 97 = .ok (.iand, 1) := by decide +kernel
theorem dX11_chairs_98 : decode cX11_chairs 98 = .ok (.ifCond .ne 27, 3) := by decide +kernel
theorem dX11_chairs_101 : decode cX11_chairs 101 = .ok (.iload 5, 2) := by decide +kernel
theorem dX11_chairs_103 : decode cX11_chairs 103 = .ok (.ifCond .eq 22, 3) := by decide +kernel
theorem dX11_chairs_106 : decode cX11_chairs 106 = .ok (.aload_n 0, 1) := by decide +kernel
theorem dX11_chairs_107 : decode cX11_chairs 107 = .ok (.getfield 66, 3) := by decide +kernel
theorem dX11_chairs_110 : decode cX11_chairs 110 = .ok (.iload 4, 2) := by decide +kernel
theorem dX11_chairs_112 : decode cX11_chairs 112 = .ok (.invokestatic 295, 3) := by decide +kernel
theorem dX11_chairs_115 : decode cX11_chairs 115 = .ok (.iload_n 1, 1) := by decide +kernel
theorem dX11_chairs_116 : decode cX11_chairs 116 = .ok (.if_icmp .lt 9, 3) := by decide +kernel
theorem dX11_chairs_119 : decode cX11_chairs 119 = .ok (.iload 4, 2) := by decide +kernel
theorem dX11_chairs_121 : decode cX11_chairs 121 = .ok (.invokestatic 290, 3) := by decide +kernel
theorem dX11_chairs_124 : decode cX11_chairs 124 = .ok (.istore_n 3, 1) := by decide +kernel
theorem dX11_chairs_125 : decode cX11_chairs 125 = .ok (.iinc 4 1, 3) := by decide +kernel
theorem dX11_chairs_128 : decode cX11_chairs 128 = .ok (.goto (-66), 3) := by decide +kernel
theorem dX11_chairs_131 : decode cX11_chairs 131 = .ok (.iload_n 3, 1) := by decide +kernel
theorem dX11_chairs_132 : decode cX11_chairs 132 = .ok (.ireturn, 1) := by decide +kernel
theorem dX11_year_0 : decode cX11_year 0 = .ok (.iload_n 1, 1) := by decide +kernel
theorem dX11_year_1 : decode cX11_year 1 = .ok (.ifCond .lt 28, 3) := by decide +kernel
theorem dX11_year_4 : decode cX11_year 4 = .ok (.iload_n 1, 1) := by decide +kernel
theorem dX11_year_5 : decode cX11_year 5 = .ok (.sipush 9999, 3) := by decide +kernel
theorem dX11_year_8 : decode cX11_year 8 = .ok (.if_icmp .gt 21, 3) := by decide +kernel
theorem dX11_year_11 : decode cX11_year 11 = .ok (.iload_n 2, 1) := by decide +kernel
theorem dX11_year_12 : decode cX11_year 12 = .ok (.iconst 1, 1) := by decide +kernel
theorem dX11_year_13 : decode cX11_year 13 = .ok (.if_icmp .lt 16, 3) := by decide +kernel
theorem dX11_year_16 : decode cX11_year 16 = .ok (.iload_n 2, 1) := by decide +kernel
theorem dX11_year_17 : decode cX11_year 17 = .ok (.bipush 40, 2) := by decide +kernel
theorem dX11_year_19 : decode cX11_year 19 = .ok (.if_icmp .gt 10, 3) := by decide +kernel
theorem dX11_year_22 : decode cX11_year 22 = .ok (.iload_n 3, 1) := by decide +kernel
theorem dX11_year_23 : decode cX11_year 23 = .ok (.invokestatic 217, 3) := by decide +kernel
theorem dX11_year_26 : decode cX11_year 26 = .ok (.ifCond .ne 5, 3) := by decide +kernel
theorem dX11_year_29 : decode cX11_year 29 = .ok (.iconst (-1), 1) := by decide +kernel
theorem dX11_year_30 : decode cX11_year 30 = .ok (.ireturn, 1) := by decide +kernel
theorem dX11_year_31 : decode cX11_year 31 = .ok (.aload_n 0, 1) := by decide +kernel
theorem dX11_year_32 : decode cX11_year 32 = .ok (.getfield 30, 3) := by decide +kernel
theorem dX11_year_35 : decode cX11_year 35 = .ok (.aload_n 0, 1) := by decide +kernel
theorem dX11_year_36 : decode cX11_year 36 = .ok (.getfield 26, 3) := by decide +kernel
theorem dX11_year_39 : decode cX11_year 39 = .ok (.invokevirtual 272, 3) := by decide +kernel
theorem dX11_year_42 : decode cX11_year 42 = .ok (.iconst 0, 1) := by decide +kernel
theorem dX11_year_43 : decode cX11_year 43 = .ok (.istore 4, 2) := by decide +kernel
theorem dX11_year_45 : decode cX11_year 45 = .ok (.iconst 0, 1) := by decide +kernel
theorem dX11_year_46 : decode cX11_year 46 = .ok (.istore 5, 2) := by decide +kernel
theorem dX11_year_48 : decode cX11_year 48 = .ok (.iload 5, 2) := by decide +kernel
theorem dX11_year_50 : decode cX11_year 50 = .ok (.iload_n 2, 1) := by decide +kernel
theorem dX11_year_51 : decode cX11_year 51 = .ok (.if_icmp .ge 32, 3) := by decide +kernel
theorem dX11_year_54 : decode cX11_year 54 = .ok (.iload 4, 2) := by decide +kernel
theorem dX11_year_56 : decode cX11_year 56 = .ok (.aload_n 0, 1) := by decide +kernel
theorem dX11_year_57 : decode cX11_year 57 = .ok (.getfield 66, 3) := by decide +kernel
theorem dX11_year_60 : decode cX11_year 60 = .ok (.aload_n 0, 1) := by decide +kernel
theorem dX11_year_61 : decode cX11_year 61 = .ok (.getfield 30, 3) := by decide +kernel
theorem dX11_year_64 : decode cX11_year 64 = .ok (.aload_n 0, 1) := by decide +kernel
theorem dX11_year_65 : decode cX11_year 65 = .ok (.iload_n 1, 1) := by decide +kernel
theorem dX11_year_66 : decode cX11_year 66 = .ok (.iload 5, 2) := by decide +kernel
theorem dX11_year_68 : decode cX11_year 68 = .ok (.invokevirtual 298, 3) := by decide +kernel
theorem dX11_year_71 : decode cX11_year 71 = .ok (.invokestatic 301, 3) := by decide +kernel
theorem dX11_year_74 : decode cX11_year 74 = .ok (.iadd, 1) := by decide +kernel
theorem dX11_year_75 : decode cX11_year 75 = .ok (.istore 4, 2) := by decide +kernel
theorem dX11_year_77 : decode cX11_year 77 = .ok (.iinc 5 1, 3) := by decide +kernel
theorem dX11_year_80 : decode cX11_year 80 = .ok (.goto (-32), 3) := by decide +kernel
theorem dX11_year_83 : decode cX11_year 83 = .ok (.iload_n 3, 1) := by decide +kernel
theorem dX11_year_84 : decode cX11_year 84 = .ok (.ifCond .ne 14, 3) := by decide +kernel
theorem dX11_year_87 : decode cX11_year 87 = .ok (.aload_n 0, 1) := by decide +kernel
theorem dX11_year_88 : decode cX11_year 88 = .ok (.aload_n 0, 1) := by decide +kernel
theorem dX11_year_89 : decode cX11_year 89 = .ok (.getfield 30, 3) := by decide +kernel
theorem dX11_year_92 : decode cX11_year 92 = .ok (.invokevirtual 304, 3) := by decide +kernel
theorem dX11_year_95 : decode cX11_year 95 = .ok (.goto 5, 3) := by decide +kernel
theorem dX11_year_98 : decode cX11_year 98 = .ok (.iload 4, 2) := by decide +kernel
theorem dX11_year_100 : decode cX11_year 100 = .ok (.ireturn, 1) := by decide +kernel
theorem dX11_keep_0 : decode cX11_keep 0 = .ok (.aload_n 0, 1) := by decide +kernel
theorem dX11_keep_1 : decode cX11_keep 1 = .ok (.getfield 42, 3) := by decide +kernel
theorem dX11_keep_4 : decode cX11_keep 4 = .ok (.getfield 211, 3) := by decide +kernel
theorem dX11_keep_7 : decode cX11_keep 7 = .ok (.iconst 2, 1) := by decide +kernel
theorem dX11_keep_8 : decode cX11_keep 8 = .ok (.if_icmp .lt 6, 3) := by decide +kernel
theorem dX11_keep_11 : decode cX11_keep 11 = .ok (.bipush (-3), 2) := by decide +kernel
theorem dX11_keep_13 : decode cX11_keep 13 = .ok (.ireturn, 1) := by decide +kernel
theorem dX11_keep_14 : decode cX11_keep 14 = .ok (.aload_n 0, 1) := by decide +kernel
theorem dX11_keep_15 : decode cX11_keep 15 = .ok (.getfield 42, 3) := by decide +kernel
theorem dX11_keep_18 : decode cX11_keep 18 = .ok (.aload_n 0, 1) := by decide +kernel
theorem dX11_keep_19 : decode cX11_keep 19 = .ok (.getfield 26, 3) := by decide +kernel
theorem dX11_keep_22 : decode cX11_keep 22 = .ok (.invokevirtual 166, 3) := by decide +kernel
theorem dX11_keep_25 : decode cX11_keep 25 = .ok (.aload_n 0, 1) := by decide +kernel
theorem dX11_keep_26 : decode cX11_keep 26 = .ok (.getfield 42, 3) := by decide +kernel
theorem dX11_keep_29 : decode cX11_keep 29 = .ok (.getfield 211, 3) := by decide +kernel
theorem dX11_keep_32 : decode cX11_keep 32 = .ok (.ireturn, 1) := by decide +kernel
theorem dX11_back_0 : decode cX11_back 0 = .ok (.aload_n 0, 1) := by decide +kernel
theorem dX11_back_1 : decode cX11_back 1 = .ok (.getfield 42, 3) := by decide +kernel
theorem dX11_back_4 : decode cX11_back 4 = .ok (.aload_n 0, 1) := by decide +kernel
theorem dX11_back_5 : decode cX11_back 5 = .ok (.getfield 26, 3) := by decide +kernel
theorem dX11_back_8 : decode cX11_back 8 = .ok (.invokevirtual 207, 3) := by decide +kernel
theorem dX11_back_11 : decode cX11_back 11 = .ok (.ifCond .ne 6, 3) := by decide +kernel
theorem dX11_back_14 : decode cX11_back 14 = .ok (.bipush (-2), 2) := by decide +kernel
theorem dX11_back_16 : decode cX11_back 16 = .ok (.ireturn, 1) := by decide +kernel
theorem dX11_back_17 : decode cX11_back 17 = .ok (.aload_n 0, 1) := by decide +kernel
theorem dX11_back_18 : decode cX11_back 18 = .ok (.getfield 38, 3) := by decide +kernel
theorem dX11_back_21 : decode cX11_back 21 = .ok (.invokevirtual 106, 3) := by decide +kernel
theorem dX11_back_24 : decode cX11_back 24 = .ok (.aload_n 0, 1) := by decide +kernel
theorem dX11_back_25 : decode cX11_back 25 = .ok (.getfield 42, 3) := by decide +kernel
theorem dX11_back_28 : decode cX11_back 28 = .ok (.getfield 211, 3) := by decide +kernel
theorem dX11_back_31 : decode cX11_back 31 = .ok (.ireturn, 1) := by decide +kernel
theorem dX11_count_0 : decode cX11_count 0 = .ok (.iload_n 1, 1) := by decide +kernel
theorem dX11_count_1 : decode cX11_count 1 = .ok (.tableswitch 153 0 10 #[59, 67, 75, 84, 95, 108, 113, 121, 129, 137, 145], 59) := by decide +kernel
theorem dX11_count_60 : decode cX11_count 60 = .ok (.aload_n 0, 1) := by decide +kernel
theorem dX11_count_61 : decode cX11_count 61 = .ok (.getfield 66, 3) := by decide +kernel
theorem dX11_count_64 : decode cX11_count 64 = .ok (.getfield 103, 3) := by decide +kernel
theorem dX11_count_67 : decode cX11_count 67 = .ok (.ireturn, 1) := by decide +kernel
theorem dX11_count_68 : decode cX11_count 68 = .ok (.aload_n 0, 1) := by decide +kernel
theorem dX11_count_69 : decode cX11_count 69 = .ok (.getfield 66, 3) := by decide +kernel
theorem dX11_count_72 : decode cX11_count 72 = .ok (.getfield 263, 3) := by decide +kernel
theorem dX11_count_75 : decode cX11_count 75 = .ok (.ireturn, 1) := by decide +kernel
theorem dX11_count_76 : decode cX11_count 76 = .ok (.aload_n 0, 1) := by decide +kernel
theorem dX11_count_77 : decode cX11_count 77 = .ok (.aload_n 0, 1) := by decide +kernel
theorem dX11_count_78 : decode cX11_count 78 = .ok (.getfield 26, 3) := by decide +kernel
theorem dX11_count_81 : decode cX11_count 81 = .ok (.invokevirtual 304, 3) := by decide +kernel
theorem dX11_count_84 : decode cX11_count 84 = .ok (.ireturn, 1) := by decide +kernel
theorem dX11_count_85 : decode cX11_count 85 = .ok (.aload_n 0, 1) := by decide +kernel
theorem dX11_count_86 : decode cX11_count 86 = .ok (.getfield 26, 3) := by decide +kernel
theorem dX11_count_89 : decode cX11_count 89 = .ok (.getfield 157, 3) := by decide +kernel
theorem dX11_count_92 : decode cX11_count 92 = .ok (.invokestatic 290, 3) := by decide +kernel
theorem dX11_count_95 : decode cX11_count 95 = .ok (.ireturn, 1) := by decide +kernel
theorem dX11_count_96 : decode cX11_count 96 = .ok (.aload_n 0, 1) := by decide +kernel
theorem dX11_count_97 : decode cX11_count 97 = .ok (.getfield 26, 3) := by decide +kernel
theorem dX11_count_100 : decode cX11_count 100 = .ok (.bipush (-4), 2) := by decide +kernel
theorem dX11_count_102 : decode cX11_count 102 = .ok (.invokevirtual 154, 3) := by decide +kernel
theorem dX11_count_105 : decode cX11_count 105 = .ok (.invokestatic 290, 3) := by decide +kernel
theorem dX11_count_108 : decode cX11_count 108 = .ok (.ireturn, 1) := by decide +kernel
theorem dX11_count_109 : decode cX11_count 109 = .ok (.aload_n 0, 1) := by decide +kernel
theorem dX11_count_110 : decode cX11_count 110 = .ok (.invokevirtual 308, 3) := by decide +kernel
theorem dX11_count_113 : decode cX11_count 113 = .ok (.ireturn, 1) := by decide +kernel
theorem dX11_count_114 : decode cX11_count 114 = .ok (.aload_n 0, 1) := by decide +kernel
theorem dX11_count_115 : decode cX11_count 115 = .ok (.getfield 66, 3) := by decide +kernel
theorem dX11_count_118 : decode cX11_count 118 = .ok (.getfield 311, 3) := by decide +kernel
theorem dX11_count_121 : decode cX11_count 121 = .ok (.ireturn, 1) := by decide +kernel
theorem dX11_count_122 : decode cX11_count 122 = .ok (.aload_n 0, 1) := by decide +kernel
theorem dX11_count_123 : decode cX11_count 123 = .ok (.getfield 48, 3) := by decide +kernel
theorem dX11_count_126 : decode cX11_count 126 = .ok (.getfield 244, 3) := by decide +kernel
theorem dX11_count_129 : decode cX11_count 129 = .ok (.ireturn, 1) := by decide +kernel
theorem dX11_count_130 : decode cX11_count 130 = .ok (.aload_n 0, 1) := by decide +kernel
theorem dX11_count_131 : decode cX11_count 131 = .ok (.getfield 38, 3) := by decide +kernel
theorem dX11_count_134 : decode cX11_count 134 = .ok (.getfield 211, 3) := by decide +kernel
theorem dX11_count_137 : decode cX11_count 137 = .ok (.ireturn, 1) := by decide +kernel
theorem dX11_count_138 : decode cX11_count 138 = .ok (.aload_n 0, 1) := by decide +kernel
theorem dX11_count_139 : decode cX11_count 139 = .ok (.getfield 42, 3) := by decide +kernel
theorem dX11_count_142 : decode cX11_count 142 = .ok (.getfield 211, 3) := by decide +kernel
theorem dX11_count_145 : decode cX11_count 145 = .ok (.ireturn, 1) := by decide +kernel
theorem dX11_count_146 : decode cX11_count 146 = .ok (.aload_n 0, 1) := by decide +kernel
theorem dX11_count_147 : decode cX11_count 147 = .ok (.getfield 10, 3) := by decide +kernel
theorem dX11_count_150 : decode cX11_count 150 = .ok (.getfield 100, 3) := by decide +kernel
theorem dX11_count_153 : decode cX11_count 153 = .ok (.ireturn, 1) := by decide +kernel
theorem dX11_count_154 : decode cX11_count 154 = .ok (.iconst (-1), 1) := by decide +kernel
theorem dX11_count_155 : decode cX11_count 155 = .ok (.ireturn, 1) := by decide +kernel
theorem dX11_isAsked_0 : decode cX11_isAsked 0 = .ok (.iload_n 0, 1) := by decide +kernel
theorem dX11_isAsked_1 : decode cX11_isAsked 1 = .ok (.ifCond .eq 8, 3) := by decide +kernel
theorem dX11_isAsked_4 : decode cX11_isAsked 4 = .ok (.iload_n 0, 1) := by decide +kernel
theorem dX11_isAsked_5 : decode cX11_isAsked 5 = .ok (.iconst 1, 1) := by decide +kernel
theorem dX11_isAsked_6 : decode cX11_isAsked 6 = .ok (.if_icmp .ne 7, 3) := by decide +kernel
theorem dX11_isAsked_9 : decode cX11_isAsked 9 = .ok (.iconst 1, 1) := by decide +kernel
theorem dX11_isAsked_10 : decode cX11_isAsked 10 = .ok (.goto 4, 3) := by decide +kernel
theorem dX11_isAsked_13 : decode cX11_isAsked 13 = .ok (.iconst 0, 1) := by decide +kernel
theorem dX11_isAsked_14 : decode cX11_isAsked 14 = .ok (.ireturn, 1) := by decide +kernel
theorem dX11_isSum_0 : decode cX11_isSum 0 = .ok (.iload_n 0, 1) := by decide +kernel
theorem dX11_isSum_1 : decode cX11_isSum 1 = .ok (.ifCond .lt 14, 3) := by decide +kernel
theorem dX11_isSum_4 : decode cX11_isSum 4 = .ok (.iload_n 0, 1) := by decide +kernel
theorem dX11_isSum_5 : decode cX11_isSum 5 = .ok (.sipush 999, 3) := by decide +kernel
theorem dX11_isSum_8 : decode cX11_isSum 8 = .ok (.if_icmp .gt 7, 3) := by decide +kernel
theorem dX11_isSum_11 : decode cX11_isSum 11 = .ok (.iconst 1, 1) := by decide +kernel
theorem dX11_isSum_12 : decode cX11_isSum 12 = .ok (.goto 4, 3) := by decide +kernel
theorem dX11_isSum_15 : decode cX11_isSum 15 = .ok (.iconst 0, 1) := by decide +kernel
theorem dX11_isSum_16 : decode cX11_isSum 16 = .ok (.ireturn, 1) := by decide +kernel
theorem dX11_isPair_0 : decode cX11_isPair 0 = .ok (.iload_n 1, 1) := by decide +kernel
theorem dX11_isPair_1 : decode cX11_isPair 1 = .ok (.iload_n 2, 1) := by decide +kernel
theorem dX11_isPair_2 : decode cX11_isPair 2 = .ok (.if_icmp .eq 29, 3) := by decide +kernel
theorem dX11_isPair_5 : decode cX11_isPair 5 = .ok (.aload_n 0, 1) := by decide +kernel
theorem dX11_isPair_6 : decode cX11_isPair 6 = .ok (.getfield 66, 3) := by decide +kernel
theorem dX11_isPair_9 : decode cX11_isPair 9 = .ok (.iload_n 1, 1) := by decide +kernel
theorem dX11_isPair_10 : decode cX11_isPair 10 = .ok (.invokevirtual 108, 3) := by decide +kernel
theorem dX11_isPair_13 : decode cX11_isPair 13 = .ok (.ifCond .eq 18, 3) := by decide +kernel
theorem dX11_isPair_16 : decode cX11_isPair 16 = .ok (.aload_n 0, 1) := by decide +kernel
theorem dX11_isPair_17 : decode cX11_isPair 17 = .ok (.getfield 66, 3) := by decide +kernel
theorem dX11_isPair_20 : decode cX11_isPair 20 = .ok (.iload_n 2, 1) := by decide +kernel
theorem dX11_isPair_21 : decode cX11_isPair 21 = .ok (.invokevirtual 108, 3) := by decide +kernel
theorem dX11_isPair_24 : decode cX11_isPair 24 = .ok (.ifCond .eq 7, 3) := by decide +kernel
theorem dX11_isPair_27 : decode cX11_isPair 27 = .ok (.iconst 1, 1) := by decide +kernel
theorem dX11_isPair_28 : decode cX11_isPair 28 = .ok (.goto 4, 3) := by decide +kernel
theorem dX11_isPair_31 : decode cX11_isPair 31 = .ok (.iconst 0, 1) := by decide +kernel
theorem dX11_isPair_32 : decode cX11_isPair 32 = .ok (.ireturn, 1) := by decide +kernel
theorem dX11_areHere_0 : decode cX11_areHere 0 = .ok (.aload_n 0, 1) := by decide +kernel
theorem dX11_areHere_1 : decode cX11_areHere 1 = .ok (.getfield 26, 3) := by decide +kernel
theorem dX11_areHere_4 : decode cX11_areHere 4 = .ok (.iload_n 1, 1) := by decide +kernel
theorem dX11_areHere_5 : decode cX11_areHere 5 = .ok (.invokevirtual 122, 3) := by decide +kernel
theorem dX11_areHere_8 : decode cX11_areHere 8 = .ok (.ifCond .eq 18, 3) := by decide +kernel
theorem dX11_areHere_11 : decode cX11_areHere 11 = .ok (.aload_n 0, 1) := by decide +kernel
theorem dX11_areHere_12 : decode cX11_areHere 12 = .ok (.getfield 26, 3) := by decide +kernel
theorem dX11_areHere_15 : decode cX11_areHere 15 = .ok (.iload_n 2, 1) := by decide +kernel
theorem dX11_areHere_16 : decode cX11_areHere 16 = .ok (.invokevirtual 122, 3) := by decide +kernel
theorem dX11_areHere_19 : decode cX11_areHere 19 = .ok (.ifCond .eq 7, 3) := by decide +kernel
theorem dX11_areHere_22 : decode cX11_areHere 22 = .ok (.iconst 1, 1) := by decide +kernel
theorem dX11_areHere_23 : decode cX11_areHere 23 = .ok (.goto 4, 3) := by decide +kernel
theorem dX11_areHere_26 : decode cX11_areHere 26 = .ok (.iconst 0, 1) := by decide +kernel
theorem dX11_areHere_27 : decode cX11_areHere 27 = .ok (.ireturn, 1) := by decide +kernel
theorem dX11_gone_0 : decode cX11_gone 0 = .ok (.aload_n 0, 1) := by decide +kernel
theorem dX11_gone_1 : decode cX11_gone 1 = .ok (.getfield 66, 3) := by decide +kernel
theorem dX11_gone_4 : decode cX11_gone 4 = .ok (.getfield 103, 3) := by decide +kernel
theorem dX11_gone_7 : decode cX11_gone 7 = .ok (.aload_n 1, 1) := by decide +kernel
theorem dX11_gone_8 : decode cX11_gone 8 = .ok (.getfield 195, 3) := by decide +kernel
theorem dX11_gone_11 : decode cX11_gone 11 = .ok (.invokestatic 290, 3) := by decide +kernel
theorem dX11_gone_14 : decode cX11_gone 14 = .ok (.isub, 1) := by decide +kernel
theorem dX11_gone_15 : decode cX11_gone 15 = .ok (.ireturn, 1) := by decide +kernel
theorem dX11_paidInAll_0 : decode cX11_paidInAll 0 = .ok (.iconst 0, 1) := by decide +kernel
theorem dX11_paidInAll_1 : decode cX11_paidInAll 1 = .ok (.istore_n 1, 1) := by decide +kernel
theorem dX11_paidInAll_2 : decode cX11_paidInAll 2 = .ok (.iconst 0, 1) := by decide +kernel
theorem dX11_paidInAll_3 : decode cX11_paidInAll 3 = .ok (.istore_n 2, 1) := by decide +kernel
theorem dX11_paidInAll_4 : decode cX11_paidInAll 4 = .ok (.iload_n 2, 1) := by decide +kernel
theorem dX11_paidInAll_5 : decode cX11_paidInAll 5 = .ok (.aload_n 0, 1) := by decide +kernel
theorem dX11_paidInAll_6 : decode cX11_paidInAll 6 = .ok (.getfield 66, 3) := by decide +kernel
theorem dX11_paidInAll_9 : decode cX11_paidInAll 9 = .ok (.getfield 103, 3) := by decide +kernel
theorem dX11_paidInAll_12 : decode cX11_paidInAll 12 = .ok (.if_icmp .ge 20, 3) := by decide +kernel
theorem dX11_paidInAll_15 : decode cX11_paidInAll 15 = .ok (.iload_n 1, 1) := by decide +kernel
theorem dX11_paidInAll_16 : decode cX11_paidInAll 16 = .ok (.aload_n 0, 1) := by decide +kernel
theorem dX11_paidInAll_17 : decode cX11_paidInAll 17 = .ok (.getfield 26, 3) := by decide +kernel
theorem dX11_paidInAll_20 : decode cX11_paidInAll 20 = .ok (.iload_n 2, 1) := by decide +kernel
theorem dX11_paidInAll_21 : decode cX11_paidInAll 21 = .ok (.invokevirtual 125, 3) := by decide +kernel
theorem dX11_paidInAll_24 : decode cX11_paidInAll 24 = .ok (.iadd, 1) := by decide +kernel
theorem dX11_paidInAll_25 : decode cX11_paidInAll 25 = .ok (.istore_n 1, 1) := by decide +kernel
theorem dX11_paidInAll_26 : decode cX11_paidInAll 26 = .ok (.iinc 2 1, 3) := by decide +kernel
theorem dX11_paidInAll_29 : decode cX11_paidInAll 29 = .ok (.goto (-25), 3) := by decide +kernel
theorem dX11_paidInAll_32 : decode cX11_paidInAll 32 = .ok (.iload_n 1, 1) := by decide +kernel
theorem dX11_paidInAll_33 : decode cX11_paidInAll 33 = .ok (.ireturn, 1) := by decide +kernel
theorem dX11_owedByAllAfterGiving_0 : decode cX11_owedByAllAfterGiving 0 = .ok (.aload_n 0, 1) := by decide +kernel
theorem dX11_owedByAllAfterGiving_1 : decode cX11_owedByAllAfterGiving 1 = .ok (.getfield 30, 3) := by decide +kernel
theorem dX11_owedByAllAfterGiving_4 : decode cX11_owedByAllAfterGiving 4 = .ok (.aload_n 0, 1) := by decide +kernel
theorem dX11_owedByAllAfterGiving_5 : decode cX11_owedByAllAfterGiving 5 = .ok (.getfield 26, 3) := by decide +kernel
theorem dX11_owedByAllAfterGiving_8 : decode cX11_owedByAllAfterGiving 8 = .ok (.invokevirtual 272, 3) := by decide +kernel
theorem dX11_owedByAllAfterGiving_11 : decode cX11_owedByAllAfterGiving 11 = .ok (.aload_n 0, 1) := by decide +kernel
theorem dX11_owedByAllAfterGiving_12 : decode cX11_owedByAllAfterGiving 12 = .ok (.getfield 30, 3) := by decide +kernel
theorem dX11_owedByAllAfterGiving_15 : decode cX11_owedByAllAfterGiving 15 = .ok (.iload_n 1, 1) := by decide +kernel
theorem dX11_owedByAllAfterGiving_16 : decode cX11_owedByAllAfterGiving 16 = .ok (.iload_n 2, 1) := by decide +kernel
theorem dX11_owedByAllAfterGiving_17 : decode cX11_owedByAllAfterGiving 17 = .ok (.invokevirtual 174, 3) := by decide +kernel
theorem dX11_owedByAllAfterGiving_20 : decode cX11_owedByAllAfterGiving 20 = .ok (.iconst 0, 1) := by decide +kernel
theorem dX11_owedByAllAfterGiving_21 : decode cX11_owedByAllAfterGiving 21 = .ok (.istore_n 3, 1) := by decide +kernel
theorem dX11_owedByAllAfterGiving_22 : decode cX11_owedByAllAfterGiving 22 = .ok (.iconst 0, 1) := by decide +kernel
theorem dX11_owedByAllAfterGiving_23 : decode cX11_owedByAllAfterGiving 23 = .ok (.istore 4, 2) := by decide +kernel
theorem dX11_owedByAllAfterGiving_25 : decode cX11_owedByAllAfterGiving 25 = .ok (.iload 4, 2) := by decide +kernel
theorem dX11_owedByAllAfterGiving_27 : decode cX11_owedByAllAfterGiving 27 = .ok (.aload_n 0, 1) := by decide +kernel
theorem dX11_owedByAllAfterGiving_28 : decode cX11_owedByAllAfterGiving 28 = .ok (.getfield 66, 3) := by decide +kernel
theorem dX11_owedByAllAfterGiving_31 : decode cX11_owedByAllAfterGiving 31 = .ok (.getfield 103, 3) := by decide +kernel
theorem dX11_owedByAllAfterGiving_34 : decode cX11_owedByAllAfterGiving 34 = .ok (.if_icmp .ge 41, 3) := by decide +kernel
theorem dX11_owedByAllAfterGiving_37 : decode cX11_owedByAllAfterGiving 37 = .ok (.iload_n 3, 1) := by decide +kernel
theorem dX11_owedByAllAfterGiving_38 : decode cX11_owedByAllAfterGiving 38 = .ok (.aload_n 0, 1) := by decide +kernel
theorem dX11_owedByAllAfterGiving_39 : decode cX11_owedByAllAfterGiving 39 = .ok (.getfield 30, 3) := by decide +kernel
theorem dX11_owedByAllAfterGiving_42 : decode cX11_owedByAllAfterGiving 42 = .ok (.iload 4, 2) := by decide +kernel
theorem dX11_owedByAllAfterGiving_44 : decode cX11_owedByAllAfterGiving 44 = .ok (.invokevirtual 122, 3) := by decide +kernel
theorem dX11_owedByAllAfterGiving_47 : decode cX11_owedByAllAfterGiving 47 = .ok (.ifCond .eq 19, 3) := by decide +kernel
theorem dX11_owedByAllAfterGiving_50 : decode cX11_owedByAllAfterGiving 50 = .ok (.aload_n 0, 1) := by decide +kernel
theorem dX11_owedByAllAfterGiving_51 : decode cX11_owedByAllAfterGiving 51 = .ok (.getfield 66, 3) := by decide +kernel
theorem dX11_owedByAllAfterGiving_54 : decode cX11_owedByAllAfterGiving 54 = .ok (.aload_n 0, 1) := by decide +kernel
theorem dX11_owedByAllAfterGiving_55 : decode cX11_owedByAllAfterGiving 55 = .ok (.getfield 30, 3) := by decide +kernel
theorem dX11_owedByAllAfterGiving_58 : decode cX11_owedByAllAfterGiving 58 = .ok (.iload 4, 2) := by decide +kernel
theorem dX11_owedByAllAfterGiving_60 : decode cX11_owedByAllAfterGiving 60 = .ok (.invokestatic 214, 3) := by decide +kernel
theorem dX11_owedByAllAfterGiving_63 : decode cX11_owedByAllAfterGiving 63 = .ok (.goto 4, 3) := by decide +kernel
theorem dX11_owedByAllAfterGiving_66 : decode cX11_owedByAllAfterGiving 66 = .ok (.iconst 0, 1) := by decide +kernel
theorem dX11_owedByAllAfterGiving_67 : decode cX11_owedByAllAfterGiving 67 = .ok (.iadd, 1) := by decide +kernel
theorem dX11_owedByAllAfterGiving_68 : decode cX11_owedByAllAfterGiving 68 = .ok (.istore_n 3, 1) := by decide +kernel
theorem dX11_owedByAllAfterGiving_69 : decode cX11_owedByAllAfterGiving 69 = .ok (.iinc 4 1, 3) := by decide +kernel
theorem dX11_owedByAllAfterGiving_72 : decode cX11_owedByAllAfterGiving 72 = .ok (.goto (-47), 3) := by decide +kernel
theorem dX11_owedByAllAfterGiving_75 : decode cX11_owedByAllAfterGiving 75 = .ok (.iload_n 3, 1) := by decide +kernel
theorem dX11_owedByAllAfterGiving_76 : decode cX11_owedByAllAfterGiving 76 = .ok (.ireturn, 1) := by decide +kernel
theorem dX11_drawn_0 : decode cX11_drawn 0 = .ok (.ldc2_w 314, 3) := by decide +kernel
theorem dX11_drawn_3 : decode cX11_drawn 3 = .ok (.iload_n 1, 1) := by decide +kernel
theorem dX11_drawn_4 : decode cX11_drawn 4 = .ok (.i2l, 1) := by decide +kernel
theorem dX11_drawn_5 : decode cX11_drawn 5 = .ok (.lmul, 1) := by decide +kernel
theorem dX11_drawn_6 : decode cX11_drawn 6 = .ok (.ldc2_w 316, 3) := by decide +kernel
theorem dX11_drawn_9 : decode cX11_drawn 9 = .ok (.iload_n 2, 1) := by decide +kernel
theorem dX11_drawn_10 : decode cX11_drawn 10 = .ok (.i2l, 1) := by decide +kernel
theorem dX11_drawn_11 : decode cX11_drawn 11 = .ok (.lmul, 1) := by decide +kernel
theorem dX11_drawn_12 : decode cX11_drawn 12 = .ok (.ladd, 1) := by decide +kernel
theorem dX11_drawn_13 : decode cX11_drawn 13 = .ok (.lconst 1, 1) := by decide +kernel
theorem dX11_drawn_14 : decode cX11_drawn 14 = .ok (.ladd, 1) := by decide +kernel
theorem dX11_drawn_15 : decode cX11_drawn 15 = .ok (.lstore_n 3, 1) := by decide +kernel
theorem dX11_drawn_16 : decode cX11_drawn 16 = .ok (.lload_n 3, 1) := by decide +kernel
theorem dX11_drawn_17 : decode cX11_drawn 17 = .ok (.lload_n 3, 1) := by decide +kernel
theorem dX11_drawn_18 : decode cX11_drawn 18 = .ok (.lmul, 1) := by decide +kernel
theorem dX11_drawn_19 : decode cX11_drawn 19 = .ok (.ldc2_w 318, 3) := by decide +kernel
theorem dX11_drawn_22 : decode cX11_drawn 22 = .ok (.lrem, 1) := by decide +kernel
theorem dX11_drawn_23 : decode cX11_drawn 23 = .ok (.ldc2_w 320, 3) := by decide +kernel
theorem dX11_drawn_26 : decode cX11_drawn 26 = .ok (.ldiv, 1) := by decide +kernel
theorem dX11_drawn_27 : decode cX11_drawn 27 = .ok (.lstore 5, 2) := by decide +kernel
theorem dX11_drawn_29 : decode cX11_drawn 29 = .ok (.aload_n 0, 1) := by decide +kernel
theorem dX11_drawn_30 : decode cX11_drawn 30 = .ok (.getfield 66, 3) := by decide +kernel
theorem dX11_drawn_33 : decode cX11_drawn 33 = .ok (.getfield 103, 3) := by decide +kernel
theorem dX11_drawn_36 : decode cX11_drawn 36 = .ok (.iconst 1, 1) := by decide +kernel
theorem dX11_drawn_37 : decode cX11_drawn 37 = .ok (.if_icmp .ge 7, 3) := by decide +kernel
theorem dX11_drawn_40 : decode cX11_drawn 40 = .ok (.iconst 0, 1) := by decide +kernel
theorem dX11_drawn_41 : decode cX11_drawn 41 = .ok (.goto 15, 3) := by decide +kernel
theorem dX11_drawn_44 : decode cX11_drawn 44 = .ok (.lload 5, 2) := by decide +kernel
theorem dX11_drawn_46 : decode cX11_drawn 46 = .ok (.aload_n 0, 1) := by decide +kernel
theorem dX11_drawn_47 : decode cX11_drawn 47 = .ok (.getfield 66, 3) := by decide +kernel
theorem dX11_drawn_50 : decode cX11_drawn 50 = .ok (.getfield 103, 3) := by decide +kernel
theorem dX11_drawn_53 : decode cX11_drawn 53 = .ok (.i2l, 1) := by decide +kernel
theorem dX11_drawn_54 : decode cX11_drawn 54 = .ok (.lrem, 1) := by decide +kernel
theorem dX11_drawn_55 : decode cX11_drawn 55 = .ok (.l2i, 1) := by decide +kernel
theorem dX11_drawn_56 : decode cX11_drawn 56 = .ok (.ireturn, 1) := by decide +kernel
theorem dX12_init_0 : decode cX12_init 0 = .ok (.aload_n 0, 1) := by decide +kernel
theorem dX12_init_1 : decode cX12_init 1 = .ok (.invokespecial 1, 3) := by decide +kernel
theorem dX12_init_4 : decode cX12_init 4 = .ok (.aload_n 0, 1) := by decide +kernel
theorem dX12_init_5 : decode cX12_init 5 = .ok (.sipush 178, 3) := by decide +kernel
theorem dX12_init_8 : decode cX12_init 8 = .ok (.newarray .int, 2) := by decide +kernel
theorem dX12_init_10 : decode cX12_init 10 = .ok (.putfield 7, 3) := by decide +kernel
theorem dX12_init_13 : decode cX12_init 13 = .ok (.aload_n 0, 1) := by decide +kernel
theorem dX12_init_14 : decode cX12_init 14 = .ok (.sipush 420, 3) := by decide +kernel
theorem dX12_init_17 : decode cX12_init 17 = .ok (.newarray .int, 2) := by decide +kernel
theorem dX12_init_19 : decode cX12_init 19 = .ok (.putfield 13, 3) := by decide +kernel
theorem dX12_init_22 : decode cX12_init 22 = .ok (.aload_n 0, 1) := by decide +kernel
theorem dX12_init_23 : decode cX12_init 23 = .ok (.bipush 6, 2) := by decide +kernel
theorem dX12_init_25 : decode cX12_init 25 = .ok (.newarray .int, 2) := by decide +kernel
theorem dX12_init_27 : decode cX12_init 27 = .ok (.putfield 16, 3) := by decide +kernel
theorem dX12_init_30 : decode cX12_init 30 = .ok (.aload_n 0, 1) := by decide +kernel
theorem dX12_init_31 : decode cX12_init 31 = .ok (.bipush 6, 2) := by decide +kernel
theorem dX12_init_33 : decode cX12_init 33 = .ok (.newarray .int, 2) := by decide +kernel
theorem dX12_init_35 : decode cX12_init 35 = .ok (.putfield 19, 3) := by decide +kernel
theorem dX12_init_38 : decode cX12_init 38 = .ok (.aload_n 0, 1) := by decide +kernel
theorem dX12_init_39 : decode cX12_init 39 = .ok (.sipush 200, 3) := by decide +kernel
theorem dX12_init_42 : decode cX12_init 42 = .ok (.newarray .int, 2) := by decide +kernel
theorem dX12_init_44 : decode cX12_init 44 = .ok (.putfield 22, 3) := by decide +kernel
theorem dX12_init_47 : decode cX12_init 47 = .ok (.aload_n 0, 1) := by decide +kernel
theorem dX12_init_48 : decode cX12_init 48 = .ok (.iconst 4, 1) := by decide +kernel
theorem dX12_init_49 : decode cX12_init 49 = .ok (.newarray .int, 2) := by decide +kernel
theorem dX12_init_51 : decode cX12_init 51 = .ok (.putfield 25, 3) := by decide +kernel
theorem dX12_init_54 : decode cX12_init 54 = .ok (.aload_n 0, 1) := by decide +kernel
theorem dX12_init_55 : decode cX12_init 55 = .ok (.bipush 64, 2) := by decide +kernel
theorem dX12_init_57 : decode cX12_init 57 = .ok (.newarray .int, 2) := by decide +kernel
theorem dX12_init_59 : decode cX12_init 59 = .ok (.putfield 28, 3) := by decide +kernel
theorem dX12_init_62 : decode cX12_init 62 = .ok (.aload_n 0, 1) := by decide +kernel
theorem dX12_init_63 : decode cX12_init 63 = .ok (.bipush 64, 2) := by decide +kernel
theorem dX12_init_65 : decode cX12_init 65 = .ok (.newarray .int, 2) := by decide +kernel
theorem dX12_init_67 : decode cX12_init 67 = .ok (.putfield 31, 3) := by decide +kernel
theorem dX12_init_70 : decode cX12_init 70 = .ok (.aload_n 0, 1) := by decide +kernel
theorem dX12_init_71 : decode cX12_init 71 = .ok (.iconst 5, 1) := by decide +kernel
theorem dX12_init_72 : decode cX12_init 72 = .ok (.newarray .int, 2) := by decide +kernel
theorem dX12_init_74 : decode cX12_init 74 = .ok (.putfield 34, 3) := by decide +kernel
theorem dX12_init_77 : decode cX12_init 77 = .ok (.aload_n 0, 1) := by decide +kernel
theorem dX12_init_78 : decode cX12_init 78 = .ok (.iconst 5, 1) := by decide +kernel
theorem dX12_init_79 : decode cX12_init 79 = .ok (.newarray .int, 2) := by decide +kernel
theorem dX12_init_81 : decode cX12_init 81 = .ok (.putfield 37, 3) := by decide +kernel
theorem dX12_init_84 : decode cX12_init 84 = .ok (.aload_n 0, 1) := by decide +kernel
theorem dX12_init_85 : decode cX12_init 85 = .ok (.iconst 5, 1) := by decide +kernel
theorem dX12_init_86 : decode cX12_init 86 = .ok (.newarray .int, 2) := by decide +kernel
theorem dX12_init_88 : decode cX12_init 88 = .ok (.putfield 40, 3) := by decide +kernel
theorem dX12_init_91 : decode cX12_init 91 = .ok (.aload_n 0, 1) := by decide +kernel
theorem dX12_init_92 : decode cX12_init 92 = .ok (.invokevirtual 43, 3) := by decide +kernel
theorem dX12_init_95 : decode cX12_init 95 = .ok (.aload_n 0, 1) := by decide +kernel
theorem dX12_init_96 : decode cX12_init 96 = .ok (.iconst 0, 1) := by decide +kernel
theorem dX12_init_97 : decode cX12_init 97 = .ok (.bipush 60, 2) := by decide +kernel
theorem dX12_init_99 : decode cX12_init 99 = .ok (.bipush 9, 2) := by decide +kernel
theorem dX12_init_101 : decode cX12_init 101 = .ok (.invokevirtual 46, 3) := by decide +kernel
theorem dX12_init_104 : decode cX12_init 104 = .ok (.pop, 1) := by decide +kernel
theorem dX12_init_105 : decode cX12_init 105 = .ok (.aload_n 0, 1) := by decide +kernel
theorem dX12_init_106 : decode cX12_init 106 = .ok (.iconst 1, 1) := by decide +kernel
theorem dX12_init_107 : decode cX12_init 107 = .ok (.bipush 30, 2) := by decide +kernel
theorem dX12_init_109 : decode cX12_init 109 = .ok (.iconst 4, 1) := by decide +kernel
theorem dX12_init_110 : decode cX12_init 110 = .ok (.invokevirtual 46, 3) := by decide +kernel
theorem dX12_init_113 : decode cX12_init 113 = .ok (.pop, 1) := by decide +kernel
theorem dX12_init_114 : decode cX12_init 114 = .ok (.aload_n 0, 1) := by decide +kernel
theorem dX12_init_115 : decode cX12_init 115 = .ok (.iconst 3, 1) := by decide +kernel
theorem dX12_init_116 : decode cX12_init 116 = .ok (.bipush 20, 2) := by decide +kernel
theorem dX12_init_118 : decode cX12_init 118 = .ok (.iconst 2, 1) := by decide +kernel
theorem dX12_init_119 : decode cX12_init 119 = .ok (.invokevirtual 46, 3) := by decide +kernel
theorem dX12_init_122 : decode cX12_init 122 = .ok (.pop, 1) := by decide +kernel
theorem dX12_init_123 : decode cX12_init 123 = .ok (.aload_n 0, 1) := by decide +kernel
theorem dX12_init_124 : decode cX12_init 124 = .ok (.iconst 4, 1) := by decide +kernel
theorem dX12_init_125 : decode cX12_init 125 = .ok (.iconst 5, 1) := by decide +kernel
theorem dX12_init_126 : decode cX12_init 126 = .ok (.iconst 3, 1) := by decide +kernel
theorem dX12_init_127 : decode cX12_init 127 = .ok (.invokevirtual 46, 3) := by decide +kernel
theorem dX12_init_130 : decode cX12_init 130 = .ok (.pop, 1) := by decide +kernel
theorem dX12_init_131 : decode cX12_init 131 = .ok (.aload_n 0, 1) := by decide +kernel
theorem dX12_init_132 : decode cX12_init 132 = .ok (.iconst 2, 1) := by decide +kernel
theorem dX12_init_133 : decode cX12_init 133 = .ok (.bipush 40, 2) := by decide +kernel
theorem dX12_init_135 : decode cX12_init 135 = .ok (.bipush 6, 2) := by decide +kernel
theorem dX12_init_137 : decode cX12_init 137 = .ok (.invokevirtual 46, 3) := by decide +kernel
theorem dX12_init_140 : decode cX12_init 140 = .ok (.pop, 1) := by decide +kernel
theorem dX12_init_141 : decode cX12_init 141 = .ok (.aload_n 0, 1) := by decide +kernel
theorem dX12_init_142 : decode cX12_init 142 = .ok (.iconst 0, 1) := by decide +kernel
theorem dX12_init_143 : decode cX12_init 143 = .ok (.iconst 0, 1) := by decide +kernel
theorem dX12_init_144 : decode cX12_init 144 = .ok (.bipush 20, 2) := by decide +kernel
theorem dX12_init_146 : decode cX12_init 146 = .ok (.bipush 8, 2) := by decide +kernel
theorem dX12_init_148 : decode cX12_init 148 = .ok (.invokevirtual 50, 3) := by decide +kernel
theorem dX12_init_151 : decode cX12_init 151 = .ok (.pop, 1) := by decide +kernel
theorem dX12_init_152 : decode cX12_init 152 = .ok (.aload_n 0, 1) := by decide +kernel
theorem dX12_init_153 : decode cX12_init 153 = .ok (.iconst 1, 1) := by decide +kernel
theorem dX12_init_154 : decode cX12_init 154 = .ok (.iconst 0, 1) := by decide +kernel
theorem dX12_init_155 : decode cX12_init 155 = .ok (.bipush 9, 2) := by decide +kernel
theorem dX12_init_157 : decode cX12_init 157 = .ok (.iconst 0, 1) := by decide +kernel
theorem dX12_init_158 : decode cX12_init 158 = .ok (.invokevirtual 50, 3) := by decide +kernel
theorem dX12_init_161 : decode cX12_init 161 = .ok (.pop, 1) := by decide +kernel
theorem dX12_init_162 : decode cX12_init 162 = .ok (.aload_n 0, 1) := by decide +kernel
theorem dX12_init_163 : decode cX12_init 163 = .ok (.iconst 2, 1) := by decide +kernel
theorem dX12_init_164 : decode cX12_init 164 = .ok (.iconst 2, 1) := by decide +kernel
theorem dX12_init_165 : decode cX12_init 165 = .ok (.bipush 12, 2) := by decide +kernel
theorem dX12_init_167 : decode cX12_init 167 = .ok (.iconst 0, 1) := by decide +kernel
theorem dX12_init_168 : decode cX12_init 168 = .ok (.invokevirtual 50, 3) := by decide +kernel
theorem dX12_init_171 : decode cX12_init 171 = .ok (.pop, 1) := by decide +kernel
theorem dX12_init_172 : decode cX12_init 172 = .ok (.aload_n 0, 1) := by decide +kernel
theorem dX12_init_173 : decode cX12_init 173 = .ok (.iconst 0, 1) := by decide +kernel
theorem dX12_init_174 : decode cX12_init 174 = .ok (.iconst 1, 1) := by decide +kernel
theorem dX12_init_175 : decode cX12_init 175 = .ok (.bipush 7, 2) := by decide +kernel
theorem dX12_init_177 : decode cX12_init 177 = .ok (.iconst 3, 1) := by decide +kernel
theorem dX12_init_178 : decode cX12_init 178 = .ok (.invokevirtual 50, 3) := by decide +kernel
theorem dX12_init_181 : decode cX12_init 181 = .ok (.pop, 1) := by decide +kernel
theorem dX12_init_182 : decode cX12_init 182 = .ok (.aload_n 0, 1) := by decide +kernel
theorem dX12_init_183 : decode cX12_init 183 = .ok (.iconst 3, 1) := by decide +kernel
theorem dX12_init_184 : decode cX12_init 184 = .ok (.iconst 3, 1) := by decide +kernel
theorem dX12_init_185 : decode cX12_init 185 = .ok (.bipush 40, 2) := by decide +kernel
theorem dX12_init_187 : decode cX12_init 187 = .ok (.bipush 20, 2) := by decide +kernel
theorem dX12_init_189 : decode cX12_init 189 = .ok (.invokevirtual 50, 3) := by decide +kernel
theorem dX12_init_192 : decode cX12_init 192 = .ok (.pop, 1) := by decide +kernel
theorem dX12_init_193 : decode cX12_init 193 = .ok (.aload_n 0, 1) := by decide +kernel
theorem dX12_init_194 : decode cX12_init 194 = .ok (.iconst 0, 1) := by decide +kernel
theorem dX12_init_195 : decode cX12_init 195 = .ok (.iconst 4, 1) := by decide +kernel
theorem dX12_init_196 : decode cX12_init 196 = .ok (.bipush 15, 2) := by decide +kernel
theorem dX12_init_198 : decode cX12_init 198 = .ok (.iconst 5, 1) := by decide +kernel
theorem dX12_init_199 : decode cX12_init 199 = .ok (.invokevirtual 50, 3) := by decide +kernel
theorem dX12_init_202 : decode cX12_init 202 = .ok (.pop, 1) := by decide +kernel
theorem dX12_init_203 : decode cX12_init 203 = .ok (.aload_n 0, 1) := by decide +kernel
theorem dX12_init_204 : decode cX12_init 204 = .ok (.iconst 0, 1) := by decide +kernel
theorem dX12_init_205 : decode cX12_init 205 = .ok (.iconst 1, 1) := by decide +kernel
theorem dX12_init_206 : decode cX12_init 206 = .ok (.bipush 8, 2) := by decide +kernel
theorem dX12_init_208 : decode cX12_init 208 = .ok (.invokevirtual 54, 3) := by decide +kernel
theorem dX12_init_211 : decode cX12_init 211 = .ok (.pop, 1) := by decide +kernel
theorem dX12_init_212 : decode cX12_init 212 = .ok (.aload_n 0, 1) := by decide +kernel
theorem dX12_init_213 : decode cX12_init 213 = .ok (.iconst 1, 1) := by decide +kernel
theorem dX12_init_214 : decode cX12_init 214 = .ok (.iconst 0, 1) := by decide +kernel
theorem dX12_init_215 : decode cX12_init 215 = .ok (.bipush 6, 2) := by decide +kernel
theorem dX12_init_217 : decode cX12_init 217 = .ok (.invokevirtual 54, 3) := by decide +kernel
theorem dX12_init_220 : decode cX12_init 220 = .ok (.pop, 1) := by decide +kernel
theorem dX12_init_221 : decode cX12_init 221 = .ok (.aload_n 0, 1) := by decide +kernel
theorem dX12_init_222 : decode cX12_init 222 = .ok (.iconst 2, 1) := by decide +kernel
theorem dX12_init_223 : decode cX12_init 223 = .ok (.iconst 3, 1) := by decide +kernel
theorem dX12_init_224 : decode cX12_init 224 = .ok (.bipush 10, 2) := by decide +kernel
theorem dX12_init_226 : decode cX12_init 226 = .ok (.invokevirtual 54, 3) := by decide +kernel
theorem dX12_init_229 : decode cX12_init 229 = .ok (.pop, 1) := by decide +kernel
theorem dX12_init_230 : decode cX12_init 230 = .ok (.aload_n 0, 1) := by decide +kernel
theorem dX12_init_231 : decode cX12_init 231 = .ok (.iconst 3, 1) := by decide +kernel
theorem dX12_init_232 : decode cX12_init 232 = .ok (.iconst 2, 1) := by decide +kernel
theorem dX12_init_233 : decode cX12_init 233 = .ok (.bipush 9, 2) := by decide +kernel
theorem dX12_init_235 : decode cX12_init 235 = .ok (.invokevirtual 54, 3) := by decide +kernel
theorem dX12_init_238 : decode cX12_init 238 = .ok (.pop, 1) := by decide +kernel
theorem dX12_init_239 : decode cX12_init 239 = .ok (.aload_n 0, 1) := by decide +kernel
theorem dX12_init_240 : decode cX12_init 240 = .ok (.iconst 4, 1) := by decide +kernel
theorem dX12_init_241 : decode cX12_init 241 = .ok (.iconst 0, 1) := by decide +kernel
theorem dX12_init_242 : decode cX12_init 242 = .ok (.iconst 5, 1) := by decide +kernel
theorem dX12_init_243 : decode cX12_init 243 = .ok (.invokevirtual 54, 3) := by decide +kernel
theorem dX12_init_246 : decode cX12_init 246 = .ok (.pop, 1) := by decide +kernel
theorem dX12_init_247 : decode cX12_init 247 = .ok (.aload_n 0, 1) := by decide +kernel
theorem dX12_init_248 : decode cX12_init 248 = .ok (.iconst 0, 1) := by decide +kernel
theorem dX12_init_249 : decode cX12_init 249 = .ok (.iconst 4, 1) := by decide +kernel
theorem dX12_init_250 : decode cX12_init 250 = .ok (.iconst 5, 1) := by decide +kernel
theorem dX12_init_251 : decode cX12_init 251 = .ok (.invokevirtual 54, 3) := by decide +kernel
theorem dX12_init_254 : decode cX12_init 254 = .ok (.pop, 1) := by decide +kernel
theorem dX12_init_255 : decode cX12_init 255 = .ok (.aload_n 0, 1) := by decide +kernel
theorem dX12_init_256 : decode cX12_init 256 = .ok (.getfield 7, 3) := by decide +kernel
theorem dX12_init_259 : decode cX12_init 259 = .ok (.bipush 91, 2) := by decide +kernel
theorem dX12_init_261 : decode cX12_init 261 = .ok (.bipush 8, 2) := by decide +kernel
theorem dX12_init_263 : decode cX12_init 263 = .ok (.iastore, 1) := by decide +kernel
theorem dX12_init_264 : decode cX12_init 264 = .ok (.aload_n 0, 1) := by decide +kernel
theorem dX12_init_265 : decode cX12_init 265 = .ok (.invokevirtual 57, 3) := by decide +kernel
theorem dX12_init_268 : decode cX12_init 268 = .ok (.return_, 1) := by decide +kernel
theorem dX12_in_0 : decode cX12_in 0 = .ok (.lload_n 0, 1) := by decide +kernel
theorem dX12_in_1 : decode cX12_in 1 = .ok (.lload_n 2, 1) := by decide +kernel
theorem dX12_in_2 : decode cX12_in 2 = .ok (.lcmp, 1) := by decide +kernel
theorem dX12_in_3 : decode cX12_in 3 = .ok (.ifCond .lt 14, 3) := by decide +kernel
theorem dX12_in_6 : decode cX12_in 6 = .ok (.lload_n 0, 1) := by decide +kernel
theorem dX12_in_7 : decode cX12_in 7 = .ok (.lload 4, 2) := by decide +kernel
theorem dX12_in_9 : decode cX12_in 9 = .ok (.lcmp, 1) := by decide +kernel
theorem dX12_in_10 : decode cX12_in 10 = .ok (.ifCond .gt 7, 3) := by decide +kernel
theorem dX12_in_13 : decode cX12_in 13 = .ok (.iconst 1, 1) := by decide +kernel
theorem dX12_in_14 : decode cX12_in 14 = .ok (.goto 4, 3) := by decide +kernel
theorem dX12_in_17 : decode cX12_in 17 = .ok (.iconst 0, 1) := by decide +kernel
theorem dX12_in_18 : decode cX12_in 18 = .ok (.ireturn, 1) := by decide +kernel
theorem dX12_has_0 : decode cX12_has 0 = .ok (.iload_n 0, 1) := by decide +kernel
theorem dX12_has_1 : decode cX12_has 1 = .ok (.iload_n 1, 1) := by decide +kernel
theorem dX12_has_2 : decode cX12_has 2 = .ok (.ishr, 1) := by decide +kernel
theorem dX12_has_3 : decode cX12_has 3 = .ok (.iconst 1, 1) := by decide +kernel
theorem dX12_has_4 : decode cX12_has 4 = .ok (.iand, 1) := by decide +kernel
theorem dX12_has_5 : decode cX12_has 5 = .ok (.iconst 1, 1) := by decide +kernel
theorem dX12_has_6 : decode cX12_has 6 = .ok (.if_icmp .ne 7, 3) := by decide +kernel
theorem dX12_has_9 : decode cX12_has 9 = .ok (.iconst 1, 1) := by decide +kernel
theorem dX12_has_10 : decode cX12_has 10 = .ok (.goto 4, 3) := by decide +kernel
theorem dX12_has_13 : decode cX12_has 13 = .ok (.iconst 0, 1) := by decide +kernel
theorem dX12_has_14 : decode cX12_has 14 = .ok (.ireturn, 1) := by decide +kernel
theorem dX12_ones_0 : decode cX12_ones 0 = .ok (.iconst 0, 1) := by decide +kernel
theorem dX12_ones_1 : decode cX12_ones 1 = .ok (.istore_n 1, 1) := by decide +kernel
theorem dX12_ones_2 : decode cX12_ones 2 = .ok (.iconst 0, 1) := by decide +kernel
theorem dX12_ones_3 : decode cX12_ones 3 = .ok (.istore_n 2, 1) := by decide +kernel
theorem dX12_ones_4 : decode cX12_ones 4 = .ok (.iload_n 2, 1) := by decide +kernel
theorem dX12_ones_5 : decode cX12_ones 5 = .ok (.bipush 8, 2) := by decide +kernel
theorem dX12_ones_7 : decode cX12_ones 7 = .ok (.if_icmp .ge 17, 3) := by decide +kernel
theorem dX12_ones_10 : decode cX12_ones 10 = .ok (.iload_n 1, 1) := by decide +kernel
theorem dX12_ones_11 : decode cX12_ones 11 = .ok (.iload_n 0, 1) := by decide +kernel
theorem dX12_ones_12 : decode cX12_ones 12 = .ok (.iload_n 2, 1) := by decide +kernel
theorem dX12_ones_13 : decode cX12_ones 13 = .ok (.ishr, 1) := by decide +kernel
theorem dX12_ones_14 : decode cX12_ones 14 = .ok (.iconst 1, 1) := by decide +kernel
theorem dX12_ones_15 : decode cX12_ones 15 = .ok (.iand, 1) := by decide +kernel
theorem dX12_ones_16 : decode cX12_ones 16 = .ok (.iadd, 1) := by decide +kernel
theorem dX12_ones_17 : decode cX12_ones 17 = .ok (.istore_n 1, 1) := by decide +kernel
theorem dX12_ones_18 : decode cX12_ones 18 = .ok (.iinc 2 1, 3) := by decide +kernel
theorem dX12_ones_21 : decode cX12_ones 21 = .ok (.goto (-17), 3) := by decide +kernel
theorem dX12_ones_24 : decode cX12_ones 24 = .ok (.iload_n 1, 1) := by decide +kernel
theorem dX12_ones_25 : decode cX12_ones 25 = .ok (.ireturn, 1) := by decide +kernel
theorem dX12_begins_0 : decode cX12_begins 0 = .ok (.iconst 0, 1) := by decide +kernel
theorem dX12_begins_1 : decode cX12_begins 1 = .ok (.istore_n 1, 1) := by decide +kernel
theorem dX12_begins_2 : decode cX12_begins 2 = .ok (.iload_n 1, 1) := by decide +kernel
theorem dX12_begins_3 : decode cX12_begins 3 = .ok (.bipush 89, 2) := by decide +kernel
theorem dX12_begins_5 : decode cX12_begins 5 = .ok (.if_icmp .ge 19, 3) := by decide +kernel
theorem dX12_begins_8 : decode cX12_begins 8 = .ok (.aload_n 0, 1) := by decide +kernel
theorem dX12_begins_9 : decode cX12_begins 9 = .ok (.getfield 7, 3) := by decide +kernel
theorem dX12_begins_12 : decode cX12_begins 12 = .ok (.bipush 89, 2) := by decide +kernel
theorem dX12_begins_14 : decode cX12_begins 14 = .ok (.iload_n 1, 1) := by decide +kernel
theorem dX12_begins_15 : decode cX12_begins 15 = .ok (.iadd, 1) := by decide +kernel
theorem dX12_begins_16 : decode cX12_begins 16 = .ok (.iconst 0, 1) := by decide +kernel
theorem dX12_begins_17 : decode cX12_begins 17 = .ok (.iastore, 1) := by decide +kernel
theorem dX12_begins_18 : decode cX12_begins 18 = .ok (.iinc 1 1, 3) := by decide +kernel
theorem dX12_begins_21 : decode cX12_begins 21 = .ok (.goto (-19), 3) := by decide +kernel
theorem dX12_begins_24 : decode cX12_begins 24 = .ok (.aload_n 0, 1) := by decide +kernel
theorem dX12_begins_25 : decode cX12_begins 25 = .ok (.getfield 7, 3) := by decide +kernel
theorem dX12_begins_28 : decode cX12_begins 28 = .ok (.bipush 91, 2) := by decide +kernel
theorem dX12_begins_30 : decode cX12_begins 30 = .ok (.bipush 10, 2) := by decide +kernel
theorem dX12_begins_32 : decode cX12_begins 32 = .ok (.iastore, 1) := by decide +kernel
theorem dX12_begins_33 : decode cX12_begins 33 = .ok (.return_, 1) := by decide +kernel
theorem dX12_persons_0 : decode cX12_persons 0 = .ok (.aload_n 0, 1) := by decide +kernel
theorem dX12_persons_1 : decode cX12_persons 1 = .ok (.getfield 7, 3) := by decide +kernel
theorem dX12_persons_4 : decode cX12_persons 4 = .ok (.bipush 89, 2) := by decide +kernel
theorem dX12_persons_6 : decode cX12_persons 6 = .ok (.iaload, 1) := by decide +kernel
theorem dX12_persons_7 : decode cX12_persons 7 = .ok (.istore 4, 2) := by decide +kernel
theorem dX12_persons_9 : decode cX12_persons 9 = .ok (.iload 4, 2) := by decide +kernel
theorem dX12_persons_11 : decode cX12_persons 11 = .ok (.bipush 6, 2) := by decide +kernel
theorem dX12_persons_13 : decode cX12_persons 13 = .ok (.if_icmp .eq 20, 3) := by decide +kernel
theorem dX12_persons_16 : decode cX12_persons 16 = .ok (.iload_n 1, 1) := by decide +kernel
theorem dX12_persons_17 : decode cX12_persons 17 = .ok (.iconst 4, 1) := by decide +kernel
theorem dX12_persons_18 : decode cX12_persons 18 = .ok (.if_icmp .gt 15, 3) := by decide +kernel
theorem dX12_persons_21 : decode cX12_persons 21 = .ok (.iload_n 2, 1) := by decide +kernel
theorem dX12_persons_22 : decode cX12_persons 22 = .ok (.bipush 99, 2) := by decide +kernel
theorem dX12_persons_24 : decode cX12_persons 24 = .ok (.if_icmp .gt 9, 3) := by decide +kernel
theorem dX12_persons_27 : decode cX12_persons 27 = .ok (.iload_n 3, 1) := by decide +kernel
theorem dX12_persons_28 : decode cX12_persons 28 = .ok (.bipush 20, 2) := by decide +kernel
theorem dX12_persons_30 : decode cX12_persons 30 = .ok (.if_icmp .le 5, 3) := by decide +kernel
theorem dX12_persons_33 : decode cX12_persons 33 = .ok (.iconst 0, 1) := by decide +kernel
theorem dX12_persons_34 : decode cX12_persons 34 = .ok (.ireturn, 1) := by decide +kernel
theorem dX12_persons_35 : decode cX12_persons 35 = .ok (.aload_n 0, 1) := by decide +kernel
theorem dX12_persons_36 : decode cX12_persons 36 = .ok (.getfield 7, 3) := by decide +kernel
theorem dX12_persons_39 : decode cX12_persons 39 = .ok (.bipush 92, 2) := by decide +kernel
theorem dX12_persons_41 : decode cX12_persons 41 = .ok (.iload 4, 2) := by decide +kernel
theorem dX12_persons_43 : decode cX12_persons 43 = .ok (.iadd, 1) := by decide +kernel
theorem dX12_persons_44 : decode cX12_persons 44 = .ok (.iload_n 1, 1) := by decide +kernel
theorem dX12_persons_45 : decode cX12_persons 45 = .ok (.iastore, 1) := by decide +kernel
theorem dX12_persons_46 : decode cX12_persons 46 = .ok (.aload_n 0, 1) := by decide +kernel
theorem dX12_persons_47 : decode cX12_persons 47 = .ok (.getfield 7, 3) := by decide +kernel
theorem dX12_persons_50 : decode cX12_persons 50 = .ok (.bipush 98, 2) := by decide +kernel
theorem dX12_persons_52 : decode cX12_persons 52 = .ok (.iload 4, 2) := by decide +kernel
theorem dX12_persons_54 : decode cX12_persons 54 = .ok (.iadd, 1) := by decide +kernel
theorem dX12_persons_55 : decode cX12_persons 55 = .ok (.iload_n 2, 1) := by decide +kernel
theorem dX12_persons_56 : decode cX12_persons 56 = .ok (.iastore, 1) := by decide +kernel
theorem dX12_persons_57 : decode cX12_persons 57 = .ok (.aload_n 0, 1) := by decide +kernel
theorem dX12_persons_58 : decode cX12_persons 58 = .ok (.getfield 7, 3) := by decide +kernel
theorem dX12_persons_61 : decode cX12_persons 61 = .ok (.bipush 104, 2) := by decide +kernel
theorem dX12_persons_63 : decode cX12_persons 63 = .ok (.iload 4, 2) := by decide +kernel
theorem dX12_persons_65 : decode cX12_persons 65 = .ok (.iadd, 1) := by decide +kernel
theorem dX12_persons_66 : decode cX12_persons 66 = .ok (.iload_n 3, 1) := by decide +kernel
theorem dX12_persons_67 : decode cX12_persons 67 = .ok (.iastore, 1) := by decide +kernel
theorem dX12_persons_68 : decode cX12_persons 68 = .ok (.aload_n 0, 1) := by decide +kernel
theorem dX12_persons_69 : decode cX12_persons 69 = .ok (.getfield 7, 3) := by decide +kernel
theorem dX12_persons_72 : decode cX12_persons 72 = .ok (.bipush 89, 2) := by decide +kernel
theorem dX12_persons_74 : decode cX12_persons 74 = .ok (.dup2, 1) := by decide +kernel
theorem dX12_persons_75 : decode cX12_persons 75 = .ok (.iaload, 1) := by decide +kernel
theorem dX12_persons_76 : decode cX12_persons 76 = .ok (.iconst 1, 1) := by decide +kernel
theorem dX12_persons_77 : decode cX12_persons 77 = .ok (.iadd, 1) := by decide +kernel
theorem dX12_persons_78 : decode cX12_persons 78 = .ok (.iastore, 1) := by decide +kernel
theorem dX12_persons_79 : decode cX12_persons 79 = .ok (.iconst 1, 1) := by decide +kernel
theorem dX12_persons_80 : decode cX12_persons 80 = .ok (.ireturn, 1) := by decide +kernel
theorem dX12_goods_0 : decode cX12_goods 0 = .ok (.aload_n 0, 1) := by decide +kernel
theorem dX12_goods_1 : decode cX12_goods 1 = .ok (.getfield 7, 3) := by decide +kernel
theorem dX12_goods_4 : decode cX12_goods 4 = .ok (.bipush 90, 2) := by decide +kernel
theorem dX12_goods_6 : decode cX12_goods 6 = .ok (.iaload, 1) := by decide +kernel
theorem dX12_goods_7 : decode cX12_goods 7 = .ok (.istore 5, 2) := by decide +kernel
theorem dX12_goods_9 : decode cX12_goods 9 = .ok (.iload 5, 2) := by decide +kernel
theorem dX12_goods_11 : decode cX12_goods 11 = .ok (.bipush 8, 2) := by decide +kernel
theorem dX12_goods_13 : decode cX12_goods 13 = .ok (.if_icmp .eq 38, 3) := by decide +kernel
theorem dX12_goods_16 : decode cX12_goods 16 = .ok (.iload_n 1, 1) := by decide +kernel
theorem dX12_goods_17 : decode cX12_goods 17 = .ok (.iconst 3, 1) := by decide +kernel
theorem dX12_goods_18 : decode cX12_goods 18 = .ok (.if_icmp .gt 33, 3) := by decide +kernel
theorem dX12_goods_21 : decode cX12_goods 21 = .ok (.iload_n 2, 1) := by decide +kernel
theorem dX12_goods_22 : decode cX12_goods 22 = .ok (.aload_n 0, 1) := by decide +kernel
theorem dX12_goods_23 : decode cX12_goods 23 = .ok (.getfield 7, 3) := by decide +kernel
theorem dX12_goods_26 : decode cX12_goods 26 = .ok (.bipush 89, 2) := by decide +kernel
theorem dX12_goods_28 : decode cX12_goods 28 = .ok (.iaload, 1) := by decide +kernel
theorem dX12_goods_29 : decode cX12_goods 29 = .ok (.if_icmp .ge 22, 3) := by decide +kernel
theorem dX12_goods_32 : decode cX12_goods 32 = .ok (.iload_n 3, 1) := by decide +kernel
theorem dX12_goods_33 : decode cX12_goods 33 = .ok (.i2l, 1) := by decide +kernel
theorem dX12_goods_34 : decode cX12_goods 34 = .ok (.lconst 1, 1) := by decide +kernel
theorem dX12_goods_35 : decode cX12_goods 35 = .ok (.ldc2_w 60, 3) := by decide +kernel
theorem dX12_goods_38 : decode cX12_goods 38 = .ok (.invokestatic 62, 3) := by decide +kernel
theorem dX12_goods_41 : decode cX12_goods 41 = .ok (.ifCond .eq 10, 3) := by decide +kernel
theorem dX12_goods_44 : decode cX12_goods 44 = .ok (.iload 4, 2) := by decide +kernel
theorem dX12_goods_46 : decode cX12_goods 46 = .ok (.bipush 20, 2) := by decide +kernel
theorem dX12_goods_48 : decode cX12_goods 48 = .ok (.if_icmp .le 5, 3) := by decide +kernel
theorem dX12_goods_51 : decode cX12_goods 51 = .ok (.iconst 0, 1) := by decide +kernel
theorem dX12_goods_52 : decode cX12_goods 52 = .ok (.ireturn, 1) := by decide +kernel
theorem dX12_goods_53 : decode cX12_goods 53 = .ok (.aload_n 0, 1) := by decide +kernel
theorem dX12_goods_54 : decode cX12_goods 54 = .ok (.getfield 7, 3) := by decide +kernel
theorem dX12_goods_57 : decode cX12_goods 57 = .ok (.bipush 110, 2) := by decide +kernel
theorem dX12_goods_59 : decode cX12_goods 59 = .ok (.iload 5, 2) := by decide +kernel
theorem dX12_goods_61 : decode cX12_goods 61 = .ok (.iadd, 1) := by decide +kernel
theorem dX12_goods_62 : decode cX12_goods 62 = .ok (.iload_n 1, 1) := by decide +kernel
theorem dX12_goods_63 : decode cX12_goods 63 = .ok (.iastore, 1) := by decide +kernel
theorem dX12_goods_64 : decode cX12_goods 64 = .ok (.aload_n 0, 1) := by decide +kernel
theorem dX12_goods_65 : decode cX12_goods 65 = .ok (.getfield 7, 3) := by decide +kernel
theorem dX12_goods_68 : decode cX12_goods 68 = .ok (.bipush 118, 2) := by decide +kernel
theorem dX12_goods_70 : decode cX12_goods 70 = .ok (.iload 5, 2) := by decide +kernel
theorem dX12_goods_72 : decode cX12_goods 72 = .ok (.iadd, 1) := by decide +kernel
theorem dX12_goods_73 : decode cX12_goods 73 = .ok (.iload_n 2, 1) := by decide +kernel
theorem dX12_goods_74 : decode cX12_goods 74 = .ok (.iastore, 1) := by decide +kernel
theorem dX12_goods_75 : decode cX12_goods 75 = .ok (.aload_n 0, 1) := by decide +kernel
theorem dX12_goods_76 : decode cX12_goods 76 = .ok (.getfield 7, 3) := by decide +kernel
theorem dX12_goods_79 : decode cX12_goods 79 = .ok (.bipush 126, 2) := by decide +kernel
theorem dX12_goods_81 : decode cX12_goods 81 = .ok (.iload 5, 2) := by decide +kernel
theorem dX12_goods_83 : decode cX12_goods 83 = .ok (.iadd, 1) := by decide +kernel
theorem dX12_goods_84 : decode cX12_goods 84 = .ok (.iload_n 3, 1) := by decide +kernel
theorem dX12_goods_85 : decode cX12_goods 85 = .ok (.iastore, 1) := by decide +kernel
theorem dX12_goods_86 : decode cX12_goods 86 = .ok (.aload_n 0, 1) := by decide +kernel
theorem dX12_goods_87 : decode cX12_goods 87 = .ok (.getfield 7, 3) := by decide +kernel
theorem dX12_goods_90 : decode cX12_goods 90 = .ok (.sipush 134, 3) := by decide +kernel
theorem dX12_goods_93 : decode cX12_goods 93 = .ok (.iload 5, 2) := by decide +kernel
theorem dX12_goods_95 : decode cX12_goods 95 = .ok (.iadd, 1) := by decide +kernel
theorem dX12_goods_96 : decode cX12_goods 96 = .ok (.iload 4, 2) := by decide +kernel
theorem dX12_goods_98 : decode cX12_goods 98 = .ok (.iastore, 1) := by decide +kernel
theorem dX12_goods_99 : decode cX12_goods 99 = .ok (.aload_n 0, 1) := by decide +kernel
theorem dX12_goods_100 : decode cX12_goods 100 = .ok (.getfield 7, 3) := by decide +kernel
theorem dX12_goods_103 : decode cX12_goods 103 = .ok (.bipush 90, 2) := by decide +kernel
theorem dX12_goods_105 : decode cX12_goods 105 = .ok (.dup2, 1) := by decide +kernel
theorem dX12_goods_106 : decode cX12_goods 106 = .ok (.iaload, 1) := by decide +kernel
theorem dX12_goods_107 : decode cX12_goods 107 = .ok (.iconst 1, 1) := by decide +kernel
theorem dX12_goods_108 : decode cX12_goods 108 = .ok (.iadd, 1) := by decide +kernel
theorem dX12_goods_109 : decode cX12_goods 109 = .ok (.iastore, 1) := by decide +kernel
theorem dX12_goods_110 : decode cX12_goods 110 = .ok (.iconst 1, 1) := by decide +kernel
theorem dX12_goods_111 : decode cX12_goods 111 = .ok (.ireturn, 1) := by decide +kernel
theorem dX12_loves_0 : decode cX12_loves 0 = .ok (.iload_n 1, 1) := by decide +kernel
theorem dX12_loves_1 : decode cX12_loves 1 = .ok (.iload_n 2, 1) := by decide +kernel
theorem dX12_loves_2 : decode cX12_loves 2 = .ok (.if_icmp .eq 35, 3) := by decide +kernel
theorem dX12_loves_5 : decode cX12_loves 5 = .ok (.iload_n 1, 1) := by decide +kernel
theorem dX12_loves_6 : decode cX12_loves 6 = .ok (.aload_n 0, 1) := by decide +kernel
theorem dX12_loves_7 : decode cX12_loves 7 = .ok (.getfield 7, 3) := by decide +kernel
theorem dX12_loves_10 : decode cX12_loves 10 = .ok (.bipush 89, 2) := by decide +kernel
theorem dX12_loves_12 : decode cX12_loves 12 = .ok (.iaload, 1) := by decide +kernel
theorem dX12_loves_13 : decode cX12_loves 13 = .ok (.if_icmp .ge 24, 3) := by decide +kernel
theorem dX12_loves_16 : decode cX12_loves 16 = .ok (.iload_n 2, 1) := by decide +kernel
theorem dX12_loves_17 : decode cX12_loves 17 = .ok (.aload_n 0, 1) := by decide +kernel
theorem dX12_loves_18 : decode cX12_loves 18 = .ok (.getfield 7, 3) := by decide +kernel
theorem dX12_loves_21 : decode cX12_loves 21 = .ok (.bipush 89, 2) := by decide +kernel
theorem dX12_loves_23 : decode cX12_loves 23 = .ok (.iaload, 1) := by decide +kernel
theorem dX12_loves_24 : decode cX12_loves 24 = .ok (.if_icmp .ge 13, 3) := by decide +kernel
theorem dX12_loves_27 : decode cX12_loves 27 = .ok (.iload_n 3, 1) := by decide +kernel
theorem dX12_loves_28 : decode cX12_loves 28 = .ok (.bipush 20, 2) := by decide +kernel
theorem dX12_loves_30 : decode cX12_loves 30 = .ok (.if_icmp .gt 7, 3) := by decide +kernel
theorem dX12_loves_33 : decode cX12_loves 33 = .ok (.iconst 1, 1) := by decide +kernel
theorem dX12_loves_34 : decode cX12_loves 34 = .ok (.goto 4, 3) := by decide +kernel
theorem dX12_loves_37 : decode cX12_loves 37 = .ok (.iconst 0, 1) := by decide +kernel
theorem dX12_loves_38 : decode cX12_loves 38 = .ok (.istore 4, 2) := by decide +kernel
theorem dX12_loves_40 : decode cX12_loves 40 = .ok (.iload 4, 2) := by decide +kernel
theorem dX12_loves_42 : decode cX12_loves 42 = .ok (.ifCond .eq 19, 3) := by decide +kernel
theorem dX12_loves_45 : decode cX12_loves 45 = .ok (.aload_n 0, 1) := by decide +kernel
theorem dX12_loves_46 : decode cX12_loves 46 = .ok (.getfield 7, 3) := by decide +kernel
theorem dX12_loves_49 : decode cX12_loves 49 = .ok (.sipush 142, 3) := by decide +kernel
theorem dX12_loves_52 : decode cX12_loves 52 = .ok (.bipush 6, 2) := by decide +kernel
theorem dX12_loves_54 : decode cX12_loves 54 = .ok (.iload_n 1, 1) := by decide +kernel
theorem dX12_loves_55 : decode cX12_loves 55 = .ok (.imul, 1) := by decide +kernel
theorem dX12_loves_56 : decode cX12_loves 56 = .ok (.iadd, 1) := by decide +kernel
theorem dX12_loves_57 : decode cX12_loves 57 = .ok (.iload_n 2, 1) := by decide +kernel
theorem dX12_loves_58 : decode cX12_loves 58 = .ok (.iadd, 1) := by decide +kernel
theorem dX12_loves_59 : decode cX12_loves 59 = .ok (.iload_n 3, 1) := by decide +kernel
theorem dX12_loves_60 : decode cX12_loves 60 = .ok (.iastore, 1) := by decide +kernel
theorem dX12_loves_61 : decode cX12_loves 61 = .ok (.iload 4, 2) := by decide +kernel
theorem dX12_loves_63 : decode cX12_loves 63 = .ok (.ireturn, 1) := by decide +kernel
theorem dX12_tenths_0 : decode cX12_tenths 0 = .ok (.iload_n 1, 1) := by decide +kernel
theorem dX12_tenths_1 : decode cX12_tenths 1 = .ok (.i2l, 1) := by decide +kernel
theorem dX12_tenths_2 : decode cX12_tenths 2 = .ok (.lconst 1, 1) := by decide +kernel
theorem dX12_tenths_3 : decode cX12_tenths 3 = .ok (.ldc2_w 66, 3) := by decide +kernel
theorem dX12_tenths_6 : decode cX12_tenths 6 = .ok (.invokestatic 62, 3) := by decide +kernel
theorem dX12_tenths_9 : decode cX12_tenths 9 = .ok (.istore_n 2, 1) := by decide +kernel
theorem dX12_tenths_10 : decode cX12_tenths 10 = .ok (.aload_n 0, 1) := by decide +kernel
theorem dX12_tenths_11 : decode cX12_tenths 11 = .ok (.getfield 7, 3) := by decide +kernel
theorem dX12_tenths_14 : decode cX12_tenths 14 = .ok (.bipush 91, 2) := by decide +kernel
theorem dX12_tenths_16 : decode cX12_tenths 16 = .ok (.iload_n 2, 1) := by decide +kernel
theorem dX12_tenths_17 : decode cX12_tenths 17 = .ok (.ifCond .eq 7, 3) := by decide +kernel
theorem dX12_tenths_20 : decode cX12_tenths 20 = .ok (.iload_n 1, 1) := by decide +kernel
theorem dX12_tenths_21 : decode cX12_tenths 21 = .ok (.goto 10, 3) := by decide +kernel
theorem dX12_tenths_24 : decode cX12_tenths 24 = .ok (.aload_n 0, 1) := by decide +kernel
theorem dX12_tenths_25 : decode cX12_tenths 25 = .ok (.getfield 7, 3) := by decide +kernel
theorem dX12_tenths_28 : decode cX12_tenths 28 = .ok (.bipush 91, 2) := by decide +kernel
theorem dX12_tenths_30 : decode cX12_tenths 30 = .ok (.iaload, 1) := by decide +kernel
theorem dX12_tenths_31 : decode cX12_tenths 31 = .ok (.iastore, 1) := by decide +kernel
theorem dX12_tenths_32 : decode cX12_tenths 32 = .ok (.iload_n 2, 1) := by decide +kernel
theorem dX12_tenths_33 : decode cX12_tenths 33 = .ok (.ireturn, 1) := by decide +kernel
theorem dX12_copy_0 : decode cX12_copy 0 = .ok (.iconst 0, 1) := by decide +kernel
theorem dX12_copy_1 : decode cX12_copy 1 = .ok (.istore_n 3, 1) := by decide +kernel
theorem dX12_copy_2 : decode cX12_copy 2 = .ok (.iload_n 3, 1) := by decide +kernel
theorem dX12_copy_3 : decode cX12_copy 3 = .ok (.bipush 35, 2) := by decide +kernel
theorem dX12_copy_5 : decode cX12_copy 5 = .ok (.if_icmp .ge 25, 3) := by decide +kernel
theorem dX12_copy_8 : decode cX12_copy 8 = .ok (.aload_n 0, 1) := by decide +kernel
theorem dX12_copy_9 : decode cX12_copy 9 = .ok (.getfield 13, 3) := by decide +kernel
theorem dX12_copy_12 : decode cX12_copy 12 = .ok (.iload_n 2, 1) := by decide +kernel
theorem dX12_copy_13 : decode cX12_copy 13 = .ok (.iload_n 3, 1) := by decide +kernel
theorem dX12_copy_14 : decode cX12_copy 14 = .ok (.iadd, 1) := by decide +kernel
theorem dX12_copy_15 : decode cX12_copy 15 = .ok (.aload_n 0, 1) := by decide +kernel
theorem dX12_copy_16 : decode cX12_copy 16 = .ok (.getfield 13, 3) := by decide +kernel
theorem dX12_copy_19 : decode cX12_copy 19 = .ok (.iload_n 1, 1) := by decide +kernel
theorem dX12_copy_20 : decode cX12_copy 20 = .ok (.iload_n 3, 1) := by decide +kernel
theorem dX12_copy_21 : decode cX12_copy 21 = .ok (.iadd, 1) := by decide +kernel
theorem dX12_copy_22 : decode cX12_copy 22 = .ok (.iaload, 1) := by decide +kernel
theorem dX12_copy_23 : decode cX12_copy 23 = .ok (.iastore, 1) := by decide +kernel
theorem dX12_copy_24 : decode cX12_copy 24 = .ok (.iinc 3 1, 3) := by decide +kernel
theorem dX12_copy_27 : decode cX12_copy 27 = .ok (.goto (-25), 3) := by decide +kernel
theorem dX12_copy_30 : decode cX12_copy 30 = .ok (.return_, 1) := by decide +kernel
theorem dX12_comes_0 : decode cX12_comes 0 = .ok (.iconst 0, 1) := by decide +kernel
theorem dX12_comes_1 : decode cX12_comes 1 = .ok (.istore_n 1, 1) := by decide +kernel
theorem dX12_comes_2 : decode cX12_comes 2 = .ok (.iload_n 1, 1) := by decide +kernel
theorem dX12_comes_3 : decode cX12_comes 3 = .ok (.bipush 89, 2) := by decide +kernel
theorem dX12_comes_5 : decode cX12_comes 5 = .ok (.if_icmp .ge 24, 3) := by decide +kernel
theorem dX12_comes_8 : decode cX12_comes 8 = .ok (.aload_n 0, 1) := by decide +kernel
theorem dX12_comes_9 : decode cX12_comes 9 = .ok (.getfield 7, 3) := by decide +kernel
theorem dX12_comes_12 : decode cX12_comes 12 = .ok (.iload_n 1, 1) := by decide +kernel
theorem dX12_comes_13 : decode cX12_comes 13 = .ok (.aload_n 0, 1) := by decide +kernel
theorem dX12_comes_14 : decode cX12_comes 14 = .ok (.getfield 7, 3) := by decide +kernel
theorem dX12_comes_17 : decode cX12_comes 17 = .ok (.bipush 89, 2) := by decide +kernel
theorem dX12_comes_19 : decode cX12_comes 19 = .ok (.iload_n 1, 1) := by decide +kernel
theorem dX12_comes_20 : decode cX12_comes 20 = .ok (.iadd, 1) := by decide +kernel
theorem dX12_comes_21 : decode cX12_comes 21 = .ok (.iaload, 1) := by decide +kernel
theorem dX12_comes_22 : decode cX12_comes 22 = .ok (.iastore, 1) := by decide +kernel
theorem dX12_comes_23 : decode cX12_comes 23 = .ok (.iinc 1 1, 3) := by decide +kernel
theorem dX12_comes_26 : decode cX12_comes 26 = .ok (.goto (-24), 3) := by decide +kernel
theorem dX12_comes_29 : decode cX12_comes 29 = .ok (.iconst 0, 1) := by decide +kernel
theorem dX12_comes_30 : decode cX12_comes 30 = .ok (.istore_n 1, 1) := by decide +kernel
theorem dX12_comes_31 : decode cX12_comes 31 = .ok (.iload_n 1, 1) := by decide +kernel
theorem dX12_comes_32 : decode cX12_comes 32 = .ok (.bipush 35, 2) := by decide +kernel
theorem dX12_comes_34 : decode cX12_comes 34 = .ok (.if_icmp .ge 16, 3) := by decide +kernel
theorem dX12_comes_37 : decode cX12_comes 37 = .ok (.aload_n 0, 1) := by decide +kernel
theorem dX12_comes_38 : decode cX12_comes 38 = .ok (.getfield 13, 3) := by decide +kernel
theorem dX12_comes_41 : decode cX12_comes 41 = .ok (.iload_n 1, 1) := by decide +kernel
theorem dX12_comes_42 : decode cX12_comes 42 = .ok (.iconst 0, 1) := by decide +kernel
theorem dX12_comes_43 : decode cX12_comes 43 = .ok (.iastore, 1) := by decide +kernel
theorem dX12_comes_44 : decode cX12_comes 44 = .ok (.iinc 1 1, 3) := by decide +kernel
theorem dX12_comes_47 : decode cX12_comes 47 = .ok (.goto (-16), 3) := by decide +kernel
theorem dX12_comes_50 : decode cX12_comes 50 = .ok (.aload_n 0, 1) := by decide +kernel
theorem dX12_comes_51 : decode cX12_comes 51 = .ok (.getfield 13, 3) := by decide +kernel
theorem dX12_comes_54 : decode cX12_comes 54 = .ok (.iconst 0, 1) := by decide +kernel
theorem dX12_comes_55 : decode cX12_comes 55 = .ok (.iconst 1, 1) := by decide +kernel
theorem dX12_comes_56 : decode cX12_comes 56 = .ok (.aload_n 0, 1) := by decide +kernel
theorem dX12_comes_57 : decode cX12_comes 57 = .ok (.getfield 7, 3) := by decide +kernel
theorem dX12_comes_60 : decode cX12_comes 60 = .ok (.iconst 0, 1) := by decide +kernel
theorem dX12_comes_61 : decode cX12_comes 61 = .ok (.iaload, 1) := by decide +kernel
theorem dX12_comes_62 : decode cX12_comes 62 = .ok (.ishl, 1) := by decide +kernel
theorem dX12_comes_63 : decode cX12_comes 63 = .ok (.iconst 1, 1) := by decide +kernel
theorem dX12_comes_64 : decode cX12_comes 64 = .ok (.isub, 1) := by decide +kernel
theorem dX12_comes_65 : decode cX12_comes 65 = .ok (.iastore, 1) := by decide +kernel
theorem dX12_comes_66 : decode cX12_comes 66 = .ok (.iconst 0, 1) := by decide +kernel
theorem dX12_comes_67 : decode cX12_comes 67 = .ok (.istore_n 1, 1) := by decide +kernel
theorem dX12_comes_68 : decode cX12_comes 68 = .ok (.iload_n 1, 1) := by decide +kernel
theorem dX12_comes_69 : decode cX12_comes 69 = .ok (.aload_n 0, 1) := by decide +kernel
theorem dX12_comes_70 : decode cX12_comes 70 = .ok (.getfield 7, 3) := by decide +kernel
theorem dX12_comes_73 : decode cX12_comes 73 = .ok (.iconst 0, 1) := by decide +kernel
theorem dX12_comes_74 : decode cX12_comes 74 = .ok (.iaload, 1) := by decide +kernel
theorem dX12_comes_75 : decode cX12_comes 75 = .ok (.if_icmp .ge 26, 3) := by decide +kernel
theorem dX12_comes_78 : decode cX12_comes 78 = .ok (.aload_n 0, 1) := by decide +kernel
theorem dX12_comes_79 : decode cX12_comes 79 = .ok (.getfield 13, 3) := by decide +kernel
theorem dX12_comes_82 : decode cX12_comes 82 = .ok (.iconst 1, 1) := by decide +kernel
theorem dX12_comes_83 : decode cX12_comes 83 = .ok (.iload_n 1, 1) := by decide +kernel
theorem dX12_comes_84 : decode cX12_comes 84 = .ok (.iadd, 1) := by decide +kernel
theorem dX12_comes_85 : decode cX12_comes 85 = .ok (.aload_n 0, 1) := by decide +kernel
theorem dX12_comes_86 : decode cX12_comes 86 = .ok (.getfield 7, 3) := by decide +kernel
theorem dX12_comes_89 : decode cX12_comes 89 = .ok (.bipush 9, 2) := by decide +kernel
theorem dX12_comes_91 : decode cX12_comes 91 = .ok (.iload_n 1, 1) := by decide +kernel
theorem dX12_comes_92 : decode cX12_comes 92 = .ok (.iadd, 1) := by decide +kernel
theorem dX12_comes_93 : decode cX12_comes 93 = .ok (.iaload, 1) := by decide +kernel
theorem dX12_comes_94 : decode cX12_comes 94 = .ok (.iastore, 1) := by decide +kernel
theorem dX12_comes_95 : decode cX12_comes 95 = .ok (.iinc 1 1, 3) := by decide +kernel
theorem dX12_comes_98 : decode cX12_comes 98 = .ok (.goto (-30), 3) := by decide +kernel
theorem dX12_comes_101 : decode cX12_comes 101 = .ok (.iconst 0, 1) := by decide +kernel
theorem dX12_comes_102 : decode cX12_comes 102 = .ok (.istore_n 1, 1) := by decide +kernel
theorem dX12_comes_103 : decode cX12_comes 103 = .ok (.iload_n 1, 1) := by decide +kernel
theorem dX12_comes_104 : decode cX12_comes 104 = .ok (.aload_n 0, 1) := by decide +kernel
theorem dX12_comes_105 : decode cX12_comes 105 = .ok (.getfield 7, 3) := by decide +kernel
theorem dX12_comes_108 : decode cX12_comes 108 = .ok (.iconst 1, 1) := by decide +kernel
theorem dX12_comes_109 : decode cX12_comes 109 = .ok (.iaload, 1) := by decide +kernel
theorem dX12_comes_110 : decode cX12_comes 110 = .ok (.if_icmp .ge 27, 3) := by decide +kernel
theorem dX12_comes_113 : decode cX12_comes 113 = .ok (.aload_n 0, 1) := by decide +kernel
theorem dX12_comes_114 : decode cX12_comes 114 = .ok (.getfield 13, 3) := by decide +kernel
theorem dX12_comes_117 : decode cX12_comes 117 = .ok (.bipush 19, 2) := by decide +kernel
theorem dX12_comes_119 : decode cX12_comes 119 = .ok (.iload_n 1, 1) := by decide +kernel
theorem dX12_comes_120 : decode cX12_comes 120 = .ok (.iadd, 1) := by decide +kernel
theorem dX12_comes_121 : decode cX12_comes 121 = .ok (.aload_n 0, 1) := by decide +kernel
theorem dX12_comes_122 : decode cX12_comes 122 = .ok (.getfield 7, 3) := by decide +kernel
theorem dX12_comes_125 : decode cX12_comes 125 = .ok (.bipush 29, 2) := by decide +kernel
theorem dX12_comes_127 : decode cX12_comes 127 = .ok (.iload_n 1, 1) := by decide +kernel
theorem dX12_comes_128 : decode cX12_comes 128 = .ok (.iadd, 1) := by decide +kernel
theorem dX12_comes_129 : decode cX12_comes 129 = .ok (.iaload, 1) := by decide +kernel
theorem dX12_comes_130 : decode cX12_comes 130 = .ok (.iastore, 1) := by decide +kernel
theorem dX12_comes_131 : decode cX12_comes 131 = .ok (.iinc 1 1, 3) := by decide +kernel
theorem dX12_comes_134 : decode cX12_comes 134 = .ok (.goto (-31), 3) := by decide +kernel
theorem dX12_comes_137 : decode cX12_comes 137 = .ok (.aload_n 0, 1) := by decide +kernel
theorem dX12_comes_138 : decode cX12_comes 138 = .ok (.iconst 0, 1) := by decide +kernel
theorem dX12_comes_139 : decode cX12_comes 139 = .ok (.putfield 68, 3) := by decide +kernel
theorem dX12_comes_142 : decode cX12_comes 142 = .ok (.aload_n 0, 1) := by decide +kernel
theorem dX12_comes_143 : decode cX12_comes 143 = .ok (.iconst 0, 1) := by decide +kernel
theorem dX12_comes_144 : decode cX12_comes 144 = .ok (.putfield 72, 3) := by decide +kernel
theorem dX12_comes_147 : decode cX12_comes 147 = .ok (.aload_n 0, 1) := by decide +kernel
theorem dX12_comes_148 : decode cX12_comes 148 = .ok (.iconst 0, 1) := by decide +kernel
theorem dX12_comes_149 : decode cX12_comes 149 = .ok (.putfield 75, 3) := by decide +kernel
theorem dX12_comes_152 : decode cX12_comes 152 = .ok (.return_, 1) := by decide +kernel
theorem dX12_write_0 : decode cX12_write 0 = .ok (.iload_n 1, 1) := by decide +kernel
theorem dX12_write_1 : decode cX12_write 1 = .ok (.i2l, 1) := by decide +kernel
theorem dX12_write_2 : decode cX12_write 2 = .ok (.ldc2_w 78, 3) := by decide +kernel
theorem dX12_write_5 : decode cX12_write 5 = .ok (.ldc2_w 80, 3) := by decide +kernel
theorem dX12_write_8 : decode cX12_write 8 = .ok (.invokestatic 62, 3) := by decide +kernel
theorem dX12_write_11 : decode cX12_write 11 = .ok (.ifCond .ne 5, 3) := by decide +kernel
theorem dX12_write_14 : decode cX12_write 14 = .ok (.iconst (-1), 1) := by decide +kernel
theorem dX12_write_15 : decode cX12_write 15 = .ok (.ireturn, 1) := by decide +kernel
theorem dX12_write_16 : decode cX12_write 16 = .ok (.aload_n 0, 1) := by decide +kernel
theorem dX12_write_17 : decode cX12_write 17 = .ok (.getfield 82, 3) := by decide +kernel
theorem dX12_write_20 : decode cX12_write 20 = .ok (.sipush 200, 3) := by decide +kernel
theorem dX12_write_23 : decode cX12_write 23 = .ok (.if_icmp .ne 6, 3) := by decide +kernel
theorem dX12_write_26 : decode cX12_write 26 = .ok (.bipush (-3), 2) := by decide +kernel
theorem dX12_write_28 : decode cX12_write 28 = .ok (.ireturn, 1) := by decide +kernel
theorem dX12_write_29 : decode cX12_write 29 = .ok (.aload_n 0, 1) := by decide +kernel
theorem dX12_write_30 : decode cX12_write 30 = .ok (.getfield 22, 3) := by decide +kernel
theorem dX12_write_33 : decode cX12_write 33 = .ok (.aload_n 0, 1) := by decide +kernel
theorem dX12_write_34 : decode cX12_write 34 = .ok (.getfield 82, 3) := by decide +kernel
theorem dX12_write_37 : decode cX12_write 37 = .ok (.iload_n 1, 1) := by decide +kernel
theorem dX12_write_38 : decode cX12_write 38 = .ok (.iastore, 1) := by decide +kernel
theorem dX12_write_39 : decode cX12_write 39 = .ok (.aload_n 0, 1) := by decide +kernel
theorem dX12_write_40 : decode cX12_write 40 = .ok (.dup, 1) := by decide +kernel
theorem dX12_write_41 : decode cX12_write 41 = .ok (.getfield 82, 3) := by decide +kernel
theorem dX12_write_44 : decode cX12_write 44 = .ok (.iconst 1, 1) := by decide +kernel
theorem dX12_write_45 : decode cX12_write 45 = .ok (.iadd, 1) := by decide +kernel
theorem dX12_write_46 : decode cX12_write 46 = .ok (.putfield 82, 3) := by decide +kernel
theorem dX12_write_49 : decode cX12_write 49 = .ok (.aload_n 0, 1) := by decide +kernel
theorem dX12_write_50 : decode cX12_write 50 = .ok (.getfield 82, 3) := by decide +kernel
theorem dX12_write_53 : decode cX12_write 53 = .ok (.ireturn, 1) := by decide +kernel
theorem dX12_wipe_0 : decode cX12_wipe 0 = .ok (.aload_n 0, 1) := by decide +kernel
theorem dX12_wipe_1 : decode cX12_wipe 1 = .ok (.getfield 82, 3) := by decide +kernel
theorem dX12_wipe_4 : decode cX12_wipe 4 = .ok (.istore_n 1, 1) := by decide +kernel
theorem dX12_wipe_5 : decode cX12_wipe 5 = .ok (.aload_n 0, 1) := by decide +kernel
theorem dX12_wipe_6 : decode cX12_wipe 6 = .ok (.iconst 0, 1) := by decide +kernel
theorem dX12_wipe_7 : decode cX12_wipe 7 = .ok (.putfield 82, 3) := by decide +kernel
theorem dX12_wipe_10 : decode cX12_wipe 10 = .ok (.iload_n 1, 1) := by decide +kernel
theorem dX12_wipe_11 : decode cX12_wipe 11 = .ok (.ireturn, 1) := by decide +kernel
theorem dX12_letterAt_0 : decode cX12_letterAt 0 = .ok (.iload_n 1, 1) := by decide +kernel
theorem dX12_letterAt_1 : decode cX12_letterAt 1 = .ok (.aload_n 0, 1) := by decide +kernel
theorem dX12_letterAt_2 : decode cX12_letterAt 2 = .ok (.getfield 82, 3) := by decide +kernel
theorem dX12_letterAt_5 : decode cX12_letterAt 5 = .ok (.if_icmp .ge 12, 3) := by decide +kernel
theorem dX12_letterAt_8 : decode cX12_letterAt 8 = .ok (.aload_n 0, 1) := by decide +kernel
theorem dX12_letterAt_9 : decode cX12_letterAt 9 = .ok (.getfield 22, 3) := by decide +kernel
theorem dX12_letterAt_12 : decode cX12_letterAt 12 = .ok (.iload_n 1, 1) := by decide +kernel
theorem dX12_letterAt_13 : decode cX12_letterAt 13 = .ok (.iaload, 1) := by decide +kernel
theorem dX12_letterAt_14 : decode cX12_letterAt 14 = .ok (.goto 4, 3) := by decide +kernel
theorem dX12_letterAt_17 : decode cX12_letterAt 17 = .ok (.iconst (-1), 1) := by decide +kernel
theorem dX12_letterAt_18 : decode cX12_letterAt 18 = .ok (.ireturn, 1) := by decide +kernel
theorem dX12_takesNumbers_0 : decode cX12_takesNumbers 0 = .ok (.iconst 0, 1) := by decide +kernel
theorem dX12_takesNumbers_1 : decode cX12_takesNumbers 1 = .ok (.istore_n 2, 1) := by decide +kernel
theorem dX12_takesNumbers_2 : decode cX12_takesNumbers 2 = .ok (.iload_n 2, 1) := by decide +kernel
theorem dX12_takesNumbers_3 : decode cX12_takesNumbers 3 = .ok (.iload_n 1, 1) := by decide +kernel
theorem dX12_takesNumbers_4 : decode cX12_takesNumbers 4 = .ok (.if_icmp .ge 123, 3) := by decide +kernel
theorem dX12_takesNumbers_7 : decode cX12_takesNumbers 7 = .ok (.iconst 0, 1) := by decide +kernel
theorem dX12_takesNumbers_8 : decode cX12_takesNumbers 8 = .ok (.istore_n 3, 1) := by decide +kernel
theorem dX12_takesNumbers_9 : decode cX12_takesNumbers 9 = .ok (.iconst 0, 1) := by decide +kernel
theorem dX12_takesNumbers_10 : decode cX12_takesNumbers 10 = .ok (.istore 4, 2) := by decide +kernel
theorem dX12_takesNumbers_12 : decode cX12_takesNumbers 12 = .ok (.aload_n 0, 1) := by decide +kernel
theorem dX12_takesNumbers_13 : decode cX12_takesNumbers 13 = .ok (.aload_n 0, 1) := by decide +kernel
theorem dX12_takesNumbers_14 : decode cX12_takesNumbers 14 = .ok (.getfield 85, 3) := by decide +kernel
theorem dX12_takesNumbers_17 : decode cX12_takesNumbers 17 = .ok (.invokevirtual 88, 3) := by decide +kernel
theorem dX12_takesNumbers_20 : decode cX12_takesNumbers 20 = .ok (.i2l, 1) := by decide +kernel
theorem dX12_takesNumbers_21 : decode cX12_takesNumbers 21 = .ok (.ldc2_w 92, 3) := by decide +kernel
theorem dX12_takesNumbers_24 : decode cX12_takesNumbers 24 = .ok (.ldc2_w 94, 3) := by decide +kernel
theorem dX12_takesNumbers_27 : decode cX12_takesNumbers 27 = .ok (.invokestatic 62, 3) := by decide +kernel
theorem dX12_takesNumbers_30 : decode cX12_takesNumbers 30 = .ok (.ifCond .eq 42, 3) := by decide +kernel
theorem dX12_takesNumbers_33 : decode cX12_takesNumbers 33 = .ok (.iload 4, 2) := by decide +kernel
theorem dX12_takesNumbers_35 : decode cX12_takesNumbers 35 = .ok (.iconst 2, 1) := by decide +kernel
theorem dX12_takesNumbers_36 : decode cX12_takesNumbers 36 = .ok (.if_icmp .ge 36, 3) := by decide +kernel
theorem dX12_takesNumbers_39 : decode cX12_takesNumbers 39 = .ok (.bipush 10, 2) := by decide +kernel
theorem dX12_takesNumbers_41 : decode cX12_takesNumbers 41 = .ok (.iload_n 3, 1) := by decide +kernel
theorem dX12_takesNumbers_42 : decode cX12_takesNumbers 42 = .ok (.imul, 1) := by decide +kernel
theorem dX12_takesNumbers_43 : decode cX12_takesNumbers 43 = .ok (.aload_n 0, 1) := by decide +kernel
theorem dX12_takesNumbers_44 : decode cX12_takesNumbers 44 = .ok (.aload_n 0, 1) := by decide +kernel
theorem dX12_takesNumbers_45 : decode cX12_takesNumbers 45 = .ok (.getfield 85, 3) := by decide +kernel
theorem dX12_takesNumbers_48 : decode cX12_takesNumbers 48 = .ok (.invokevirtual 88, 3) := by decide +kernel
theorem dX12_takesNumbers_51 : decode cX12_takesNumbers 51 = .ok (.iadd, 1) := by decide +kernel
theorem dX12_takesNumbers_52 : decode cX12_takesNumbers 52 = .ok (.bipush 48, 2) := by decide +kernel
theorem dX12_takesNumbers_54 : decode cX12_takesNumbers 54 = .ok (.isub, 1) := by decide +kernel
theorem dX12_takesNumbers_55 : decode cX12_takesNumbers 55 = .ok (.istore_n 3, 1) := by decide +kernel
theorem dX12_takesNumbers_56 : decode cX12_takesNumbers 56 = .ok (.aload_n 0, 1) := by decide +kernel
theorem dX12_takesNumbers_57 : decode cX12_takesNumbers 57 = .ok (.dup, 1) := by decide +kernel
theorem dX12_takesNumbers_58 : decode cX12_takesNumbers 58 = .ok (.getfield 85, 3) := by decide +kernel
theorem dX12_takesNumbers_61 : decode cX12_takesNumbers 61 = .ok (.iconst 1, 1) := by decide +kernel
theorem dX12_takesNumbers_62 : decode cX12_takesNumbers 62 = .ok (.iadd, 1) := by decide +kernel
theorem dX12_takesNumbers_63 : decode cX12_takesNumbers 63 = .ok (.putfield 85, 3) := by decide +kernel
theorem dX12_takesNumbers_66 : decode cX12_takesNumbers 66 = .ok (.iinc 4 1, 3) := by decide +kernel
theorem dX12_takesNumbers_69 : decode cX12_takesNumbers 69 = .ok (.goto (-57), 3) := by decide +kernel
theorem dX12_takesNumbers_72 : decode cX12_takesNumbers 72 = .ok (.iload 4, 2) := by decide +kernel
theorem dX12_takesNumbers_74 : decode cX12_takesNumbers 74 = .ok (.ifCond .eq 28, 3) := by decide +kernel
theorem dX12_takesNumbers_77 : decode cX12_takesNumbers 77 = .ok (.aload_n 0, 1) := by decide +kernel
theorem dX12_takesNumbers_78 : decode cX12_takesNumbers 78 = .ok (.aload_n 0, 1) := by decide +kernel
theorem dX12_takesNumbers_79 : decode cX12_takesNumbers 79 = .ok (.getfield 85, 3) := by decide +kernel
theorem dX12_takesNumbers_82 : decode cX12_takesNumbers 82 = .ok (.invokevirtual 88, 3) := by decide +kernel
theorem dX12_takesNumbers_85 : decode cX12_takesNumbers 85 = .ok (.iload_n 2, 1) := by decide +kernel
theorem dX12_takesNumbers_86 : decode cX12_takesNumbers 86 = .ok (.iload_n 1, 1) := by decide +kernel
theorem dX12_takesNumbers_87 : decode cX12_takesNumbers 87 = .ok (.iconst 1, 1) := by decide +kernel
theorem dX12_takesNumbers_88 : decode cX12_takesNumbers 88 = .ok (.isub, 1) := by decide +kernel
theorem dX12_takesNumbers_89 : decode cX12_takesNumbers 89 = .ok (.if_icmp .ge 8, 3) := by decide +kernel
theorem dX12_takesNumbers_92 : decode cX12_takesNumbers 92 = .ok (.bipush 44, 2) := by decide +kernel
theorem dX12_takesNumbers_94 : decode cX12_takesNumbers 94 = .ok (.goto 5, 3) := by decide +kernel
theorem dX12_takesNumbers_97 : decode cX12_takesNumbers 97 = .ok (.bipush 59, 2) := by decide +kernel
theorem dX12_takesNumbers_99 : decode cX12_takesNumbers 99 = .ok (.if_icmp .eq 5, 3) := by decide +kernel
theorem dX12_takesNumbers_102 : decode cX12_takesNumbers 102 = .ok (.iconst 0, 1) := by decide +kernel
theorem dX12_takesNumbers_103 : decode cX12_takesNumbers 103 = .ok (.ireturn, 1) := by decide +kernel
theorem dX12_takesNumbers_104 : decode cX12_takesNumbers 104 = .ok (.aload_n 0, 1) := by decide +kernel
theorem dX12_takesNumbers_105 : decode cX12_takesNumbers 105 = .ok (.dup, 1) := by decide +kernel
theorem dX12_takesNumbers_106 : decode cX12_takesNumbers 106 = .ok (.getfield 85, 3) := by decide +kernel
theorem dX12_takesNumbers_109 : decode cX12_takesNumbers 109 = .ok (.iconst 1, 1) := by decide +kernel
theorem dX12_takesNumbers_110 : decode cX12_takesNumbers 110 = .ok (.iadd, 1) := by decide +kernel
theorem dX12_takesNumbers_111 : decode cX12_takesNumbers 111 = .ok (.putfield 85, 3) := by decide +kernel
theorem dX12_takesNumbers_114 : decode cX12_takesNumbers 114 = .ok (.aload_n 0, 1) := by decide +kernel
theorem dX12_takesNumbers_115 : decode cX12_takesNumbers 115 = .ok (.getfield 25, 3) := by decide +kernel
theorem dX12_takesNumbers_118 : decode cX12_takesNumbers 118 = .ok (.iload_n 2, 1) := by decide +kernel
theorem dX12_takesNumbers_119 : decode cX12_takesNumbers 119 = .ok (.iload_n 3, 1) := by decide +kernel
theorem dX12_takesNumbers_120 : decode cX12_takesNumbers 120 = .ok (.iastore, 1) := by decide +kernel
theorem dX12_takesNumbers_121 : decode cX12_takesNumbers 121 = .ok (.iinc 2 1, 3) := by decide +kernel
theorem dX12_takesNumbers_124 : decode cX12_takesNumbers 124 = .ok (.goto (-122), 3) := by decide +kernel
theorem dX12_takesNumbers_127 : decode cX12_takesNumbers 127 = .ok (.iconst 1, 1) := by decide +kernel
theorem dX12_takesNumbers_128 : decode cX12_takesNumbers 128 = .ok (.ireturn, 1) := by decide +kernel
theorem dX12_takesItem_0 : decode cX12_takesItem 0 = .ok (.aload_n 0, 1) := by decide +kernel
theorem dX12_takesItem_1 : decode cX12_takesItem 1 = .ok (.aload_n 0, 1) := by decide +kernel
theorem dX12_takesItem_2 : decode cX12_takesItem 2 = .ok (.getfield 85, 3) := by decide +kernel
theorem dX12_takesItem_5 : decode cX12_takesItem 5 = .ok (.invokevirtual 88, 3) := by decide +kernel
theorem dX12_takesItem_8 : decode cX12_takesItem 8 = .ok (.istore_n 1, 1) := by decide +kernel
theorem dX12_takesItem_9 : decode cX12_takesItem 9 = .ok (.aload_n 0, 1) := by decide +kernel
theorem dX12_takesItem_10 : decode cX12_takesItem 10 = .ok (.dup, 1) := by decide +kernel
theorem dX12_takesItem_11 : decode cX12_takesItem 11 = .ok (.getfield 85, 3) := by decide +kernel
theorem dX12_takesItem_14 : decode cX12_takesItem 14 = .ok (.iconst 1, 1) := by decide +kernel
theorem dX12_takesItem_15 : decode cX12_takesItem 15 = .ok (.iadd, 1) := by decide +kernel
theorem dX12_takesItem_16 : decode cX12_takesItem 16 = .ok (.putfield 85, 3) := by decide +kernel
theorem dX12_takesItem_19 : decode cX12_takesItem 19 = .ok (.iload_n 1, 1) := by decide +kernel
theorem dX12_takesItem_20 : decode cX12_takesItem 20 = .ok (.lookupswitch 194 #[(103, 83), (112, 44), (116, 167), (118, 128)], 44) := by decide +kernel
theorem dX12_takesItem_64 : decode cX12_takesItem 64 = .ok (.aload_n 0, 1) := by decide +kernel
theorem dX12_takesItem_65 : decode cX12_takesItem 65 = .ok (.iconst 3, 1) := by decide +kernel
theorem dX12_takesItem_66 : decode cX12_takesItem 66 = .ok (.invokevirtual 96, 3) := by decide +kernel
theorem dX12_takesItem_69 : decode cX12_takesItem 69 = .ok (.ifCond .eq 32, 3) := by decide +kernel
theorem dX12_takesItem_72 : decode cX12_takesItem 72 = .ok (.aload_n 0, 1) := by decide +kernel
theorem dX12_takesItem_73 : decode cX12_takesItem 73 = .ok (.aload_n 0, 1) := by decide +kernel
theorem dX12_takesItem_74 : decode cX12_takesItem 74 = .ok (.getfield 25, 3) := by decide +kernel
theorem dX12_takesItem_77 : decode cX12_takesItem 77 = .ok (.iconst 0, 1) := by decide +kernel
theorem dX12_takesItem_78 : decode cX12_takesItem 78 = .ok (.iaload, 1) := by decide +kernel
theorem dX12_takesItem_79 : decode cX12_takesItem 79 = .ok (.aload_n 0, 1) := by decide +kernel
theorem dX12_takesItem_80 : decode cX12_takesItem 80 = .ok (.getfield 25, 3) := by decide +kernel
theorem dX12_takesItem_83 : decode cX12_takesItem 83 = .ok (.iconst 1, 1) := by decide +kernel
theorem dX12_takesItem_84 : decode cX12_takesItem 84 = .ok (.iaload, 1) := by decide +kernel
theorem dX12_takesItem_85 : decode cX12_takesItem 85 = .ok (.aload_n 0, 1) := by decide +kernel
theorem dX12_takesItem_86 : decode cX12_takesItem 86 = .ok (.getfield 25, 3) := by decide +kernel
theorem dX12_takesItem_89 : decode cX12_takesItem 89 = .ok (.iconst 2, 1) := by decide +kernel
theorem dX12_takesItem_90 : decode cX12_takesItem 90 = .ok (.iaload, 1) := by decide +kernel
theorem dX12_takesItem_91 : decode cX12_takesItem 91 = .ok (.invokevirtual 46, 3) := by decide +kernel
theorem dX12_takesItem_94 : decode cX12_takesItem 94 = .ok (.ifCond .eq 7, 3) := by decide +kernel
theorem dX12_takesItem_97 : decode cX12_takesItem 97 = .ok (.iconst 1, 1) := by decide +kernel
theorem dX12_takesItem_98 : decode cX12_takesItem 98 = .ok (.goto 4, 3) := by decide +kernel
theorem dX12_takesItem_101 : decode cX12_takesItem 101 = .ok (.iconst 0, 1) := by decide +kernel
theorem dX12_takesItem_102 : decode cX12_takesItem 102 = .ok (.ireturn, 1) := by decide +kernel
theorem dX12_takesItem_103 : decode cX12_takesItem 103 = .ok (.aload_n 0, 1) := by decide +kernel
theorem dX12_takesItem_104 : decode cX12_takesItem 104 = .ok (.iconst 4, 1) := by decide +kernel
theorem dX12_takesItem_105 : decode cX12_takesItem 105 = .ok (.invokevirtual 96, 3) := by decide +kernel
theorem dX12_takesItem_108 : decode cX12_takesItem 108 = .ok (.ifCond .eq 38, 3) := by decide +kernel
theorem dX12_takesItem_111 : decode cX12_takesItem 111 = .ok (.aload_n 0, 1) := by decide +kernel
theorem dX12_takesItem_112 : decode cX12_takesItem 112 = .ok (.aload_n 0, 1) := by decide +kernel
theorem dX12_takesItem_113 : decode cX12_takesItem 113 = .ok (.getfield 25, 3) := by decide +kernel
theorem dX12_takesItem_116 : decode cX12_takesItem 116 = .ok (.iconst 0, 1) := by decide +kernel
theorem dX12_takesItem_117 : decode cX12_takesItem 117 = .ok (.iaload, 1) := by decide +kernel
theorem dX12_takesItem_118 : decode cX12_takesItem 118 = .ok (.aload_n 0, 1) := by decide +kernel
theorem dX12_takesItem_119 : decode cX12_takesItem 119 = .ok (.getfield 25, 3) := by decide +kernel
theorem dX12_takesItem_122 : decode cX12_takesItem 122 = .ok (.iconst 1, 1) := by decide +kernel
theorem dX12_takesItem_123 : decode cX12_takesItem 123 = .ok (.iaload, 1) := by decide +kernel
theorem dX12_takesItem_124 : decode cX12_takesItem 124 = .ok (.aload_n 0, 1) := by decide +kernel
theorem dX12_takesItem_125 : decode cX12_takesItem 125 = .ok (.getfield 25, 3) := by decide +kernel
theorem dX12_takesItem_128 : decode cX12_takesItem 128 = .ok (.iconst 2, 1) := by decide +kernel
theorem dX12_takesItem_129 : decode cX12_takesItem 129 = .ok (.iaload, 1) := by decide +kernel
theorem dX12_takesItem_130 : decode cX12_takesItem 130 = .ok (.aload_n 0, 1) := by decide +kernel
theorem dX12_takesItem_131 : decode cX12_takesItem 131 = .ok (.getfield 25, 3) := by decide +kernel
theorem dX12_takesItem_134 : decode cX12_takesItem 134 = .ok (.iconst 3, 1) := by decide +kernel
theorem dX12_takesItem_135 : decode cX12_takesItem 135 = .ok (.iaload, 1) := by decide +kernel
theorem dX12_takesItem_136 : decode cX12_takesItem 136 = .ok (.invokevirtual 50, 3) := by decide +kernel
theorem dX12_takesItem_139 : decode cX12_takesItem 139 = .ok (.ifCond .eq 7, 3) := by decide +kernel
theorem dX12_takesItem_142 : decode cX12_takesItem 142 = .ok (.iconst 1, 1) := by decide +kernel
theorem dX12_takesItem_143 : decode cX12_takesItem 143 = .ok (.goto 4, 3) := by decide +kernel
theorem dX12_takesItem_146 : decode cX12_takesItem 146 = .ok (.iconst 0, 1) := by decide +kernel
theorem dX12_takesItem_147 : decode cX12_takesItem 147 = .ok (.ireturn, 1) := by decide +kernel
theorem dX12_takesItem_148 : decode cX12_takesItem 148 = .ok (.aload_n 0, 1) := by decide +kernel
theorem dX12_takesItem_149 : decode cX12_takesItem 149 = .ok (.iconst 3, 1) := by decide +kernel
theorem dX12_takesItem_150 : decode cX12_takesItem 150 = .ok (.invokevirtual 96, 3) := by decide +kernel
theorem dX12_takesItem_153 : decode cX12_takesItem 153 = .ok (.ifCond .eq 32, 3) := by decide +kernel
theorem dX12_takesItem_156 : decode cX12_takesItem 156 = .ok (.aload_n 0, 1) := by decide +kernel
theorem dX12_takesItem_157 : decode cX12_takesItem 157 = .ok (.aload_n 0, 1) := by decide +kernel
theorem dX12_takesItem_158 : decode cX12_takesItem 158 = .ok (.getfield 25, 3) := by decide +kernel
theorem dX12_takesItem_161 : decode cX12_takesItem 161 = .ok (.iconst 0, 1) := by decide +kernel
theorem dX12_takesItem_162 : decode cX12_takesItem 162 = .ok (.iaload, 1) := by decide +kernel
theorem dX12_takesItem_163 : decode cX12_takesItem 163 = .ok (.aload_n 0, 1) := by decide +kernel
theorem dX12_takesItem_164 : decode cX12_takesItem 164 = .ok (.getfield 25, 3) := by decide +kernel
theorem dX12_takesItem_167 : decode cX12_takesItem 167 = .ok (.iconst 1, 1) := by decide +kernel
theorem dX12_takesItem_168 : decode cX12_takesItem 168 = .ok (.iaload, 1) := by decide +kernel
theorem dX12_takesItem_169 : decode cX12_takesItem 169 = .ok (.aload_n 0, 1) := by decide +kernel
theorem dX12_takesItem_170 : decode cX12_takesItem 170 = .ok (.getfield 25, 3) := by decide +kernel
theorem dX12_takesItem_173 : decode cX12_takesItem 173 = .ok (.iconst 2, 1) := by decide +kernel
theorem dX12_takesItem_174 : decode cX12_takesItem 174 = .ok (.iaload, 1) := by decide +kernel
theorem dX12_takesItem_175 : decode cX12_takesItem 175 = .ok (.invokevirtual 54, 3) := by decide +kernel
theorem dX12_takesItem_178 : decode cX12_takesItem 178 = .ok (.ifCond .eq 7, 3) := by decide +kernel
theorem dX12_takesItem_181 : decode cX12_takesItem 181 = .ok (.iconst 1, 1) := by decide +kernel
theorem dX12_takesItem_182 : decode cX12_takesItem 182 = .ok (.goto 4, 3) := by decide +kernel
theorem dX12_takesItem_185 : decode cX12_takesItem 185 = .ok (.iconst 0, 1) := by decide +kernel
theorem dX12_takesItem_186 : decode cX12_takesItem 186 = .ok (.ireturn, 1) := by decide +kernel
theorem dX12_takesItem_187 : decode cX12_takesItem 187 = .ok (.aload_n 0, 1) := by decide +kernel
theorem dX12_takesItem_188 : decode cX12_takesItem 188 = .ok (.iconst 1, 1) := by decide +kernel
theorem dX12_takesItem_189 : decode cX12_takesItem 189 = .ok (.invokevirtual 96, 3) := by decide +kernel
theorem dX12_takesItem_192 : decode cX12_takesItem 192 = .ok (.ifCond .eq 20, 3) := by decide +kernel
theorem dX12_takesItem_195 : decode cX12_takesItem 195 = .ok (.aload_n 0, 1) := by decide +kernel
theorem dX12_takesItem_196 : decode cX12_takesItem 196 = .ok (.aload_n 0, 1) := by decide +kernel
theorem dX12_takesItem_197 : decode cX12_takesItem 197 = .ok (.getfield 25, 3) := by decide +kernel
theorem dX12_takesItem_200 : decode cX12_takesItem 200 = .ok (.iconst 0, 1) := by decide +kernel
theorem dX12_takesItem_201 : decode cX12_takesItem 201 = .ok (.iaload, 1) := by decide +kernel
theorem dX12_takesItem_202 : decode cX12_takesItem 202 = .ok (.invokevirtual 100, 3) := by decide +kernel
theorem dX12_takesItem_205 : decode cX12_takesItem 205 = .ok (.ifCond .eq 7, 3) := by decide +kernel
theorem dX12_takesItem_208 : decode cX12_takesItem 208 = .ok (.iconst 1, 1) := by decide +kernel
theorem dX12_takesItem_209 : decode cX12_takesItem 209 = .ok (.goto 4, 3) := by decide +kernel
theorem dX12_takesItem_212 : decode cX12_takesItem 212 = .ok (.iconst 0, 1) := by decide +kernel
theorem dX12_takesItem_213 : decode cX12_takesItem 213 = .ok (.ireturn, 1) := by decide +kernel
theorem dX12_takesItem_214 : decode cX12_takesItem 214 = .ok (.iconst 0, 1) := by decide +kernel
theorem dX12_takesItem_215 : decode cX12_takesItem 215 = .ok (.ireturn, 1) := by decide +kernel
theorem dX12_faultOf_0 : decode cX12_faultOf 0 = .ok (.aload_n 0, 1) := by decide +kernel
theorem dX12_faultOf_1 : decode cX12_faultOf 1 = .ok (.invokevirtual 43, 3) := by decide +kernel
theorem dX12_faultOf_4 : decode cX12_faultOf 4 = .ok (.aload_n 0, 1) := by decide +kernel
theorem dX12_faultOf_5 : decode cX12_faultOf 5 = .ok (.iconst 0, 1) := by decide +kernel
theorem dX12_faultOf_6 : decode cX12_faultOf 6 = .ok (.putfield 85, 3) := by decide +kernel
theorem dX12_faultOf_9 : decode cX12_faultOf 9 = .ok (.aload_n 0, 1) := by decide +kernel
theorem dX12_faultOf_10 : decode cX12_faultOf 10 = .ok (.getfield 85, 3) := by decide +kernel
theorem dX12_faultOf_13 : decode cX12_faultOf 13 = .ok (.aload_n 0, 1) := by decide +kernel
theorem dX12_faultOf_14 : decode cX12_faultOf 14 = .ok (.getfield 82, 3) := by decide +kernel
theorem dX12_faultOf_17 : decode cX12_faultOf 17 = .ok (.if_icmp .ge 20, 3) := by decide +kernel
theorem dX12_faultOf_20 : decode cX12_faultOf 20 = .ok (.aload_n 0, 1) := by decide +kernel
theorem dX12_faultOf_21 : decode cX12_faultOf 21 = .ok (.getfield 85, 3) := by decide +kernel
theorem dX12_faultOf_24 : decode cX12_faultOf 24 = .ok (.istore_n 1, 1) := by decide +kernel
theorem dX12_faultOf_25 : decode cX12_faultOf 25 = .ok (.aload_n 0, 1) := by decide +kernel
theorem dX12_faultOf_26 : decode cX12_faultOf 26 = .ok (.invokevirtual 103, 3) := by decide +kernel
theorem dX12_faultOf_29 : decode cX12_faultOf 29 = .ok (.ifCond .ne 5, 3) := by decide +kernel
theorem dX12_faultOf_32 : decode cX12_faultOf 32 = .ok (.iload_n 1, 1) := by decide +kernel
theorem dX12_faultOf_33 : decode cX12_faultOf 33 = .ok (.ireturn, 1) := by decide +kernel
theorem dX12_faultOf_34 : decode cX12_faultOf 34 = .ok (.goto (-25), 3) := by decide +kernel
theorem dX12_faultOf_37 : decode cX12_faultOf 37 = .ok (.bipush (-4), 2) := by decide +kernel
theorem dX12_faultOf_39 : decode cX12_faultOf 39 = .ok (.ireturn, 1) := by decide +kernel
theorem dX12_fault_0 : decode cX12_fault 0 = .ok (.aload_n 0, 1) := by decide +kernel
theorem dX12_fault_1 : decode cX12_fault 1 = .ok (.invokevirtual 107, 3) := by decide +kernel
theorem dX12_fault_4 : decode cX12_fault 4 = .ok (.ireturn, 1) := by decide +kernel
theorem dX12_lay_0 : decode cX12_lay 0 = .ok (.aload_n 0, 1) := by decide +kernel
theorem dX12_lay_1 : decode cX12_lay 1 = .ok (.invokevirtual 107, 3) := by decide +kernel
theorem dX12_lay_4 : decode cX12_lay 4 = .ok (.bipush (-4), 2) := by decide +kernel
theorem dX12_lay_6 : decode cX12_lay 6 = .ok (.if_icmp .ne 13, 3) := by decide +kernel
theorem dX12_lay_9 : decode cX12_lay 9 = .ok (.aload_n 0, 1) := by decide +kernel
theorem dX12_lay_10 : decode cX12_lay 10 = .ok (.getfield 7, 3) := by decide +kernel
theorem dX12_lay_13 : decode cX12_lay 13 = .ok (.bipush 89, 2) := by decide +kernel
theorem dX12_lay_15 : decode cX12_lay 15 = .ok (.iaload, 1) := by decide +kernel
theorem dX12_lay_16 : decode cX12_lay 16 = .ok (.ifCond .ne 6, 3) := by decide +kernel
theorem dX12_lay_19 : decode cX12_lay 19 = .ok (.bipush (-2), 2) := by decide +kernel
theorem dX12_lay_21 : decode cX12_lay 21 = .ok (.ireturn, 1) := by decide +kernel
theorem dX12_lay_22 : decode cX12_lay 22 = .ok (.aload_n 0, 1) := by decide +kernel
theorem dX12_lay_23 : decode cX12_lay 23 = .ok (.invokevirtual 57, 3) := by decide +kernel
theorem dX12_lay_26 : decode cX12_lay 26 = .ok (.aload_n 0, 1) := by decide +kernel
theorem dX12_lay_27 : decode cX12_lay 27 = .ok (.getfield 7, 3) := by decide +kernel
theorem dX12_lay_30 : decode cX12_lay 30 = .ok (.iconst 0, 1) := by decide +kernel
theorem dX12_lay_31 : decode cX12_lay 31 = .ok (.iaload, 1) := by decide +kernel
theorem dX12_lay_32 : decode cX12_lay 32 = .ok (.ireturn, 1) := by decide +kernel
theorem dX12_isPerson_0 : decode cX12_isPerson 0 = .ok (.iload_n 1, 1) := by decide +kernel
theorem dX12_isPerson_1 : decode cX12_isPerson 1 = .ok (.i2l, 1) := by decide +kernel
theorem dX12_isPerson_2 : decode cX12_isPerson 2 = .ok (.lconst 0, 1) := by decide +kernel
theorem dX12_isPerson_3 : decode cX12_isPerson 3 = .ok (.aload_n 0, 1) := by decide +kernel
theorem dX12_isPerson_4 : decode cX12_isPerson 4 = .ok (.getfield 7, 3) := by decide +kernel
theorem dX12_isPerson_7 : decode cX12_isPerson 7 = .ok (.iconst 0, 1) := by decide +kernel
theorem dX12_isPerson_8 : decode cX12_isPerson 8 = .ok (.iaload, 1) := by decide +kernel
theorem dX12_isPerson_9 : decode cX12_isPerson 9 = .ok (.iconst 1, 1) := by decide +kernel
theorem dX12_isPerson_10 : decode cX12_isPerson 10 = .ok (.isub, 1) := by decide +kernel
theorem dX12_isPerson_11 : decode cX12_isPerson 11 = .ok (.i2l, 1) := by decide +kernel
theorem dX12_isPerson_12 : decode cX12_isPerson 12 = .ok (.invokestatic 62, 3) := by decide +kernel
theorem dX12_isPerson_15 : decode cX12_isPerson 15 = .ok (.ireturn, 1) := by decide +kernel
theorem dX12_isGood_0 : decode cX12_isGood 0 = .ok (.iload_n 1, 1) := by decide +kernel
theorem dX12_isGood_1 : decode cX12_isGood 1 = .ok (.i2l, 1) := by decide +kernel
theorem dX12_isGood_2 : decode cX12_isGood 2 = .ok (.lconst 0, 1) := by decide +kernel
theorem dX12_isGood_3 : decode cX12_isGood 3 = .ok (.aload_n 0, 1) := by decide +kernel
theorem dX12_isGood_4 : decode cX12_isGood 4 = .ok (.getfield 7, 3) := by decide +kernel
theorem dX12_isGood_7 : decode cX12_isGood 7 = .ok (.iconst 1, 1) := by decide +kernel
theorem dX12_isGood_8 : decode cX12_isGood 8 = .ok (.iaload, 1) := by decide +kernel
theorem dX12_isGood_9 : decode cX12_isGood 9 = .ok (.iconst 1, 1) := by decide +kernel
theorem dX12_isGood_10 : decode cX12_isGood 10 = .ok (.isub, 1) := by decide +kernel
theorem dX12_isGood_11 : decode cX12_isGood 11 = .ok (.i2l, 1) := by decide +kernel
theorem dX12_isGood_12 : decode cX12_isGood 12 = .ok (.invokestatic 62, 3) := by decide +kernel
theorem dX12_isGood_15 : decode cX12_isGood 15 = .ok (.ireturn, 1) := by decide +kernel
theorem dX12_areTwo_0 : decode cX12_areTwo 0 = .ok (.aload_n 0, 1) := by decide +kernel
theorem dX12_areTwo_1 : decode cX12_areTwo 1 = .ok (.iload_n 1, 1) := by decide +kernel
theorem dX12_areTwo_2 : decode cX12_areTwo 2 = .ok (.invokevirtual 111, 3) := by decide +kernel
theorem dX12_areTwo_5 : decode cX12_areTwo 5 = .ok (.ifCond .eq 20, 3) := by decide +kernel
theorem dX12_areTwo_8 : decode cX12_areTwo 8 = .ok (.aload_n 0, 1) := by decide +kernel
theorem dX12_areTwo_9 : decode cX12_areTwo 9 = .ok (.iload_n 2, 1) := by decide +kernel
theorem dX12_areTwo_10 : decode cX12_areTwo 10 = .ok (.invokevirtual 111, 3) := by decide +kernel
theorem dX12_areTwo_13 : decode cX12_areTwo 13 = .ok (.ifCond .eq 12, 3) := by decide +kernel
theorem dX12_areTwo_16 : decode cX12_areTwo 16 = .ok (.iload_n 1, 1) := by decide +kernel
theorem dX12_areTwo_17 : decode cX12_areTwo 17 = .ok (.iload_n 2, 1) := by decide +kernel
theorem dX12_areTwo_18 : decode cX12_areTwo 18 = .ok (.if_icmp .eq 7, 3) := by decide +kernel
theorem dX12_areTwo_21 : decode cX12_areTwo 21 = .ok (.iconst 1, 1) := by decide +kernel
theorem dX12_areTwo_22 : decode cX12_areTwo 22 = .ok (.goto 4, 3) := by decide +kernel
theorem dX12_areTwo_25 : decode cX12_areTwo 25 = .ok (.iconst 0, 1) := by decide +kernel
theorem dX12_areTwo_26 : decode cX12_areTwo 26 = .ok (.ireturn, 1) := by decide +kernel
theorem dX12_isHere_0 : decode cX12_isHere 0 = .ok (.aload_n 0, 1) := by decide +kernel
theorem dX12_isHere_1 : decode cX12_isHere 1 = .ok (.getfield 13, 3) := by decide +kernel
theorem dX12_isHere_4 : decode cX12_isHere 4 = .ok (.iconst 0, 1) := by decide +kernel
theorem dX12_isHere_5 : decode cX12_isHere 5 = .ok (.iaload, 1) := by decide +kernel
theorem dX12_isHere_6 : decode cX12_isHere 6 = .ok (.iload_n 1, 1) := by decide +kernel
theorem dX12_isHere_7 : decode cX12_isHere 7 = .ok (.invokestatic 114, 3) := by decide +kernel
theorem dX12_isHere_10 : decode cX12_isHere 10 = .ok (.ireturn, 1) := by decide +kernel
theorem dX12_person_0 : decode cX12_person 0 = .ok (.aload_n 0, 1) := by decide +kernel
theorem dX12_person_1 : decode cX12_person 1 = .ok (.iload_n 1, 1) := by decide +kernel
theorem dX12_person_2 : decode cX12_person 2 = .ok (.invokevirtual 111, 3) := by decide +kernel
theorem dX12_person_5 : decode cX12_person 5 = .ok (.ifCond .ne 5, 3) := by decide +kernel
theorem dX12_person_8 : decode cX12_person 8 = .ok (.iconst (-1), 1) := by decide +kernel
theorem dX12_person_9 : decode cX12_person 9 = .ok (.ireturn, 1) := by decide +kernel
theorem dX12_person_10 : decode cX12_person 10 = .ok (.iload_n 2, 1) := by decide +kernel
theorem dX12_person_11 : decode cX12_person 11 = .ok (.tableswitch 85 0 4 #[33, 42, 51, 61, 75], 33) := by decide +kernel
theorem dX12_person_44 : decode cX12_person 44 = .ok (.aload_n 0, 1) := by decide +kernel
theorem dX12_person_45 : decode cX12_person 45 = .ok (.getfield 7, 3) := by decide +kernel
theorem dX12_person_48 : decode cX12_person 48 = .ok (.iconst 3, 1) := by decide +kernel
theorem dX12_person_49 : decode cX12_person 49 = .ok (.iload_n 1, 1) := by decide +kernel
theorem dX12_person_50 : decode cX12_person 50 = .ok (.iadd, 1) := by decide +kernel
theorem dX12_person_51 : decode cX12_person 51 = .ok (.iaload, 1) := by decide +kernel
theorem dX12_person_52 : decode cX12_person 52 = .ok (.ireturn, 1) := by decide +kernel
theorem dX12_person_53 : decode cX12_person 53 = .ok (.aload_n 0, 1) := by decide +kernel
theorem dX12_person_54 : decode cX12_person 54 = .ok (.getfield 13, 3) := by decide +kernel
theorem dX12_person_57 : decode cX12_person 57 = .ok (.iconst 1, 1) := by decide +kernel
theorem dX12_person_58 : decode cX12_person 58 = .ok (.iload_n 1, 1) := by decide +kernel
theorem dX12_person_59 : decode cX12_person 59 = .ok (.iadd, 1) := by decide +kernel
theorem dX12_person_60 : decode cX12_person 60 = .ok (.iaload, 1) := by decide +kernel
theorem dX12_person_61 : decode cX12_person 61 = .ok (.ireturn, 1) := by decide +kernel
theorem dX12_person_62 : decode cX12_person 62 = .ok (.aload_n 0, 1) := by decide +kernel
theorem dX12_person_63 : decode cX12_person 63 = .ok (.getfield 7, 3) := by decide +kernel
theorem dX12_person_66 : decode cX12_person 66 = .ok (.bipush 15, 2) := by decide +kernel
theorem dX12_person_68 : decode cX12_person 68 = .ok (.iload_n 1, 1) := by decide +kernel
theorem dX12_person_69 : decode cX12_person 69 = .ok (.iadd, 1) := by decide +kernel
theorem dX12_person_70 : decode cX12_person 70 = .ok (.iaload, 1) := by decide +kernel
theorem dX12_person_71 : decode cX12_person 71 = .ok (.ireturn, 1) := by decide +kernel
theorem dX12_person_72 : decode cX12_person 72 = .ok (.aload_n 0, 1) := by decide +kernel
theorem dX12_person_73 : decode cX12_person 73 = .ok (.iload_n 1, 1) := by decide +kernel
theorem dX12_person_74 : decode cX12_person 74 = .ok (.invokevirtual 118, 3) := by decide +kernel
theorem dX12_person_77 : decode cX12_person 77 = .ok (.ifCond .eq 7, 3) := by decide +kernel
theorem dX12_person_80 : decode cX12_person 80 = .ok (.iconst 1, 1) := by decide +kernel
theorem dX12_person_81 : decode cX12_person 81 = .ok (.goto 4, 3) := by decide +kernel
theorem dX12_person_84 : decode cX12_person 84 = .ok (.iconst 0, 1) := by decide +kernel
theorem dX12_person_85 : decode cX12_person 85 = .ok (.ireturn, 1) := by decide +kernel
theorem dX12_person_86 : decode cX12_person 86 = .ok (.aload_n 0, 1) := by decide +kernel
theorem dX12_person_87 : decode cX12_person 87 = .ok (.getfield 13, 3) := by decide +kernel
theorem dX12_person_90 : decode cX12_person 90 = .ok (.bipush 7, 2) := by decide +kernel
theorem dX12_person_92 : decode cX12_person 92 = .ok (.iload_n 1, 1) := by decide +kernel
theorem dX12_person_93 : decode cX12_person 93 = .ok (.iadd, 1) := by decide +kernel
theorem dX12_person_94 : decode cX12_person 94 = .ok (.iaload, 1) := by decide +kernel
theorem dX12_person_95 : decode cX12_person 95 = .ok (.ireturn, 1) := by decide +kernel
theorem dX12_person_96 : decode cX12_person 96 = .ok (.iconst (-1), 1) := by decide +kernel
theorem dX12_person_97 : decode cX12_person 97 = .ok (.ireturn, 1) := by decide +kernel
theorem dX12_good_0 : decode cX12_good 0 = .ok (.aload_n 0, 1) := by decide +kernel
theorem dX12_good_1 : decode cX12_good 1 = .ok (.iload_n 1, 1) := by decide +kernel
theorem dX12_good_2 : decode cX12_good 2 = .ok (.invokevirtual 121, 3) := by decide +kernel
theorem dX12_good_5 : decode cX12_good 5 = .ok (.ifCond .ne 5, 3) := by decide +kernel
theorem dX12_good_8 : decode cX12_good 8 = .ok (.iconst (-1), 1) := by decide +kernel
theorem dX12_good_9 : decode cX12_good 9 = .ok (.ireturn, 1) := by decide +kernel
theorem dX12_good_10 : decode cX12_good 10 = .ok (.iload_n 2, 1) := by decide +kernel
theorem dX12_good_11 : decode cX12_good 11 = .ok (.tableswitch 83 0 4 #[33, 43, 53, 63, 73], 33) := by decide +kernel
theorem dX12_good_44 : decode cX12_good 44 = .ok (.aload_n 0, 1) := by decide +kernel
theorem dX12_good_45 : decode cX12_good 45 = .ok (.getfield 7, 3) := by decide +kernel
theorem dX12_good_48 : decode cX12_good 48 = .ok (.bipush 21, 2) := by decide +kernel
theorem dX12_good_50 : decode cX12_good 50 = .ok (.iload_n 1, 1) := by decide +kernel
theorem dX12_good_51 : decode cX12_good 51 = .ok (.iadd, 1) := by decide +kernel
theorem dX12_good_52 : decode cX12_good 52 = .ok (.iaload, 1) := by decide +kernel
theorem dX12_good_53 : decode cX12_good 53 = .ok (.ireturn, 1) := by decide +kernel
theorem dX12_good_54 : decode cX12_good 54 = .ok (.aload_n 0, 1) := by decide +kernel
theorem dX12_good_55 : decode cX12_good 55 = .ok (.getfield 13, 3) := by decide +kernel
theorem dX12_good_58 : decode cX12_good 58 = .ok (.bipush 19, 2) := by decide +kernel
theorem dX12_good_60 : decode cX12_good 60 = .ok (.iload_n 1, 1) := by decide +kernel
theorem dX12_good_61 : decode cX12_good 61 = .ok (.iadd, 1) := by decide +kernel
theorem dX12_good_62 : decode cX12_good 62 = .ok (.iaload, 1) := by decide +kernel
theorem dX12_good_63 : decode cX12_good 63 = .ok (.ireturn, 1) := by decide +kernel
theorem dX12_good_64 : decode cX12_good 64 = .ok (.aload_n 0, 1) := by decide +kernel
theorem dX12_good_65 : decode cX12_good 65 = .ok (.getfield 7, 3) := by decide +kernel
theorem dX12_good_68 : decode cX12_good 68 = .ok (.bipush 37, 2) := by decide +kernel
theorem dX12_good_70 : decode cX12_good 70 = .ok (.iload_n 1, 1) := by decide +kernel
theorem dX12_good_71 : decode cX12_good 71 = .ok (.iadd, 1) := by decide +kernel
theorem dX12_good_72 : decode cX12_good 72 = .ok (.iaload, 1) := by decide +kernel
theorem dX12_good_73 : decode cX12_good 73 = .ok (.ireturn, 1) := by decide +kernel
theorem dX12_good_74 : decode cX12_good 74 = .ok (.aload_n 0, 1) := by decide +kernel
theorem dX12_good_75 : decode cX12_good 75 = .ok (.getfield 7, 3) := by decide +kernel
theorem dX12_good_78 : decode cX12_good 78 = .ok (.bipush 45, 2) := by decide +kernel
theorem dX12_good_80 : decode cX12_good 80 = .ok (.iload_n 1, 1) := by decide +kernel
theorem dX12_good_81 : decode cX12_good 81 = .ok (.iadd, 1) := by decide +kernel
theorem dX12_good_82 : decode cX12_good 82 = .ok (.iaload, 1) := by decide +kernel
theorem dX12_good_83 : decode cX12_good 83 = .ok (.ireturn, 1) := by decide +kernel
theorem dX12_good_84 : decode cX12_good 84 = .ok (.aload_n 0, 1) := by decide +kernel
theorem dX12_good_85 : decode cX12_good 85 = .ok (.getfield 13, 3) := by decide +kernel
theorem dX12_good_88 : decode cX12_good 88 = .ok (.bipush 27, 2) := by decide +kernel
theorem dX12_good_90 : decode cX12_good 90 = .ok (.iload_n 1, 1) := by decide +kernel
theorem dX12_good_91 : decode cX12_good 91 = .ok (.iadd, 1) := by decide +kernel
theorem dX12_good_92 : decode cX12_good 92 = .ok (.iaload, 1) := by decide +kernel
theorem dX12_good_93 : decode cX12_good 93 = .ok (.ireturn, 1) := by decide +kernel
theorem dX12_good_94 : decode cX12_good 94 = .ok (.iconst (-1), 1) := by decide +kernel
theorem dX12_good_95 : decode cX12_good 95 = .ok (.ireturn, 1) := by decide +kernel
theorem dX12_love_0 : decode cX12_love 0 = .ok (.aload_n 0, 1) := by decide +kernel
theorem dX12_love_1 : decode cX12_love 1 = .ok (.iload_n 1, 1) := by decide +kernel
theorem dX12_love_2 : decode cX12_love 2 = .ok (.iload_n 2, 1) := by decide +kernel
theorem dX12_love_3 : decode cX12_love 3 = .ok (.invokevirtual 124, 3) := by decide +kernel
theorem dX12_love_6 : decode cX12_love 6 = .ok (.ifCond .eq 20, 3) := by decide +kernel
theorem dX12_love_9 : decode cX12_love 9 = .ok (.aload_n 0, 1) := by decide +kernel
theorem dX12_love_10 : decode cX12_love 10 = .ok (.getfield 7, 3) := by decide +kernel
theorem dX12_love_13 : decode cX12_love 13 = .ok (.bipush 53, 2) := by decide +kernel
theorem dX12_love_15 : decode cX12_love 15 = .ok (.bipush 6, 2) := by decide +kernel
theorem dX12_love_17 : decode cX12_love 17 = .ok (.iload_n 1, 1) := by decide +kernel
theorem dX12_love_18 : decode cX12_love 18 = .ok (.imul, 1) := by decide +kernel
theorem dX12_love_19 : decode cX12_love 19 = .ok (.iadd, 1) := by decide +kernel
theorem dX12_love_20 : decode cX12_love 20 = .ok (.iload_n 2, 1) := by decide +kernel
theorem dX12_love_21 : decode cX12_love 21 = .ok (.iadd, 1) := by decide +kernel
theorem dX12_love_22 : decode cX12_love 22 = .ok (.iaload, 1) := by decide +kernel
theorem dX12_love_23 : decode cX12_love 23 = .ok (.goto 4, 3) := by decide +kernel
theorem dX12_love_26 : decode cX12_love 26 = .ok (.iconst (-1), 1) := by decide +kernel
theorem dX12_love_27 : decode cX12_love 27 = .ok (.ireturn, 1) := by decide +kernel
theorem dX12_counts_0 : decode cX12_counts 0 = .ok (.aload_n 0, 1) := by decide +kernel
theorem dX12_counts_1 : decode cX12_counts 1 = .ok (.getfield 7, 3) := by decide +kernel
theorem dX12_counts_4 : decode cX12_counts 4 = .ok (.bipush 37, 2) := by decide +kernel
theorem dX12_counts_6 : decode cX12_counts 6 = .ok (.iload_n 1, 1) := by decide +kernel
theorem dX12_counts_7 : decode cX12_counts 7 = .ok (.iadd, 1) := by decide +kernel
theorem dX12_counts_8 : decode cX12_counts 8 = .ok (.iaload, 1) := by decide +kernel
theorem dX12_counts_9 : decode cX12_counts 9 = .ok (.istore_n 2, 1) := by decide +kernel
theorem dX12_counts_10 : decode cX12_counts 10 = .ok (.aload_n 0, 1) := by decide +kernel
theorem dX12_counts_11 : decode cX12_counts 11 = .ok (.getfield 7, 3) := by decide +kernel
theorem dX12_counts_14 : decode cX12_counts 14 = .ok (.bipush 21, 2) := by decide +kernel
theorem dX12_counts_16 : decode cX12_counts 16 = .ok (.iload_n 1, 1) := by decide +kernel
theorem dX12_counts_17 : decode cX12_counts 17 = .ok (.iadd, 1) := by decide +kernel
theorem dX12_counts_18 : decode cX12_counts 18 = .ok (.iaload, 1) := by decide +kernel
theorem dX12_counts_19 : decode cX12_counts 19 = .ok (.tableswitch 36 1 3 #[25, 28, 32], 25) := by decide +kernel
theorem dX12_counts_44 : decode cX12_counts 44 = .ok (.iload_n 2, 1) := by decide +kernel
theorem dX12_counts_45 : decode cX12_counts 45 = .ok (.ineg, 1) := by decide +kernel
theorem dX12_counts_46 : decode cX12_counts 46 = .ok (.ireturn, 1) := by decide +kernel
theorem dX12_counts_47 : decode cX12_counts 47 = .ok (.iconst 3, 1) := by decide +kernel
theorem dX12_counts_48 : decode cX12_counts 48 = .ok (.iload_n 2, 1) := by decide +kernel
theorem dX12_counts_49 : decode cX12_counts 49 = .ok (.imul, 1) := by decide +kernel
theorem dX12_counts_50 : decode cX12_counts 50 = .ok (.ireturn, 1) := by decide +kernel
theorem dX12_counts_51 : decode cX12_counts 51 = .ok (.iload_n 2, 1) := by decide +kernel
theorem dX12_counts_52 : decode cX12_counts 52 = .ok (.iconst 2, 1) := by decide +kernel
theorem dX12_counts_53 : decode cX12_counts 53 = .ok (.idiv, 1) := by decide +kernel
theorem dX12_counts_54 : decode cX12_counts 54 = .ok (.ireturn, 1) := by decide +kernel
theorem dX12_counts_55 : decode cX12_counts 55 = .ok (.iload_n 2, 1) := by decide +kernel
theorem dX12_counts_56 : decode cX12_counts 56 = .ok (.ireturn, 1) := by decide +kernel
theorem dX12_dutyOf_0 : decode cX12_dutyOf 0 = .ok (.iload_n 2, 1) := by decide +kernel
theorem dX12_dutyOf_1 : decode cX12_dutyOf 1 = .ok (.ifCond .ge 7, 3) := by decide +kernel
theorem dX12_dutyOf_4 : decode cX12_dutyOf 4 = .ok (.iconst 0, 1) := by decide +kernel
theorem dX12_dutyOf_5 : decode cX12_dutyOf 5 = .ok (.goto 4, 3) := by decide +kernel
theorem dX12_dutyOf_8 : decode cX12_dutyOf 8 = .ok (.iload_n 2, 1) := by decide +kernel
theorem dX12_dutyOf_9 : decode cX12_dutyOf 9 = .ok (.aload_n 0, 1) := by decide +kernel
theorem dX12_dutyOf_10 : decode cX12_dutyOf 10 = .ok (.getfield 7, 3) := by decide +kernel
theorem dX12_dutyOf_13 : decode cX12_dutyOf 13 = .ok (.iconst 2, 1) := by decide +kernel
theorem dX12_dutyOf_14 : decode cX12_dutyOf 14 = .ok (.iaload, 1) := by decide +kernel
theorem dX12_dutyOf_15 : decode cX12_dutyOf 15 = .ok (.imul, 1) := by decide +kernel
theorem dX12_dutyOf_16 : decode cX12_dutyOf 16 = .ok (.bipush 10, 2) := by decide +kernel
theorem dX12_dutyOf_18 : decode cX12_dutyOf 18 = .ok (.idiv, 1) := by decide +kernel
theorem dX12_dutyOf_19 : decode cX12_dutyOf 19 = .ok (.istore_n 3, 1) := by decide +kernel
theorem dX12_dutyOf_20 : decode cX12_dutyOf 20 = .ok (.aload_n 0, 1) := by decide +kernel
theorem dX12_dutyOf_21 : decode cX12_dutyOf 21 = .ok (.getfield 7, 3) := by decide +kernel
theorem dX12_dutyOf_24 : decode cX12_dutyOf 24 = .ok (.iconst 3, 1) := by decide +kernel
theorem dX12_dutyOf_25 : decode cX12_dutyOf 25 = .ok (.iload_n 1, 1) := by decide +kernel
theorem dX12_dutyOf_26 : decode cX12_dutyOf 26 = .ok (.iadd, 1) := by decide +kernel
theorem dX12_dutyOf_27 : decode cX12_dutyOf 27 = .ok (.iaload, 1) := by decide +kernel
theorem dX12_dutyOf_28 : decode cX12_dutyOf 28 = .ok (.istore 4, 2) := by decide +kernel
theorem dX12_dutyOf_30 : decode cX12_dutyOf 30 = .ok (.iload 4, 2) := by decide +kernel
theorem dX12_dutyOf_32 : decode cX12_dutyOf 32 = .ok (.iconst 1, 1) := by decide +kernel
theorem dX12_dutyOf_33 : decode cX12_dutyOf 33 = .ok (.if_icmp .eq 9, 3) := by decide +kernel
theorem dX12_dutyOf_36 : decode cX12_dutyOf 36 = .ok (.iload 4, 2) := by decide +kernel
theorem dX12_dutyOf_38 : decode cX12_dutyOf 38 = .ok (.iconst 2, 1) := by decide +kernel
theorem dX12_dutyOf_39 : decode cX12_dutyOf 39 = .ok (.if_icmp .ne 9, 3) := by decide +kernel
theorem dX12_dutyOf_42 : decode cX12_dutyOf 42 = .ok (.iload_n 3, 1) := by decide +kernel
theorem dX12_dutyOf_43 : decode cX12_dutyOf 43 = .ok (.iconst 2, 1) := by decide +kernel
theorem dX12_dutyOf_44 : decode cX12_dutyOf 44 = .ok (.idiv, 1) := by decide +kernel
theorem dX12_dutyOf_45 : decode cX12_dutyOf 45 = .ok (.goto 16, 3) := by decide +kernel
theorem dX12_dutyOf_48 : decode cX12_dutyOf 48 = .ok (.iload 4, 2) := by decide +kernel
theorem dX12_dutyOf_50 : decode cX12_dutyOf 50 = .ok (.iconst 4, 1) := by decide +kernel
theorem dX12_dutyOf_51 : decode cX12_dutyOf 51 = .ok (.if_icmp .ne 9, 3) := by decide +kernel
theorem dX12_dutyOf_54 : decode cX12_dutyOf 54 = .ok (.iload_n 3, 1) := by decide +kernel
theorem dX12_dutyOf_55 : decode cX12_dutyOf 55 = .ok (.iconst 3, 1) := by decide +kernel
theorem dX12_dutyOf_56 : decode cX12_dutyOf 56 = .ok (.idiv, 1) := by decide +kernel
theorem dX12_dutyOf_57 : decode cX12_dutyOf 57 = .ok (.goto 4, 3) := by decide +kernel
theorem dX12_dutyOf_60 : decode cX12_dutyOf 60 = .ok (.iload_n 3, 1) := by decide +kernel
theorem dX12_dutyOf_61 : decode cX12_dutyOf 61 = .ok (.ireturn, 1) := by decide +kernel
theorem dX12_leftBy_0 : decode cX12_leftBy 0 = .ok (.iconst 0, 1) := by decide +kernel
theorem dX12_leftBy_1 : decode cX12_leftBy 1 = .ok (.istore 4, 2) := by decide +kernel
theorem dX12_leftBy_3 : decode cX12_leftBy 3 = .ok (.iconst 0, 1) := by decide +kernel
theorem dX12_leftBy_4 : decode cX12_leftBy 4 = .ok (.istore 5, 2) := by decide +kernel
theorem dX12_leftBy_6 : decode cX12_leftBy 6 = .ok (.iload 5, 2) := by decide +kernel
theorem dX12_leftBy_8 : decode cX12_leftBy 8 = .ok (.aload_n 0, 1) := by decide +kernel
theorem dX12_leftBy_9 : decode cX12_leftBy 9 = .ok (.getfield 7, 3) := by decide +kernel
theorem dX12_leftBy_12 : decode cX12_leftBy 12 = .ok (.iconst 1, 1) := by decide +kernel
theorem dX12_leftBy_13 : decode cX12_leftBy 13 = .ok (.iaload, 1) := by decide +kernel
theorem dX12_leftBy_14 : decode cX12_leftBy 14 = .ok (.if_icmp .ge 61, 3) := by decide +kernel
theorem dX12_leftBy_17 : decode cX12_leftBy 17 = .ok (.iload 4, 2) := by decide +kernel
theorem dX12_leftBy_19 : decode cX12_leftBy 19 = .ok (.aload_n 0, 1) := by decide +kernel
theorem dX12_leftBy_20 : decode cX12_leftBy 20 = .ok (.getfield 13, 3) := by decide +kernel
theorem dX12_leftBy_23 : decode cX12_leftBy 23 = .ok (.iload_n 1, 1) := by decide +kernel
theorem dX12_leftBy_24 : decode cX12_leftBy 24 = .ok (.bipush 19, 2) := by decide +kernel
theorem dX12_leftBy_26 : decode cX12_leftBy 26 = .ok (.iadd, 1) := by decide +kernel
theorem dX12_leftBy_27 : decode cX12_leftBy 27 = .ok (.iload 5, 2) := by decide +kernel
theorem dX12_leftBy_29 : decode cX12_leftBy 29 = .ok (.iadd, 1) := by decide +kernel
theorem dX12_leftBy_30 : decode cX12_leftBy 30 = .ok (.iaload, 1) := by decide +kernel
theorem dX12_leftBy_31 : decode cX12_leftBy 31 = .ok (.iload_n 2, 1) := by decide +kernel
theorem dX12_leftBy_32 : decode cX12_leftBy 32 = .ok (.if_icmp .ne 33, 3) := by decide +kernel
theorem dX12_leftBy_35 : decode cX12_leftBy 35 = .ok (.aload_n 0, 1) := by decide +kernel
theorem dX12_leftBy_36 : decode cX12_leftBy 36 = .ok (.getfield 13, 3) := by decide +kernel
theorem dX12_leftBy_39 : decode cX12_leftBy 39 = .ok (.iload_n 1, 1) := by decide +kernel
theorem dX12_leftBy_40 : decode cX12_leftBy 40 = .ok (.bipush 27, 2) := by decide +kernel
theorem dX12_leftBy_42 : decode cX12_leftBy 42 = .ok (.iadd, 1) := by decide +kernel
theorem dX12_leftBy_43 : decode cX12_leftBy 43 = .ok (.iload 5, 2) := by decide +kernel
theorem dX12_leftBy_45 : decode cX12_leftBy 45 = .ok (.iadd, 1) := by decide +kernel
theorem dX12_leftBy_46 : decode cX12_leftBy 46 = .ok (.iaload, 1) := by decide +kernel
theorem dX12_leftBy_47 : decode cX12_leftBy 47 = .ok (.ifCond .ne 18, 3) := by decide +kernel
theorem dX12_leftBy_50 : decode cX12_leftBy 50 = .ok (.iload 5, 2) := by decide +kernel
theorem dX12_leftBy_52 : decode cX12_leftBy 52 = .ok (.iload_n 3, 1) := by decide +kernel
theorem dX12_leftBy_53 : decode cX12_leftBy 53 = .ok (.if_icmp .eq 12, 3) := by decide +kernel
theorem dX12_leftBy_56 : decode cX12_leftBy 56 = .ok (.aload_n 0, 1) := by decide +kernel
theorem dX12_leftBy_57 : decode cX12_leftBy 57 = .ok (.iload 5, 2) := by decide +kernel
theorem dX12_leftBy_59 : decode cX12_leftBy 59 = .ok (.invokevirtual 127, 3) := by decide +kernel
theorem dX12_leftBy_62 : decode cX12_leftBy 62 = .ok (.goto 4, 3) := by decide +kernel
theorem dX12_leftBy_65 : decode cX12_leftBy 65 = .ok (.iconst 0, 1) := by decide +kernel
theorem dX12_leftBy_66 : decode cX12_leftBy 66 = .ok (.iadd, 1) := by decide +kernel
theorem dX12_leftBy_67 : decode cX12_leftBy 67 = .ok (.istore 4, 2) := by decide +kernel
theorem dX12_leftBy_69 : decode cX12_leftBy 69 = .ok (.iinc 5 1, 3) := by decide +kernel
theorem dX12_leftBy_72 : decode cX12_leftBy 72 = .ok (.goto (-66), 3) := by decide +kernel
theorem dX12_leftBy_75 : decode cX12_leftBy 75 = .ok (.iload 4, 2) := by decide +kernel
theorem dX12_leftBy_77 : decode cX12_leftBy 77 = .ok (.ireturn, 1) := by decide +kernel
theorem dX12_lovedBy_0 : decode cX12_lovedBy 0 = .ok (.iconst 0, 1) := by decide +kernel
theorem dX12_lovedBy_1 : decode cX12_lovedBy 1 = .ok (.istore 4, 2) := by decide +kernel
theorem dX12_lovedBy_3 : decode cX12_lovedBy 3 = .ok (.iconst 0, 1) := by decide +kernel
theorem dX12_lovedBy_4 : decode cX12_lovedBy 4 = .ok (.istore 5, 2) := by decide +kernel
theorem dX12_lovedBy_6 : decode cX12_lovedBy 6 = .ok (.iload 5, 2) := by decide +kernel
theorem dX12_lovedBy_8 : decode cX12_lovedBy 8 = .ok (.aload_n 0, 1) := by decide +kernel
theorem dX12_lovedBy_9 : decode cX12_lovedBy 9 = .ok (.getfield 7, 3) := by decide +kernel
theorem dX12_lovedBy_12 : decode cX12_lovedBy 12 = .ok (.iconst 0, 1) := by decide +kernel
theorem dX12_lovedBy_13 : decode cX12_lovedBy 13 = .ok (.iaload, 1) := by decide +kernel
theorem dX12_lovedBy_14 : decode cX12_lovedBy 14 = .ok (.if_icmp .ge 65, 3) := by decide +kernel
theorem dX12_lovedBy_17 : decode cX12_lovedBy 17 = .ok (.iload_n 1, 1) := by decide +kernel
theorem dX12_lovedBy_18 : decode cX12_lovedBy 18 = .ok (.iload 5, 2) := by decide +kernel
theorem dX12_lovedBy_20 : decode cX12_lovedBy 20 = .ok (.invokestatic 114, 3) := by decide +kernel
theorem dX12_lovedBy_23 : decode cX12_lovedBy 23 = .ok (.ifCond .eq 27, 3) := by decide +kernel
theorem dX12_lovedBy_26 : decode cX12_lovedBy 26 = .ok (.iload 5, 2) := by decide +kernel
theorem dX12_lovedBy_28 : decode cX12_lovedBy 28 = .ok (.iload_n 2, 1) := by decide +kernel
theorem dX12_lovedBy_29 : decode cX12_lovedBy 29 = .ok (.if_icmp .eq 21, 3) := by decide +kernel
theorem dX12_lovedBy_32 : decode cX12_lovedBy 32 = .ok (.aload_n 0, 1) := by decide +kernel
theorem dX12_lovedBy_33 : decode cX12_lovedBy 33 = .ok (.getfield 7, 3) := by decide +kernel
theorem dX12_lovedBy_36 : decode cX12_lovedBy 36 = .ok (.bipush 53, 2) := by decide +kernel
theorem dX12_lovedBy_38 : decode cX12_lovedBy 38 = .ok (.bipush 6, 2) := by decide +kernel
theorem dX12_lovedBy_40 : decode cX12_lovedBy 40 = .ok (.iload_n 2, 1) := by decide +kernel
theorem dX12_lovedBy_41 : decode cX12_lovedBy 41 = .ok (.imul, 1) := by decide +kernel
theorem dX12_lovedBy_42 : decode cX12_lovedBy 42 = .ok (.iadd, 1) := by decide +kernel
theorem dX12_lovedBy_43 : decode cX12_lovedBy 43 = .ok (.iload 5, 2) := by decide +kernel
theorem dX12_lovedBy_45 : decode cX12_lovedBy 45 = .ok (.iadd, 1) := by decide +kernel
theorem dX12_lovedBy_46 : decode cX12_lovedBy 46 = .ok (.iaload, 1) := by decide +kernel
theorem dX12_lovedBy_47 : decode cX12_lovedBy 47 = .ok (.goto 4, 3) := by decide +kernel
theorem dX12_lovedBy_50 : decode cX12_lovedBy 50 = .ok (.iconst 0, 1) := by decide +kernel
theorem dX12_lovedBy_51 : decode cX12_lovedBy 51 = .ok (.istore 6, 2) := by decide +kernel
theorem dX12_lovedBy_53 : decode cX12_lovedBy 53 = .ok (.iload 4, 2) := by decide +kernel
theorem dX12_lovedBy_55 : decode cX12_lovedBy 55 = .ok (.iload 5, 2) := by decide +kernel
theorem dX12_lovedBy_57 : decode cX12_lovedBy 57 = .ok (.iload_n 3, 1) := by decide +kernel
theorem dX12_lovedBy_58 : decode cX12_lovedBy 58 = .ok (.if_icmp .ne 10, 3) := by decide +kernel
theorem dX12_lovedBy_61 : decode cX12_lovedBy 61 = .ok (.iload 6, 2) := by decide +kernel
theorem dX12_lovedBy_63 : decode cX12_lovedBy 63 = .ok (.iconst 2, 1) := by decide +kernel
theorem dX12_lovedBy_64 : decode cX12_lovedBy 64 = .ok (.idiv, 1) := by decide +kernel
theorem dX12_lovedBy_65 : decode cX12_lovedBy 65 = .ok (.goto 5, 3) := by decide +kernel
theorem dX12_lovedBy_68 : decode cX12_lovedBy 68 = .ok (.iload 6, 2) := by decide +kernel
theorem dX12_lovedBy_70 : decode cX12_lovedBy 70 = .ok (.iadd, 1) := by decide +kernel
theorem dX12_lovedBy_71 : decode cX12_lovedBy 71 = .ok (.istore 4, 2) := by decide +kernel
theorem dX12_lovedBy_73 : decode cX12_lovedBy 73 = .ok (.iinc 5 1, 3) := by decide +kernel
theorem dX12_lovedBy_76 : decode cX12_lovedBy 76 = .ok (.goto (-70), 3) := by decide +kernel
theorem dX12_lovedBy_79 : decode cX12_lovedBy 79 = .ok (.iload 4, 2) := by decide +kernel
theorem dX12_lovedBy_81 : decode cX12_lovedBy 81 = .ok (.ireturn, 1) := by decide +kernel
theorem dX12_owesIn_0 : decode cX12_owesIn 0 = .ok (.aload_n 0, 1) := by decide +kernel
theorem dX12_owesIn_1 : decode cX12_owesIn 1 = .ok (.iload_n 2, 1) := by decide +kernel
theorem dX12_owesIn_2 : decode cX12_owesIn 2 = .ok (.aload_n 0, 1) := by decide +kernel
theorem dX12_owesIn_3 : decode cX12_owesIn 3 = .ok (.iload_n 1, 1) := by decide +kernel
theorem dX12_owesIn_4 : decode cX12_owesIn 4 = .ok (.iload_n 2, 1) := by decide +kernel
theorem dX12_owesIn_5 : decode cX12_owesIn 5 = .ok (.bipush (-4), 2) := by decide +kernel
theorem dX12_owesIn_7 : decode cX12_owesIn 7 = .ok (.invokevirtual 130, 3) := by decide +kernel
theorem dX12_owesIn_10 : decode cX12_owesIn 10 = .ok (.aload_n 0, 1) := by decide +kernel
theorem dX12_owesIn_11 : decode cX12_owesIn 11 = .ok (.aload_n 0, 1) := by decide +kernel
theorem dX12_owesIn_12 : decode cX12_owesIn 12 = .ok (.getfield 13, 3) := by decide +kernel
theorem dX12_owesIn_15 : decode cX12_owesIn 15 = .ok (.iload_n 1, 1) := by decide +kernel
theorem dX12_owesIn_16 : decode cX12_owesIn 16 = .ok (.iconst 0, 1) := by decide +kernel
theorem dX12_owesIn_17 : decode cX12_owesIn 17 = .ok (.iadd, 1) := by decide +kernel
theorem dX12_owesIn_18 : decode cX12_owesIn 18 = .ok (.iaload, 1) := by decide +kernel
theorem dX12_owesIn_19 : decode cX12_owesIn 19 = .ok (.iload_n 2, 1) := by decide +kernel
theorem dX12_owesIn_20 : decode cX12_owesIn 20 = .ok (.iload_n 3, 1) := by decide +kernel
theorem dX12_owesIn_21 : decode cX12_owesIn 21 = .ok (.invokevirtual 134, 3) := by decide +kernel
theorem dX12_owesIn_24 : decode cX12_owesIn 24 = .ok (.iadd, 1) := by decide +kernel
theorem dX12_owesIn_25 : decode cX12_owesIn 25 = .ok (.invokevirtual 137, 3) := by decide +kernel
theorem dX12_owesIn_28 : decode cX12_owesIn 28 = .ok (.ireturn, 1) := by decide +kernel
theorem dX12_owesNow_0 : decode cX12_owesNow 0 = .ok (.aload_n 0, 1) := by decide +kernel
theorem dX12_owesNow_1 : decode cX12_owesNow 1 = .ok (.iconst 0, 1) := by decide +kernel
theorem dX12_owesNow_2 : decode cX12_owesNow 2 = .ok (.iload_n 1, 1) := by decide +kernel
theorem dX12_owesNow_3 : decode cX12_owesNow 3 = .ok (.bipush (-4), 2) := by decide +kernel
theorem dX12_owesNow_5 : decode cX12_owesNow 5 = .ok (.invokevirtual 141, 3) := by decide +kernel
theorem dX12_owesNow_8 : decode cX12_owesNow 8 = .ok (.ireturn, 1) := by decide +kernel
theorem dX12_owes_0 : decode cX12_owes 0 = .ok (.aload_n 0, 1) := by decide +kernel
theorem dX12_owes_1 : decode cX12_owes 1 = .ok (.iload_n 1, 1) := by decide +kernel
theorem dX12_owes_2 : decode cX12_owes 2 = .ok (.invokevirtual 111, 3) := by decide +kernel
theorem dX12_owes_5 : decode cX12_owes 5 = .ok (.ifCond .ne 5, 3) := by decide +kernel
theorem dX12_owes_8 : decode cX12_owes 8 = .ok (.iconst (-1), 1) := by decide +kernel
theorem dX12_owes_9 : decode cX12_owes 9 = .ok (.ireturn, 1) := by decide +kernel
theorem dX12_owes_10 : decode cX12_owes 10 = .ok (.aload_n 0, 1) := by decide +kernel
theorem dX12_owes_11 : decode cX12_owes 11 = .ok (.iload_n 1, 1) := by decide +kernel
theorem dX12_owes_12 : decode cX12_owes 12 = .ok (.invokevirtual 118, 3) := by decide +kernel
theorem dX12_owes_15 : decode cX12_owes 15 = .ok (.ifCond .eq 11, 3) := by decide +kernel
theorem dX12_owes_18 : decode cX12_owes 18 = .ok (.aload_n 0, 1) := by decide +kernel
theorem dX12_owes_19 : decode cX12_owes 19 = .ok (.iload_n 1, 1) := by decide +kernel
theorem dX12_owes_20 : decode cX12_owes 20 = .ok (.invokevirtual 144, 3) := by decide +kernel
theorem dX12_owes_23 : decode cX12_owes 23 = .ok (.goto 5, 3) := by decide +kernel
theorem dX12_owes_26 : decode cX12_owes 26 = .ok (.bipush (-2), 2) := by decide +kernel
theorem dX12_owes_28 : decode cX12_owes 28 = .ok (.ireturn, 1) := by decide +kernel
theorem dX12_owesWith_0 : decode cX12_owesWith 0 = .ok (.aload_n 0, 1) := by decide +kernel
theorem dX12_owesWith_1 : decode cX12_owesWith 1 = .ok (.iload_n 1, 1) := by decide +kernel
theorem dX12_owesWith_2 : decode cX12_owesWith 2 = .ok (.iload_n 2, 1) := by decide +kernel
theorem dX12_owesWith_3 : decode cX12_owesWith 3 = .ok (.invokevirtual 124, 3) := by decide +kernel
theorem dX12_owesWith_6 : decode cX12_owesWith 6 = .ok (.ifCond .ne 5, 3) := by decide +kernel
theorem dX12_owesWith_9 : decode cX12_owesWith 9 = .ok (.iconst (-1), 1) := by decide +kernel
theorem dX12_owesWith_10 : decode cX12_owesWith 10 = .ok (.ireturn, 1) := by decide +kernel
theorem dX12_owesWith_11 : decode cX12_owesWith 11 = .ok (.aload_n 0, 1) := by decide +kernel
theorem dX12_owesWith_12 : decode cX12_owesWith 12 = .ok (.iload_n 1, 1) := by decide +kernel
theorem dX12_owesWith_13 : decode cX12_owesWith 13 = .ok (.invokevirtual 118, 3) := by decide +kernel
theorem dX12_owesWith_16 : decode cX12_owesWith 16 = .ok (.ifCond .eq 21, 3) := by decide +kernel
theorem dX12_owesWith_19 : decode cX12_owesWith 19 = .ok (.aload_n 0, 1) := by decide +kernel
theorem dX12_owesWith_20 : decode cX12_owesWith 20 = .ok (.iload_n 2, 1) := by decide +kernel
theorem dX12_owesWith_21 : decode cX12_owesWith 21 = .ok (.invokevirtual 118, 3) := by decide +kernel
theorem dX12_owesWith_24 : decode cX12_owesWith 24 = .ok (.ifCond .eq 13, 3) := by decide +kernel
theorem dX12_owesWith_27 : decode cX12_owesWith 27 = .ok (.aload_n 0, 1) := by decide +kernel
theorem dX12_owesWith_28 : decode cX12_owesWith 28 = .ok (.iconst 0, 1) := by decide +kernel
theorem dX12_owesWith_29 : decode cX12_owesWith 29 = .ok (.iload_n 1, 1) := by decide +kernel
theorem dX12_owesWith_30 : decode cX12_owesWith 30 = .ok (.iload_n 2, 1) := by decide +kernel
theorem dX12_owesWith_31 : decode cX12_owesWith 31 = .ok (.invokevirtual 141, 3) := by decide +kernel
theorem dX12_owesWith_34 : decode cX12_owesWith 34 = .ok (.goto 5, 3) := by decide +kernel
theorem dX12_owesWith_37 : decode cX12_owesWith 37 = .ok (.bipush (-2), 2) := by decide +kernel
theorem dX12_owesWith_39 : decode cX12_owesWith 39 = .ok (.ireturn, 1) := by decide +kernel
theorem dX12_minds_0 : decode cX12_minds 0 = .ok (.aload_n 0, 1) := by decide +kernel
theorem dX12_minds_1 : decode cX12_minds 1 = .ok (.getfield 68, 3) := by decide +kernel
theorem dX12_minds_4 : decode cX12_minds 4 = .ok (.bipush 8, 2) := by decide +kernel
theorem dX12_minds_6 : decode cX12_minds 6 = .ok (.if_icmp .ne 49, 3) := by decide +kernel
theorem dX12_minds_9 : decode cX12_minds 9 = .ok (.iconst 0, 1) := by decide +kernel
theorem dX12_minds_10 : decode cX12_minds 10 = .ok (.istore_n 1, 1) := by decide +kernel
theorem dX12_minds_11 : decode cX12_minds 11 = .ok (.iload_n 1, 1) := by decide +kernel
theorem dX12_minds_12 : decode cX12_minds 12 = .ok (.sipush 245, 3) := by decide +kernel
theorem dX12_minds_15 : decode cX12_minds 15 = .ok (.if_icmp .ge 30, 3) := by decide +kernel
theorem dX12_minds_18 : decode cX12_minds 18 = .ok (.aload_n 0, 1) := by decide +kernel
theorem dX12_minds_19 : decode cX12_minds 19 = .ok (.getfield 13, 3) := by decide +kernel
theorem dX12_minds_22 : decode cX12_minds 22 = .ok (.bipush 105, 2) := by decide +kernel
theorem dX12_minds_24 : decode cX12_minds 24 = .ok (.iload_n 1, 1) := by decide +kernel
theorem dX12_minds_25 : decode cX12_minds 25 = .ok (.iadd, 1) := by decide +kernel
theorem dX12_minds_26 : decode cX12_minds 26 = .ok (.aload_n 0, 1) := by decide +kernel
theorem dX12_minds_27 : decode cX12_minds 27 = .ok (.getfield 13, 3) := by decide +kernel
theorem dX12_minds_30 : decode cX12_minds 30 = .ok (.bipush 105, 2) := by decide +kernel
theorem dX12_minds_32 : decode cX12_minds 32 = .ok (.iload_n 1, 1) := by decide +kernel
theorem dX12_minds_33 : decode cX12_minds 33 = .ok (.iadd, 1) := by decide +kernel
theorem dX12_minds_34 : decode cX12_minds 34 = .ok (.bipush 35, 2) := by decide +kernel
theorem dX12_minds_36 : decode cX12_minds 36 = .ok (.iadd, 1) := by decide +kernel
theorem dX12_minds_37 : decode cX12_minds 37 = .ok (.iaload, 1) := by decide +kernel
theorem dX12_minds_38 : decode cX12_minds 38 = .ok (.iastore, 1) := by decide +kernel
theorem dX12_minds_39 : decode cX12_minds 39 = .ok (.iinc 1 1, 3) := by decide +kernel
theorem dX12_minds_42 : decode cX12_minds 42 = .ok (.goto (-31), 3) := by decide +kernel
theorem dX12_minds_45 : decode cX12_minds 45 = .ok (.aload_n 0, 1) := by decide +kernel
theorem dX12_minds_46 : decode cX12_minds 46 = .ok (.dup, 1) := by decide +kernel
theorem dX12_minds_47 : decode cX12_minds 47 = .ok (.getfield 68, 3) := by decide +kernel
theorem dX12_minds_50 : decode cX12_minds 50 = .ok (.iconst 1, 1) := by decide +kernel
theorem dX12_minds_51 : decode cX12_minds 51 = .ok (.isub, 1) := by decide +kernel
theorem dX12_minds_52 : decode cX12_minds 52 = .ok (.putfield 68, 3) := by decide +kernel
theorem dX12_minds_55 : decode cX12_minds 55 = .ok (.aload_n 0, 1) := by decide +kernel
theorem dX12_minds_56 : decode cX12_minds 56 = .ok (.iconst 0, 1) := by decide +kernel
theorem dX12_minds_57 : decode cX12_minds 57 = .ok (.bipush 105, 2) := by decide +kernel
theorem dX12_minds_59 : decode cX12_minds 59 = .ok (.bipush 35, 2) := by decide +kernel
theorem dX12_minds_61 : decode cX12_minds 61 = .ok (.aload_n 0, 1) := by decide +kernel
theorem dX12_minds_62 : decode cX12_minds 62 = .ok (.getfield 68, 3) := by decide +kernel
theorem dX12_minds_65 : decode cX12_minds 65 = .ok (.imul, 1) := by decide +kernel
theorem dX12_minds_66 : decode cX12_minds 66 = .ok (.iadd, 1) := by decide +kernel
theorem dX12_minds_67 : decode cX12_minds 67 = .ok (.invokevirtual 147, 3) := by decide +kernel
theorem dX12_minds_70 : decode cX12_minds 70 = .ok (.aload_n 0, 1) := by decide +kernel
theorem dX12_minds_71 : decode cX12_minds 71 = .ok (.dup, 1) := by decide +kernel
theorem dX12_minds_72 : decode cX12_minds 72 = .ok (.getfield 68, 3) := by decide +kernel
theorem dX12_minds_75 : decode cX12_minds 75 = .ok (.iconst 1, 1) := by decide +kernel
theorem dX12_minds_76 : decode cX12_minds 76 = .ok (.iadd, 1) := by decide +kernel
theorem dX12_minds_77 : decode cX12_minds 77 = .ok (.putfield 68, 3) := by decide +kernel
theorem dX12_minds_80 : decode cX12_minds 80 = .ok (.return_, 1) := by decide +kernel
theorem dX12_heavyOf_0 : decode cX12_heavyOf 0 = .ok (.iconst 0, 1) := by decide +kernel
theorem dX12_heavyOf_1 : decode cX12_heavyOf 1 = .ok (.istore_n 2, 1) := by decide +kernel
theorem dX12_heavyOf_2 : decode cX12_heavyOf 2 = .ok (.iconst 0, 1) := by decide +kernel
theorem dX12_heavyOf_3 : decode cX12_heavyOf 3 = .ok (.istore_n 3, 1) := by decide +kernel
theorem dX12_heavyOf_4 : decode cX12_heavyOf 4 = .ok (.iload_n 3, 1) := by decide +kernel
theorem dX12_heavyOf_5 : decode cX12_heavyOf 5 = .ok (.aload_n 0, 1) := by decide +kernel
theorem dX12_heavyOf_6 : decode cX12_heavyOf 6 = .ok (.getfield 7, 3) := by decide +kernel
theorem dX12_heavyOf_9 : decode cX12_heavyOf 9 = .ok (.iconst 1, 1) := by decide +kernel
theorem dX12_heavyOf_10 : decode cX12_heavyOf 10 = .ok (.iaload, 1) := by decide +kernel
theorem dX12_heavyOf_11 : decode cX12_heavyOf 11 = .ok (.if_icmp .ge 51, 3) := by decide +kernel
theorem dX12_heavyOf_14 : decode cX12_heavyOf 14 = .ok (.iload_n 2, 1) := by decide +kernel
theorem dX12_heavyOf_15 : decode cX12_heavyOf 15 = .ok (.aload_n 0, 1) := by decide +kernel
theorem dX12_heavyOf_16 : decode cX12_heavyOf 16 = .ok (.getfield 13, 3) := by decide +kernel
theorem dX12_heavyOf_19 : decode cX12_heavyOf 19 = .ok (.bipush 19, 2) := by decide +kernel
theorem dX12_heavyOf_21 : decode cX12_heavyOf 21 = .ok (.iload_n 3, 1) := by decide +kernel
theorem dX12_heavyOf_22 : decode cX12_heavyOf 22 = .ok (.iadd, 1) := by decide +kernel
theorem dX12_heavyOf_23 : decode cX12_heavyOf 23 = .ok (.iaload, 1) := by decide +kernel
theorem dX12_heavyOf_24 : decode cX12_heavyOf 24 = .ok (.iload_n 1, 1) := by decide +kernel
theorem dX12_heavyOf_25 : decode cX12_heavyOf 25 = .ok (.if_icmp .ne 28, 3) := by decide +kernel
theorem dX12_heavyOf_28 : decode cX12_heavyOf 28 = .ok (.aload_n 0, 1) := by decide +kernel
theorem dX12_heavyOf_29 : decode cX12_heavyOf 29 = .ok (.getfield 13, 3) := by decide +kernel
theorem dX12_heavyOf_32 : decode cX12_heavyOf 32 = .ok (.bipush 27, 2) := by decide +kernel
theorem dX12_heavyOf_34 : decode cX12_heavyOf 34 = .ok (.iload_n 3, 1) := by decide +kernel
theorem dX12_heavyOf_35 : decode cX12_heavyOf 35 = .ok (.iadd, 1) := by decide +kernel
theorem dX12_heavyOf_36 : decode cX12_heavyOf 36 = .ok (.iaload, 1) := by decide +kernel
theorem dX12_heavyOf_37 : decode cX12_heavyOf 37 = .ok (.iconst 1, 1) := by decide +kernel
theorem dX12_heavyOf_38 : decode cX12_heavyOf 38 = .ok (.if_icmp .ne 15, 3) := by decide +kernel
theorem dX12_heavyOf_41 : decode cX12_heavyOf 41 = .ok (.aload_n 0, 1) := by decide +kernel
theorem dX12_heavyOf_42 : decode cX12_heavyOf 42 = .ok (.getfield 7, 3) := by decide +kernel
theorem dX12_heavyOf_45 : decode cX12_heavyOf 45 = .ok (.bipush 45, 2) := by decide +kernel
theorem dX12_heavyOf_47 : decode cX12_heavyOf 47 = .ok (.iload_n 3, 1) := by decide +kernel
theorem dX12_heavyOf_48 : decode cX12_heavyOf 48 = .ok (.iadd, 1) := by decide +kernel
theorem dX12_heavyOf_49 : decode cX12_heavyOf 49 = .ok (.iaload, 1) := by decide +kernel
theorem dX12_heavyOf_50 : decode cX12_heavyOf 50 = .ok (.goto 4, 3) := by decide +kernel
theorem dX12_heavyOf_53 : decode cX12_heavyOf 53 = .ok (.iconst 0, 1) := by decide +kernel
theorem dX12_heavyOf_54 : decode cX12_heavyOf 54 = .ok (.iadd, 1) := by decide +kernel
theorem dX12_heavyOf_55 : decode cX12_heavyOf 55 = .ok (.istore_n 2, 1) := by decide +kernel
theorem dX12_heavyOf_56 : decode cX12_heavyOf 56 = .ok (.iinc 3 1, 3) := by decide +kernel
theorem dX12_heavyOf_59 : decode cX12_heavyOf 59 = .ok (.goto (-55), 3) := by decide +kernel
theorem dX12_heavyOf_62 : decode cX12_heavyOf 62 = .ok (.iload_n 2, 1) := by decide +kernel
theorem dX12_heavyOf_63 : decode cX12_heavyOf 63 = .ok (.ireturn, 1) := by decide +kernel
theorem dX12_isOurs_0 : decode cX12_isOurs 0 = .ok (.aload_n 0, 1) := by decide +kernel
theorem dX12_isOurs_1 : decode cX12_isOurs 1 = .ok (.getfield 13, 3) := by decide +kernel
theorem dX12_isOurs_4 : decode cX12_isOurs 4 = .ok (.bipush 19, 2) := by decide +kernel
theorem dX12_isOurs_6 : decode cX12_isOurs 6 = .ok (.iload_n 1, 1) := by decide +kernel
theorem dX12_isOurs_7 : decode cX12_isOurs 7 = .ok (.iadd, 1) := by decide +kernel
theorem dX12_isOurs_8 : decode cX12_isOurs 8 = .ok (.iaload, 1) := by decide +kernel
theorem dX12_isOurs_9 : decode cX12_isOurs 9 = .ok (.bipush (-4), 2) := by decide +kernel
theorem dX12_isOurs_11 : decode cX12_isOurs 11 = .ok (.if_icmp .eq 23, 3) := by decide +kernel
theorem dX12_isOurs_14 : decode cX12_isOurs 14 = .ok (.aload_n 0, 1) := by decide +kernel
theorem dX12_isOurs_15 : decode cX12_isOurs 15 = .ok (.aload_n 0, 1) := by decide +kernel
theorem dX12_isOurs_16 : decode cX12_isOurs 16 = .ok (.getfield 13, 3) := by decide +kernel
theorem dX12_isOurs_19 : decode cX12_isOurs 19 = .ok (.bipush 19, 2) := by decide +kernel
theorem dX12_isOurs_21 : decode cX12_isOurs 21 = .ok (.iload_n 1, 1) := by decide +kernel
theorem dX12_isOurs_22 : decode cX12_isOurs 22 = .ok (.iadd, 1) := by decide +kernel
theorem dX12_isOurs_23 : decode cX12_isOurs 23 = .ok (.iaload, 1) := by decide +kernel
theorem dX12_isOurs_24 : decode cX12_isOurs 24 = .ok (.invokevirtual 118, 3) := by decide +kernel
theorem dX12_isOurs_27 : decode cX12_isOurs 27 = .ok (.ifCond .eq 7, 3) := by decide +kernel
theorem dX12_isOurs_30 : decode cX12_isOurs 30 = .ok (.iconst 1, 1) := by decide +kernel
theorem dX12_isOurs_31 : decode cX12_isOurs 31 = .ok (.goto 4, 3) := by decide +kernel
theorem dX12_isOurs_34 : decode cX12_isOurs 34 = .ok (.iconst 0, 1) := by decide +kernel
theorem dX12_isOurs_35 : decode cX12_isOurs 35 = .ok (.ireturn, 1) := by decide +kernel
theorem dX12_pack_0 : decode cX12_pack 0 = .ok (.aload_n 0, 1) := by decide +kernel
theorem dX12_pack_1 : decode cX12_pack 1 = .ok (.iload_n 1, 1) := by decide +kernel
theorem dX12_pack_2 : decode cX12_pack 2 = .ok (.invokevirtual 121, 3) := by decide +kernel
theorem dX12_pack_5 : decode cX12_pack 5 = .ok (.ifCond .ne 5, 3) := by decide +kernel
theorem dX12_pack_8 : decode cX12_pack 8 = .ok (.iconst (-1), 1) := by decide +kernel
theorem dX12_pack_9 : decode cX12_pack 9 = .ok (.ireturn, 1) := by decide +kernel
theorem dX12_pack_10 : decode cX12_pack 10 = .ok (.aload_n 0, 1) := by decide +kernel
theorem dX12_pack_11 : decode cX12_pack 11 = .ok (.getfield 13, 3) := by decide +kernel
theorem dX12_pack_14 : decode cX12_pack 14 = .ok (.bipush 19, 2) := by decide +kernel
theorem dX12_pack_16 : decode cX12_pack 16 = .ok (.iload_n 1, 1) := by decide +kernel
theorem dX12_pack_17 : decode cX12_pack 17 = .ok (.iadd, 1) := by decide +kernel
theorem dX12_pack_18 : decode cX12_pack 18 = .ok (.iaload, 1) := by decide +kernel
theorem dX12_pack_19 : decode cX12_pack 19 = .ok (.istore_n 3, 1) := by decide +kernel
theorem dX12_pack_20 : decode cX12_pack 20 = .ok (.aload_n 0, 1) := by decide +kernel
theorem dX12_pack_21 : decode cX12_pack 21 = .ok (.iload_n 1, 1) := by decide +kernel
theorem dX12_pack_22 : decode cX12_pack 22 = .ok (.invokevirtual 151, 3) := by decide +kernel
theorem dX12_pack_25 : decode cX12_pack 25 = .ok (.ifCond .eq 69, 3) := by decide +kernel
theorem dX12_pack_28 : decode cX12_pack 28 = .ok (.aload_n 0, 1) := by decide +kernel
theorem dX12_pack_29 : decode cX12_pack 29 = .ok (.getfield 13, 3) := by decide +kernel
theorem dX12_pack_32 : decode cX12_pack 32 = .ok (.bipush 27, 2) := by decide +kernel
theorem dX12_pack_34 : decode cX12_pack 34 = .ok (.iload_n 1, 1) := by decide +kernel
theorem dX12_pack_35 : decode cX12_pack 35 = .ok (.iadd, 1) := by decide +kernel
theorem dX12_pack_36 : decode cX12_pack 36 = .ok (.iaload, 1) := by decide +kernel
theorem dX12_pack_37 : decode cX12_pack 37 = .ok (.iconst 1, 1) := by decide +kernel
theorem dX12_pack_38 : decode cX12_pack 38 = .ok (.if_icmp .ne 7, 3) := by decide +kernel
theorem dX12_pack_41 : decode cX12_pack 41 = .ok (.iconst 1, 1) := by decide +kernel
theorem dX12_pack_42 : decode cX12_pack 42 = .ok (.goto 4, 3) := by decide +kernel
theorem dX12_pack_45 : decode cX12_pack 45 = .ok (.iconst 0, 1) := by decide +kernel
theorem dX12_pack_46 : decode cX12_pack 46 = .ok (.iload_n 2, 1) := by decide +kernel
theorem dX12_pack_47 : decode cX12_pack 47 = .ok (.if_icmp .eq 47, 3) := by decide +kernel
theorem dX12_pack_50 : decode cX12_pack 50 = .ok (.iload_n 2, 1) := by decide +kernel
theorem dX12_pack_51 : decode cX12_pack 51 = .ok (.ifCond .eq 46, 3) := by decide +kernel
theorem dX12_pack_54 : decode cX12_pack 54 = .ok (.aload_n 0, 1) := by decide +kernel
theorem dX12_pack_55 : decode cX12_pack 55 = .ok (.getfield 7, 3) := by decide +kernel
theorem dX12_pack_58 : decode cX12_pack 58 = .ok (.bipush 21, 2) := by decide +kernel
theorem dX12_pack_60 : decode cX12_pack 60 = .ok (.iload_n 1, 1) := by decide +kernel
theorem dX12_pack_61 : decode cX12_pack 61 = .ok (.iadd, 1) := by decide +kernel
theorem dX12_pack_62 : decode cX12_pack 62 = .ok (.iaload, 1) := by decide +kernel
theorem dX12_pack_63 : decode cX12_pack 63 = .ok (.iconst 2, 1) := by decide +kernel
theorem dX12_pack_64 : decode cX12_pack 64 = .ok (.if_icmp .eq 30, 3) := by decide +kernel
theorem dX12_pack_67 : decode cX12_pack 67 = .ok (.aload_n 0, 1) := by decide +kernel
theorem dX12_pack_68 : decode cX12_pack 68 = .ok (.iload_n 3, 1) := by decide +kernel
theorem dX12_pack_69 : decode cX12_pack 69 = .ok (.invokevirtual 154, 3) := by decide +kernel
theorem dX12_pack_72 : decode cX12_pack 72 = .ok (.aload_n 0, 1) := by decide +kernel
theorem dX12_pack_73 : decode cX12_pack 73 = .ok (.getfield 7, 3) := by decide +kernel
theorem dX12_pack_76 : decode cX12_pack 76 = .ok (.bipush 45, 2) := by decide +kernel
theorem dX12_pack_78 : decode cX12_pack 78 = .ok (.iload_n 1, 1) := by decide +kernel
theorem dX12_pack_79 : decode cX12_pack 79 = .ok (.iadd, 1) := by decide +kernel
theorem dX12_pack_80 : decode cX12_pack 80 = .ok (.iaload, 1) := by decide +kernel
theorem dX12_pack_81 : decode cX12_pack 81 = .ok (.iadd, 1) := by decide +kernel
theorem dX12_pack_82 : decode cX12_pack 82 = .ok (.aload_n 0, 1) := by decide +kernel
theorem dX12_pack_83 : decode cX12_pack 83 = .ok (.getfield 7, 3) := by decide +kernel
theorem dX12_pack_86 : decode cX12_pack 86 = .ok (.bipush 15, 2) := by decide +kernel
theorem dX12_pack_88 : decode cX12_pack 88 = .ok (.iload_n 3, 1) := by decide +kernel
theorem dX12_pack_89 : decode cX12_pack 89 = .ok (.iadd, 1) := by decide +kernel
theorem dX12_pack_90 : decode cX12_pack 90 = .ok (.iaload, 1) := by decide +kernel
theorem dX12_pack_91 : decode cX12_pack 91 = .ok (.if_icmp .le 6, 3) := by decide +kernel
theorem dX12_pack_94 : decode cX12_pack 94 = .ok (.bipush (-2), 2) := by decide +kernel
theorem dX12_pack_96 : decode cX12_pack 96 = .ok (.ireturn, 1) := by decide +kernel
theorem dX12_pack_97 : decode cX12_pack 97 = .ok (.aload_n 0, 1) := by decide +kernel
theorem dX12_pack_98 : decode cX12_pack 98 = .ok (.invokevirtual 157, 3) := by decide +kernel
theorem dX12_pack_101 : decode cX12_pack 101 = .ok (.aload_n 0, 1) := by decide +kernel
theorem dX12_pack_102 : decode cX12_pack 102 = .ok (.getfield 13, 3) := by decide +kernel
theorem dX12_pack_105 : decode cX12_pack 105 = .ok (.bipush 27, 2) := by decide +kernel
theorem dX12_pack_107 : decode cX12_pack 107 = .ok (.iload_n 1, 1) := by decide +kernel
theorem dX12_pack_108 : decode cX12_pack 108 = .ok (.iadd, 1) := by decide +kernel
theorem dX12_pack_109 : decode cX12_pack 109 = .ok (.iload_n 2, 1) := by decide +kernel
theorem dX12_pack_110 : decode cX12_pack 110 = .ok (.ifCond .eq 7, 3) := by decide +kernel
theorem dX12_pack_113 : decode cX12_pack 113 = .ok (.iconst 1, 1) := by decide +kernel
theorem dX12_pack_114 : decode cX12_pack 114 = .ok (.goto 4, 3) := by decide +kernel
theorem dX12_pack_117 : decode cX12_pack 117 = .ok (.iconst 0, 1) := by decide +kernel
theorem dX12_pack_118 : decode cX12_pack 118 = .ok (.iastore, 1) := by decide +kernel
theorem dX12_pack_119 : decode cX12_pack 119 = .ok (.aload_n 0, 1) := by decide +kernel
theorem dX12_pack_120 : decode cX12_pack 120 = .ok (.iload_n 3, 1) := by decide +kernel
theorem dX12_pack_121 : decode cX12_pack 121 = .ok (.invokevirtual 154, 3) := by decide +kernel
theorem dX12_pack_124 : decode cX12_pack 124 = .ok (.ireturn, 1) := by decide +kernel
theorem dX12_give_0 : decode cX12_give 0 = .ok (.aload_n 0, 1) := by decide +kernel
theorem dX12_give_1 : decode cX12_give 1 = .ok (.iload_n 1, 1) := by decide +kernel
theorem dX12_give_2 : decode cX12_give 2 = .ok (.invokevirtual 121, 3) := by decide +kernel
theorem dX12_give_5 : decode cX12_give 5 = .ok (.ifCond .eq 11, 3) := by decide +kernel
theorem dX12_give_8 : decode cX12_give 8 = .ok (.aload_n 0, 1) := by decide +kernel
theorem dX12_give_9 : decode cX12_give 9 = .ok (.iload_n 2, 1) := by decide +kernel
theorem dX12_give_10 : decode cX12_give 10 = .ok (.invokevirtual 111, 3) := by decide +kernel
theorem dX12_give_13 : decode cX12_give 13 = .ok (.ifCond .ne 5, 3) := by decide +kernel
theorem dX12_give_16 : decode cX12_give 16 = .ok (.iconst (-1), 1) := by decide +kernel
theorem dX12_give_17 : decode cX12_give 17 = .ok (.ireturn, 1) := by decide +kernel
theorem dX12_give_18 : decode cX12_give 18 = .ok (.aload_n 0, 1) := by decide +kernel
theorem dX12_give_19 : decode cX12_give 19 = .ok (.getfield 13, 3) := by decide +kernel
theorem dX12_give_22 : decode cX12_give 22 = .ok (.bipush 19, 2) := by decide +kernel
theorem dX12_give_24 : decode cX12_give 24 = .ok (.iload_n 1, 1) := by decide +kernel
theorem dX12_give_25 : decode cX12_give 25 = .ok (.iadd, 1) := by decide +kernel
theorem dX12_give_26 : decode cX12_give 26 = .ok (.iaload, 1) := by decide +kernel
theorem dX12_give_27 : decode cX12_give 27 = .ok (.istore_n 3, 1) := by decide +kernel
theorem dX12_give_28 : decode cX12_give 28 = .ok (.aload_n 0, 1) := by decide +kernel
theorem dX12_give_29 : decode cX12_give 29 = .ok (.iload_n 1, 1) := by decide +kernel
theorem dX12_give_30 : decode cX12_give 30 = .ok (.invokevirtual 151, 3) := by decide +kernel
theorem dX12_give_33 : decode cX12_give 33 = .ok (.ifCond .eq 16, 3) := by decide +kernel
theorem dX12_give_36 : decode cX12_give 36 = .ok (.iload_n 3, 1) := by decide +kernel
theorem dX12_give_37 : decode cX12_give 37 = .ok (.iload_n 2, 1) := by decide +kernel
theorem dX12_give_38 : decode cX12_give 38 = .ok (.if_icmp .eq 11, 3) := by decide +kernel
theorem dX12_give_41 : decode cX12_give 41 = .ok (.aload_n 0, 1) := by decide +kernel
theorem dX12_give_42 : decode cX12_give 42 = .ok (.iload_n 2, 1) := by decide +kernel
theorem dX12_give_43 : decode cX12_give 43 = .ok (.invokevirtual 118, 3) := by decide +kernel
theorem dX12_give_46 : decode cX12_give 46 = .ok (.ifCond .ne 6, 3) := by decide +kernel
theorem dX12_give_49 : decode cX12_give 49 = .ok (.bipush (-2), 2) := by decide +kernel
theorem dX12_give_51 : decode cX12_give 51 = .ok (.ireturn, 1) := by decide +kernel
theorem dX12_give_52 : decode cX12_give 52 = .ok (.aload_n 0, 1) := by decide +kernel
theorem dX12_give_53 : decode cX12_give 53 = .ok (.invokevirtual 157, 3) := by decide +kernel
theorem dX12_give_56 : decode cX12_give 56 = .ok (.aload_n 0, 1) := by decide +kernel
theorem dX12_give_57 : decode cX12_give 57 = .ok (.getfield 13, 3) := by decide +kernel
theorem dX12_give_60 : decode cX12_give 60 = .ok (.bipush 19, 2) := by decide +kernel
theorem dX12_give_62 : decode cX12_give 62 = .ok (.iload_n 1, 1) := by decide +kernel
theorem dX12_give_63 : decode cX12_give 63 = .ok (.iadd, 1) := by decide +kernel
theorem dX12_give_64 : decode cX12_give 64 = .ok (.iload_n 2, 1) := by decide +kernel
theorem dX12_give_65 : decode cX12_give 65 = .ok (.iastore, 1) := by decide +kernel
theorem dX12_give_66 : decode cX12_give 66 = .ok (.aload_n 0, 1) := by decide +kernel
theorem dX12_give_67 : decode cX12_give 67 = .ok (.getfield 13, 3) := by decide +kernel
theorem dX12_give_70 : decode cX12_give 70 = .ok (.bipush 27, 2) := by decide +kernel
theorem dX12_give_72 : decode cX12_give 72 = .ok (.iload_n 1, 1) := by decide +kernel
theorem dX12_give_73 : decode cX12_give 73 = .ok (.iadd, 1) := by decide +kernel
theorem dX12_give_74 : decode cX12_give 74 = .ok (.iconst 0, 1) := by decide +kernel
theorem dX12_give_75 : decode cX12_give 75 = .ok (.iastore, 1) := by decide +kernel
theorem dX12_give_76 : decode cX12_give 76 = .ok (.iload_n 3, 1) := by decide +kernel
theorem dX12_give_77 : decode cX12_give 77 = .ok (.ireturn, 1) := by decide +kernel
theorem dX12_isAlone_0 : decode cX12_isAlone 0 = .ok (.iconst 0, 1) := by decide +kernel
theorem dX12_isAlone_1 : decode cX12_isAlone 1 = .ok (.istore_n 2, 1) := by decide +kernel
theorem dX12_isAlone_2 : decode cX12_isAlone 2 = .ok (.iconst 0, 1) := by decide +kernel
theorem dX12_isAlone_3 : decode cX12_isAlone 3 = .ok (.istore_n 3, 1) := by decide +kernel
theorem dX12_isAlone_4 : decode cX12_isAlone 4 = .ok (.iload_n 3, 1) := by decide +kernel
theorem dX12_isAlone_5 : decode cX12_isAlone 5 = .ok (.aload_n 0, 1) := by decide +kernel
theorem dX12_isAlone_6 : decode cX12_isAlone 6 = .ok (.getfield 7, 3) := by decide +kernel
theorem dX12_isAlone_9 : decode cX12_isAlone 9 = .ok (.iconst 0, 1) := by decide +kernel
theorem dX12_isAlone_10 : decode cX12_isAlone 10 = .ok (.iaload, 1) := by decide +kernel
theorem dX12_isAlone_11 : decode cX12_isAlone 11 = .ok (.if_icmp .ge 38, 3) := by decide +kernel
theorem dX12_isAlone_14 : decode cX12_isAlone 14 = .ok (.iload_n 2, 1) := by decide +kernel
theorem dX12_isAlone_15 : decode cX12_isAlone 15 = .ok (.ifCond .ne 22, 3) := by decide +kernel
theorem dX12_isAlone_18 : decode cX12_isAlone 18 = .ok (.iload_n 1, 1) := by decide +kernel
theorem dX12_isAlone_19 : decode cX12_isAlone 19 = .ok (.iconst 1, 1) := by decide +kernel
theorem dX12_isAlone_20 : decode cX12_isAlone 20 = .ok (.iload_n 3, 1) := by decide +kernel
theorem dX12_isAlone_21 : decode cX12_isAlone 21 = .ok (.ishl, 1) := by decide +kernel
theorem dX12_isAlone_22 : decode cX12_isAlone 22 = .ok (.if_icmp .ne 19, 3) := by decide +kernel
theorem dX12_isAlone_25 : decode cX12_isAlone 25 = .ok (.aload_n 0, 1) := by decide +kernel
theorem dX12_isAlone_26 : decode cX12_isAlone 26 = .ok (.getfield 7, 3) := by decide +kernel
theorem dX12_isAlone_29 : decode cX12_isAlone 29 = .ok (.iconst 3, 1) := by decide +kernel
theorem dX12_isAlone_30 : decode cX12_isAlone 30 = .ok (.iload_n 3, 1) := by decide +kernel
theorem dX12_isAlone_31 : decode cX12_isAlone 31 = .ok (.iadd, 1) := by decide +kernel
theorem dX12_isAlone_32 : decode cX12_isAlone 32 = .ok (.iaload, 1) := by decide +kernel
theorem dX12_isAlone_33 : decode cX12_isAlone 33 = .ok (.iconst 3, 1) := by decide +kernel
theorem dX12_isAlone_34 : decode cX12_isAlone 34 = .ok (.if_icmp .ne 7, 3) := by decide +kernel
theorem dX12_isAlone_37 : decode cX12_isAlone 37 = .ok (.iconst 1, 1) := by decide +kernel
theorem dX12_isAlone_38 : decode cX12_isAlone 38 = .ok (.goto 4, 3) := by decide +kernel
theorem dX12_isAlone_41 : decode cX12_isAlone 41 = .ok (.iconst 0, 1) := by decide +kernel
theorem dX12_isAlone_42 : decode cX12_isAlone 42 = .ok (.istore_n 2, 1) := by decide +kernel
theorem dX12_isAlone_43 : decode cX12_isAlone 43 = .ok (.iinc 3 1, 3) := by decide +kernel
theorem dX12_isAlone_46 : decode cX12_isAlone 46 = .ok (.goto (-42), 3) := by decide +kernel
theorem dX12_isAlone_49 : decode cX12_isAlone 49 = .ok (.iload_n 2, 1) := by decide +kernel
theorem dX12_isAlone_50 : decode cX12_isAlone 50 = .ok (.ireturn, 1) := by decide +kernel
theorem dX12_canLeave_0 : decode cX12_canLeave 0 = .ok (.aload_n 0, 1) := by decide +kernel
theorem dX12_canLeave_1 : decode cX12_canLeave 1 = .ok (.getfield 13, 3) := by decide +kernel
theorem dX12_canLeave_4 : decode cX12_canLeave 4 = .ok (.iload_n 1, 1) := by decide +kernel
theorem dX12_canLeave_5 : decode cX12_canLeave 5 = .ok (.iconst 1, 1) := by decide +kernel
theorem dX12_canLeave_6 : decode cX12_canLeave 6 = .ok (.iadd, 1) := by decide +kernel
theorem dX12_canLeave_7 : decode cX12_canLeave 7 = .ok (.iload_n 2, 1) := by decide +kernel
theorem dX12_canLeave_8 : decode cX12_canLeave 8 = .ok (.iadd, 1) := by decide +kernel
theorem dX12_canLeave_9 : decode cX12_canLeave 9 = .ok (.iaload, 1) := by decide +kernel
theorem dX12_canLeave_10 : decode cX12_canLeave 10 = .ok (.aload_n 0, 1) := by decide +kernel
theorem dX12_canLeave_11 : decode cX12_canLeave 11 = .ok (.iload_n 1, 1) := by decide +kernel
theorem dX12_canLeave_12 : decode cX12_canLeave 12 = .ok (.iload_n 2, 1) := by decide +kernel
theorem dX12_canLeave_13 : decode cX12_canLeave 13 = .ok (.bipush (-4), 2) := by decide +kernel
theorem dX12_canLeave_15 : decode cX12_canLeave 15 = .ok (.invokevirtual 141, 3) := by decide +kernel
theorem dX12_canLeave_18 : decode cX12_canLeave 18 = .ok (.if_icmp .lt 28, 3) := by decide +kernel
theorem dX12_canLeave_21 : decode cX12_canLeave 21 = .ok (.aload_n 0, 1) := by decide +kernel
theorem dX12_canLeave_22 : decode cX12_canLeave 22 = .ok (.aload_n 0, 1) := by decide +kernel
theorem dX12_canLeave_23 : decode cX12_canLeave 23 = .ok (.getfield 13, 3) := by decide +kernel
theorem dX12_canLeave_26 : decode cX12_canLeave 26 = .ok (.iload_n 1, 1) := by decide +kernel
theorem dX12_canLeave_27 : decode cX12_canLeave 27 = .ok (.iconst 0, 1) := by decide +kernel
theorem dX12_canLeave_28 : decode cX12_canLeave 28 = .ok (.iadd, 1) := by decide +kernel
theorem dX12_canLeave_29 : decode cX12_canLeave 29 = .ok (.iaload, 1) := by decide +kernel
theorem dX12_canLeave_30 : decode cX12_canLeave 30 = .ok (.iconst 1, 1) := by decide +kernel
theorem dX12_canLeave_31 : decode cX12_canLeave 31 = .ok (.iload_n 2, 1) := by decide +kernel
theorem dX12_canLeave_32 : decode cX12_canLeave 32 = .ok (.ishl, 1) := by decide +kernel
theorem dX12_canLeave_33 : decode cX12_canLeave 33 = .ok (.iconst (-1), 1) := by decide +kernel
theorem dX12_canLeave_34 : decode cX12_canLeave 34 = .ok (.ixor, 1) := by decide +kernel
theorem dX12_canLeave_35 : decode cX12_canLeave 35 = .ok (.iand, 1) := by decide +kernel
theorem dX12_canLeave_36 : decode cX12_canLeave 36 = .ok (.invokevirtual 160, 3) := by decide +kernel
theorem dX12_canLeave_39 : decode cX12_canLeave 39 = .ok (.ifCond .ne 7, 3) := by decide +kernel
theorem dX12_canLeave_42 : decode cX12_canLeave 42 = .ok (.iconst 1, 1) := by decide +kernel
theorem dX12_canLeave_43 : decode cX12_canLeave 43 = .ok (.goto 4, 3) := by decide +kernel
theorem dX12_canLeave_46 : decode cX12_canLeave 46 = .ok (.iconst 0, 1) := by decide +kernel
theorem dX12_canLeave_47 : decode cX12_canLeave 47 = .ok (.ireturn, 1) := by decide +kernel
theorem dX12_goes_0 : decode cX12_goes 0 = .ok (.aload_n 0, 1) := by decide +kernel
theorem dX12_goes_1 : decode cX12_goes 1 = .ok (.getfield 13, 3) := by decide +kernel
theorem dX12_goes_4 : decode cX12_goes 4 = .ok (.iload_n 1, 1) := by decide +kernel
theorem dX12_goes_5 : decode cX12_goes 5 = .ok (.iconst 1, 1) := by decide +kernel
theorem dX12_goes_6 : decode cX12_goes 6 = .ok (.iadd, 1) := by decide +kernel
theorem dX12_goes_7 : decode cX12_goes 7 = .ok (.iload_n 2, 1) := by decide +kernel
theorem dX12_goes_8 : decode cX12_goes 8 = .ok (.iadd, 1) := by decide +kernel
theorem dX12_goes_9 : decode cX12_goes 9 = .ok (.dup2, 1) := by decide +kernel
theorem dX12_goes_10 : decode cX12_goes 10 = .ok (.iaload, 1) := by decide +kernel
theorem dX12_goes_11 : decode cX12_goes 11 = .ok (.iload_n 3, 1) := by decide +kernel
theorem dX12_goes_12 : decode cX12_goes 12 = .ok (.isub, 1) := by decide +kernel
theorem dX12_goes_13 : decode cX12_goes 13 = .ok (.iastore, 1) := by decide +kernel
theorem dX12_goes_14 : decode cX12_goes 14 = .ok (.aload_n 0, 1) := by decide +kernel
theorem dX12_goes_15 : decode cX12_goes 15 = .ok (.getfield 13, 3) := by decide +kernel
theorem dX12_goes_18 : decode cX12_goes 18 = .ok (.iload_n 1, 1) := by decide +kernel
theorem dX12_goes_19 : decode cX12_goes 19 = .ok (.bipush 7, 2) := by decide +kernel
theorem dX12_goes_21 : decode cX12_goes 21 = .ok (.iadd, 1) := by decide +kernel
theorem dX12_goes_22 : decode cX12_goes 22 = .ok (.iload_n 2, 1) := by decide +kernel
theorem dX12_goes_23 : decode cX12_goes 23 = .ok (.iadd, 1) := by decide +kernel
theorem dX12_goes_24 : decode cX12_goes 24 = .ok (.dup2, 1) := by decide +kernel
theorem dX12_goes_25 : decode cX12_goes 25 = .ok (.iaload, 1) := by decide +kernel
theorem dX12_goes_26 : decode cX12_goes 26 = .ok (.iload_n 3, 1) := by decide +kernel
theorem dX12_goes_27 : decode cX12_goes 27 = .ok (.iadd, 1) := by decide +kernel
theorem dX12_goes_28 : decode cX12_goes 28 = .ok (.iastore, 1) := by decide +kernel
theorem dX12_goes_29 : decode cX12_goes 29 = .ok (.aload_n 0, 1) := by decide +kernel
theorem dX12_goes_30 : decode cX12_goes 30 = .ok (.getfield 13, 3) := by decide +kernel
theorem dX12_goes_33 : decode cX12_goes 33 = .ok (.iload_n 1, 1) := by decide +kernel
theorem dX12_goes_34 : decode cX12_goes 34 = .ok (.bipush 13, 2) := by decide +kernel
theorem dX12_goes_36 : decode cX12_goes 36 = .ok (.iadd, 1) := by decide +kernel
theorem dX12_goes_37 : decode cX12_goes 37 = .ok (.iload_n 2, 1) := by decide +kernel
theorem dX12_goes_38 : decode cX12_goes 38 = .ok (.iadd, 1) := by decide +kernel
theorem dX12_goes_39 : decode cX12_goes 39 = .ok (.iload_n 3, 1) := by decide +kernel
theorem dX12_goes_40 : decode cX12_goes 40 = .ok (.iastore, 1) := by decide +kernel
theorem dX12_goes_41 : decode cX12_goes 41 = .ok (.aload_n 0, 1) := by decide +kernel
theorem dX12_goes_42 : decode cX12_goes 42 = .ok (.getfield 13, 3) := by decide +kernel
theorem dX12_goes_45 : decode cX12_goes 45 = .ok (.iload_n 1, 1) := by decide +kernel
theorem dX12_goes_46 : decode cX12_goes 46 = .ok (.iconst 0, 1) := by decide +kernel
theorem dX12_goes_47 : decode cX12_goes 47 = .ok (.iadd, 1) := by decide +kernel
theorem dX12_goes_48 : decode cX12_goes 48 = .ok (.dup2, 1) := by decide +kernel
theorem dX12_goes_49 : decode cX12_goes 49 = .ok (.iaload, 1) := by decide +kernel
theorem dX12_goes_50 : decode cX12_goes 50 = .ok (.iconst 1, 1) := by decide +kernel
theorem dX12_goes_51 : decode cX12_goes 51 = .ok (.iload_n 2, 1) := by decide +kernel
theorem dX12_goes_52 : decode cX12_goes 52 = .ok (.ishl, 1) := by decide +kernel
theorem dX12_goes_53 : decode cX12_goes 53 = .ok (.iconst (-1), 1) := by decide +kernel
theorem dX12_goes_54 : decode cX12_goes 54 = .ok (.ixor, 1) := by decide +kernel
theorem dX12_goes_55 : decode cX12_goes 55 = .ok (.iand, 1) := by decide +kernel
theorem dX12_goes_56 : decode cX12_goes 56 = .ok (.iastore, 1) := by decide +kernel
theorem dX12_goes_57 : decode cX12_goes 57 = .ok (.iconst 0, 1) := by decide +kernel
theorem dX12_goes_58 : decode cX12_goes 58 = .ok (.istore 4, 2) := by decide +kernel
theorem dX12_goes_60 : decode cX12_goes 60 = .ok (.iload 4, 2) := by decide +kernel
theorem dX12_goes_62 : decode cX12_goes 62 = .ok (.aload_n 0, 1) := by decide +kernel
theorem dX12_goes_63 : decode cX12_goes 63 = .ok (.getfield 7, 3) := by decide +kernel
theorem dX12_goes_66 : decode cX12_goes 66 = .ok (.iconst 1, 1) := by decide +kernel
theorem dX12_goes_67 : decode cX12_goes 67 = .ok (.iaload, 1) := by decide +kernel
theorem dX12_goes_68 : decode cX12_goes 68 = .ok (.if_icmp .ge 54, 3) := by decide +kernel
theorem dX12_goes_71 : decode cX12_goes 71 = .ok (.aload_n 0, 1) := by decide +kernel
theorem dX12_goes_72 : decode cX12_goes 72 = .ok (.getfield 13, 3) := by decide +kernel
theorem dX12_goes_75 : decode cX12_goes 75 = .ok (.iload_n 1, 1) := by decide +kernel
theorem dX12_goes_76 : decode cX12_goes 76 = .ok (.bipush 19, 2) := by decide +kernel
theorem dX12_goes_78 : decode cX12_goes 78 = .ok (.iadd, 1) := by decide +kernel
theorem dX12_goes_79 : decode cX12_goes 79 = .ok (.iload 4, 2) := by decide +kernel
theorem dX12_goes_81 : decode cX12_goes 81 = .ok (.iadd, 1) := by decide +kernel
theorem dX12_goes_82 : decode cX12_goes 82 = .ok (.iaload, 1) := by decide +kernel
theorem dX12_goes_83 : decode cX12_goes 83 = .ok (.iload_n 2, 1) := by decide +kernel
theorem dX12_goes_84 : decode cX12_goes 84 = .ok (.if_icmp .ne 32, 3) := by decide +kernel
theorem dX12_goes_87 : decode cX12_goes 87 = .ok (.aload_n 0, 1) := by decide +kernel
theorem dX12_goes_88 : decode cX12_goes 88 = .ok (.getfield 13, 3) := by decide +kernel
theorem dX12_goes_91 : decode cX12_goes 91 = .ok (.iload_n 1, 1) := by decide +kernel
theorem dX12_goes_92 : decode cX12_goes 92 = .ok (.bipush 27, 2) := by decide +kernel
theorem dX12_goes_94 : decode cX12_goes 94 = .ok (.iadd, 1) := by decide +kernel
theorem dX12_goes_95 : decode cX12_goes 95 = .ok (.iload 4, 2) := by decide +kernel
theorem dX12_goes_97 : decode cX12_goes 97 = .ok (.iadd, 1) := by decide +kernel
theorem dX12_goes_98 : decode cX12_goes 98 = .ok (.iaload, 1) := by decide +kernel
theorem dX12_goes_99 : decode cX12_goes 99 = .ok (.ifCond .ne 17, 3) := by decide +kernel
theorem dX12_goes_102 : decode cX12_goes 102 = .ok (.aload_n 0, 1) := by decide +kernel
theorem dX12_goes_103 : decode cX12_goes 103 = .ok (.getfield 13, 3) := by decide +kernel
theorem dX12_goes_106 : decode cX12_goes 106 = .ok (.iload_n 1, 1) := by decide +kernel
theorem dX12_goes_107 : decode cX12_goes 107 = .ok (.bipush 19, 2) := by decide +kernel
theorem dX12_goes_109 : decode cX12_goes 109 = .ok (.iadd, 1) := by decide +kernel
theorem dX12_goes_110 : decode cX12_goes 110 = .ok (.iload 4, 2) := by decide +kernel
theorem dX12_goes_112 : decode cX12_goes 112 = .ok (.iadd, 1) := by decide +kernel
theorem dX12_goes_113 : decode cX12_goes 113 = .ok (.bipush (-4), 2) := by decide +kernel
theorem dX12_goes_115 : decode cX12_goes 115 = .ok (.iastore, 1) := by decide +kernel
theorem dX12_goes_116 : decode cX12_goes 116 = .ok (.iinc 4 1, 3) := by decide +kernel
theorem dX12_goes_119 : decode cX12_goes 119 = .ok (.goto (-59), 3) := by decide +kernel
theorem dX12_goes_122 : decode cX12_goes 122 = .ok (.return_, 1) := by decide +kernel
theorem dX12_backFor_0 : decode cX12_backFor 0 = .ok (.aload_n 0, 1) := by decide +kernel
theorem dX12_backFor_1 : decode cX12_backFor 1 = .ok (.getfield 7, 3) := by decide +kernel
theorem dX12_backFor_4 : decode cX12_backFor 4 = .ok (.iconst 3, 1) := by decide +kernel
theorem dX12_backFor_5 : decode cX12_backFor 5 = .ok (.iload_n 2, 1) := by decide +kernel
theorem dX12_backFor_6 : decode cX12_backFor 6 = .ok (.iadd, 1) := by decide +kernel
theorem dX12_backFor_7 : decode cX12_backFor 7 = .ok (.iaload, 1) := by decide +kernel
theorem dX12_backFor_8 : decode cX12_backFor 8 = .ok (.iconst 2, 1) := by decide +kernel
theorem dX12_backFor_9 : decode cX12_backFor 9 = .ok (.if_icmp .ne 17, 3) := by decide +kernel
theorem dX12_backFor_12 : decode cX12_backFor 12 = .ok (.aload_n 0, 1) := by decide +kernel
theorem dX12_backFor_13 : decode cX12_backFor 13 = .ok (.getfield 13, 3) := by decide +kernel
theorem dX12_backFor_16 : decode cX12_backFor 16 = .ok (.iload_n 1, 1) := by decide +kernel
theorem dX12_backFor_17 : decode cX12_backFor 17 = .ok (.bipush 13, 2) := by decide +kernel
theorem dX12_backFor_19 : decode cX12_backFor 19 = .ok (.iadd, 1) := by decide +kernel
theorem dX12_backFor_20 : decode cX12_backFor 20 = .ok (.iload_n 2, 1) := by decide +kernel
theorem dX12_backFor_21 : decode cX12_backFor 21 = .ok (.iadd, 1) := by decide +kernel
theorem dX12_backFor_22 : decode cX12_backFor 22 = .ok (.iaload, 1) := by decide +kernel
theorem dX12_backFor_23 : decode cX12_backFor 23 = .ok (.goto 4, 3) := by decide +kernel
theorem dX12_backFor_26 : decode cX12_backFor 26 = .ok (.iconst 0, 1) := by decide +kernel
theorem dX12_backFor_27 : decode cX12_backFor 27 = .ok (.ireturn, 1) := by decide +kernel
theorem dX12_returns_0 : decode cX12_returns 0 = .ok (.aload_n 0, 1) := by decide +kernel
theorem dX12_returns_1 : decode cX12_returns 1 = .ok (.getfield 13, 3) := by decide +kernel
theorem dX12_returns_4 : decode cX12_returns 4 = .ok (.iload_n 1, 1) := by decide +kernel
theorem dX12_returns_5 : decode cX12_returns 5 = .ok (.iconst 1, 1) := by decide +kernel
theorem dX12_returns_6 : decode cX12_returns 6 = .ok (.iadd, 1) := by decide +kernel
theorem dX12_returns_7 : decode cX12_returns 7 = .ok (.iload_n 2, 1) := by decide +kernel
theorem dX12_returns_8 : decode cX12_returns 8 = .ok (.iadd, 1) := by decide +kernel
theorem dX12_returns_9 : decode cX12_returns 9 = .ok (.dup2, 1) := by decide +kernel
theorem dX12_returns_10 : decode cX12_returns 10 = .ok (.iaload, 1) := by decide +kernel
theorem dX12_returns_11 : decode cX12_returns 11 = .ok (.iload_n 3, 1) := by decide +kernel
theorem dX12_returns_12 : decode cX12_returns 12 = .ok (.isub, 1) := by decide +kernel
theorem dX12_returns_13 : decode cX12_returns 13 = .ok (.iastore, 1) := by decide +kernel
theorem dX12_returns_14 : decode cX12_returns 14 = .ok (.aload_n 0, 1) := by decide +kernel
theorem dX12_returns_15 : decode cX12_returns 15 = .ok (.getfield 13, 3) := by decide +kernel
theorem dX12_returns_18 : decode cX12_returns 18 = .ok (.iload_n 1, 1) := by decide +kernel
theorem dX12_returns_19 : decode cX12_returns 19 = .ok (.bipush 7, 2) := by decide +kernel
theorem dX12_returns_21 : decode cX12_returns 21 = .ok (.iadd, 1) := by decide +kernel
theorem dX12_returns_22 : decode cX12_returns 22 = .ok (.iload_n 2, 1) := by decide +kernel
theorem dX12_returns_23 : decode cX12_returns 23 = .ok (.iadd, 1) := by decide +kernel
theorem dX12_returns_24 : decode cX12_returns 24 = .ok (.dup2, 1) := by decide +kernel
theorem dX12_returns_25 : decode cX12_returns 25 = .ok (.iaload, 1) := by decide +kernel
theorem dX12_returns_26 : decode cX12_returns 26 = .ok (.iload_n 3, 1) := by decide +kernel
theorem dX12_returns_27 : decode cX12_returns 27 = .ok (.iadd, 1) := by decide +kernel
theorem dX12_returns_28 : decode cX12_returns 28 = .ok (.iastore, 1) := by decide +kernel
theorem dX12_returns_29 : decode cX12_returns 29 = .ok (.aload_n 0, 1) := by decide +kernel
theorem dX12_returns_30 : decode cX12_returns 30 = .ok (.getfield 13, 3) := by decide +kernel
theorem dX12_returns_33 : decode cX12_returns 33 = .ok (.iload_n 1, 1) := by decide +kernel
theorem dX12_returns_34 : decode cX12_returns 34 = .ok (.iconst 0, 1) := by decide +kernel
theorem dX12_returns_35 : decode cX12_returns 35 = .ok (.iadd, 1) := by decide +kernel
theorem dX12_returns_36 : decode cX12_returns 36 = .ok (.dup2, 1) := by decide +kernel
theorem dX12_returns_37 : decode cX12_returns 37 = .ok (.iaload, 1) := by decide +kernel
theorem dX12_returns_38 : decode cX12_returns 38 = .ok (.iconst 1, 1) := by decide +kernel
theorem dX12_returns_39 : decode cX12_returns 39 = .ok (.iload_n 2, 1) := by decide +kernel
theorem dX12_returns_40 : decode cX12_returns 40 = .ok (.ishl, 1) := by decide +kernel
theorem dX12_returns_41 : decode cX12_returns 41 = .ok (.ior, 1) := by decide +kernel
theorem dX12_returns_42 : decode cX12_returns 42 = .ok (.iastore, 1) := by decide +kernel
theorem dX12_returns_43 : decode cX12_returns 43 = .ok (.return_, 1) := by decide +kernel
theorem dX12_leave_0 : decode cX12_leave 0 = .ok (.aload_n 0, 1) := by decide +kernel
theorem dX12_leave_1 : decode cX12_leave 1 = .ok (.iload_n 1, 1) := by decide +kernel
theorem dX12_leave_2 : decode cX12_leave 2 = .ok (.invokevirtual 111, 3) := by decide +kernel
theorem dX12_leave_5 : decode cX12_leave 5 = .ok (.ifCond .ne 5, 3) := by decide +kernel
theorem dX12_leave_8 : decode cX12_leave 8 = .ok (.iconst (-1), 1) := by decide +kernel
theorem dX12_leave_9 : decode cX12_leave 9 = .ok (.ireturn, 1) := by decide +kernel
theorem dX12_leave_10 : decode cX12_leave 10 = .ok (.aload_n 0, 1) := by decide +kernel
theorem dX12_leave_11 : decode cX12_leave 11 = .ok (.iload_n 1, 1) := by decide +kernel
theorem dX12_leave_12 : decode cX12_leave 12 = .ok (.invokevirtual 118, 3) := by decide +kernel
theorem dX12_leave_15 : decode cX12_leave 15 = .ok (.ifCond .eq 12, 3) := by decide +kernel
theorem dX12_leave_18 : decode cX12_leave 18 = .ok (.aload_n 0, 1) := by decide +kernel
theorem dX12_leave_19 : decode cX12_leave 19 = .ok (.iconst 0, 1) := by decide +kernel
theorem dX12_leave_20 : decode cX12_leave 20 = .ok (.iload_n 1, 1) := by decide +kernel
theorem dX12_leave_21 : decode cX12_leave 21 = .ok (.invokevirtual 163, 3) := by decide +kernel
theorem dX12_leave_24 : decode cX12_leave 24 = .ok (.ifCond .ne 6, 3) := by decide +kernel
theorem dX12_leave_27 : decode cX12_leave 27 = .ok (.bipush (-2), 2) := by decide +kernel
theorem dX12_leave_29 : decode cX12_leave 29 = .ok (.ireturn, 1) := by decide +kernel
theorem dX12_leave_30 : decode cX12_leave 30 = .ok (.aload_n 0, 1) := by decide +kernel
theorem dX12_leave_31 : decode cX12_leave 31 = .ok (.iload_n 1, 1) := by decide +kernel
theorem dX12_leave_32 : decode cX12_leave 32 = .ok (.invokevirtual 144, 3) := by decide +kernel
theorem dX12_leave_35 : decode cX12_leave 35 = .ok (.istore_n 2, 1) := by decide +kernel
theorem dX12_leave_36 : decode cX12_leave 36 = .ok (.aload_n 0, 1) := by decide +kernel
theorem dX12_leave_37 : decode cX12_leave 37 = .ok (.invokevirtual 157, 3) := by decide +kernel
theorem dX12_leave_40 : decode cX12_leave 40 = .ok (.aload_n 0, 1) := by decide +kernel
theorem dX12_leave_41 : decode cX12_leave 41 = .ok (.iconst 0, 1) := by decide +kernel
theorem dX12_leave_42 : decode cX12_leave 42 = .ok (.iload_n 1, 1) := by decide +kernel
theorem dX12_leave_43 : decode cX12_leave 43 = .ok (.iload_n 2, 1) := by decide +kernel
theorem dX12_leave_44 : decode cX12_leave 44 = .ok (.invokevirtual 166, 3) := by decide +kernel
theorem dX12_leave_47 : decode cX12_leave 47 = .ok (.iload_n 2, 1) := by decide +kernel
theorem dX12_leave_48 : decode cX12_leave 48 = .ok (.ireturn, 1) := by decide +kernel
theorem dX12_leaveBoth_0 : decode cX12_leaveBoth 0 = .ok (.aload_n 0, 1) := by decide +kernel
theorem dX12_leaveBoth_1 : decode cX12_leaveBoth 1 = .ok (.iload_n 1, 1) := by decide +kernel
theorem dX12_leaveBoth_2 : decode cX12_leaveBoth 2 = .ok (.iload_n 2, 1) := by decide +kernel
theorem dX12_leaveBoth_3 : decode cX12_leaveBoth 3 = .ok (.invokevirtual 124, 3) := by decide +kernel
theorem dX12_leaveBoth_6 : decode cX12_leaveBoth 6 = .ok (.ifCond .ne 5, 3) := by decide +kernel
theorem dX12_leaveBoth_9 : decode cX12_leaveBoth 9 = .ok (.iconst (-1), 1) := by decide +kernel
theorem dX12_leaveBoth_10 : decode cX12_leaveBoth 10 = .ok (.ireturn, 1) := by decide +kernel
theorem dX12_leaveBoth_11 : decode cX12_leaveBoth 11 = .ok (.aload_n 0, 1) := by decide +kernel
theorem dX12_leaveBoth_12 : decode cX12_leaveBoth 12 = .ok (.iload_n 1, 1) := by decide +kernel
theorem dX12_leaveBoth_13 : decode cX12_leaveBoth 13 = .ok (.invokevirtual 118, 3) := by decide +kernel
theorem dX12_leaveBoth_16 : decode cX12_leaveBoth 16 = .ok (.ifCond .eq 11, 3) := by decide +kernel
theorem dX12_leaveBoth_19 : decode cX12_leaveBoth 19 = .ok (.aload_n 0, 1) := by decide +kernel
theorem dX12_leaveBoth_20 : decode cX12_leaveBoth 20 = .ok (.iload_n 2, 1) := by decide +kernel
theorem dX12_leaveBoth_21 : decode cX12_leaveBoth 21 = .ok (.invokevirtual 118, 3) := by decide +kernel
theorem dX12_leaveBoth_24 : decode cX12_leaveBoth 24 = .ok (.ifCond .ne 6, 3) := by decide +kernel
theorem dX12_leaveBoth_27 : decode cX12_leaveBoth 27 = .ok (.bipush (-2), 2) := by decide +kernel
theorem dX12_leaveBoth_29 : decode cX12_leaveBoth 29 = .ok (.ireturn, 1) := by decide +kernel
theorem dX12_leaveBoth_30 : decode cX12_leaveBoth 30 = .ok (.aload_n 0, 1) := by decide +kernel
theorem dX12_leaveBoth_31 : decode cX12_leaveBoth 31 = .ok (.iconst 0, 1) := by decide +kernel
theorem dX12_leaveBoth_32 : decode cX12_leaveBoth 32 = .ok (.iload_n 1, 1) := by decide +kernel
theorem dX12_leaveBoth_33 : decode cX12_leaveBoth 33 = .ok (.iload_n 2, 1) := by decide +kernel
theorem dX12_leaveBoth_34 : decode cX12_leaveBoth 34 = .ok (.invokevirtual 141, 3) := by decide +kernel
theorem dX12_leaveBoth_37 : decode cX12_leaveBoth 37 = .ok (.istore_n 3, 1) := by decide +kernel
theorem dX12_leaveBoth_38 : decode cX12_leaveBoth 38 = .ok (.aload_n 0, 1) := by decide +kernel
theorem dX12_leaveBoth_39 : decode cX12_leaveBoth 39 = .ok (.iconst 0, 1) := by decide +kernel
theorem dX12_leaveBoth_40 : decode cX12_leaveBoth 40 = .ok (.iload_n 2, 1) := by decide +kernel
theorem dX12_leaveBoth_41 : decode cX12_leaveBoth 41 = .ok (.iload_n 1, 1) := by decide +kernel
theorem dX12_leaveBoth_42 : decode cX12_leaveBoth 42 = .ok (.invokevirtual 141, 3) := by decide +kernel
theorem dX12_leaveBoth_45 : decode cX12_leaveBoth 45 = .ok (.istore 4, 2) := by decide +kernel
theorem dX12_leaveBoth_47 : decode cX12_leaveBoth 47 = .ok (.aload_n 0, 1) := by decide +kernel
theorem dX12_leaveBoth_48 : decode cX12_leaveBoth 48 = .ok (.getfield 13, 3) := by decide +kernel
theorem dX12_leaveBoth_51 : decode cX12_leaveBoth 51 = .ok (.iconst 1, 1) := by decide +kernel
theorem dX12_leaveBoth_52 : decode cX12_leaveBoth 52 = .ok (.iload_n 1, 1) := by decide +kernel
theorem dX12_leaveBoth_53 : decode cX12_leaveBoth 53 = .ok (.iadd, 1) := by decide +kernel
theorem dX12_leaveBoth_54 : decode cX12_leaveBoth 54 = .ok (.iaload, 1) := by decide +kernel
theorem dX12_leaveBoth_55 : decode cX12_leaveBoth 55 = .ok (.iload_n 3, 1) := by decide +kernel
theorem dX12_leaveBoth_56 : decode cX12_leaveBoth 56 = .ok (.if_icmp .lt 41, 3) := by decide +kernel
theorem dX12_leaveBoth_59 : decode cX12_leaveBoth 59 = .ok (.aload_n 0, 1) := by decide +kernel
theorem dX12_leaveBoth_60 : decode cX12_leaveBoth 60 = .ok (.getfield 13, 3) := by decide +kernel
theorem dX12_leaveBoth_63 : decode cX12_leaveBoth 63 = .ok (.iconst 1, 1) := by decide +kernel
theorem dX12_leaveBoth_64 : decode cX12_leaveBoth 64 = .ok (.iload_n 2, 1) := by decide +kernel
theorem dX12_leaveBoth_65 : decode cX12_leaveBoth 65 = .ok (.iadd, 1) := by decide +kernel
theorem dX12_leaveBoth_66 : decode cX12_leaveBoth 66 = .ok (.iaload, 1) := by decide +kernel
theorem dX12_leaveBoth_67 : decode cX12_leaveBoth 67 = .ok (.iload 4, 2) := by decide +kernel
theorem dX12_leaveBoth_69 : decode cX12_leaveBoth 69 = .ok (.if_icmp .lt 28, 3) := by decide +kernel
theorem dX12_leaveBoth_72 : decode cX12_leaveBoth 72 = .ok (.aload_n 0, 1) := by decide +kernel
theorem dX12_leaveBoth_73 : decode cX12_leaveBoth 73 = .ok (.aload_n 0, 1) := by decide +kernel
theorem dX12_leaveBoth_74 : decode cX12_leaveBoth 74 = .ok (.getfield 13, 3) := by decide +kernel
theorem dX12_leaveBoth_77 : decode cX12_leaveBoth 77 = .ok (.iconst 0, 1) := by decide +kernel
theorem dX12_leaveBoth_78 : decode cX12_leaveBoth 78 = .ok (.iaload, 1) := by decide +kernel
theorem dX12_leaveBoth_79 : decode cX12_leaveBoth 79 = .ok (.iconst 1, 1) := by decide +kernel
theorem dX12_leaveBoth_80 : decode cX12_leaveBoth 80 = .ok (.iload_n 1, 1) := by decide +kernel
theorem dX12_leaveBoth_81 : decode cX12_leaveBoth 81 = .ok (.ishl, 1) := by decide +kernel
theorem dX12_leaveBoth_82 : decode cX12_leaveBoth 82 = .ok (.iconst (-1), 1) := by decide +kernel
theorem dX12_leaveBoth_83 : decode cX12_leaveBoth 83 = .ok (.ixor, 1) := by decide +kernel
theorem dX12_leaveBoth_84 : decode cX12_leaveBoth 84 = .ok (.iand, 1) := by decide +kernel
theorem dX12_leaveBoth_85 : decode cX12_leaveBoth 85 = .ok (.iconst 1, 1) := by decide +kernel
theorem dX12_leaveBoth_86 : decode cX12_leaveBoth 86 = .ok (.iload_n 2, 1) := by decide +kernel
theorem dX12_leaveBoth_87 : decode cX12_leaveBoth 87 = .ok (.ishl, 1) := by decide +kernel
theorem dX12_leaveBoth_88 : decode cX12_leaveBoth 88 = .ok (.iconst (-1), 1) := by decide +kernel
theorem dX12_leaveBoth_89 : decode cX12_leaveBoth 89 = .ok (.ixor, 1) := by decide +kernel
theorem dX12_leaveBoth_90 : decode cX12_leaveBoth 90 = .ok (.iand, 1) := by decide +kernel
theorem dX12_leaveBoth_91 : decode cX12_leaveBoth 91 = .ok (.invokevirtual 160, 3) := by decide +kernel
theorem dX12_leaveBoth_94 : decode cX12_leaveBoth 94 = .ok (.ifCond .eq 6, 3) := by decide +kernel
theorem dX12_leaveBoth_97 : decode cX12_leaveBoth 97 = .ok (.bipush (-2), 2) := by decide +kernel
theorem dX12_leaveBoth_99 : decode cX12_leaveBoth 99 = .ok (.ireturn, 1) := by decide +kernel
theorem dX12_leaveBoth_100 : decode cX12_leaveBoth 100 = .ok (.aload_n 0, 1) := by decide +kernel
theorem dX12_leaveBoth_101 : decode cX12_leaveBoth 101 = .ok (.invokevirtual 157, 3) := by decide +kernel
theorem dX12_leaveBoth_104 : decode cX12_leaveBoth 104 = .ok (.aload_n 0, 1) := by decide +kernel
theorem dX12_leaveBoth_105 : decode cX12_leaveBoth 105 = .ok (.iconst 0, 1) := by decide +kernel
theorem dX12_leaveBoth_106 : decode cX12_leaveBoth 106 = .ok (.iload_n 1, 1) := by decide +kernel
theorem dX12_leaveBoth_107 : decode cX12_leaveBoth 107 = .ok (.iload_n 3, 1) := by decide +kernel
theorem dX12_leaveBoth_108 : decode cX12_leaveBoth 108 = .ok (.invokevirtual 166, 3) := by decide +kernel
theorem dX12_leaveBoth_111 : decode cX12_leaveBoth 111 = .ok (.aload_n 0, 1) := by decide +kernel
theorem dX12_leaveBoth_112 : decode cX12_leaveBoth 112 = .ok (.iconst 0, 1) := by decide +kernel
theorem dX12_leaveBoth_113 : decode cX12_leaveBoth 113 = .ok (.iload_n 2, 1) := by decide +kernel
theorem dX12_leaveBoth_114 : decode cX12_leaveBoth 114 = .ok (.iload 4, 2) := by decide +kernel
theorem dX12_leaveBoth_116 : decode cX12_leaveBoth 116 = .ok (.invokevirtual 166, 3) := by decide +kernel
theorem dX12_leaveBoth_119 : decode cX12_leaveBoth 119 = .ok (.iload_n 3, 1) := by decide +kernel
theorem dX12_leaveBoth_120 : decode cX12_leaveBoth 120 = .ok (.iload 4, 2) := by decide +kernel
theorem dX12_leaveBoth_122 : decode cX12_leaveBoth 122 = .ok (.iadd, 1) := by decide +kernel
theorem dX12_leaveBoth_123 : decode cX12_leaveBoth 123 = .ok (.ireturn, 1) := by decide +kernel
theorem dX12_comeBack_0 : decode cX12_comeBack 0 = .ok (.aload_n 0, 1) := by decide +kernel
theorem dX12_comeBack_1 : decode cX12_comeBack 1 = .ok (.iload_n 1, 1) := by decide +kernel
theorem dX12_comeBack_2 : decode cX12_comeBack 2 = .ok (.invokevirtual 111, 3) := by decide +kernel
theorem dX12_comeBack_5 : decode cX12_comeBack 5 = .ok (.ifCond .ne 5, 3) := by decide +kernel
theorem dX12_comeBack_8 : decode cX12_comeBack 8 = .ok (.iconst (-1), 1) := by decide +kernel
theorem dX12_comeBack_9 : decode cX12_comeBack 9 = .ok (.ireturn, 1) := by decide +kernel
theorem dX12_comeBack_10 : decode cX12_comeBack 10 = .ok (.aload_n 0, 1) := by decide +kernel
theorem dX12_comeBack_11 : decode cX12_comeBack 11 = .ok (.iconst 0, 1) := by decide +kernel
theorem dX12_comeBack_12 : decode cX12_comeBack 12 = .ok (.iload_n 1, 1) := by decide +kernel
theorem dX12_comeBack_13 : decode cX12_comeBack 13 = .ok (.invokevirtual 170, 3) := by decide +kernel
theorem dX12_comeBack_16 : decode cX12_comeBack 16 = .ok (.istore_n 2, 1) := by decide +kernel
theorem dX12_comeBack_17 : decode cX12_comeBack 17 = .ok (.aload_n 0, 1) := by decide +kernel
theorem dX12_comeBack_18 : decode cX12_comeBack 18 = .ok (.iload_n 1, 1) := by decide +kernel
theorem dX12_comeBack_19 : decode cX12_comeBack 19 = .ok (.invokevirtual 118, 3) := by decide +kernel
theorem dX12_comeBack_22 : decode cX12_comeBack 22 = .ok (.ifCond .ne 15, 3) := by decide +kernel
theorem dX12_comeBack_25 : decode cX12_comeBack 25 = .ok (.aload_n 0, 1) := by decide +kernel
theorem dX12_comeBack_26 : decode cX12_comeBack 26 = .ok (.getfield 13, 3) := by decide +kernel
theorem dX12_comeBack_29 : decode cX12_comeBack 29 = .ok (.iconst 1, 1) := by decide +kernel
theorem dX12_comeBack_30 : decode cX12_comeBack 30 = .ok (.iload_n 1, 1) := by decide +kernel
theorem dX12_comeBack_31 : decode cX12_comeBack 31 = .ok (.iadd, 1) := by decide +kernel
theorem dX12_comeBack_32 : decode cX12_comeBack 32 = .ok (.iaload, 1) := by decide +kernel
theorem dX12_comeBack_33 : decode cX12_comeBack 33 = .ok (.iload_n 2, 1) := by decide +kernel
theorem dX12_comeBack_34 : decode cX12_comeBack 34 = .ok (.if_icmp .ge 6, 3) := by decide +kernel
theorem dX12_comeBack_37 : decode cX12_comeBack 37 = .ok (.bipush (-2), 2) := by decide +kernel
theorem dX12_comeBack_39 : decode cX12_comeBack 39 = .ok (.ireturn, 1) := by decide +kernel
theorem dX12_comeBack_40 : decode cX12_comeBack 40 = .ok (.aload_n 0, 1) := by decide +kernel
theorem dX12_comeBack_41 : decode cX12_comeBack 41 = .ok (.invokevirtual 157, 3) := by decide +kernel
theorem dX12_comeBack_44 : decode cX12_comeBack 44 = .ok (.aload_n 0, 1) := by decide +kernel
theorem dX12_comeBack_45 : decode cX12_comeBack 45 = .ok (.iconst 0, 1) := by decide +kernel
theorem dX12_comeBack_46 : decode cX12_comeBack 46 = .ok (.iload_n 1, 1) := by decide +kernel
theorem dX12_comeBack_47 : decode cX12_comeBack 47 = .ok (.iload_n 2, 1) := by decide +kernel
theorem dX12_comeBack_48 : decode cX12_comeBack 48 = .ok (.invokevirtual 173, 3) := by decide +kernel
theorem dX12_comeBack_51 : decode cX12_comeBack 51 = .ok (.iload_n 2, 1) := by decide +kernel
theorem dX12_comeBack_52 : decode cX12_comeBack 52 = .ok (.ireturn, 1) := by decide +kernel
theorem dX12_undo_0 : decode cX12_undo 0 = .ok (.aload_n 0, 1) := by decide +kernel
theorem dX12_undo_1 : decode cX12_undo 1 = .ok (.getfield 68, 3) := by decide +kernel
theorem dX12_undo_4 : decode cX12_undo 4 = .ok (.ifCond .ne 6, 3) := by decide +kernel
theorem dX12_undo_7 : decode cX12_undo 7 = .ok (.bipush (-2), 2) := by decide +kernel
theorem dX12_undo_9 : decode cX12_undo 9 = .ok (.ireturn, 1) := by decide +kernel
theorem dX12_undo_10 : decode cX12_undo 10 = .ok (.aload_n 0, 1) := by decide +kernel
theorem dX12_undo_11 : decode cX12_undo 11 = .ok (.dup, 1) := by decide +kernel
theorem dX12_undo_12 : decode cX12_undo 12 = .ok (.getfield 68, 3) := by decide +kernel
theorem dX12_undo_15 : decode cX12_undo 15 = .ok (.iconst 1, 1) := by decide +kernel
theorem dX12_undo_16 : decode cX12_undo 16 = .ok (.isub, 1) := by decide +kernel
theorem dX12_undo_17 : decode cX12_undo 17 = .ok (.putfield 68, 3) := by decide +kernel
theorem dX12_undo_20 : decode cX12_undo 20 = .ok (.aload_n 0, 1) := by decide +kernel
theorem dX12_undo_21 : decode cX12_undo 21 = .ok (.bipush 105, 2) := by decide +kernel
theorem dX12_undo_23 : decode cX12_undo 23 = .ok (.bipush 35, 2) := by decide +kernel
theorem dX12_undo_25 : decode cX12_undo 25 = .ok (.aload_n 0, 1) := by decide +kernel
theorem dX12_undo_26 : decode cX12_undo 26 = .ok (.getfield 68, 3) := by decide +kernel
theorem dX12_undo_29 : decode cX12_undo 29 = .ok (.imul, 1) := by decide +kernel
theorem dX12_undo_30 : decode cX12_undo 30 = .ok (.iadd, 1) := by decide +kernel
theorem dX12_undo_31 : decode cX12_undo 31 = .ok (.iconst 0, 1) := by decide +kernel
theorem dX12_undo_32 : decode cX12_undo 32 = .ok (.invokevirtual 147, 3) := by decide +kernel
theorem dX12_undo_35 : decode cX12_undo 35 = .ok (.aload_n 0, 1) := by decide +kernel
theorem dX12_undo_36 : decode cX12_undo 36 = .ok (.getfield 68, 3) := by decide +kernel
theorem dX12_undo_39 : decode cX12_undo 39 = .ok (.ireturn, 1) := by decide +kernel
theorem dX12_packing_0 : decode cX12_packing 0 = .ok (.aload_n 0, 1) := by decide +kernel
theorem dX12_packing_1 : decode cX12_packing 1 = .ok (.iload_n 1, 1) := by decide +kernel
theorem dX12_packing_2 : decode cX12_packing 2 = .ok (.invokevirtual 111, 3) := by decide +kernel
theorem dX12_packing_5 : decode cX12_packing 5 = .ok (.ifCond .eq 13, 3) := by decide +kernel
theorem dX12_packing_8 : decode cX12_packing 8 = .ok (.iload_n 2, 1) := by decide +kernel
theorem dX12_packing_9 : decode cX12_packing 9 = .ok (.i2l, 1) := by decide +kernel
theorem dX12_packing_10 : decode cX12_packing 10 = .ok (.lconst 0, 1) := by decide +kernel
theorem dX12_packing_11 : decode cX12_packing 11 = .ok (.lconst 1, 1) := by decide +kernel
theorem dX12_packing_12 : decode cX12_packing 12 = .ok (.invokestatic 62, 3) := by decide +kernel
theorem dX12_packing_15 : decode cX12_packing 15 = .ok (.ifCond .ne 5, 3) := by decide +kernel
theorem dX12_packing_18 : decode cX12_packing 18 = .ok (.iconst (-1), 1) := by decide +kernel
theorem dX12_packing_19 : decode cX12_packing 19 = .ok (.ireturn, 1) := by decide +kernel
theorem dX12_packing_20 : decode cX12_packing 20 = .ok (.aload_n 0, 1) := by decide +kernel
theorem dX12_packing_21 : decode cX12_packing 21 = .ok (.iload_n 1, 1) := by decide +kernel
theorem dX12_packing_22 : decode cX12_packing 22 = .ok (.invokevirtual 118, 3) := by decide +kernel
theorem dX12_packing_25 : decode cX12_packing 25 = .ok (.ifCond .ne 6, 3) := by decide +kernel
theorem dX12_packing_28 : decode cX12_packing 28 = .ok (.bipush (-2), 2) := by decide +kernel
theorem dX12_packing_30 : decode cX12_packing 30 = .ok (.ireturn, 1) := by decide +kernel
theorem dX12_packing_31 : decode cX12_packing 31 = .ok (.aload_n 0, 1) := by decide +kernel
theorem dX12_packing_32 : decode cX12_packing 32 = .ok (.aload_n 0, 1) := by decide +kernel
theorem dX12_packing_33 : decode cX12_packing 33 = .ok (.getfield 13, 3) := by decide +kernel
theorem dX12_packing_36 : decode cX12_packing 36 = .ok (.iconst 0, 1) := by decide +kernel
theorem dX12_packing_37 : decode cX12_packing 37 = .ok (.iaload, 1) := by decide +kernel
theorem dX12_packing_38 : decode cX12_packing 38 = .ok (.iload_n 1, 1) := by decide +kernel
theorem dX12_packing_39 : decode cX12_packing 39 = .ok (.bipush (-4), 2) := by decide +kernel
theorem dX12_packing_41 : decode cX12_packing 41 = .ok (.invokevirtual 134, 3) := by decide +kernel
theorem dX12_packing_44 : decode cX12_packing 44 = .ok (.istore_n 3, 1) := by decide +kernel
theorem dX12_packing_45 : decode cX12_packing 45 = .ok (.iconst 0, 1) := by decide +kernel
theorem dX12_packing_46 : decode cX12_packing 46 = .ok (.istore 4, 2) := by decide +kernel
theorem dX12_packing_48 : decode cX12_packing 48 = .ok (.ldc 176, 2) := by decide +kernel
theorem dX12_packing_50 : decode cX12_packing 50 = .ok (.istore 5, 2) := by decide +kernel
theorem dX12_packing_52 : decode cX12_packing 52 = .ok (.iconst 0, 1) := by decide +kernel
theorem dX12_packing_53 : decode cX12_packing 53 = .ok (.istore 6, 2) := by decide +kernel
theorem dX12_packing_55 : decode cX12_packing 55 = .ok (.iload 6, 2) := by decide +kernel
theorem dX12_packing_57 : decode cX12_packing 57 = .ok (.iconst 1, 1) := by decide +kernel
theorem dX12_packing_58 : decode cX12_packing 58 = .ok (.aload_n 0, 1) := by decide +kernel
theorem dX12_packing_59 : decode cX12_packing 59 = .ok (.getfield 7, 3) := by decide +kernel
theorem dX12_packing_62 : decode cX12_packing 62 = .ok (.iconst 1, 1) := by decide +kernel
theorem dX12_packing_63 : decode cX12_packing 63 = .ok (.iaload, 1) := by decide +kernel
theorem dX12_packing_64 : decode cX12_packing 64 = .ok (.ishl, 1) := by decide +kernel
theorem dX12_packing_65 : decode cX12_packing 65 = .ok (.if_icmp .ge 223, 3) := by decide +kernel
theorem dX12_packing_68 : decode cX12_packing 68 = .ok (.iconst 0, 1) := by decide +kernel
theorem dX12_packing_69 : decode cX12_packing 69 = .ok (.istore 7, 2) := by decide +kernel
theorem dX12_packing_71 : decode cX12_packing 71 = .ok (.iload_n 3, 1) := by decide +kernel
theorem dX12_packing_72 : decode cX12_packing 72 = .ok (.istore 8, 2) := by decide +kernel
theorem dX12_packing_74 : decode cX12_packing 74 = .ok (.iconst 1, 1) := by decide +kernel
theorem dX12_packing_75 : decode cX12_packing 75 = .ok (.istore 9, 2) := by decide +kernel
theorem dX12_packing_77 : decode cX12_packing 77 = .ok (.iconst 0, 1) := by decide +kernel
theorem dX12_packing_78 : decode cX12_packing 78 = .ok (.istore 10, 2) := by decide +kernel
theorem dX12_packing_80 : decode cX12_packing 80 = .ok (.iload 10, 2) := by decide +kernel
theorem dX12_packing_82 : decode cX12_packing 82 = .ok (.aload_n 0, 1) := by decide +kernel
theorem dX12_packing_83 : decode cX12_packing 83 = .ok (.getfield 7, 3) := by decide +kernel
theorem dX12_packing_86 : decode cX12_packing 86 = .ok (.iconst 1, 1) := by decide +kernel
theorem dX12_packing_87 : decode cX12_packing 87 = .ok (.iaload, 1) := by decide +kernel
theorem dX12_packing_88 : decode cX12_packing 88 = .ok (.if_icmp .ge 124, 3) := by decide +kernel
theorem dX12_packing_91 : decode cX12_packing 91 = .ok (.aload_n 0, 1) := by decide +kernel
theorem dX12_packing_92 : decode cX12_packing 92 = .ok (.getfield 13, 3) := by decide +kernel
theorem dX12_packing_95 : decode cX12_packing 95 = .ok (.bipush 19, 2) := by decide +kernel
theorem dX12_packing_97 : decode cX12_packing 97 = .ok (.iload 10, 2) := by decide +kernel
theorem dX12_packing_99 : decode cX12_packing 99 = .ok (.iadd, 1) := by decide +kernel
theorem dX12_packing_100 : decode cX12_packing 100 = .ok (.iaload, 1) := by decide +kernel
theorem dX12_packing_101 : decode cX12_packing 101 = .ok (.iload_n 1, 1) := by decide +kernel
theorem dX12_packing_102 : decode cX12_packing 102 = .ok (.if_icmp .ne 7, 3) := by decide +kernel
theorem dX12_packing_105 : decode cX12_packing 105 = .ok (.iconst 1, 1) := by decide +kernel
theorem dX12_packing_106 : decode cX12_packing 106 = .ok (.goto 4, 3) := by decide +kernel
theorem dX12_packing_109 : decode cX12_packing 109 = .ok (.iconst 0, 1) := by decide +kernel
theorem dX12_packing_110 : decode cX12_packing 110 = .ok (.istore 11, 2) := by decide +kernel
theorem dX12_packing_112 : decode cX12_packing 112 = .ok (.iload 6, 2) := by decide +kernel
theorem dX12_packing_114 : decode cX12_packing 114 = .ok (.iload 10, 2) := by decide +kernel
theorem dX12_packing_116 : decode cX12_packing 116 = .ok (.invokestatic 114, 3) := by decide +kernel
theorem dX12_packing_119 : decode cX12_packing 119 = .ok (.istore 12, 2) := by decide +kernel
theorem dX12_packing_121 : decode cX12_packing 121 = .ok (.iload 9, 2) := by decide +kernel
theorem dX12_packing_123 : decode cX12_packing 123 = .ok (.ifCond .eq 31, 3) := by decide +kernel
theorem dX12_packing_126 : decode cX12_packing 126 = .ok (.iload 12, 2) := by decide +kernel
theorem dX12_packing_128 : decode cX12_packing 128 = .ok (.ifCond .eq 22, 3) := by decide +kernel
theorem dX12_packing_131 : decode cX12_packing 131 = .ok (.iload 11, 2) := by decide +kernel
theorem dX12_packing_133 : decode cX12_packing 133 = .ok (.ifCond .eq 21, 3) := by decide +kernel
theorem dX12_packing_136 : decode cX12_packing 136 = .ok (.aload_n 0, 1) := by decide +kernel
theorem dX12_packing_137 : decode cX12_packing 137 = .ok (.getfield 7, 3) := by decide +kernel
theorem dX12_packing_140 : decode cX12_packing 140 = .ok (.bipush 21, 2) := by decide +kernel
theorem dX12_packing_142 : decode cX12_packing 142 = .ok (.iload 10, 2) := by decide +kernel
theorem dX12_packing_144 : decode cX12_packing 144 = .ok (.iadd, 1) := by decide +kernel
theorem dX12_packing_145 : decode cX12_packing 145 = .ok (.iaload, 1) := by decide +kernel
theorem dX12_packing_146 : decode cX12_packing 146 = .ok (.iconst 2, 1) := by decide +kernel
theorem dX12_packing_147 : decode cX12_packing 147 = .ok (.if_icmp .eq 7, 3) := by decide +kernel
theorem dX12_packing_150 : decode cX12_packing 150 = .ok (.iconst 1, 1) := by decide +kernel
theorem dX12_packing_151 : decode cX12_packing 151 = .ok (.goto 4, 3) := by decide +kernel
theorem dX12_packing_154 : decode cX12_packing 154 = .ok (.iconst 0, 1) := by decide +kernel
theorem dX12_packing_155 : decode cX12_packing 155 = .ok (.istore 9, 2) := by decide +kernel
theorem dX12_packing_157 : decode cX12_packing 157 = .ok (.iload 7, 2) := by decide +kernel
theorem dX12_packing_159 : decode cX12_packing 159 = .ok (.iload 12, 2) := by decide +kernel
theorem dX12_packing_161 : decode cX12_packing 161 = .ok (.ifCond .eq 16, 3) := by decide +kernel
theorem dX12_packing_164 : decode cX12_packing 164 = .ok (.aload_n 0, 1) := by decide +kernel
theorem dX12_packing_165 : decode cX12_packing 165 = .ok (.getfield 7, 3) := by decide +kernel
theorem dX12_packing_168 : decode cX12_packing 168 = .ok (.bipush 45, 2) := by decide +kernel
theorem dX12_packing_170 : decode cX12_packing 170 = .ok (.iload 10, 2) := by decide +kernel
theorem dX12_packing_172 : decode cX12_packing 172 = .ok (.iadd, 1) := by decide +kernel
theorem dX12_packing_173 : decode cX12_packing 173 = .ok (.iaload, 1) := by decide +kernel
theorem dX12_packing_174 : decode cX12_packing 174 = .ok (.goto 4, 3) := by decide +kernel
theorem dX12_packing_177 : decode cX12_packing 177 = .ok (.iconst 0, 1) := by decide +kernel
theorem dX12_packing_178 : decode cX12_packing 178 = .ok (.iadd, 1) := by decide +kernel
theorem dX12_packing_179 : decode cX12_packing 179 = .ok (.istore 7, 2) := by decide +kernel
theorem dX12_packing_181 : decode cX12_packing 181 = .ok (.iload 8, 2) := by decide +kernel
theorem dX12_packing_183 : decode cX12_packing 183 = .ok (.iload 11, 2) := by decide +kernel
theorem dX12_packing_185 : decode cX12_packing 185 = .ok (.ifCond .eq 17, 3) := by decide +kernel
theorem dX12_packing_188 : decode cX12_packing 188 = .ok (.iload 12, 2) := by decide +kernel
theorem dX12_packing_190 : decode cX12_packing 190 = .ok (.ifCond .ne 12, 3) := by decide +kernel
theorem dX12_packing_193 : decode cX12_packing 193 = .ok (.aload_n 0, 1) := by decide +kernel
theorem dX12_packing_194 : decode cX12_packing 194 = .ok (.iload 10, 2) := by decide +kernel
theorem dX12_packing_196 : decode cX12_packing 196 = .ok (.invokevirtual 127, 3) := by decide +kernel
theorem dX12_packing_199 : decode cX12_packing 199 = .ok (.goto 4, 3) := by decide +kernel
theorem dX12_packing_202 : decode cX12_packing 202 = .ok (.iconst 0, 1) := by decide +kernel
theorem dX12_packing_203 : decode cX12_packing 203 = .ok (.iadd, 1) := by decide +kernel
theorem dX12_packing_204 : decode cX12_packing 204 = .ok (.istore 8, 2) := by decide +kernel
theorem dX12_packing_206 : decode cX12_packing 206 = .ok (.iinc 10 1, 3) := by decide +kernel
theorem dX12_packing_209 : decode cX12_packing 209 = .ok (.goto (-129), 3) := by decide +kernel
theorem dX12_packing_212 : decode cX12_packing 212 = .ok (.aload_n 0, 1) := by decide +kernel
theorem dX12_packing_213 : decode cX12_packing 213 = .ok (.iload_n 1, 1) := by decide +kernel
theorem dX12_packing_214 : decode cX12_packing 214 = .ok (.iload 8, 2) := by decide +kernel
theorem dX12_packing_216 : decode cX12_packing 216 = .ok (.invokevirtual 137, 3) := by decide +kernel
theorem dX12_packing_219 : decode cX12_packing 219 = .ok (.istore 10, 2) := by decide +kernel
theorem dX12_packing_221 : decode cX12_packing 221 = .ok (.iload 9, 2) := by decide +kernel
theorem dX12_packing_223 : decode cX12_packing 223 = .ok (.ifCond .eq 28, 3) := by decide +kernel
theorem dX12_packing_226 : decode cX12_packing 226 = .ok (.iload 7, 2) := by decide +kernel
theorem dX12_packing_228 : decode cX12_packing 228 = .ok (.aload_n 0, 1) := by decide +kernel
theorem dX12_packing_229 : decode cX12_packing 229 = .ok (.getfield 7, 3) := by decide +kernel
theorem dX12_packing_232 : decode cX12_packing 232 = .ok (.bipush 15, 2) := by decide +kernel
theorem dX12_packing_234 : decode cX12_packing 234 = .ok (.iload_n 1, 1) := by decide +kernel
theorem dX12_packing_235 : decode cX12_packing 235 = .ok (.iadd, 1) := by decide +kernel
theorem dX12_packing_236 : decode cX12_packing 236 = .ok (.iaload, 1) := by decide +kernel
theorem dX12_packing_237 : decode cX12_packing 237 = .ok (.if_icmp .gt 14, 3) := by decide +kernel
theorem dX12_packing_240 : decode cX12_packing 240 = .ok (.iload 10, 2) := by decide +kernel
theorem dX12_packing_242 : decode cX12_packing 242 = .ok (.iload 5, 2) := by decide +kernel
theorem dX12_packing_244 : decode cX12_packing 244 = .ok (.if_icmp .ge 7, 3) := by decide +kernel
theorem dX12_packing_247 : decode cX12_packing 247 = .ok (.iconst 1, 1) := by decide +kernel
theorem dX12_packing_248 : decode cX12_packing 248 = .ok (.goto 4, 3) := by decide +kernel
theorem dX12_packing_251 : decode cX12_packing 251 = .ok (.iconst 0, 1) := by decide +kernel
theorem dX12_packing_252 : decode cX12_packing 252 = .ok (.istore 11, 2) := by decide +kernel
theorem dX12_packing_254 : decode cX12_packing 254 = .ok (.iload 11, 2) := by decide +kernel
theorem dX12_packing_256 : decode cX12_packing 256 = .ok (.ifCond .eq 8, 3) := by decide +kernel
theorem dX12_packing_259 : decode cX12_packing 259 = .ok (.iload 6, 2) := by decide +kernel
theorem dX12_packing_261 : decode cX12_packing 261 = .ok (.goto 5, 3) := by decide +kernel
theorem dX12_packing_264 : decode cX12_packing 264 = .ok (.iload 4, 2) := by decide +kernel
theorem dX12_packing_266 : decode cX12_packing 266 = .ok (.istore 4, 2) := by decide +kernel
theorem dX12_packing_268 : decode cX12_packing 268 = .ok (.iload 11, 2) := by decide +kernel
theorem dX12_packing_270 : decode cX12_packing 270 = .ok (.ifCond .eq 8, 3) := by decide +kernel
theorem dX12_packing_273 : decode cX12_packing 273 = .ok (.iload 10, 2) := by decide +kernel
theorem dX12_packing_275 : decode cX12_packing 275 = .ok (.goto 5, 3) := by decide +kernel
theorem dX12_packing_278 : decode cX12_packing 278 = .ok (.iload 5, 2) := by decide +kernel
theorem dX12_packing_280 : decode cX12_packing 280 = .ok (.istore 5, 2) := by decide +kernel
theorem dX12_packing_282 : decode cX12_packing 282 = .ok (.iinc 6 1, 3) := by decide +kernel
theorem dX12_packing_285 : decode cX12_packing 285 = .ok (.goto (-230), 3) := by decide +kernel
theorem dX12_packing_288 : decode cX12_packing 288 = .ok (.iload_n 2, 1) := by decide +kernel
theorem dX12_packing_289 : decode cX12_packing 289 = .ok (.ifCond .ne 8, 3) := by decide +kernel
theorem dX12_packing_292 : decode cX12_packing 292 = .ok (.iload 4, 2) := by decide +kernel
theorem dX12_packing_294 : decode cX12_packing 294 = .ok (.goto 5, 3) := by decide +kernel
theorem dX12_packing_297 : decode cX12_packing 297 = .ok (.iload 5, 2) := by decide +kernel
theorem dX12_packing_299 : decode cX12_packing 299 = .ok (.ireturn, 1) := by decide +kernel
theorem dX12_giving_0 : decode cX12_giving 0 = .ok (.aload_n 0, 1) := by decide +kernel
theorem dX12_giving_1 : decode cX12_giving 1 = .ok (.iload_n 1, 1) := by decide +kernel
theorem dX12_giving_2 : decode cX12_giving 2 = .ok (.invokevirtual 121, 3) := by decide +kernel
theorem dX12_giving_5 : decode cX12_giving 5 = .ok (.ifCond .eq 13, 3) := by decide +kernel
theorem dX12_giving_8 : decode cX12_giving 8 = .ok (.iload_n 2, 1) := by decide +kernel
theorem dX12_giving_9 : decode cX12_giving 9 = .ok (.i2l, 1) := by decide +kernel
theorem dX12_giving_10 : decode cX12_giving 10 = .ok (.lconst 0, 1) := by decide +kernel
theorem dX12_giving_11 : decode cX12_giving 11 = .ok (.lconst 1, 1) := by decide +kernel
theorem dX12_giving_12 : decode cX12_giving 12 = .ok (.invokestatic 62, 3) := by decide +kernel
theorem dX12_giving_15 : decode cX12_giving 15 = .ok (.ifCond .ne 5, 3) := by decide +kernel
theorem dX12_giving_18 : decode cX12_giving 18 = .ok (.iconst (-1), 1) := by decide +kernel
theorem dX12_giving_19 : decode cX12_giving 19 = .ok (.ireturn, 1) := by decide +kernel
theorem dX12_giving_20 : decode cX12_giving 20 = .ok (.aload_n 0, 1) := by decide +kernel
theorem dX12_giving_21 : decode cX12_giving 21 = .ok (.iload_n 1, 1) := by decide +kernel
theorem dX12_giving_22 : decode cX12_giving 22 = .ok (.invokevirtual 151, 3) := by decide +kernel
theorem dX12_giving_25 : decode cX12_giving 25 = .ok (.ifCond .ne 6, 3) := by decide +kernel
theorem dX12_giving_28 : decode cX12_giving 28 = .ok (.bipush (-2), 2) := by decide +kernel
theorem dX12_giving_30 : decode cX12_giving 30 = .ok (.ireturn, 1) := by decide +kernel
theorem dX12_giving_31 : decode cX12_giving 31 = .ok (.bipush (-4), 2) := by decide +kernel
theorem dX12_giving_33 : decode cX12_giving 33 = .ok (.istore_n 3, 1) := by decide +kernel
theorem dX12_giving_34 : decode cX12_giving 34 = .ok (.ldc 176, 2) := by decide +kernel
theorem dX12_giving_36 : decode cX12_giving 36 = .ok (.istore 4, 2) := by decide +kernel
theorem dX12_giving_38 : decode cX12_giving 38 = .ok (.iconst 0, 1) := by decide +kernel
theorem dX12_giving_39 : decode cX12_giving 39 = .ok (.istore 5, 2) := by decide +kernel
theorem dX12_giving_41 : decode cX12_giving 41 = .ok (.iload 5, 2) := by decide +kernel
theorem dX12_giving_43 : decode cX12_giving 43 = .ok (.aload_n 0, 1) := by decide +kernel
theorem dX12_giving_44 : decode cX12_giving 44 = .ok (.getfield 7, 3) := by decide +kernel
theorem dX12_giving_47 : decode cX12_giving 47 = .ok (.iconst 0, 1) := by decide +kernel
theorem dX12_giving_48 : decode cX12_giving 48 = .ok (.iaload, 1) := by decide +kernel
theorem dX12_giving_49 : decode cX12_giving 49 = .ok (.if_icmp .ge 145, 3) := by decide +kernel
theorem dX12_giving_52 : decode cX12_giving 52 = .ok (.aload_n 0, 1) := by decide +kernel
theorem dX12_giving_53 : decode cX12_giving 53 = .ok (.iload 5, 2) := by decide +kernel
theorem dX12_giving_55 : decode cX12_giving 55 = .ok (.invokevirtual 118, 3) := by decide +kernel
theorem dX12_giving_58 : decode cX12_giving 58 = .ok (.ifCond .eq 130, 3) := by decide +kernel
theorem dX12_giving_61 : decode cX12_giving 61 = .ok (.iload 5, 2) := by decide +kernel
theorem dX12_giving_63 : decode cX12_giving 63 = .ok (.aload_n 0, 1) := by decide +kernel
theorem dX12_giving_64 : decode cX12_giving 64 = .ok (.getfield 13, 3) := by decide +kernel
theorem dX12_giving_67 : decode cX12_giving 67 = .ok (.bipush 19, 2) := by decide +kernel
theorem dX12_giving_69 : decode cX12_giving 69 = .ok (.iload_n 1, 1) := by decide +kernel
theorem dX12_giving_70 : decode cX12_giving 70 = .ok (.iadd, 1) := by decide +kernel
theorem dX12_giving_71 : decode cX12_giving 71 = .ok (.iaload, 1) := by decide +kernel
theorem dX12_giving_72 : decode cX12_giving 72 = .ok (.if_icmp .eq 116, 3) := by decide +kernel
theorem dX12_giving_75 : decode cX12_giving 75 = .ok (.aload_n 0, 1) := by decide +kernel
theorem dX12_giving_76 : decode cX12_giving 76 = .ok (.iconst 0, 1) := by decide +kernel
theorem dX12_giving_77 : decode cX12_giving 77 = .ok (.sipush 385, 3) := by decide +kernel
theorem dX12_giving_80 : decode cX12_giving 80 = .ok (.invokevirtual 147, 3) := by decide +kernel
theorem dX12_giving_83 : decode cX12_giving 83 = .ok (.aload_n 0, 1) := by decide +kernel
theorem dX12_giving_84 : decode cX12_giving 84 = .ok (.getfield 13, 3) := by decide +kernel
theorem dX12_giving_87 : decode cX12_giving 87 = .ok (.sipush 404, 3) := by decide +kernel
theorem dX12_giving_90 : decode cX12_giving 90 = .ok (.iload_n 1, 1) := by decide +kernel
theorem dX12_giving_91 : decode cX12_giving 91 = .ok (.iadd, 1) := by decide +kernel
theorem dX12_giving_92 : decode cX12_giving 92 = .ok (.iload 5, 2) := by decide +kernel
theorem dX12_giving_94 : decode cX12_giving 94 = .ok (.iastore, 1) := by decide +kernel
theorem dX12_giving_95 : decode cX12_giving 95 = .ok (.aload_n 0, 1) := by decide +kernel
theorem dX12_giving_96 : decode cX12_giving 96 = .ok (.getfield 13, 3) := by decide +kernel
theorem dX12_giving_99 : decode cX12_giving 99 = .ok (.sipush 412, 3) := by decide +kernel
theorem dX12_giving_102 : decode cX12_giving 102 = .ok (.iload_n 1, 1) := by decide +kernel
theorem dX12_giving_103 : decode cX12_giving 103 = .ok (.iadd, 1) := by decide +kernel
theorem dX12_giving_104 : decode cX12_giving 104 = .ok (.iconst 0, 1) := by decide +kernel
theorem dX12_giving_105 : decode cX12_giving 105 = .ok (.iastore, 1) := by decide +kernel
theorem dX12_giving_106 : decode cX12_giving 106 = .ok (.iconst 0, 1) := by decide +kernel
theorem dX12_giving_107 : decode cX12_giving 107 = .ok (.istore 6, 2) := by decide +kernel
theorem dX12_giving_109 : decode cX12_giving 109 = .ok (.iconst 0, 1) := by decide +kernel
theorem dX12_giving_110 : decode cX12_giving 110 = .ok (.istore 7, 2) := by decide +kernel
theorem dX12_giving_112 : decode cX12_giving 112 = .ok (.iload 7, 2) := by decide +kernel
theorem dX12_giving_114 : decode cX12_giving 114 = .ok (.aload_n 0, 1) := by decide +kernel
theorem dX12_giving_115 : decode cX12_giving 115 = .ok (.getfield 7, 3) := by decide +kernel
theorem dX12_giving_118 : decode cX12_giving 118 = .ok (.iconst 0, 1) := by decide +kernel
theorem dX12_giving_119 : decode cX12_giving 119 = .ok (.iaload, 1) := by decide +kernel
theorem dX12_giving_120 : decode cX12_giving 120 = .ok (.if_icmp .ge 38, 3) := by decide +kernel
theorem dX12_giving_123 : decode cX12_giving 123 = .ok (.iload 6, 2) := by decide +kernel
theorem dX12_giving_125 : decode cX12_giving 125 = .ok (.aload_n 0, 1) := by decide +kernel
theorem dX12_giving_126 : decode cX12_giving 126 = .ok (.iload 7, 2) := by decide +kernel
theorem dX12_giving_128 : decode cX12_giving 128 = .ok (.invokevirtual 118, 3) := by decide +kernel
theorem dX12_giving_131 : decode cX12_giving 131 = .ok (.ifCond .eq 17, 3) := by decide +kernel
theorem dX12_giving_134 : decode cX12_giving 134 = .ok (.aload_n 0, 1) := by decide +kernel
theorem dX12_giving_135 : decode cX12_giving 135 = .ok (.sipush 385, 3) := by decide +kernel
theorem dX12_giving_138 : decode cX12_giving 138 = .ok (.iload 7, 2) := by decide +kernel
theorem dX12_giving_140 : decode cX12_giving 140 = .ok (.bipush (-4), 2) := by decide +kernel
theorem dX12_giving_142 : decode cX12_giving 142 = .ok (.invokevirtual 141, 3) := by decide +kernel
theorem dX12_giving_145 : decode cX12_giving 145 = .ok (.goto 4, 3) := by decide +kernel
theorem dX12_giving_148 : decode cX12_giving 148 = .ok (.iconst 0, 1) := by decide +kernel
theorem dX12_giving_149 : decode cX12_giving 149 = .ok (.iadd, 1) := by decide +kernel
theorem dX12_giving_150 : decode cX12_giving 150 = .ok (.istore 6, 2) := by decide +kernel
theorem dX12_giving_152 : decode cX12_giving 152 = .ok (.iinc 7 1, 3) := by decide +kernel
theorem dX12_giving_155 : decode cX12_giving 155 = .ok (.goto (-43), 3) := by decide +kernel
theorem dX12_giving_158 : decode cX12_giving 158 = .ok (.iload 6, 2) := by decide +kernel
theorem dX12_giving_160 : decode cX12_giving 160 = .ok (.iload 4, 2) := by decide +kernel
theorem dX12_giving_162 : decode cX12_giving 162 = .ok (.if_icmp .ge 8, 3) := by decide +kernel
theorem dX12_giving_165 : decode cX12_giving 165 = .ok (.iload 5, 2) := by decide +kernel
theorem dX12_giving_167 : decode cX12_giving 167 = .ok (.goto 4, 3) := by decide +kernel
theorem dX12_giving_170 : decode cX12_giving 170 = .ok (.iload_n 3, 1) := by decide +kernel
theorem dX12_giving_171 : decode cX12_giving 171 = .ok (.istore_n 3, 1) := by decide +kernel
theorem dX12_giving_172 : decode cX12_giving 172 = .ok (.iload 6, 2) := by decide +kernel
theorem dX12_giving_174 : decode cX12_giving 174 = .ok (.iload 4, 2) := by decide +kernel
theorem dX12_giving_176 : decode cX12_giving 176 = .ok (.if_icmp .ge 8, 3) := by decide +kernel
theorem dX12_giving_179 : decode cX12_giving 179 = .ok (.iload 6, 2) := by decide +kernel
theorem dX12_giving_181 : decode cX12_giving 181 = .ok (.goto 5, 3) := by decide +kernel
theorem dX12_giving_184 : decode cX12_giving 184 = .ok (.iload 4, 2) := by decide +kernel
theorem dX12_giving_186 : decode cX12_giving 186 = .ok (.istore 4, 2) := by decide +kernel
theorem dX12_giving_188 : decode cX12_giving 188 = .ok (.iinc 5 1, 3) := by decide +kernel
theorem dX12_giving_191 : decode cX12_giving 191 = .ok (.goto (-150), 3) := by decide +kernel
theorem dX12_giving_194 : decode cX12_giving 194 = .ok (.iload_n 3, 1) := by decide +kernel
theorem dX12_giving_195 : decode cX12_giving 195 = .ok (.bipush (-4), 2) := by decide +kernel
theorem dX12_giving_197 : decode cX12_giving 197 = .ok (.if_icmp .eq 7, 3) := by decide +kernel
theorem dX12_giving_200 : decode cX12_giving 200 = .ok (.iload_n 2, 1) := by decide +kernel
theorem dX12_giving_201 : decode cX12_giving 201 = .ok (.ifCond .ne 7, 3) := by decide +kernel
theorem dX12_giving_204 : decode cX12_giving 204 = .ok (.iload_n 3, 1) := by decide +kernel
theorem dX12_giving_205 : decode cX12_giving 205 = .ok (.goto 5, 3) := by decide +kernel
theorem dX12_giving_208 : decode cX12_giving 208 = .ok (.iload 4, 2) := by decide +kernel
theorem dX12_giving_210 : decode cX12_giving 210 = .ok (.ireturn, 1) := by decide +kernel
theorem dX12_findOrder_0 : decode cX12_findOrder 0 = .ok (.iconst 0, 1) := by decide +kernel
theorem dX12_findOrder_1 : decode cX12_findOrder 1 = .ok (.istore_n 1, 1) := by decide +kernel
theorem dX12_findOrder_2 : decode cX12_findOrder 2 = .ok (.iload_n 1, 1) := by decide +kernel
theorem dX12_findOrder_3 : decode cX12_findOrder 3 = .ok (.bipush 64, 2) := by decide +kernel
theorem dX12_findOrder_5 : decode cX12_findOrder 5 = .ok (.if_icmp .ge 173, 3) := by decide +kernel
theorem dX12_findOrder_8 : decode cX12_findOrder 8 = .ok (.aload_n 0, 1) := by decide +kernel
theorem dX12_findOrder_9 : decode cX12_findOrder 9 = .ok (.getfield 28, 3) := by decide +kernel
theorem dX12_findOrder_12 : decode cX12_findOrder 12 = .ok (.iload_n 1, 1) := by decide +kernel
theorem dX12_findOrder_13 : decode cX12_findOrder 13 = .ok (.iload_n 1, 1) := by decide +kernel
theorem dX12_findOrder_14 : decode cX12_findOrder 14 = .ok (.ifCond .ne 7, 3) := by decide +kernel
theorem dX12_findOrder_17 : decode cX12_findOrder 17 = .ok (.iconst 0, 1) := by decide +kernel
theorem dX12_findOrder_18 : decode cX12_findOrder 18 = .ok (.goto 5, 3) := by decide +kernel
theorem dX12_findOrder_21 : decode cX12_findOrder 21 = .ok (.ldc 176, 2) := by decide +kernel
theorem dX12_findOrder_23 : decode cX12_findOrder 23 = .ok (.iastore, 1) := by decide +kernel
theorem dX12_findOrder_24 : decode cX12_findOrder 24 = .ok (.aload_n 0, 1) := by decide +kernel
theorem dX12_findOrder_25 : decode cX12_findOrder 25 = .ok (.getfield 31, 3) := by decide +kernel
theorem dX12_findOrder_28 : decode cX12_findOrder 28 = .ok (.iload_n 1, 1) := by decide +kernel
theorem dX12_findOrder_29 : decode cX12_findOrder 29 = .ok (.bipush (-4), 2) := by decide +kernel
theorem dX12_findOrder_31 : decode cX12_findOrder 31 = .ok (.iastore, 1) := by decide +kernel
theorem dX12_findOrder_32 : decode cX12_findOrder 32 = .ok (.aload_n 0, 1) := by decide +kernel
theorem dX12_findOrder_33 : decode cX12_findOrder 33 = .ok (.getfield 7, 3) := by decide +kernel
theorem dX12_findOrder_36 : decode cX12_findOrder 36 = .ok (.iconst 0, 1) := by decide +kernel
theorem dX12_findOrder_37 : decode cX12_findOrder 37 = .ok (.iaload, 1) := by decide +kernel
theorem dX12_findOrder_38 : decode cX12_findOrder 38 = .ok (.iconst 1, 1) := by decide +kernel
theorem dX12_findOrder_39 : decode cX12_findOrder 39 = .ok (.isub, 1) := by decide +kernel
theorem dX12_findOrder_40 : decode cX12_findOrder 40 = .ok (.istore_n 2, 1) := by decide +kernel
theorem dX12_findOrder_41 : decode cX12_findOrder 41 = .ok (.iload_n 2, 1) := by decide +kernel
theorem dX12_findOrder_42 : decode cX12_findOrder 42 = .ok (.ifCond .lt 130, 3) := by decide +kernel
theorem dX12_findOrder_45 : decode cX12_findOrder 45 = .ok (.iload_n 1, 1) := by decide +kernel
theorem dX12_findOrder_46 : decode cX12_findOrder 46 = .ok (.iconst 1, 1) := by decide +kernel
theorem dX12_findOrder_47 : decode cX12_findOrder 47 = .ok (.iload_n 2, 1) := by decide +kernel
theorem dX12_findOrder_48 : decode cX12_findOrder 48 = .ok (.ishl, 1) := by decide +kernel
theorem dX12_findOrder_49 : decode cX12_findOrder 49 = .ok (.iconst (-1), 1) := by decide +kernel
theorem dX12_findOrder_50 : decode cX12_findOrder 50 = .ok (.ixor, 1) := by decide +kernel
theorem dX12_findOrder_51 : decode cX12_findOrder 51 = .ok (.iand, 1) := by decide +kernel
theorem dX12_findOrder_52 : decode cX12_findOrder 52 = .ok (.istore_n 3, 1) := by decide +kernel
theorem dX12_findOrder_53 : decode cX12_findOrder 53 = .ok (.iload_n 1, 1) := by decide +kernel
theorem dX12_findOrder_54 : decode cX12_findOrder 54 = .ok (.iload_n 2, 1) := by decide +kernel
theorem dX12_findOrder_55 : decode cX12_findOrder 55 = .ok (.invokestatic 114, 3) := by decide +kernel
theorem dX12_findOrder_58 : decode cX12_findOrder 58 = .ok (.ifCond .eq 108, 3) := by decide +kernel
theorem dX12_findOrder_61 : decode cX12_findOrder 61 = .ok (.aload_n 0, 1) := by decide +kernel
theorem dX12_findOrder_62 : decode cX12_findOrder 62 = .ok (.iload_n 3, 1) := by decide +kernel
theorem dX12_findOrder_63 : decode cX12_findOrder 63 = .ok (.invokevirtual 160, 3) := by decide +kernel
theorem dX12_findOrder_66 : decode cX12_findOrder 66 = .ok (.ifCond .ne 100, 3) := by decide +kernel
theorem dX12_findOrder_69 : decode cX12_findOrder 69 = .ok (.aload_n 0, 1) := by decide +kernel
theorem dX12_findOrder_70 : decode cX12_findOrder 70 = .ok (.getfield 28, 3) := by decide +kernel
theorem dX12_findOrder_73 : decode cX12_findOrder 73 = .ok (.iload_n 3, 1) := by decide +kernel
theorem dX12_findOrder_74 : decode cX12_findOrder 74 = .ok (.iaload, 1) := by decide +kernel
theorem dX12_findOrder_75 : decode cX12_findOrder 75 = .ok (.ldc 176, 2) := by decide +kernel
theorem dX12_findOrder_77 : decode cX12_findOrder 77 = .ok (.if_icmp .eq 89, 3) := by decide +kernel
theorem dX12_findOrder_80 : decode cX12_findOrder 80 = .ok (.aload_n 0, 1) := by decide +kernel
theorem dX12_findOrder_81 : decode cX12_findOrder 81 = .ok (.iload_n 2, 1) := by decide +kernel
theorem dX12_findOrder_82 : decode cX12_findOrder 82 = .ok (.aload_n 0, 1) := by decide +kernel
theorem dX12_findOrder_83 : decode cX12_findOrder 83 = .ok (.iconst 0, 1) := by decide +kernel
theorem dX12_findOrder_84 : decode cX12_findOrder 84 = .ok (.iload_n 2, 1) := by decide +kernel
theorem dX12_findOrder_85 : decode cX12_findOrder 85 = .ok (.bipush (-4), 2) := by decide +kernel
theorem dX12_findOrder_87 : decode cX12_findOrder 87 = .ok (.invokevirtual 130, 3) := by decide +kernel
theorem dX12_findOrder_90 : decode cX12_findOrder 90 = .ok (.aload_n 0, 1) := by decide +kernel
theorem dX12_findOrder_91 : decode cX12_findOrder 91 = .ok (.iload_n 1, 1) := by decide +kernel
theorem dX12_findOrder_92 : decode cX12_findOrder 92 = .ok (.iload_n 2, 1) := by decide +kernel
theorem dX12_findOrder_93 : decode cX12_findOrder 93 = .ok (.bipush (-4), 2) := by decide +kernel
theorem dX12_findOrder_95 : decode cX12_findOrder 95 = .ok (.invokevirtual 134, 3) := by decide +kernel
theorem dX12_findOrder_98 : decode cX12_findOrder 98 = .ok (.iadd, 1) := by decide +kernel
theorem dX12_findOrder_99 : decode cX12_findOrder 99 = .ok (.invokevirtual 137, 3) := by decide +kernel
theorem dX12_findOrder_102 : decode cX12_findOrder 102 = .ok (.aload_n 0, 1) := by decide +kernel
theorem dX12_findOrder_103 : decode cX12_findOrder 103 = .ok (.getfield 28, 3) := by decide +kernel
theorem dX12_findOrder_106 : decode cX12_findOrder 106 = .ok (.iload_n 3, 1) := by decide +kernel
theorem dX12_findOrder_107 : decode cX12_findOrder 107 = .ok (.iaload, 1) := by decide +kernel
theorem dX12_findOrder_108 : decode cX12_findOrder 108 = .ok (.iadd, 1) := by decide +kernel
theorem dX12_findOrder_109 : decode cX12_findOrder 109 = .ok (.istore 4, 2) := by decide +kernel
theorem dX12_findOrder_111 : decode cX12_findOrder 111 = .ok (.aload_n 0, 1) := by decide +kernel
theorem dX12_findOrder_112 : decode cX12_findOrder 112 = .ok (.getfield 31, 3) := by decide +kernel
theorem dX12_findOrder_115 : decode cX12_findOrder 115 = .ok (.iload_n 1, 1) := by decide +kernel
theorem dX12_findOrder_116 : decode cX12_findOrder 116 = .ok (.iload 4, 2) := by decide +kernel
theorem dX12_findOrder_118 : decode cX12_findOrder 118 = .ok (.aload_n 0, 1) := by decide +kernel
theorem dX12_findOrder_119 : decode cX12_findOrder 119 = .ok (.getfield 28, 3) := by decide +kernel
theorem dX12_findOrder_122 : decode cX12_findOrder 122 = .ok (.iload_n 1, 1) := by decide +kernel
theorem dX12_findOrder_123 : decode cX12_findOrder 123 = .ok (.iaload, 1) := by decide +kernel
theorem dX12_findOrder_124 : decode cX12_findOrder 124 = .ok (.if_icmp .gt 7, 3) := by decide +kernel
theorem dX12_findOrder_127 : decode cX12_findOrder 127 = .ok (.iload_n 2, 1) := by decide +kernel
theorem dX12_findOrder_128 : decode cX12_findOrder 128 = .ok (.goto 9, 3) := by decide +kernel
theorem dX12_findOrder_131 : decode cX12_findOrder 131 = .ok (.aload_n 0, 1) := by decide +kernel
theorem dX12_findOrder_132 : decode cX12_findOrder 132 = .ok (.getfield 31, 3) := by decide +kernel
theorem dX12_findOrder_135 : decode cX12_findOrder 135 = .ok (.iload_n 1, 1) := by decide +kernel
theorem dX12_findOrder_136 : decode cX12_findOrder 136 = .ok (.iaload, 1) := by decide +kernel
theorem dX12_findOrder_137 : decode cX12_findOrder 137 = .ok (.iastore, 1) := by decide +kernel
theorem dX12_findOrder_138 : decode cX12_findOrder 138 = .ok (.aload_n 0, 1) := by decide +kernel
theorem dX12_findOrder_139 : decode cX12_findOrder 139 = .ok (.getfield 28, 3) := by decide +kernel
theorem dX12_findOrder_142 : decode cX12_findOrder 142 = .ok (.iload_n 1, 1) := by decide +kernel
theorem dX12_findOrder_143 : decode cX12_findOrder 143 = .ok (.iload 4, 2) := by decide +kernel
theorem dX12_findOrder_145 : decode cX12_findOrder 145 = .ok (.aload_n 0, 1) := by decide +kernel
theorem dX12_findOrder_146 : decode cX12_findOrder 146 = .ok (.getfield 28, 3) := by decide +kernel
theorem dX12_findOrder_149 : decode cX12_findOrder 149 = .ok (.iload_n 1, 1) := by decide +kernel
theorem dX12_findOrder_150 : decode cX12_findOrder 150 = .ok (.iaload, 1) := by decide +kernel
theorem dX12_findOrder_151 : decode cX12_findOrder 151 = .ok (.if_icmp .ge 8, 3) := by decide +kernel
theorem dX12_findOrder_154 : decode cX12_findOrder 154 = .ok (.iload 4, 2) := by decide +kernel
theorem dX12_findOrder_156 : decode cX12_findOrder 156 = .ok (.goto 9, 3) := by decide +kernel
theorem dX12_findOrder_159 : decode cX12_findOrder 159 = .ok (.aload_n 0, 1) := by decide +kernel
theorem dX12_findOrder_160 : decode cX12_findOrder 160 = .ok (.getfield 28, 3) := by decide +kernel
theorem dX12_findOrder_163 : decode cX12_findOrder 163 = .ok (.iload_n 1, 1) := by decide +kernel
theorem dX12_findOrder_164 : decode cX12_findOrder 164 = .ok (.iaload, 1) := by decide +kernel
theorem dX12_findOrder_165 : decode cX12_findOrder 165 = .ok (.iastore, 1) := by decide +kernel
theorem dX12_findOrder_166 : decode cX12_findOrder 166 = .ok (.iinc 2 (-1), 3) := by decide +kernel
theorem dX12_findOrder_169 : decode cX12_findOrder 169 = .ok (.goto (-128), 3) := by decide +kernel
theorem dX12_findOrder_172 : decode cX12_findOrder 172 = .ok (.iinc 1 1, 3) := by decide +kernel
theorem dX12_findOrder_175 : decode cX12_findOrder 175 = .ok (.goto (-173), 3) := by decide +kernel
theorem dX12_findOrder_178 : decode cX12_findOrder 178 = .ok (.return_, 1) := by decide +kernel
theorem dX12_order_0 : decode cX12_order 0 = .ok (.iload_n 1, 1) := by decide +kernel
theorem dX12_order_1 : decode cX12_order 1 = .ok (.i2l, 1) := by decide +kernel
theorem dX12_order_2 : decode cX12_order 2 = .ok (.lconst 0, 1) := by decide +kernel
theorem dX12_order_3 : decode cX12_order 3 = .ok (.ldc2_w 177, 3) := by decide +kernel
theorem dX12_order_6 : decode cX12_order 6 = .ok (.invokestatic 62, 3) := by decide +kernel
theorem dX12_order_9 : decode cX12_order 9 = .ok (.ifCond .ne 5, 3) := by decide +kernel
theorem dX12_order_12 : decode cX12_order 12 = .ok (.iconst (-1), 1) := by decide +kernel
theorem dX12_order_13 : decode cX12_order 13 = .ok (.ireturn, 1) := by decide +kernel
theorem dX12_order_14 : decode cX12_order 14 = .ok (.aload_n 0, 1) := by decide +kernel
theorem dX12_order_15 : decode cX12_order 15 = .ok (.invokevirtual 179, 3) := by decide +kernel
theorem dX12_order_18 : decode cX12_order 18 = .ok (.aload_n 0, 1) := by decide +kernel
theorem dX12_order_19 : decode cX12_order 19 = .ok (.getfield 13, 3) := by decide +kernel
theorem dX12_order_22 : decode cX12_order 22 = .ok (.iconst 0, 1) := by decide +kernel
theorem dX12_order_23 : decode cX12_order 23 = .ok (.iaload, 1) := by decide +kernel
theorem dX12_order_24 : decode cX12_order 24 = .ok (.istore_n 2, 1) := by decide +kernel
theorem dX12_order_25 : decode cX12_order 25 = .ok (.iload_n 1, 1) := by decide +kernel
theorem dX12_order_26 : decode cX12_order 26 = .ok (.ifCond .ne 26, 3) := by decide +kernel
theorem dX12_order_29 : decode cX12_order 29 = .ok (.aload_n 0, 1) := by decide +kernel
theorem dX12_order_30 : decode cX12_order 30 = .ok (.getfield 28, 3) := by decide +kernel
theorem dX12_order_33 : decode cX12_order 33 = .ok (.iload_n 2, 1) := by decide +kernel
theorem dX12_order_34 : decode cX12_order 34 = .ok (.iaload, 1) := by decide +kernel
theorem dX12_order_35 : decode cX12_order 35 = .ok (.ldc 176, 2) := by decide +kernel
theorem dX12_order_37 : decode cX12_order 37 = .ok (.if_icmp .ne 8, 3) := by decide +kernel
theorem dX12_order_40 : decode cX12_order 40 = .ok (.bipush (-4), 2) := by decide +kernel
theorem dX12_order_42 : decode cX12_order 42 = .ok (.goto 9, 3) := by decide +kernel
theorem dX12_order_45 : decode cX12_order 45 = .ok (.aload_n 0, 1) := by decide +kernel
theorem dX12_order_46 : decode cX12_order 46 = .ok (.getfield 28, 3) := by decide +kernel
theorem dX12_order_49 : decode cX12_order 49 = .ok (.iload_n 2, 1) := by decide +kernel
theorem dX12_order_50 : decode cX12_order 50 = .ok (.iaload, 1) := by decide +kernel
theorem dX12_order_51 : decode cX12_order 51 = .ok (.ireturn, 1) := by decide +kernel
theorem dX12_order_52 : decode cX12_order 52 = .ok (.bipush (-4), 2) := by decide +kernel
theorem dX12_order_54 : decode cX12_order 54 = .ok (.istore_n 3, 1) := by decide +kernel
theorem dX12_order_55 : decode cX12_order 55 = .ok (.iconst 0, 1) := by decide +kernel
theorem dX12_order_56 : decode cX12_order 56 = .ok (.istore 4, 2) := by decide +kernel
theorem dX12_order_58 : decode cX12_order 58 = .ok (.iload 4, 2) := by decide +kernel
theorem dX12_order_60 : decode cX12_order 60 = .ok (.iload_n 1, 1) := by decide +kernel
theorem dX12_order_61 : decode cX12_order 61 = .ok (.if_icmp .ge 34, 3) := by decide +kernel
theorem dX12_order_64 : decode cX12_order 64 = .ok (.aload_n 0, 1) := by decide +kernel
theorem dX12_order_65 : decode cX12_order 65 = .ok (.getfield 31, 3) := by decide +kernel
theorem dX12_order_68 : decode cX12_order 68 = .ok (.iload_n 2, 1) := by decide +kernel
theorem dX12_order_69 : decode cX12_order 69 = .ok (.iaload, 1) := by decide +kernel
theorem dX12_order_70 : decode cX12_order 70 = .ok (.istore_n 3, 1) := by decide +kernel
theorem dX12_order_71 : decode cX12_order 71 = .ok (.iload_n 2, 1) := by decide +kernel
theorem dX12_order_72 : decode cX12_order 72 = .ok (.iload_n 3, 1) := by decide +kernel
theorem dX12_order_73 : decode cX12_order 73 = .ok (.bipush (-4), 2) := by decide +kernel
theorem dX12_order_75 : decode cX12_order 75 = .ok (.if_icmp .ne 7, 3) := by decide +kernel
theorem dX12_order_78 : decode cX12_order 78 = .ok (.iload_n 2, 1) := by decide +kernel
theorem dX12_order_79 : decode cX12_order 79 = .ok (.goto 8, 3) := by decide +kernel
theorem dX12_order_82 : decode cX12_order 82 = .ok (.iconst 1, 1) := by decide +kernel
theorem dX12_order_83 : decode cX12_order 83 = .ok (.iload_n 3, 1) := by decide +kernel
theorem dX12_order_84 : decode cX12_order 84 = .ok (.ishl, 1) := by decide +kernel
theorem dX12_order_85 : decode cX12_order 85 = .ok (.iconst (-1), 1) := by decide +kernel
theorem dX12_order_86 : decode cX12_order 86 = .ok (.ixor, 1) := by decide +kernel
theorem dX12_order_87 : decode cX12_order 87 = .ok (.iand, 1) := by decide +kernel
theorem dX12_order_88 : decode cX12_order 88 = .ok (.istore_n 2, 1) := by decide +kernel
theorem dX12_order_89 : decode cX12_order 89 = .ok (.iinc 4 1, 3) := by decide +kernel
theorem dX12_order_92 : decode cX12_order 92 = .ok (.goto (-34), 3) := by decide +kernel
theorem dX12_order_95 : decode cX12_order 95 = .ok (.iload_n 3, 1) := by decide +kernel
theorem dX12_order_96 : decode cX12_order 96 = .ok (.ireturn, 1) := by decide +kernel
theorem dX12_stuck_0 : decode cX12_stuck 0 = .ok (.iconst 0, 1) := by decide +kernel
theorem dX12_stuck_1 : decode cX12_stuck 1 = .ok (.istore_n 1, 1) := by decide +kernel
theorem dX12_stuck_2 : decode cX12_stuck 2 = .ok (.iconst 0, 1) := by decide +kernel
theorem dX12_stuck_3 : decode cX12_stuck 3 = .ok (.istore_n 2, 1) := by decide +kernel
theorem dX12_stuck_4 : decode cX12_stuck 4 = .ok (.iload_n 2, 1) := by decide +kernel
theorem dX12_stuck_5 : decode cX12_stuck 5 = .ok (.aload_n 0, 1) := by decide +kernel
theorem dX12_stuck_6 : decode cX12_stuck 6 = .ok (.getfield 7, 3) := by decide +kernel
theorem dX12_stuck_9 : decode cX12_stuck 9 = .ok (.iconst 0, 1) := by decide +kernel
theorem dX12_stuck_10 : decode cX12_stuck 10 = .ok (.iaload, 1) := by decide +kernel
theorem dX12_stuck_11 : decode cX12_stuck 11 = .ok (.if_icmp .ge 36, 3) := by decide +kernel
theorem dX12_stuck_14 : decode cX12_stuck 14 = .ok (.iload_n 1, 1) := by decide +kernel
theorem dX12_stuck_15 : decode cX12_stuck 15 = .ok (.aload_n 0, 1) := by decide +kernel
theorem dX12_stuck_16 : decode cX12_stuck 16 = .ok (.iload_n 2, 1) := by decide +kernel
theorem dX12_stuck_17 : decode cX12_stuck 17 = .ok (.invokevirtual 118, 3) := by decide +kernel
theorem dX12_stuck_20 : decode cX12_stuck 20 = .ok (.ifCond .eq 18, 3) := by decide +kernel
theorem dX12_stuck_23 : decode cX12_stuck 23 = .ok (.aload_n 0, 1) := by decide +kernel
theorem dX12_stuck_24 : decode cX12_stuck 24 = .ok (.iconst 0, 1) := by decide +kernel
theorem dX12_stuck_25 : decode cX12_stuck 25 = .ok (.iload_n 2, 1) := by decide +kernel
theorem dX12_stuck_26 : decode cX12_stuck 26 = .ok (.invokevirtual 163, 3) := by decide +kernel
theorem dX12_stuck_29 : decode cX12_stuck 29 = .ok (.ifCond .ne 9, 3) := by decide +kernel
theorem dX12_stuck_32 : decode cX12_stuck 32 = .ok (.iconst 1, 1) := by decide +kernel
theorem dX12_stuck_33 : decode cX12_stuck 33 = .ok (.iload_n 2, 1) := by decide +kernel
theorem dX12_stuck_34 : decode cX12_stuck 34 = .ok (.ishl, 1) := by decide +kernel
theorem dX12_stuck_35 : decode cX12_stuck 35 = .ok (.goto 4, 3) := by decide +kernel
theorem dX12_stuck_38 : decode cX12_stuck 38 = .ok (.iconst 0, 1) := by decide +kernel
theorem dX12_stuck_39 : decode cX12_stuck 39 = .ok (.ior, 1) := by decide +kernel
theorem dX12_stuck_40 : decode cX12_stuck 40 = .ok (.istore_n 1, 1) := by decide +kernel
theorem dX12_stuck_41 : decode cX12_stuck 41 = .ok (.iinc 2 1, 3) := by decide +kernel
theorem dX12_stuck_44 : decode cX12_stuck 44 = .ok (.goto (-40), 3) := by decide +kernel
theorem dX12_stuck_47 : decode cX12_stuck 47 = .ok (.iload_n 1, 1) := by decide +kernel
theorem dX12_stuck_48 : decode cX12_stuck 48 = .ok (.ireturn, 1) := by decide +kernel
theorem dX12_swear_0 : decode cX12_swear 0 = .ok (.aload_n 0, 1) := by decide +kernel
theorem dX12_swear_1 : decode cX12_swear 1 = .ok (.iload_n 1, 1) := by decide +kernel
theorem dX12_swear_2 : decode cX12_swear 2 = .ok (.invokevirtual 111, 3) := by decide +kernel
theorem dX12_swear_5 : decode cX12_swear 5 = .ok (.ifCond .eq 15, 3) := by decide +kernel
theorem dX12_swear_8 : decode cX12_swear 8 = .ok (.iload_n 2, 1) := by decide +kernel
theorem dX12_swear_9 : decode cX12_swear 9 = .ok (.i2l, 1) := by decide +kernel
theorem dX12_swear_10 : decode cX12_swear 10 = .ok (.lconst 0, 1) := by decide +kernel
theorem dX12_swear_11 : decode cX12_swear 11 = .ok (.ldc2_w 182, 3) := by decide +kernel
theorem dX12_swear_14 : decode cX12_swear 14 = .ok (.invokestatic 62, 3) := by decide +kernel
theorem dX12_swear_17 : decode cX12_swear 17 = .ok (.ifCond .ne 5, 3) := by decide +kernel
theorem dX12_swear_20 : decode cX12_swear 20 = .ok (.iconst (-1), 1) := by decide +kernel
theorem dX12_swear_21 : decode cX12_swear 21 = .ok (.ireturn, 1) := by decide +kernel
theorem dX12_swear_22 : decode cX12_swear 22 = .ok (.aload_n 0, 1) := by decide +kernel
theorem dX12_swear_23 : decode cX12_swear 23 = .ok (.iload_n 1, 1) := by decide +kernel
theorem dX12_swear_24 : decode cX12_swear 24 = .ok (.invokevirtual 118, 3) := by decide +kernel
theorem dX12_swear_27 : decode cX12_swear 27 = .ok (.ifCond .ne 6, 3) := by decide +kernel
theorem dX12_swear_30 : decode cX12_swear 30 = .ok (.bipush (-2), 2) := by decide +kernel
theorem dX12_swear_32 : decode cX12_swear 32 = .ok (.ireturn, 1) := by decide +kernel
theorem dX12_swear_33 : decode cX12_swear 33 = .ok (.aload_n 0, 1) := by decide +kernel
theorem dX12_swear_34 : decode cX12_swear 34 = .ok (.getfield 75, 3) := by decide +kernel
theorem dX12_swear_37 : decode cX12_swear 37 = .ok (.bipush 6, 2) := by decide +kernel
theorem dX12_swear_39 : decode cX12_swear 39 = .ok (.if_icmp .ne 6, 3) := by decide +kernel
theorem dX12_swear_42 : decode cX12_swear 42 = .ok (.bipush (-3), 2) := by decide +kernel
theorem dX12_swear_44 : decode cX12_swear 44 = .ok (.ireturn, 1) := by decide +kernel
theorem dX12_swear_45 : decode cX12_swear 45 = .ok (.aload_n 0, 1) := by decide +kernel
theorem dX12_swear_46 : decode cX12_swear 46 = .ok (.getfield 16, 3) := by decide +kernel
theorem dX12_swear_49 : decode cX12_swear 49 = .ok (.aload_n 0, 1) := by decide +kernel
theorem dX12_swear_50 : decode cX12_swear 50 = .ok (.getfield 75, 3) := by decide +kernel
theorem dX12_swear_53 : decode cX12_swear 53 = .ok (.iload_n 1, 1) := by decide +kernel
theorem dX12_swear_54 : decode cX12_swear 54 = .ok (.iastore, 1) := by decide +kernel
theorem dX12_swear_55 : decode cX12_swear 55 = .ok (.aload_n 0, 1) := by decide +kernel
theorem dX12_swear_56 : decode cX12_swear 56 = .ok (.getfield 19, 3) := by decide +kernel
theorem dX12_swear_59 : decode cX12_swear 59 = .ok (.aload_n 0, 1) := by decide +kernel
theorem dX12_swear_60 : decode cX12_swear 60 = .ok (.getfield 75, 3) := by decide +kernel
theorem dX12_swear_63 : decode cX12_swear 63 = .ok (.iload_n 2, 1) := by decide +kernel
theorem dX12_swear_64 : decode cX12_swear 64 = .ok (.iastore, 1) := by decide +kernel
theorem dX12_swear_65 : decode cX12_swear 65 = .ok (.aload_n 0, 1) := by decide +kernel
theorem dX12_swear_66 : decode cX12_swear 66 = .ok (.dup, 1) := by decide +kernel
theorem dX12_swear_67 : decode cX12_swear 67 = .ok (.getfield 75, 3) := by decide +kernel
theorem dX12_swear_70 : decode cX12_swear 70 = .ok (.iconst 1, 1) := by decide +kernel
theorem dX12_swear_71 : decode cX12_swear 71 = .ok (.iadd, 1) := by decide +kernel
theorem dX12_swear_72 : decode cX12_swear 72 = .ok (.putfield 75, 3) := by decide +kernel
theorem dX12_swear_75 : decode cX12_swear 75 = .ok (.aload_n 0, 1) := by decide +kernel
theorem dX12_swear_76 : decode cX12_swear 76 = .ok (.getfield 75, 3) := by decide +kernel
theorem dX12_swear_79 : decode cX12_swear 79 = .ok (.ireturn, 1) := by decide +kernel
theorem dX12_forget_0 : decode cX12_forget 0 = .ok (.aload_n 0, 1) := by decide +kernel
theorem dX12_forget_1 : decode cX12_forget 1 = .ok (.getfield 75, 3) := by decide +kernel
theorem dX12_forget_4 : decode cX12_forget 4 = .ok (.istore_n 1, 1) := by decide +kernel
theorem dX12_forget_5 : decode cX12_forget 5 = .ok (.aload_n 0, 1) := by decide +kernel
theorem dX12_forget_6 : decode cX12_forget 6 = .ok (.iconst 0, 1) := by decide +kernel
theorem dX12_forget_7 : decode cX12_forget 7 = .ok (.putfield 75, 3) := by decide +kernel
theorem dX12_forget_10 : decode cX12_forget 10 = .ok (.iload_n 1, 1) := by decide +kernel
theorem dX12_forget_11 : decode cX12_forget 11 = .ok (.ireturn, 1) := by decide +kernel
theorem dX12_isFalse_0 : decode cX12_isFalse 0 = .ok (.iload_n 1, 1) := by decide +kernel
theorem dX12_isFalse_1 : decode cX12_isFalse 1 = .ok (.i2l, 1) := by decide +kernel
theorem dX12_isFalse_2 : decode cX12_isFalse 2 = .ok (.lconst 0, 1) := by decide +kernel
theorem dX12_isFalse_3 : decode cX12_isFalse 3 = .ok (.aload_n 0, 1) := by decide +kernel
theorem dX12_isFalse_4 : decode cX12_isFalse 4 = .ok (.getfield 75, 3) := by decide +kernel
theorem dX12_isFalse_7 : decode cX12_isFalse 7 = .ok (.iconst 1, 1) := by decide +kernel
theorem dX12_isFalse_8 : decode cX12_isFalse 8 = .ok (.isub, 1) := by decide +kernel
theorem dX12_isFalse_9 : decode cX12_isFalse 9 = .ok (.i2l, 1) := by decide +kernel
theorem dX12_isFalse_10 : decode cX12_isFalse 10 = .ok (.invokestatic 62, 3) := by decide +kernel
theorem dX12_isFalse_13 : decode cX12_isFalse 13 = .ok (.ifCond .ne 5, 3) := by decide +kernel
theorem dX12_isFalse_16 : decode cX12_isFalse 16 = .ok (.iconst (-1), 1) := by decide +kernel
theorem dX12_isFalse_17 : decode cX12_isFalse 17 = .ok (.ireturn, 1) := by decide +kernel
theorem dX12_isFalse_18 : decode cX12_isFalse 18 = .ok (.aload_n 0, 1) := by decide +kernel
theorem dX12_isFalse_19 : decode cX12_isFalse 19 = .ok (.getfield 16, 3) := by decide +kernel
theorem dX12_isFalse_22 : decode cX12_isFalse 22 = .ok (.iload_n 1, 1) := by decide +kernel
theorem dX12_isFalse_23 : decode cX12_isFalse 23 = .ok (.iaload, 1) := by decide +kernel
theorem dX12_isFalse_24 : decode cX12_isFalse 24 = .ok (.istore_n 2, 1) := by decide +kernel
theorem dX12_isFalse_25 : decode cX12_isFalse 25 = .ok (.aload_n 0, 1) := by decide +kernel
theorem dX12_isFalse_26 : decode cX12_isFalse 26 = .ok (.iload_n 2, 1) := by decide +kernel
theorem dX12_isFalse_27 : decode cX12_isFalse 27 = .ok (.invokevirtual 118, 3) := by decide +kernel
theorem dX12_isFalse_30 : decode cX12_isFalse 30 = .ok (.ifCond .ne 6, 3) := by decide +kernel
theorem dX12_isFalse_33 : decode cX12_isFalse 33 = .ok (.bipush (-2), 2) := by decide +kernel
theorem dX12_isFalse_35 : decode cX12_isFalse 35 = .ok (.ireturn, 1) := by decide +kernel
theorem dX12_isFalse_36 : decode cX12_isFalse 36 = .ok (.aload_n 0, 1) := by decide +kernel
theorem dX12_isFalse_37 : decode cX12_isFalse 37 = .ok (.aload_n 0, 1) := by decide +kernel
theorem dX12_isFalse_38 : decode cX12_isFalse 38 = .ok (.getfield 13, 3) := by decide +kernel
theorem dX12_isFalse_41 : decode cX12_isFalse 41 = .ok (.iconst 0, 1) := by decide +kernel
theorem dX12_isFalse_42 : decode cX12_isFalse 42 = .ok (.iaload, 1) := by decide +kernel
theorem dX12_isFalse_43 : decode cX12_isFalse 43 = .ok (.iload_n 2, 1) := by decide +kernel
theorem dX12_isFalse_44 : decode cX12_isFalse 44 = .ok (.bipush (-4), 2) := by decide +kernel
theorem dX12_isFalse_46 : decode cX12_isFalse 46 = .ok (.invokevirtual 134, 3) := by decide +kernel
theorem dX12_isFalse_49 : decode cX12_isFalse 49 = .ok (.istore_n 3, 1) := by decide +kernel
theorem dX12_isFalse_50 : decode cX12_isFalse 50 = .ok (.aload_n 0, 1) := by decide +kernel
theorem dX12_isFalse_51 : decode cX12_isFalse 51 = .ok (.iload_n 2, 1) := by decide +kernel
theorem dX12_isFalse_52 : decode cX12_isFalse 52 = .ok (.invokevirtual 144, 3) := by decide +kernel
theorem dX12_isFalse_55 : decode cX12_isFalse 55 = .ok (.aload_n 0, 1) := by decide +kernel
theorem dX12_isFalse_56 : decode cX12_isFalse 56 = .ok (.getfield 19, 3) := by decide +kernel
theorem dX12_isFalse_59 : decode cX12_isFalse 59 = .ok (.iload_n 1, 1) := by decide +kernel
theorem dX12_isFalse_60 : decode cX12_isFalse 60 = .ok (.iaload, 1) := by decide +kernel
theorem dX12_isFalse_61 : decode cX12_isFalse 61 = .ok (.if_icmp .ne 9, 3) := by decide +kernel
theorem dX12_isFalse_64 : decode cX12_isFalse 64 = .ok (.sipush 256, 3) := by decide +kernel
theorem dX12_isFalse_67 : decode cX12_isFalse 67 = .ok (.goto 4, 3) := by decide +kernel
theorem dX12_isFalse_70 : decode cX12_isFalse 70 = .ok (.iconst 0, 1) := by decide +kernel
theorem dX12_isFalse_71 : decode cX12_isFalse 71 = .ok (.istore 4, 2) := by decide +kernel
theorem dX12_isFalse_73 : decode cX12_isFalse 73 = .ok (.iconst 0, 1) := by decide +kernel
theorem dX12_isFalse_74 : decode cX12_isFalse 74 = .ok (.istore 5, 2) := by decide +kernel
theorem dX12_isFalse_76 : decode cX12_isFalse 76 = .ok (.iload 5, 2) := by decide +kernel
theorem dX12_isFalse_78 : decode cX12_isFalse 78 = .ok (.aload_n 0, 1) := by decide +kernel
theorem dX12_isFalse_79 : decode cX12_isFalse 79 = .ok (.getfield 7, 3) := by decide +kernel
theorem dX12_isFalse_82 : decode cX12_isFalse 82 = .ok (.iconst 1, 1) := by decide +kernel
theorem dX12_isFalse_83 : decode cX12_isFalse 83 = .ok (.iaload, 1) := by decide +kernel
theorem dX12_isFalse_84 : decode cX12_isFalse 84 = .ok (.if_icmp .ge 85, 3) := by decide +kernel
theorem dX12_isFalse_87 : decode cX12_isFalse 87 = .ok (.aload_n 0, 1) := by decide +kernel
theorem dX12_isFalse_88 : decode cX12_isFalse 88 = .ok (.getfield 13, 3) := by decide +kernel
theorem dX12_isFalse_91 : decode cX12_isFalse 91 = .ok (.bipush 19, 2) := by decide +kernel
theorem dX12_isFalse_93 : decode cX12_isFalse 93 = .ok (.iload 5, 2) := by decide +kernel
theorem dX12_isFalse_95 : decode cX12_isFalse 95 = .ok (.iadd, 1) := by decide +kernel
theorem dX12_isFalse_96 : decode cX12_isFalse 96 = .ok (.iaload, 1) := by decide +kernel
theorem dX12_isFalse_97 : decode cX12_isFalse 97 = .ok (.iload_n 2, 1) := by decide +kernel
theorem dX12_isFalse_98 : decode cX12_isFalse 98 = .ok (.if_icmp .ne 20, 3) := by decide +kernel
theorem dX12_isFalse_101 : decode cX12_isFalse 101 = .ok (.aload_n 0, 1) := by decide +kernel
theorem dX12_isFalse_102 : decode cX12_isFalse 102 = .ok (.getfield 13, 3) := by decide +kernel
theorem dX12_isFalse_105 : decode cX12_isFalse 105 = .ok (.bipush 27, 2) := by decide +kernel
theorem dX12_isFalse_107 : decode cX12_isFalse 107 = .ok (.iload 5, 2) := by decide +kernel
theorem dX12_isFalse_109 : decode cX12_isFalse 109 = .ok (.iadd, 1) := by decide +kernel
theorem dX12_isFalse_110 : decode cX12_isFalse 110 = .ok (.iaload, 1) := by decide +kernel
theorem dX12_isFalse_111 : decode cX12_isFalse 111 = .ok (.ifCond .ne 7, 3) := by decide +kernel
theorem dX12_isFalse_114 : decode cX12_isFalse 114 = .ok (.iconst 1, 1) := by decide +kernel
theorem dX12_isFalse_115 : decode cX12_isFalse 115 = .ok (.goto 4, 3) := by decide +kernel
theorem dX12_isFalse_118 : decode cX12_isFalse 118 = .ok (.iconst 0, 1) := by decide +kernel
theorem dX12_isFalse_119 : decode cX12_isFalse 119 = .ok (.istore 6, 2) := by decide +kernel
theorem dX12_isFalse_121 : decode cX12_isFalse 121 = .ok (.iload 4, 2) := by decide +kernel
theorem dX12_isFalse_123 : decode cX12_isFalse 123 = .ok (.iload 6, 2) := by decide +kernel
theorem dX12_isFalse_125 : decode cX12_isFalse 125 = .ok (.ifCond .eq 34, 3) := by decide +kernel
theorem dX12_isFalse_128 : decode cX12_isFalse 128 = .ok (.aload_n 0, 1) := by decide +kernel
theorem dX12_isFalse_129 : decode cX12_isFalse 129 = .ok (.iload_n 2, 1) := by decide +kernel
theorem dX12_isFalse_130 : decode cX12_isFalse 130 = .ok (.aload_n 0, 1) := by decide +kernel
theorem dX12_isFalse_131 : decode cX12_isFalse 131 = .ok (.iconst 0, 1) := by decide +kernel
theorem dX12_isFalse_132 : decode cX12_isFalse 132 = .ok (.iload_n 2, 1) := by decide +kernel
theorem dX12_isFalse_133 : decode cX12_isFalse 133 = .ok (.iload 5, 2) := by decide +kernel
theorem dX12_isFalse_135 : decode cX12_isFalse 135 = .ok (.invokevirtual 130, 3) := by decide +kernel
theorem dX12_isFalse_138 : decode cX12_isFalse 138 = .ok (.iload_n 3, 1) := by decide +kernel
theorem dX12_isFalse_139 : decode cX12_isFalse 139 = .ok (.iadd, 1) := by decide +kernel
theorem dX12_isFalse_140 : decode cX12_isFalse 140 = .ok (.invokevirtual 137, 3) := by decide +kernel
theorem dX12_isFalse_143 : decode cX12_isFalse 143 = .ok (.aload_n 0, 1) := by decide +kernel
theorem dX12_isFalse_144 : decode cX12_isFalse 144 = .ok (.getfield 19, 3) := by decide +kernel
theorem dX12_isFalse_147 : decode cX12_isFalse 147 = .ok (.iload_n 1, 1) := by decide +kernel
theorem dX12_isFalse_148 : decode cX12_isFalse 148 = .ok (.iaload, 1) := by decide +kernel
theorem dX12_isFalse_149 : decode cX12_isFalse 149 = .ok (.if_icmp .ne 10, 3) := by decide +kernel
theorem dX12_isFalse_152 : decode cX12_isFalse 152 = .ok (.iconst 1, 1) := by decide +kernel
theorem dX12_isFalse_153 : decode cX12_isFalse 153 = .ok (.iload 5, 2) := by decide +kernel
theorem dX12_isFalse_155 : decode cX12_isFalse 155 = .ok (.ishl, 1) := by decide +kernel
theorem dX12_isFalse_156 : decode cX12_isFalse 156 = .ok (.goto 4, 3) := by decide +kernel
theorem dX12_isFalse_159 : decode cX12_isFalse 159 = .ok (.iconst 0, 1) := by decide +kernel
theorem dX12_isFalse_160 : decode cX12_isFalse 160 = .ok (.ior, 1) := by decide +kernel
theorem dX12_isFalse_161 : decode cX12_isFalse 161 = .ok (.istore 4, 2) := by decide +kernel
theorem dX12_isFalse_163 : decode cX12_isFalse 163 = .ok (.iinc 5 1, 3) := by decide +kernel
theorem dX12_isFalse_166 : decode cX12_isFalse 166 = .ok (.goto (-90), 3) := by decide +kernel
theorem dX12_isFalse_169 : decode cX12_isFalse 169 = .ok (.iload 4, 2) := by decide +kernel
theorem dX12_isFalse_171 : decode cX12_isFalse 171 = .ok (.ireturn, 1) := by decide +kernel
theorem dX12_loved_0 : decode cX12_loved 0 = .ok (.iload_n 1, 1) := by decide +kernel
theorem dX12_loved_1 : decode cX12_loved 1 = .ok (.i2l, 1) := by decide +kernel
theorem dX12_loved_2 : decode cX12_loved 2 = .ok (.lconst 0, 1) := by decide +kernel
theorem dX12_loved_3 : decode cX12_loved 3 = .ok (.aload_n 0, 1) := by decide +kernel
theorem dX12_loved_4 : decode cX12_loved 4 = .ok (.getfield 75, 3) := by decide +kernel
theorem dX12_loved_7 : decode cX12_loved 7 = .ok (.iconst 1, 1) := by decide +kernel
theorem dX12_loved_8 : decode cX12_loved 8 = .ok (.isub, 1) := by decide +kernel
theorem dX12_loved_9 : decode cX12_loved 9 = .ok (.i2l, 1) := by decide +kernel
theorem dX12_loved_10 : decode cX12_loved 10 = .ok (.invokestatic 62, 3) := by decide +kernel
theorem dX12_loved_13 : decode cX12_loved 13 = .ok (.ifCond .eq 27, 3) := by decide +kernel
theorem dX12_loved_16 : decode cX12_loved 16 = .ok (.aload_n 0, 1) := by decide +kernel
theorem dX12_loved_17 : decode cX12_loved 17 = .ok (.aload_n 0, 1) := by decide +kernel
theorem dX12_loved_18 : decode cX12_loved 18 = .ok (.getfield 16, 3) := by decide +kernel
theorem dX12_loved_21 : decode cX12_loved 21 = .ok (.iload_n 1, 1) := by decide +kernel
theorem dX12_loved_22 : decode cX12_loved 22 = .ok (.iaload, 1) := by decide +kernel
theorem dX12_loved_23 : decode cX12_loved 23 = .ok (.iload_n 2, 1) := by decide +kernel
theorem dX12_loved_24 : decode cX12_loved 24 = .ok (.invokevirtual 124, 3) := by decide +kernel
theorem dX12_loved_27 : decode cX12_loved 27 = .ok (.ifCond .eq 13, 3) := by decide +kernel
theorem dX12_loved_30 : decode cX12_loved 30 = .ok (.iload_n 3, 1) := by decide +kernel
theorem dX12_loved_31 : decode cX12_loved 31 = .ok (.i2l, 1) := by decide +kernel
theorem dX12_loved_32 : decode cX12_loved 32 = .ok (.lconst 0, 1) := by decide +kernel
theorem dX12_loved_33 : decode cX12_loved 33 = .ok (.lconst 1, 1) := by decide +kernel
theorem dX12_loved_34 : decode cX12_loved 34 = .ok (.invokestatic 62, 3) := by decide +kernel
theorem dX12_loved_37 : decode cX12_loved 37 = .ok (.ifCond .ne 5, 3) := by decide +kernel
theorem dX12_loved_40 : decode cX12_loved 40 = .ok (.iconst (-1), 1) := by decide +kernel
theorem dX12_loved_41 : decode cX12_loved 41 = .ok (.ireturn, 1) := by decide +kernel
theorem dX12_loved_42 : decode cX12_loved 42 = .ok (.aload_n 0, 1) := by decide +kernel
theorem dX12_loved_43 : decode cX12_loved 43 = .ok (.getfield 16, 3) := by decide +kernel
theorem dX12_loved_46 : decode cX12_loved 46 = .ok (.iload_n 1, 1) := by decide +kernel
theorem dX12_loved_47 : decode cX12_loved 47 = .ok (.iaload, 1) := by decide +kernel
theorem dX12_loved_48 : decode cX12_loved 48 = .ok (.istore 4, 2) := by decide +kernel
theorem dX12_loved_50 : decode cX12_loved 50 = .ok (.aload_n 0, 1) := by decide +kernel
theorem dX12_loved_51 : decode cX12_loved 51 = .ok (.iload 4, 2) := by decide +kernel
theorem dX12_loved_53 : decode cX12_loved 53 = .ok (.invokevirtual 118, 3) := by decide +kernel
theorem dX12_loved_56 : decode cX12_loved 56 = .ok (.ifCond .eq 11, 3) := by decide +kernel
theorem dX12_loved_59 : decode cX12_loved 59 = .ok (.aload_n 0, 1) := by decide +kernel
theorem dX12_loved_60 : decode cX12_loved 60 = .ok (.iload_n 2, 1) := by decide +kernel
theorem dX12_loved_61 : decode cX12_loved 61 = .ok (.invokevirtual 118, 3) := by decide +kernel
theorem dX12_loved_64 : decode cX12_loved 64 = .ok (.ifCond .ne 6, 3) := by decide +kernel
theorem dX12_loved_67 : decode cX12_loved 67 = .ok (.bipush (-2), 2) := by decide +kernel
theorem dX12_loved_69 : decode cX12_loved 69 = .ok (.ireturn, 1) := by decide +kernel
theorem dX12_loved_70 : decode cX12_loved 70 = .ok (.aload_n 0, 1) := by decide +kernel
theorem dX12_loved_71 : decode cX12_loved 71 = .ok (.iconst 0, 1) := by decide +kernel
theorem dX12_loved_72 : decode cX12_loved 72 = .ok (.iload 4, 2) := by decide +kernel
theorem dX12_loved_74 : decode cX12_loved 74 = .ok (.bipush (-4), 2) := by decide +kernel
theorem dX12_loved_76 : decode cX12_loved 76 = .ok (.invokevirtual 130, 3) := by decide +kernel
theorem dX12_loved_79 : decode cX12_loved 79 = .ok (.aload_n 0, 1) := by decide +kernel
theorem dX12_loved_80 : decode cX12_loved 80 = .ok (.aload_n 0, 1) := by decide +kernel
theorem dX12_loved_81 : decode cX12_loved 81 = .ok (.getfield 13, 3) := by decide +kernel
theorem dX12_loved_84 : decode cX12_loved 84 = .ok (.iconst 0, 1) := by decide +kernel
theorem dX12_loved_85 : decode cX12_loved 85 = .ok (.iaload, 1) := by decide +kernel
theorem dX12_loved_86 : decode cX12_loved 86 = .ok (.iload 4, 2) := by decide +kernel
theorem dX12_loved_88 : decode cX12_loved 88 = .ok (.bipush (-4), 2) := by decide +kernel
theorem dX12_loved_90 : decode cX12_loved 90 = .ok (.invokevirtual 134, 3) := by decide +kernel
theorem dX12_loved_93 : decode cX12_loved 93 = .ok (.iadd, 1) := by decide +kernel
theorem dX12_loved_94 : decode cX12_loved 94 = .ok (.aload_n 0, 1) := by decide +kernel
theorem dX12_loved_95 : decode cX12_loved 95 = .ok (.getfield 7, 3) := by decide +kernel
theorem dX12_loved_98 : decode cX12_loved 98 = .ok (.bipush 53, 2) := by decide +kernel
theorem dX12_loved_100 : decode cX12_loved 100 = .ok (.bipush 6, 2) := by decide +kernel
theorem dX12_loved_102 : decode cX12_loved 102 = .ok (.iload 4, 2) := by decide +kernel
theorem dX12_loved_104 : decode cX12_loved 104 = .ok (.imul, 1) := by decide +kernel
theorem dX12_loved_105 : decode cX12_loved 105 = .ok (.iadd, 1) := by decide +kernel
theorem dX12_loved_106 : decode cX12_loved 106 = .ok (.iload_n 2, 1) := by decide +kernel
theorem dX12_loved_107 : decode cX12_loved 107 = .ok (.iadd, 1) := by decide +kernel
theorem dX12_loved_108 : decode cX12_loved 108 = .ok (.iaload, 1) := by decide +kernel
theorem dX12_loved_109 : decode cX12_loved 109 = .ok (.isub, 1) := by decide +kernel
theorem dX12_loved_110 : decode cX12_loved 110 = .ok (.istore 5, 2) := by decide +kernel
theorem dX12_loved_112 : decode cX12_loved 112 = .ok (.iconst 0, 1) := by decide +kernel
theorem dX12_loved_113 : decode cX12_loved 113 = .ok (.istore 6, 2) := by decide +kernel
theorem dX12_loved_115 : decode cX12_loved 115 = .ok (.bipush (-4), 2) := by decide +kernel
theorem dX12_loved_117 : decode cX12_loved 117 = .ok (.istore 7, 2) := by decide +kernel
theorem dX12_loved_119 : decode cX12_loved 119 = .ok (.iconst 0, 1) := by decide +kernel
theorem dX12_loved_120 : decode cX12_loved 120 = .ok (.istore 8, 2) := by decide +kernel
theorem dX12_loved_122 : decode cX12_loved 122 = .ok (.iload 8, 2) := by decide +kernel
theorem dX12_loved_124 : decode cX12_loved 124 = .ok (.bipush 20, 2) := by decide +kernel
theorem dX12_loved_126 : decode cX12_loved 126 = .ok (.if_icmp .gt 70, 3) := by decide +kernel
theorem dX12_loved_129 : decode cX12_loved 129 = .ok (.aload_n 0, 1) := by decide +kernel
theorem dX12_loved_130 : decode cX12_loved 130 = .ok (.iload 4, 2) := by decide +kernel
theorem dX12_loved_132 : decode cX12_loved 132 = .ok (.iload 5, 2) := by decide +kernel
theorem dX12_loved_134 : decode cX12_loved 134 = .ok (.iload 8, 2) := by decide +kernel
theorem dX12_loved_136 : decode cX12_loved 136 = .ok (.iadd, 1) := by decide +kernel
theorem dX12_loved_137 : decode cX12_loved 137 = .ok (.invokevirtual 137, 3) := by decide +kernel
theorem dX12_loved_140 : decode cX12_loved 140 = .ok (.aload_n 0, 1) := by decide +kernel
theorem dX12_loved_141 : decode cX12_loved 141 = .ok (.getfield 19, 3) := by decide +kernel
theorem dX12_loved_144 : decode cX12_loved 144 = .ok (.iload_n 1, 1) := by decide +kernel
theorem dX12_loved_145 : decode cX12_loved 145 = .ok (.iaload, 1) := by decide +kernel
theorem dX12_loved_146 : decode cX12_loved 146 = .ok (.if_icmp .ne 7, 3) := by decide +kernel
theorem dX12_loved_149 : decode cX12_loved 149 = .ok (.iconst 1, 1) := by decide +kernel
theorem dX12_loved_150 : decode cX12_loved 150 = .ok (.goto 4, 3) := by decide +kernel
theorem dX12_loved_153 : decode cX12_loved 153 = .ok (.iconst 0, 1) := by decide +kernel
theorem dX12_loved_154 : decode cX12_loved 154 = .ok (.istore 9, 2) := by decide +kernel
theorem dX12_loved_156 : decode cX12_loved 156 = .ok (.iload 9, 2) := by decide +kernel
theorem dX12_loved_158 : decode cX12_loved 158 = .ok (.ifCond .eq 13, 3) := by decide +kernel
theorem dX12_loved_161 : decode cX12_loved 161 = .ok (.iload 6, 2) := by decide +kernel
theorem dX12_loved_163 : decode cX12_loved 163 = .ok (.ifCond .ne 8, 3) := by decide +kernel
theorem dX12_loved_166 : decode cX12_loved 166 = .ok (.iload 8, 2) := by decide +kernel
theorem dX12_loved_168 : decode cX12_loved 168 = .ok (.goto 5, 3) := by decide +kernel
theorem dX12_loved_171 : decode cX12_loved 171 = .ok (.iload 7, 2) := by decide +kernel
theorem dX12_loved_173 : decode cX12_loved 173 = .ok (.istore 7, 2) := by decide +kernel
theorem dX12_loved_175 : decode cX12_loved 175 = .ok (.iload 6, 2) := by decide +kernel
theorem dX12_loved_177 : decode cX12_loved 177 = .ok (.iload 9, 2) := by decide +kernel
theorem dX12_loved_179 : decode cX12_loved 179 = .ok (.ifCond .eq 7, 3) := by decide +kernel
theorem dX12_loved_182 : decode cX12_loved 182 = .ok (.iconst 1, 1) := by decide +kernel
theorem dX12_loved_183 : decode cX12_loved 183 = .ok (.goto 4, 3) := by decide +kernel
theorem dX12_loved_186 : decode cX12_loved 186 = .ok (.iconst 0, 1) := by decide +kernel
theorem dX12_loved_187 : decode cX12_loved 187 = .ok (.iadd, 1) := by decide +kernel
theorem dX12_loved_188 : decode cX12_loved 188 = .ok (.istore 6, 2) := by decide +kernel
theorem dX12_loved_190 : decode cX12_loved 190 = .ok (.iinc 8 1, 3) := by decide +kernel
theorem dX12_loved_193 : decode cX12_loved 193 = .ok (.goto (-71), 3) := by decide +kernel
theorem dX12_loved_196 : decode cX12_loved 196 = .ok (.iload_n 3, 1) := by decide +kernel
theorem dX12_loved_197 : decode cX12_loved 197 = .ok (.ifCond .ne 8, 3) := by decide +kernel
theorem dX12_loved_200 : decode cX12_loved 200 = .ok (.iload 6, 2) := by decide +kernel
theorem dX12_loved_202 : decode cX12_loved 202 = .ok (.goto 5, 3) := by decide +kernel
theorem dX12_loved_205 : decode cX12_loved 205 = .ok (.iload 7, 2) := by decide +kernel
theorem dX12_loved_207 : decode cX12_loved 207 = .ok (.ireturn, 1) := by decide +kernel
theorem dX12_nextGift_0 : decode cX12_nextGift 0 = .ok (.iload_n 2, 1) := by decide +kernel
theorem dX12_nextGift_1 : decode cX12_nextGift 1 = .ok (.bipush (-5), 2) := by decide +kernel
theorem dX12_nextGift_3 : decode cX12_nextGift 3 = .ok (.if_icmp .ne 6, 3) := by decide +kernel
theorem dX12_nextGift_6 : decode cX12_nextGift 6 = .ok (.bipush (-4), 2) := by decide +kernel
theorem dX12_nextGift_8 : decode cX12_nextGift 8 = .ok (.ireturn, 1) := by decide +kernel
theorem dX12_nextGift_9 : decode cX12_nextGift 9 = .ok (.iload_n 2, 1) := by decide +kernel
theorem dX12_nextGift_10 : decode cX12_nextGift 10 = .ok (.ifCond .ge 7, 3) := by decide +kernel
theorem dX12_nextGift_13 : decode cX12_nextGift 13 = .ok (.iconst 0, 1) := by decide +kernel
theorem dX12_nextGift_14 : decode cX12_nextGift 14 = .ok (.goto 6, 3) := by decide +kernel
theorem dX12_nextGift_17 : decode cX12_nextGift 17 = .ok (.iload_n 2, 1) := by decide +kernel
theorem dX12_nextGift_18 : decode cX12_nextGift 18 = .ok (.iconst 1, 1) := by decide +kernel
theorem dX12_nextGift_19 : decode cX12_nextGift 19 = .ok (.iadd, 1) := by decide +kernel
theorem dX12_nextGift_20 : decode cX12_nextGift 20 = .ok (.istore_n 3, 1) := by decide +kernel
theorem dX12_nextGift_21 : decode cX12_nextGift 21 = .ok (.iload_n 3, 1) := by decide +kernel
theorem dX12_nextGift_22 : decode cX12_nextGift 22 = .ok (.aload_n 0, 1) := by decide +kernel
theorem dX12_nextGift_23 : decode cX12_nextGift 23 = .ok (.getfield 7, 3) := by decide +kernel
theorem dX12_nextGift_26 : decode cX12_nextGift 26 = .ok (.iconst 1, 1) := by decide +kernel
theorem dX12_nextGift_27 : decode cX12_nextGift 27 = .ok (.iaload, 1) := by decide +kernel
theorem dX12_nextGift_28 : decode cX12_nextGift 28 = .ok (.if_icmp .ge 38, 3) := by decide +kernel
theorem dX12_nextGift_31 : decode cX12_nextGift 31 = .ok (.aload_n 0, 1) := by decide +kernel
theorem dX12_nextGift_32 : decode cX12_nextGift 32 = .ok (.getfield 13, 3) := by decide +kernel
theorem dX12_nextGift_35 : decode cX12_nextGift 35 = .ok (.sipush 404, 3) := by decide +kernel
theorem dX12_nextGift_38 : decode cX12_nextGift 38 = .ok (.iload_n 3, 1) := by decide +kernel
theorem dX12_nextGift_39 : decode cX12_nextGift 39 = .ok (.iadd, 1) := by decide +kernel
theorem dX12_nextGift_40 : decode cX12_nextGift 40 = .ok (.iaload, 1) := by decide +kernel
theorem dX12_nextGift_41 : decode cX12_nextGift 41 = .ok (.iload_n 1, 1) := by decide +kernel
theorem dX12_nextGift_42 : decode cX12_nextGift 42 = .ok (.if_icmp .ne 18, 3) := by decide +kernel
theorem dX12_nextGift_45 : decode cX12_nextGift 45 = .ok (.aload_n 0, 1) := by decide +kernel
theorem dX12_nextGift_46 : decode cX12_nextGift 46 = .ok (.getfield 13, 3) := by decide +kernel
theorem dX12_nextGift_49 : decode cX12_nextGift 49 = .ok (.sipush 412, 3) := by decide +kernel
theorem dX12_nextGift_52 : decode cX12_nextGift 52 = .ok (.iload_n 3, 1) := by decide +kernel
theorem dX12_nextGift_53 : decode cX12_nextGift 53 = .ok (.iadd, 1) := by decide +kernel
theorem dX12_nextGift_54 : decode cX12_nextGift 54 = .ok (.iaload, 1) := by decide +kernel
theorem dX12_nextGift_55 : decode cX12_nextGift 55 = .ok (.ifCond .ne 5, 3) := by decide +kernel
theorem dX12_nextGift_58 : decode cX12_nextGift 58 = .ok (.iload_n 3, 1) := by decide +kernel
theorem dX12_nextGift_59 : decode cX12_nextGift 59 = .ok (.ireturn, 1) := by decide +kernel
theorem dX12_nextGift_60 : decode cX12_nextGift 60 = .ok (.iinc 3 1, 3) := by decide +kernel
theorem dX12_nextGift_63 : decode cX12_nextGift 63 = .ok (.goto (-42), 3) := by decide +kernel
theorem dX12_nextGift_66 : decode cX12_nextGift 66 = .ok (.ldc 176, 2) := by decide +kernel
theorem dX12_nextGift_68 : decode cX12_nextGift 68 = .ok (.ireturn, 1) := by decide +kernel
theorem dX12_gives_0 : decode cX12_gives 0 = .ok (.iload_n 1, 1) := by decide +kernel
theorem dX12_gives_1 : decode cX12_gives 1 = .ok (.ifCond .lt 14, 3) := by decide +kernel
theorem dX12_gives_4 : decode cX12_gives 4 = .ok (.aload_n 0, 1) := by decide +kernel
theorem dX12_gives_5 : decode cX12_gives 5 = .ok (.getfield 13, 3) := by decide +kernel
theorem dX12_gives_8 : decode cX12_gives 8 = .ok (.sipush 404, 3) := by decide +kernel
theorem dX12_gives_11 : decode cX12_gives 11 = .ok (.iload_n 1, 1) := by decide +kernel
theorem dX12_gives_12 : decode cX12_gives 12 = .ok (.iadd, 1) := by decide +kernel
theorem dX12_gives_13 : decode cX12_gives 13 = .ok (.iload_n 2, 1) := by decide +kernel
theorem dX12_gives_14 : decode cX12_gives 14 = .ok (.iastore, 1) := by decide +kernel
theorem dX12_gives_15 : decode cX12_gives 15 = .ok (.return_, 1) := by decide +kernel
theorem dX12_offers_0 : decode cX12_offers 0 = .ok (.iload_n 1, 1) := by decide +kernel
theorem dX12_offers_1 : decode cX12_offers 1 = .ok (.iconst 2, 1) := by decide +kernel
theorem dX12_offers_2 : decode cX12_offers 2 = .ok (.irem, 1) := by decide +kernel
theorem dX12_offers_3 : decode cX12_offers 3 = .ok (.ifCond .ne 21, 3) := by decide +kernel
theorem dX12_offers_6 : decode cX12_offers 6 = .ok (.iload_n 2, 1) := by decide +kernel
theorem dX12_offers_7 : decode cX12_offers 7 = .ok (.aload_n 0, 1) := by decide +kernel
theorem dX12_offers_8 : decode cX12_offers 8 = .ok (.getfield 37, 3) := by decide +kernel
theorem dX12_offers_11 : decode cX12_offers 11 = .ok (.iload_n 1, 1) := by decide +kernel
theorem dX12_offers_12 : decode cX12_offers 12 = .ok (.iaload, 1) := by decide +kernel
theorem dX12_offers_13 : decode cX12_offers 13 = .ok (.if_icmp .ge 7, 3) := by decide +kernel
theorem dX12_offers_16 : decode cX12_offers 16 = .ok (.iconst 1, 1) := by decide +kernel
theorem dX12_offers_17 : decode cX12_offers 17 = .ok (.goto 22, 3) := by decide +kernel
theorem dX12_offers_20 : decode cX12_offers 20 = .ok (.iconst 0, 1) := by decide +kernel
theorem dX12_offers_21 : decode cX12_offers 21 = .ok (.goto 18, 3) := by decide +kernel
theorem dX12_offers_24 : decode cX12_offers 24 = .ok (.iload_n 3, 1) := by decide +kernel
theorem dX12_offers_25 : decode cX12_offers 25 = .ok (.aload_n 0, 1) := by decide +kernel
theorem dX12_offers_26 : decode cX12_offers 26 = .ok (.getfield 40, 3) := by decide +kernel
theorem dX12_offers_29 : decode cX12_offers 29 = .ok (.iload_n 1, 1) := by decide +kernel
theorem dX12_offers_30 : decode cX12_offers 30 = .ok (.iaload, 1) := by decide +kernel
theorem dX12_offers_31 : decode cX12_offers 31 = .ok (.if_icmp .ge 7, 3) := by decide +kernel
theorem dX12_offers_34 : decode cX12_offers 34 = .ok (.iconst 1, 1) := by decide +kernel
theorem dX12_offers_35 : decode cX12_offers 35 = .ok (.goto 4, 3) := by decide +kernel
theorem dX12_offers_38 : decode cX12_offers 38 = .ok (.iconst 0, 1) := by decide +kernel
theorem dX12_offers_39 : decode cX12_offers 39 = .ok (.istore 4, 2) := by decide +kernel
theorem dX12_offers_41 : decode cX12_offers 41 = .ok (.iload 4, 2) := by decide +kernel
theorem dX12_offers_43 : decode cX12_offers 43 = .ok (.ifCond .eq 38, 3) := by decide +kernel
theorem dX12_offers_46 : decode cX12_offers 46 = .ok (.aload_n 0, 1) := by decide +kernel
theorem dX12_offers_47 : decode cX12_offers 47 = .ok (.getfield 37, 3) := by decide +kernel
theorem dX12_offers_50 : decode cX12_offers 50 = .ok (.iload_n 1, 1) := by decide +kernel
theorem dX12_offers_51 : decode cX12_offers 51 = .ok (.iload_n 2, 1) := by decide +kernel
theorem dX12_offers_52 : decode cX12_offers 52 = .ok (.iastore, 1) := by decide +kernel
theorem dX12_offers_53 : decode cX12_offers 53 = .ok (.aload_n 0, 1) := by decide +kernel
theorem dX12_offers_54 : decode cX12_offers 54 = .ok (.getfield 40, 3) := by decide +kernel
theorem dX12_offers_57 : decode cX12_offers 57 = .ok (.iload_n 1, 1) := by decide +kernel
theorem dX12_offers_58 : decode cX12_offers 58 = .ok (.iload_n 3, 1) := by decide +kernel
theorem dX12_offers_59 : decode cX12_offers 59 = .ok (.iastore, 1) := by decide +kernel
theorem dX12_offers_60 : decode cX12_offers 60 = .ok (.aload_n 0, 1) := by decide +kernel
theorem dX12_offers_61 : decode cX12_offers 61 = .ok (.iload_n 1, 1) := by decide +kernel
theorem dX12_offers_62 : decode cX12_offers 62 = .ok (.ifCond .ne 12, 3) := by decide +kernel
theorem dX12_offers_65 : decode cX12_offers 65 = .ok (.aload_n 0, 1) := by decide +kernel
theorem dX12_offers_66 : decode cX12_offers 66 = .ok (.getfield 34, 3) := by decide +kernel
theorem dX12_offers_69 : decode cX12_offers 69 = .ok (.iconst 0, 1) := by decide +kernel
theorem dX12_offers_70 : decode cX12_offers 70 = .ok (.iaload, 1) := by decide +kernel
theorem dX12_offers_71 : decode cX12_offers 71 = .ok (.goto 7, 3) := by decide +kernel
theorem dX12_offers_74 : decode cX12_offers 74 = .ok (.aload_n 0, 1) := by decide +kernel
theorem dX12_offers_75 : decode cX12_offers 75 = .ok (.getfield 184, 3) := by decide +kernel
theorem dX12_offers_78 : decode cX12_offers 78 = .ok (.putfield 184, 3) := by decide +kernel
theorem dX12_offers_81 : decode cX12_offers 81 = .ok (.return_, 1) := by decide +kernel
theorem dX12_opens_0 : decode cX12_opens 0 = .ok (.aload_n 0, 1) := by decide +kernel
theorem dX12_opens_1 : decode cX12_opens 1 = .ok (.getfield 34, 3) := by decide +kernel
theorem dX12_opens_4 : decode cX12_opens 4 = .ok (.iload_n 1, 1) := by decide +kernel
theorem dX12_opens_5 : decode cX12_opens 5 = .ok (.bipush (-5), 2) := by decide +kernel
theorem dX12_opens_7 : decode cX12_opens 7 = .ok (.iastore, 1) := by decide +kernel
theorem dX12_opens_8 : decode cX12_opens 8 = .ok (.aload_n 0, 1) := by decide +kernel
theorem dX12_opens_9 : decode cX12_opens 9 = .ok (.getfield 37, 3) := by decide +kernel
theorem dX12_opens_12 : decode cX12_opens 12 = .ok (.iload_n 1, 1) := by decide +kernel
theorem dX12_opens_13 : decode cX12_opens 13 = .ok (.ldc 176, 2) := by decide +kernel
theorem dX12_opens_15 : decode cX12_opens 15 = .ok (.iastore, 1) := by decide +kernel
theorem dX12_opens_16 : decode cX12_opens 16 = .ok (.aload_n 0, 1) := by decide +kernel
theorem dX12_opens_17 : decode cX12_opens 17 = .ok (.getfield 40, 3) := by decide +kernel
theorem dX12_opens_20 : decode cX12_opens 20 = .ok (.iload_n 1, 1) := by decide +kernel
theorem dX12_opens_21 : decode cX12_opens 21 = .ok (.ldc 176, 2) := by decide +kernel
theorem dX12_opens_23 : decode cX12_opens 23 = .ok (.iastore, 1) := by decide +kernel
theorem dX12_opens_24 : decode cX12_opens 24 = .ok (.return_, 1) := by decide +kernel
theorem dX12_findTurns_0 : decode cX12_findTurns 0 = .ok (.aload_n 0, 1) := by decide +kernel
theorem dX12_findTurns_1 : decode cX12_findTurns 1 = .ok (.iconst 0, 1) := by decide +kernel
theorem dX12_findTurns_2 : decode cX12_findTurns 2 = .ok (.sipush 385, 3) := by decide +kernel
theorem dX12_findTurns_5 : decode cX12_findTurns 5 = .ok (.invokevirtual 147, 3) := by decide +kernel
theorem dX12_findTurns_8 : decode cX12_findTurns 8 = .ok (.aload_n 0, 1) := by decide +kernel
theorem dX12_findTurns_9 : decode cX12_findTurns 9 = .ok (.bipush (-4), 2) := by decide +kernel
theorem dX12_findTurns_11 : decode cX12_findTurns 11 = .ok (.putfield 184, 3) := by decide +kernel
theorem dX12_findTurns_14 : decode cX12_findTurns 14 = .ok (.iconst 0, 1) := by decide +kernel
theorem dX12_findTurns_15 : decode cX12_findTurns 15 = .ok (.istore 4, 2) := by decide +kernel
theorem dX12_findTurns_17 : decode cX12_findTurns 17 = .ok (.aload_n 0, 1) := by decide +kernel
theorem dX12_findTurns_18 : decode cX12_findTurns 18 = .ok (.iconst 0, 1) := by decide +kernel
theorem dX12_findTurns_19 : decode cX12_findTurns 19 = .ok (.invokevirtual 187, 3) := by decide +kernel
theorem dX12_findTurns_22 : decode cX12_findTurns 22 = .ok (.iload 4, 2) := by decide +kernel
theorem dX12_findTurns_24 : decode cX12_findTurns 24 = .ok (.ifCond .lt 183, 3) := by decide +kernel
theorem dX12_findTurns_27 : decode cX12_findTurns 27 = .ok (.iload 4, 2) := by decide +kernel
theorem dX12_findTurns_29 : decode cX12_findTurns 29 = .ok (.iconst 2, 1) := by decide +kernel
theorem dX12_findTurns_30 : decode cX12_findTurns 30 = .ok (.irem, 1) := by decide +kernel
theorem dX12_findTurns_31 : decode cX12_findTurns 31 = .ok (.ifCond .ne 7, 3) := by decide +kernel
theorem dX12_findTurns_34 : decode cX12_findTurns 34 = .ok (.iload_n 1, 1) := by decide +kernel
theorem dX12_findTurns_35 : decode cX12_findTurns 35 = .ok (.goto 4, 3) := by decide +kernel
theorem dX12_findTurns_38 : decode cX12_findTurns 38 = .ok (.iload_n 2, 1) := by decide +kernel
theorem dX12_findTurns_39 : decode cX12_findTurns 39 = .ok (.istore 5, 2) := by decide +kernel
theorem dX12_findTurns_41 : decode cX12_findTurns 41 = .ok (.iload 4, 2) := by decide +kernel
theorem dX12_findTurns_43 : decode cX12_findTurns 43 = .ok (.iload_n 3, 1) := by decide +kernel
theorem dX12_findTurns_44 : decode cX12_findTurns 44 = .ok (.if_icmp .ne 8, 3) := by decide +kernel
theorem dX12_findTurns_47 : decode cX12_findTurns 47 = .ok (.ldc 176, 2) := by decide +kernel
theorem dX12_findTurns_49 : decode cX12_findTurns 49 = .ok (.goto 16, 3) := by decide +kernel
theorem dX12_findTurns_52 : decode cX12_findTurns 52 = .ok (.aload_n 0, 1) := by decide +kernel
theorem dX12_findTurns_53 : decode cX12_findTurns 53 = .ok (.iload 5, 2) := by decide +kernel
theorem dX12_findTurns_55 : decode cX12_findTurns 55 = .ok (.aload_n 0, 1) := by decide +kernel
theorem dX12_findTurns_56 : decode cX12_findTurns 56 = .ok (.getfield 34, 3) := by decide +kernel
theorem dX12_findTurns_59 : decode cX12_findTurns 59 = .ok (.iload 4, 2) := by decide +kernel
theorem dX12_findTurns_61 : decode cX12_findTurns 61 = .ok (.iaload, 1) := by decide +kernel
theorem dX12_findTurns_62 : decode cX12_findTurns 62 = .ok (.invokevirtual 191, 3) := by decide +kernel
theorem dX12_findTurns_65 : decode cX12_findTurns 65 = .ok (.istore 6, 2) := by decide +kernel
theorem dX12_findTurns_67 : decode cX12_findTurns 67 = .ok (.iload 6, 2) := by decide +kernel
theorem dX12_findTurns_69 : decode cX12_findTurns 69 = .ok (.ldc 176, 2) := by decide +kernel
theorem dX12_findTurns_71 : decode cX12_findTurns 71 = .ok (.if_icmp .eq 36, 3) := by decide +kernel
theorem dX12_findTurns_74 : decode cX12_findTurns 74 = .ok (.aload_n 0, 1) := by decide +kernel
theorem dX12_findTurns_75 : decode cX12_findTurns 75 = .ok (.getfield 34, 3) := by decide +kernel
theorem dX12_findTurns_78 : decode cX12_findTurns 78 = .ok (.iload 4, 2) := by decide +kernel
theorem dX12_findTurns_80 : decode cX12_findTurns 80 = .ok (.iload 6, 2) := by decide +kernel
theorem dX12_findTurns_82 : decode cX12_findTurns 82 = .ok (.iastore, 1) := by decide +kernel
theorem dX12_findTurns_83 : decode cX12_findTurns 83 = .ok (.aload_n 0, 1) := by decide +kernel
theorem dX12_findTurns_84 : decode cX12_findTurns 84 = .ok (.iload 6, 2) := by decide +kernel
theorem dX12_findTurns_86 : decode cX12_findTurns 86 = .ok (.iload_n 1, 1) := by decide +kernel
theorem dX12_findTurns_87 : decode cX12_findTurns 87 = .ok (.iload_n 2, 1) := by decide +kernel
theorem dX12_findTurns_88 : decode cX12_findTurns 88 = .ok (.iadd, 1) := by decide +kernel
theorem dX12_findTurns_89 : decode cX12_findTurns 89 = .ok (.iload 5, 2) := by decide +kernel
theorem dX12_findTurns_91 : decode cX12_findTurns 91 = .ok (.isub, 1) := by decide +kernel
theorem dX12_findTurns_92 : decode cX12_findTurns 92 = .ok (.invokevirtual 194, 3) := by decide +kernel
theorem dX12_findTurns_95 : decode cX12_findTurns 95 = .ok (.iinc 4 1, 3) := by decide +kernel
theorem dX12_findTurns_98 : decode cX12_findTurns 98 = .ok (.aload_n 0, 1) := by decide +kernel
theorem dX12_findTurns_99 : decode cX12_findTurns 99 = .ok (.iload 4, 2) := by decide +kernel
theorem dX12_findTurns_101 : decode cX12_findTurns 101 = .ok (.invokevirtual 187, 3) := by decide +kernel
theorem dX12_findTurns_104 : decode cX12_findTurns 104 = .ok (.goto 100, 3) := by decide +kernel
theorem dX12_findTurns_107 : decode cX12_findTurns 107 = .ok (.iload 4, 2) := by decide +kernel
theorem dX12_findTurns_109 : decode cX12_findTurns 109 = .ok (.iload_n 3, 1) := by decide +kernel
theorem dX12_findTurns_110 : decode cX12_findTurns 110 = .ok (.if_icmp .ne 16, 3) := by decide +kernel
theorem dX12_findTurns_113 : decode cX12_findTurns 113 = .ok (.aload_n 0, 1) := by decide +kernel
theorem dX12_findTurns_114 : decode cX12_findTurns 114 = .ok (.sipush 385, 3) := by decide +kernel
theorem dX12_findTurns_117 : decode cX12_findTurns 117 = .ok (.iload_n 1, 1) := by decide +kernel
theorem dX12_findTurns_118 : decode cX12_findTurns 118 = .ok (.bipush (-4), 2) := by decide +kernel
theorem dX12_findTurns_120 : decode cX12_findTurns 120 = .ok (.invokevirtual 141, 3) := by decide +kernel
theorem dX12_findTurns_123 : decode cX12_findTurns 123 = .ok (.goto 10, 3) := by decide +kernel
theorem dX12_findTurns_126 : decode cX12_findTurns 126 = .ok (.aload_n 0, 1) := by decide +kernel
theorem dX12_findTurns_127 : decode cX12_findTurns 127 = .ok (.getfield 37, 3) := by decide +kernel
theorem dX12_findTurns_130 : decode cX12_findTurns 130 = .ok (.iload 4, 2) := by decide +kernel
theorem dX12_findTurns_132 : decode cX12_findTurns 132 = .ok (.iaload, 1) := by decide +kernel
theorem dX12_findTurns_133 : decode cX12_findTurns 133 = .ok (.istore 7, 2) := by decide +kernel
theorem dX12_findTurns_135 : decode cX12_findTurns 135 = .ok (.iload 4, 2) := by decide +kernel
theorem dX12_findTurns_137 : decode cX12_findTurns 137 = .ok (.iload_n 3, 1) := by decide +kernel
theorem dX12_findTurns_138 : decode cX12_findTurns 138 = .ok (.if_icmp .ne 16, 3) := by decide +kernel
theorem dX12_findTurns_141 : decode cX12_findTurns 141 = .ok (.aload_n 0, 1) := by decide +kernel
theorem dX12_findTurns_142 : decode cX12_findTurns 142 = .ok (.sipush 385, 3) := by decide +kernel
theorem dX12_findTurns_145 : decode cX12_findTurns 145 = .ok (.iload_n 2, 1) := by decide +kernel
theorem dX12_findTurns_146 : decode cX12_findTurns 146 = .ok (.bipush (-4), 2) := by decide +kernel
theorem dX12_findTurns_148 : decode cX12_findTurns 148 = .ok (.invokevirtual 141, 3) := by decide +kernel
theorem dX12_findTurns_151 : decode cX12_findTurns 151 = .ok (.goto 10, 3) := by decide +kernel
theorem dX12_findTurns_154 : decode cX12_findTurns 154 = .ok (.aload_n 0, 1) := by decide +kernel
theorem dX12_findTurns_155 : decode cX12_findTurns 155 = .ok (.getfield 40, 3) := by decide +kernel
theorem dX12_findTurns_158 : decode cX12_findTurns 158 = .ok (.iload 4, 2) := by decide +kernel
theorem dX12_findTurns_160 : decode cX12_findTurns 160 = .ok (.iaload, 1) := by decide +kernel
theorem dX12_findTurns_161 : decode cX12_findTurns 161 = .ok (.istore 8, 2) := by decide +kernel
theorem dX12_findTurns_163 : decode cX12_findTurns 163 = .ok (.iinc 4 (-1), 3) := by decide +kernel
theorem dX12_findTurns_166 : decode cX12_findTurns 166 = .ok (.iload 4, 2) := by decide +kernel
theorem dX12_findTurns_168 : decode cX12_findTurns 168 = .ok (.ifCond .lt 36, 3) := by decide +kernel
theorem dX12_findTurns_171 : decode cX12_findTurns 171 = .ok (.aload_n 0, 1) := by decide +kernel
theorem dX12_findTurns_172 : decode cX12_findTurns 172 = .ok (.aload_n 0, 1) := by decide +kernel
theorem dX12_findTurns_173 : decode cX12_findTurns 173 = .ok (.getfield 34, 3) := by decide +kernel
theorem dX12_findTurns_176 : decode cX12_findTurns 176 = .ok (.iload 4, 2) := by decide +kernel
theorem dX12_findTurns_178 : decode cX12_findTurns 178 = .ok (.iaload, 1) := by decide +kernel
theorem dX12_findTurns_179 : decode cX12_findTurns 179 = .ok (.iload 4, 2) := by decide +kernel
theorem dX12_findTurns_181 : decode cX12_findTurns 181 = .ok (.iconst 2, 1) := by decide +kernel
theorem dX12_findTurns_182 : decode cX12_findTurns 182 = .ok (.irem, 1) := by decide +kernel
theorem dX12_findTurns_183 : decode cX12_findTurns 183 = .ok (.ifCond .ne 7, 3) := by decide +kernel
theorem dX12_findTurns_186 : decode cX12_findTurns 186 = .ok (.iload_n 1, 1) := by decide +kernel
theorem dX12_findTurns_187 : decode cX12_findTurns 187 = .ok (.goto 4, 3) := by decide +kernel
theorem dX12_findTurns_190 : decode cX12_findTurns 190 = .ok (.iload_n 2, 1) := by decide +kernel
theorem dX12_findTurns_191 : decode cX12_findTurns 191 = .ok (.invokevirtual 194, 3) := by decide +kernel
theorem dX12_findTurns_194 : decode cX12_findTurns 194 = .ok (.aload_n 0, 1) := by decide +kernel
theorem dX12_findTurns_195 : decode cX12_findTurns 195 = .ok (.iload 4, 2) := by decide +kernel
theorem dX12_findTurns_197 : decode cX12_findTurns 197 = .ok (.iload 7, 2) := by decide +kernel
theorem dX12_findTurns_199 : decode cX12_findTurns 199 = .ok (.iload 8, 2) := by decide +kernel
theorem dX12_findTurns_201 : decode cX12_findTurns 201 = .ok (.invokevirtual 197, 3) := by decide +kernel
theorem dX12_findTurns_204 : decode cX12_findTurns 204 = .ok (.goto (-182), 3) := by decide +kernel
theorem dX12_findTurns_207 : decode cX12_findTurns 207 = .ok (.return_, 1) := by decide +kernel
theorem dX12_byTurns_0 : decode cX12_byTurns 0 = .ok (.aload_n 0, 1) := by decide +kernel
theorem dX12_byTurns_1 : decode cX12_byTurns 1 = .ok (.iload_n 1, 1) := by decide +kernel
theorem dX12_byTurns_2 : decode cX12_byTurns 2 = .ok (.iload_n 2, 1) := by decide +kernel
theorem dX12_byTurns_3 : decode cX12_byTurns 3 = .ok (.invokevirtual 124, 3) := by decide +kernel
theorem dX12_byTurns_6 : decode cX12_byTurns 6 = .ok (.ifCond .eq 26, 3) := by decide +kernel
theorem dX12_byTurns_9 : decode cX12_byTurns 9 = .ok (.iload_n 3, 1) := by decide +kernel
theorem dX12_byTurns_10 : decode cX12_byTurns 10 = .ok (.i2l, 1) := by decide +kernel
theorem dX12_byTurns_11 : decode cX12_byTurns 11 = .ok (.lconst 1, 1) := by decide +kernel
theorem dX12_byTurns_12 : decode cX12_byTurns 12 = .ok (.ldc2_w 200, 3) := by decide +kernel
theorem dX12_byTurns_15 : decode cX12_byTurns 15 = .ok (.invokestatic 62, 3) := by decide +kernel
theorem dX12_byTurns_18 : decode cX12_byTurns 18 = .ok (.ifCond .eq 14, 3) := by decide +kernel
theorem dX12_byTurns_21 : decode cX12_byTurns 21 = .ok (.iload 4, 2) := by decide +kernel
theorem dX12_byTurns_23 : decode cX12_byTurns 23 = .ok (.i2l, 1) := by decide +kernel
theorem dX12_byTurns_24 : decode cX12_byTurns 24 = .ok (.lconst 0, 1) := by decide +kernel
theorem dX12_byTurns_25 : decode cX12_byTurns 25 = .ok (.lconst 1, 1) := by decide +kernel
theorem dX12_byTurns_26 : decode cX12_byTurns 26 = .ok (.invokestatic 62, 3) := by decide +kernel
theorem dX12_byTurns_29 : decode cX12_byTurns 29 = .ok (.ifCond .ne 5, 3) := by decide +kernel
theorem dX12_byTurns_32 : decode cX12_byTurns 32 = .ok (.iconst (-1), 1) := by decide +kernel
theorem dX12_byTurns_33 : decode cX12_byTurns 33 = .ok (.ireturn, 1) := by decide +kernel
theorem dX12_byTurns_34 : decode cX12_byTurns 34 = .ok (.aload_n 0, 1) := by decide +kernel
theorem dX12_byTurns_35 : decode cX12_byTurns 35 = .ok (.iload_n 1, 1) := by decide +kernel
theorem dX12_byTurns_36 : decode cX12_byTurns 36 = .ok (.invokevirtual 118, 3) := by decide +kernel
theorem dX12_byTurns_39 : decode cX12_byTurns 39 = .ok (.ifCond .eq 11, 3) := by decide +kernel
theorem dX12_byTurns_42 : decode cX12_byTurns 42 = .ok (.aload_n 0, 1) := by decide +kernel
theorem dX12_byTurns_43 : decode cX12_byTurns 43 = .ok (.iload_n 2, 1) := by decide +kernel
theorem dX12_byTurns_44 : decode cX12_byTurns 44 = .ok (.invokevirtual 118, 3) := by decide +kernel
theorem dX12_byTurns_47 : decode cX12_byTurns 47 = .ok (.ifCond .ne 6, 3) := by decide +kernel
theorem dX12_byTurns_50 : decode cX12_byTurns 50 = .ok (.bipush (-2), 2) := by decide +kernel
theorem dX12_byTurns_52 : decode cX12_byTurns 52 = .ok (.ireturn, 1) := by decide +kernel
theorem dX12_byTurns_53 : decode cX12_byTurns 53 = .ok (.aload_n 0, 1) := by decide +kernel
theorem dX12_byTurns_54 : decode cX12_byTurns 54 = .ok (.iload_n 1, 1) := by decide +kernel
theorem dX12_byTurns_55 : decode cX12_byTurns 55 = .ok (.iload_n 2, 1) := by decide +kernel
theorem dX12_byTurns_56 : decode cX12_byTurns 56 = .ok (.iload_n 3, 1) := by decide +kernel
theorem dX12_byTurns_57 : decode cX12_byTurns 57 = .ok (.invokevirtual 202, 3) := by decide +kernel
theorem dX12_byTurns_60 : decode cX12_byTurns 60 = .ok (.iload 4, 2) := by decide +kernel
theorem dX12_byTurns_62 : decode cX12_byTurns 62 = .ok (.ifCond .ne 12, 3) := by decide +kernel
theorem dX12_byTurns_65 : decode cX12_byTurns 65 = .ok (.aload_n 0, 1) := by decide +kernel
theorem dX12_byTurns_66 : decode cX12_byTurns 66 = .ok (.getfield 37, 3) := by decide +kernel
theorem dX12_byTurns_69 : decode cX12_byTurns 69 = .ok (.iconst 0, 1) := by decide +kernel
theorem dX12_byTurns_70 : decode cX12_byTurns 70 = .ok (.iaload, 1) := by decide +kernel
theorem dX12_byTurns_71 : decode cX12_byTurns 71 = .ok (.goto 7, 3) := by decide +kernel
theorem dX12_byTurns_74 : decode cX12_byTurns 74 = .ok (.aload_n 0, 1) := by decide +kernel
theorem dX12_byTurns_75 : decode cX12_byTurns 75 = .ok (.getfield 184, 3) := by decide +kernel
theorem dX12_byTurns_78 : decode cX12_byTurns 78 = .ok (.ireturn, 1) := by decide +kernel
theorem dX12_chairs_0 : decode cX12_chairs 0 = .ok (.iload_n 1, 1) := by decide +kernel
theorem dX12_chairs_1 : decode cX12_chairs 1 = .ok (.i2l, 1) := by decide +kernel
theorem dX12_chairs_2 : decode cX12_chairs 2 = .ok (.lconst 0, 1) := by decide +kernel
theorem dX12_chairs_3 : decode cX12_chairs 3 = .ok (.ldc2_w 182, 3) := by decide +kernel
theorem dX12_chairs_6 : decode cX12_chairs 6 = .ok (.invokestatic 62, 3) := by decide +kernel
theorem dX12_chairs_9 : decode cX12_chairs 9 = .ok (.ifCond .ne 5, 3) := by decide +kernel
theorem dX12_chairs_12 : decode cX12_chairs 12 = .ok (.iconst (-1), 1) := by decide +kernel
theorem dX12_chairs_13 : decode cX12_chairs 13 = .ok (.ireturn, 1) := by decide +kernel
theorem dX12_chairs_14 : decode cX12_chairs 14 = .ok (.iconst 0, 1) := by decide +kernel
theorem dX12_chairs_15 : decode cX12_chairs 15 = .ok (.istore_n 2, 1) := by decide +kernel
theorem dX12_chairs_16 : decode cX12_chairs 16 = .ok (.iconst 0, 1) := by decide +kernel
theorem dX12_chairs_17 : decode cX12_chairs 17 = .ok (.istore_n 3, 1) := by decide +kernel
theorem dX12_chairs_18 : decode cX12_chairs 18 = .ok (.iload_n 3, 1) := by decide +kernel
theorem dX12_chairs_19 : decode cX12_chairs 19 = .ok (.iload_n 1, 1) := by decide +kernel
theorem dX12_chairs_20 : decode cX12_chairs 20 = .ok (.if_icmp .ge 126, 3) := by decide +kernel
theorem dX12_chairs_23 : decode cX12_chairs 23 = .ok (.bipush (-4), 2) := by decide +kernel
theorem dX12_chairs_25 : decode cX12_chairs 25 = .ok (.istore 4, 2) := by decide +kernel
theorem dX12_chairs_27 : decode cX12_chairs 27 = .ok (.iconst 0, 1) := by decide +kernel
theorem dX12_chairs_28 : decode cX12_chairs 28 = .ok (.istore 5, 2) := by decide +kernel
theorem dX12_chairs_30 : decode cX12_chairs 30 = .ok (.iload 5, 2) := by decide +kernel
theorem dX12_chairs_32 : decode cX12_chairs 32 = .ok (.aload_n 0, 1) := by decide +kernel
theorem dX12_chairs_33 : decode cX12_chairs 33 = .ok (.getfield 7, 3) := by decide +kernel
theorem dX12_chairs_36 : decode cX12_chairs 36 = .ok (.iconst 1, 1) := by decide +kernel
theorem dX12_chairs_37 : decode cX12_chairs 37 = .ok (.iaload, 1) := by decide +kernel
theorem dX12_chairs_38 : decode cX12_chairs 38 = .ok (.if_icmp .ge 79, 3) := by decide +kernel
theorem dX12_chairs_41 : decode cX12_chairs 41 = .ok (.aload_n 0, 1) := by decide +kernel
theorem dX12_chairs_42 : decode cX12_chairs 42 = .ok (.iload 5, 2) := by decide +kernel
theorem dX12_chairs_44 : decode cX12_chairs 44 = .ok (.invokevirtual 151, 3) := by decide +kernel
theorem dX12_chairs_47 : decode cX12_chairs 47 = .ok (.ifCond .eq 25, 3) := by decide +kernel
theorem dX12_chairs_50 : decode cX12_chairs 50 = .ok (.iload_n 2, 1) := by decide +kernel
theorem dX12_chairs_51 : decode cX12_chairs 51 = .ok (.iload 5, 2) := by decide +kernel
theorem dX12_chairs_53 : decode cX12_chairs 53 = .ok (.invokestatic 114, 3) := by decide +kernel
theorem dX12_chairs_56 : decode cX12_chairs 56 = .ok (.ifCond .ne 16, 3) := by decide +kernel
theorem dX12_chairs_59 : decode cX12_chairs 59 = .ok (.aload_n 0, 1) := by decide +kernel
theorem dX12_chairs_60 : decode cX12_chairs 60 = .ok (.iload 5, 2) := by decide +kernel
theorem dX12_chairs_62 : decode cX12_chairs 62 = .ok (.invokevirtual 127, 3) := by decide +kernel
theorem dX12_chairs_65 : decode cX12_chairs 65 = .ok (.ifCond .le 7, 3) := by decide +kernel
theorem dX12_chairs_68 : decode cX12_chairs 68 = .ok (.iconst 1, 1) := by decide +kernel
theorem dX12_chairs_69 : decode cX12_chairs 69 = .ok (.goto 4, 3) := by decide +kernel
theorem dX12_chairs_72 : decode cX12_chairs 72 = .ok (.iconst 0, 1) := by decide +kernel
theorem dX12_chairs_73 : decode cX12_chairs 73 = .ok (.istore 6, 2) := by decide +kernel
theorem dX12_chairs_75 : decode cX12_chairs 75 = .ok (.iload 6, 2) := by decide +kernel
theorem dX12_chairs_77 : decode cX12_chairs 77 = .ok (.ifCond .eq 30, 3) := by decide +kernel
theorem dX12_chairs_80 : decode cX12_chairs 80 = .ok (.iload 4, 2) := by decide +kernel
theorem dX12_chairs_82 : decode cX12_chairs 82 = .ok (.bipush (-4), 2) := by decide +kernel
theorem dX12_chairs_84 : decode cX12_chairs 84 = .ok (.if_icmp .eq 18, 3) := by decide +kernel
theorem dX12_chairs_87 : decode cX12_chairs 87 = .ok (.aload_n 0, 1) := by decide +kernel
theorem dX12_chairs_88 : decode cX12_chairs 88 = .ok (.iload 5, 2) := by decide +kernel
theorem dX12_chairs_90 : decode cX12_chairs 90 = .ok (.invokevirtual 127, 3) := by decide +kernel
theorem dX12_chairs_93 : decode cX12_chairs 93 = .ok (.aload_n 0, 1) := by decide +kernel
theorem dX12_chairs_94 : decode cX12_chairs 94 = .ok (.iload 4, 2) := by decide +kernel
theorem dX12_chairs_96 : decode cX12_chairs 96 = .ok (.invokevirtual 127, 3) := by decide +kernel
theorem dX12_chairs_99 : decode cX12_chairs 99 = .ok (.if_icmp .le 8, 3) := by decide +kernel
theorem dX12_chairs_102 : decode cX12_chairs 102 = .ok (.iload 5, 2) := by decide +kernel
theorem dX12_chairs_104 : decode cX12_chairs 104 = .ok (.goto 5, 3) := by decide +kernel
theorem dX12_chairs_107 : decode cX12_chairs 107 = .ok (.iload 4, 2) := by decide +kernel
theorem dX12_chairs_109 : decode cX12_chairs 109 = .ok (.istore 4, 2) := by decide +kernel
theorem dX12_chairs_111 : decode cX12_chairs 111 = .ok (.iinc 5 1, 3) := by decide +kernel
theorem dX12_chairs_114 : decode cX12_chairs 114 = .ok (.goto (-84), 3) := by decide +kernel
theorem dX12_chairs_117 : decode cX12_chairs 117 = .ok (.iload 4, 2) := by decide +kernel
theorem dX12_chairs_119 : decode cX12_chairs 119 = .ok (.bipush (-4), 2) := by decide +kernel
theorem dX12_chairs_121 : decode cX12_chairs 121 = .ok (.if_icmp .ne 6, 3) := by decide +kernel
theorem dX12_chairs_124 : decode cX12_chairs 124 = .ok (.bipush (-4), 2) := by decide +kernel
theorem dX12_chairs_126 : decode cX12_chairs 126 = .ok (.ireturn, 1) := by decide +kernel
theorem dX12_chairs_127 : decode cX12_chairs 127 = .ok (.iload_n 2, 1) := by decide +kernel
theorem dX12_chairs_128 : decode cX12_chairs 128 = .ok (.iconst 1, 1) := by decide +kernel
theorem dX12_chairs_129 : decode cX12_chairs 129 = .ok (.iload 4, 2) := by decide +kernel
theorem dX12_chairs_131 : decode cX12_chairs 131 = .ok (.ishl, 1) := by decide +kernel
theorem dX12_chairs_132 : decode cX12_chairs 132 = .ok (.ior, 1) := by decide +kernel
theorem dX12_chairs_133 : decode cX12_chairs 133 = .ok (.istore_n 2, 1) := by decide +kernel
theorem dX12_chairs_134 : decode cX12_chairs 134 = .ok (.iload_n 3, 1) := by decide +kernel
theorem dX12_chairs_135 : decode cX12_chairs 135 = .ok (.aload_n 0, 1) := by decide +kernel
theorem dX12_chairs_136 : decode cX12_chairs 136 = .ok (.iload 4, 2) := by decide +kernel
theorem dX12_chairs_138 : decode cX12_chairs 138 = .ok (.invokevirtual 127, 3) := by decide +kernel
theorem dX12_chairs_141 : decode cX12_chairs 141 = .ok (.iadd, 1) := by decide +kernel
theorem dX12_chairs_142 : decode cX12_chairs 142 = .ok (.istore_n 3, 1) := by decide +kernel
theorem dX12_chairs_143 : decode cX12_chairs 143 = .ok (.goto (-125), 3) := by decide +kernel
theorem dX12_chairs_146 : decode cX12_chairs 146 = .ok (.iload_n 2, 1) := by decide +kernel
theorem dX12_chairs_147 : decode cX12_chairs 147 = .ok (.invokestatic 205, 3) := by decide +kernel
theorem dX12_chairs_150 : decode cX12_chairs 150 = .ok (.ireturn, 1) := by decide +kernel
theorem dX12_year_0 : decode cX12_year 0 = .ok (.iload_n 1, 1) := by decide +kernel
theorem dX12_year_1 : decode cX12_year 1 = .ok (.i2l, 1) := by decide +kernel
theorem dX12_year_2 : decode cX12_year 2 = .ok (.lconst 0, 1) := by decide +kernel
theorem dX12_year_3 : decode cX12_year 3 = .ok (.ldc2_w 208, 3) := by decide +kernel
theorem dX12_year_6 : decode cX12_year 6 = .ok (.invokestatic 62, 3) := by decide +kernel
theorem dX12_year_9 : decode cX12_year 9 = .ok (.ifCond .eq 25, 3) := by decide +kernel
theorem dX12_year_12 : decode cX12_year 12 = .ok (.iload_n 2, 1) := by decide +kernel
theorem dX12_year_13 : decode cX12_year 13 = .ok (.i2l, 1) := by decide +kernel
theorem dX12_year_14 : decode cX12_year 14 = .ok (.lconst 1, 1) := by decide +kernel
theorem dX12_year_15 : decode cX12_year 15 = .ok (.ldc2_w 60, 3) := by decide +kernel
theorem dX12_year_18 : decode cX12_year 18 = .ok (.invokestatic 62, 3) := by decide +kernel
theorem dX12_year_21 : decode cX12_year 21 = .ok (.ifCond .eq 13, 3) := by decide +kernel
theorem dX12_year_24 : decode cX12_year 24 = .ok (.iload_n 3, 1) := by decide +kernel
theorem dX12_year_25 : decode cX12_year 25 = .ok (.i2l, 1) := by decide +kernel
theorem dX12_year_26 : decode cX12_year 26 = .ok (.lconst 0, 1) := by decide +kernel
theorem dX12_year_27 : decode cX12_year 27 = .ok (.lconst 1, 1) := by decide +kernel
theorem dX12_year_28 : decode cX12_year 28 = .ok (.invokestatic 62, 3) := by decide +kernel
theorem dX12_year_31 : decode cX12_year 31 = .ok (.ifCond .ne 5, 3) := by decide +kernel
theorem dX12_year_34 : decode cX12_year 34 = .ok (.iconst (-1), 1) := by decide +kernel
theorem dX12_year_35 : decode cX12_year 35 = .ok (.ireturn, 1) := by decide +kernel
theorem dX12_year_36 : decode cX12_year 36 = .ok (.iconst 0, 1) := by decide +kernel
theorem dX12_year_37 : decode cX12_year 37 = .ok (.istore 4, 2) := by decide +kernel
theorem dX12_year_39 : decode cX12_year 39 = .ok (.aload_n 0, 1) := by decide +kernel
theorem dX12_year_40 : decode cX12_year 40 = .ok (.iconst 0, 1) := by decide +kernel
theorem dX12_year_41 : decode cX12_year 41 = .ok (.sipush 385, 3) := by decide +kernel
theorem dX12_year_44 : decode cX12_year 44 = .ok (.invokevirtual 147, 3) := by decide +kernel
theorem dX12_year_47 : decode cX12_year 47 = .ok (.iconst 0, 1) := by decide +kernel
theorem dX12_year_48 : decode cX12_year 48 = .ok (.istore 5, 2) := by decide +kernel
theorem dX12_year_50 : decode cX12_year 50 = .ok (.iload 5, 2) := by decide +kernel
theorem dX12_year_52 : decode cX12_year 52 = .ok (.iload_n 2, 1) := by decide +kernel
theorem dX12_year_53 : decode cX12_year 53 = .ok (.if_icmp .ge 173, 3) := by decide +kernel
theorem dX12_year_56 : decode cX12_year 56 = .ok (.ldc2_w 210, 3) := by decide +kernel
theorem dX12_year_59 : decode cX12_year 59 = .ok (.iload_n 1, 1) := by decide +kernel
theorem dX12_year_60 : decode cX12_year 60 = .ok (.i2l, 1) := by decide +kernel
theorem dX12_year_61 : decode cX12_year 61 = .ok (.lmul, 1) := by decide +kernel
theorem dX12_year_62 : decode cX12_year 62 = .ok (.ldc2_w 212, 3) := by decide +kernel
theorem dX12_year_65 : decode cX12_year 65 = .ok (.iload 5, 2) := by decide +kernel
theorem dX12_year_67 : decode cX12_year 67 = .ok (.i2l, 1) := by decide +kernel
theorem dX12_year_68 : decode cX12_year 68 = .ok (.lmul, 1) := by decide +kernel
theorem dX12_year_69 : decode cX12_year 69 = .ok (.ladd, 1) := by decide +kernel
theorem dX12_year_70 : decode cX12_year 70 = .ok (.lconst 1, 1) := by decide +kernel
theorem dX12_year_71 : decode cX12_year 71 = .ok (.ladd, 1) := by decide +kernel
theorem dX12_year_72 : decode cX12_year 72 = .ok (.lstore 6, 2) := by decide +kernel
theorem dX12_year_74 : decode cX12_year 74 = .ok (.lload 6, 2) := by decide +kernel
theorem dX12_year_76 : decode cX12_year 76 = .ok (.lload 6, 2) := by decide +kernel
theorem dX12_year_78 : decode cX12_year 78 = .ok (.lmul, 1) := by decide +kernel
theorem dX12_year_79 : decode cX12_year 79 = .ok (.ldc2_w 214, 3) := by decide +kernel
theorem dX12_year_82 : decode cX12_year 82 = .ok (.lrem, 1) := by decide +kernel
theorem dX12_year_83 : decode cX12_year 83 = .ok (.ldc2_w 216, 3) := by decide +kernel
theorem dX12_year_86 : decode cX12_year 86 = .ok (.ldiv, 1) := by decide +kernel
theorem dX12_year_87 : decode cX12_year 87 = .ok (.aload_n 0, 1) := by decide +kernel
theorem dX12_year_88 : decode cX12_year 88 = .ok (.getfield 7, 3) := by decide +kernel
theorem dX12_year_91 : decode cX12_year 91 = .ok (.iconst 0, 1) := by decide +kernel
theorem dX12_year_92 : decode cX12_year 92 = .ok (.iaload, 1) := by decide +kernel
theorem dX12_year_93 : decode cX12_year 93 = .ok (.i2l, 1) := by decide +kernel
theorem dX12_year_94 : decode cX12_year 94 = .ok (.lrem, 1) := by decide +kernel
theorem dX12_year_95 : decode cX12_year 95 = .ok (.l2i, 1) := by decide +kernel
theorem dX12_year_96 : decode cX12_year 96 = .ok (.istore 8, 2) := by decide +kernel
theorem dX12_year_98 : decode cX12_year 98 = .ok (.aload_n 0, 1) := by decide +kernel
theorem dX12_year_99 : decode cX12_year 99 = .ok (.getfield 13, 3) := by decide +kernel
theorem dX12_year_102 : decode cX12_year 102 = .ok (.sipush 385, 3) := by decide +kernel
theorem dX12_year_105 : decode cX12_year 105 = .ok (.iaload, 1) := by decide +kernel
theorem dX12_year_106 : decode cX12_year 106 = .ok (.iload 8, 2) := by decide +kernel
theorem dX12_year_108 : decode cX12_year 108 = .ok (.invokestatic 114, 3) := by decide +kernel
theorem dX12_year_111 : decode cX12_year 111 = .ok (.istore 9, 2) := by decide +kernel
theorem dX12_year_113 : decode cX12_year 113 = .ok (.iload 9, 2) := by decide +kernel
theorem dX12_year_115 : decode cX12_year 115 = .ok (.ifCond .eq 17, 3) := by decide +kernel
theorem dX12_year_118 : decode cX12_year 118 = .ok (.aload_n 0, 1) := by decide +kernel
theorem dX12_year_119 : decode cX12_year 119 = .ok (.sipush 385, 3) := by decide +kernel
theorem dX12_year_122 : decode cX12_year 122 = .ok (.iload 8, 2) := by decide +kernel
theorem dX12_year_124 : decode cX12_year 124 = .ok (.bipush (-4), 2) := by decide +kernel
theorem dX12_year_126 : decode cX12_year 126 = .ok (.invokevirtual 141, 3) := by decide +kernel
theorem dX12_year_129 : decode cX12_year 129 = .ok (.goto 12, 3) := by decide +kernel
theorem dX12_year_132 : decode cX12_year 132 = .ok (.aload_n 0, 1) := by decide +kernel
theorem dX12_year_133 : decode cX12_year 133 = .ok (.sipush 385, 3) := by decide +kernel
theorem dX12_year_136 : decode cX12_year 136 = .ok (.iload 8, 2) := by decide +kernel
theorem dX12_year_138 : decode cX12_year 138 = .ok (.invokevirtual 170, 3) := by decide +kernel
theorem dX12_year_141 : decode cX12_year 141 = .ok (.istore 10, 2) := by decide +kernel
theorem dX12_year_143 : decode cX12_year 143 = .ok (.iload 9, 2) := by decide +kernel
theorem dX12_year_145 : decode cX12_year 145 = .ok (.ifCond .eq 36, 3) := by decide +kernel
theorem dX12_year_148 : decode cX12_year 148 = .ok (.aload_n 0, 1) := by decide +kernel
theorem dX12_year_149 : decode cX12_year 149 = .ok (.sipush 385, 3) := by decide +kernel
theorem dX12_year_152 : decode cX12_year 152 = .ok (.iload 8, 2) := by decide +kernel
theorem dX12_year_154 : decode cX12_year 154 = .ok (.invokevirtual 163, 3) := by decide +kernel
theorem dX12_year_157 : decode cX12_year 157 = .ok (.ifCond .eq 24, 3) := by decide +kernel
theorem dX12_year_160 : decode cX12_year 160 = .ok (.aload_n 0, 1) := by decide +kernel
theorem dX12_year_161 : decode cX12_year 161 = .ok (.sipush 385, 3) := by decide +kernel
theorem dX12_year_164 : decode cX12_year 164 = .ok (.iload 8, 2) := by decide +kernel
theorem dX12_year_166 : decode cX12_year 166 = .ok (.iload 10, 2) := by decide +kernel
theorem dX12_year_168 : decode cX12_year 168 = .ok (.invokevirtual 166, 3) := by decide +kernel
theorem dX12_year_171 : decode cX12_year 171 = .ok (.iload 4, 2) := by decide +kernel
theorem dX12_year_173 : decode cX12_year 173 = .ok (.iload 10, 2) := by decide +kernel
theorem dX12_year_175 : decode cX12_year 175 = .ok (.iadd, 1) := by decide +kernel
theorem dX12_year_176 : decode cX12_year 176 = .ok (.istore 4, 2) := by decide +kernel
theorem dX12_year_178 : decode cX12_year 178 = .ok (.goto 42, 3) := by decide +kernel
theorem dX12_year_181 : decode cX12_year 181 = .ok (.iload 9, 2) := by decide +kernel
theorem dX12_year_183 : decode cX12_year 183 = .ok (.ifCond .ne 37, 3) := by decide +kernel
theorem dX12_year_186 : decode cX12_year 186 = .ok (.aload_n 0, 1) := by decide +kernel
theorem dX12_year_187 : decode cX12_year 187 = .ok (.getfield 13, 3) := by decide +kernel
theorem dX12_year_190 : decode cX12_year 190 = .ok (.sipush 386, 3) := by decide +kernel
theorem dX12_year_193 : decode cX12_year 193 = .ok (.iload 8, 2) := by decide +kernel
theorem dX12_year_195 : decode cX12_year 195 = .ok (.iadd, 1) := by decide +kernel
theorem dX12_year_196 : decode cX12_year 196 = .ok (.iaload, 1) := by decide +kernel
theorem dX12_year_197 : decode cX12_year 197 = .ok (.iload 10, 2) := by decide +kernel
theorem dX12_year_199 : decode cX12_year 199 = .ok (.if_icmp .lt 21, 3) := by decide +kernel
theorem dX12_year_202 : decode cX12_year 202 = .ok (.aload_n 0, 1) := by decide +kernel
theorem dX12_year_203 : decode cX12_year 203 = .ok (.sipush 385, 3) := by decide +kernel
theorem dX12_year_206 : decode cX12_year 206 = .ok (.iload 8, 2) := by decide +kernel
theorem dX12_year_208 : decode cX12_year 208 = .ok (.iload 10, 2) := by decide +kernel
theorem dX12_year_210 : decode cX12_year 210 = .ok (.invokevirtual 173, 3) := by decide +kernel
theorem dX12_year_213 : decode cX12_year 213 = .ok (.iload 4, 2) := by decide +kernel
theorem dX12_year_215 : decode cX12_year 215 = .ok (.iload 10, 2) := by decide +kernel
theorem dX12_year_217 : decode cX12_year 217 = .ok (.iadd, 1) := by decide +kernel
theorem dX12_year_218 : decode cX12_year 218 = .ok (.istore 4, 2) := by decide +kernel
theorem dX12_year_220 : decode cX12_year 220 = .ok (.iinc 5 1, 3) := by decide +kernel
theorem dX12_year_223 : decode cX12_year 223 = .ok (.goto (-173), 3) := by decide +kernel
theorem dX12_year_226 : decode cX12_year 226 = .ok (.iload_n 3, 1) := by decide +kernel
theorem dX12_year_227 : decode cX12_year 227 = .ok (.ifCond .ne 24, 3) := by decide +kernel
theorem dX12_year_230 : decode cX12_year 230 = .ok (.aload_n 0, 1) := by decide +kernel
theorem dX12_year_231 : decode cX12_year 231 = .ok (.getfield 7, 3) := by decide +kernel
theorem dX12_year_234 : decode cX12_year 234 = .ok (.iconst 0, 1) := by decide +kernel
theorem dX12_year_235 : decode cX12_year 235 = .ok (.iaload, 1) := by decide +kernel
theorem dX12_year_236 : decode cX12_year 236 = .ok (.aload_n 0, 1) := by decide +kernel
theorem dX12_year_237 : decode cX12_year 237 = .ok (.getfield 13, 3) := by decide +kernel
theorem dX12_year_240 : decode cX12_year 240 = .ok (.sipush 385, 3) := by decide +kernel
theorem dX12_year_243 : decode cX12_year 243 = .ok (.iaload, 1) := by decide +kernel
theorem dX12_year_244 : decode cX12_year 244 = .ok (.invokestatic 205, 3) := by decide +kernel
theorem dX12_year_247 : decode cX12_year 247 = .ok (.isub, 1) := by decide +kernel
theorem dX12_year_248 : decode cX12_year 248 = .ok (.goto 5, 3) := by decide +kernel
theorem dX12_year_251 : decode cX12_year 251 = .ok (.iload 4, 2) := by decide +kernel
theorem dX12_year_253 : decode cX12_year 253 = .ok (.ireturn, 1) := by decide +kernel
theorem dX12_keep_0 : decode cX12_keep 0 = .ok (.aload_n 0, 1) := by decide +kernel
theorem dX12_keep_1 : decode cX12_keep 1 = .ok (.getfield 72, 3) := by decide +kernel
theorem dX12_keep_4 : decode cX12_keep 4 = .ok (.iconst 2, 1) := by decide +kernel
theorem dX12_keep_5 : decode cX12_keep 5 = .ok (.if_icmp .ne 6, 3) := by decide +kernel
theorem dX12_keep_8 : decode cX12_keep 8 = .ok (.bipush (-3), 2) := by decide +kernel
theorem dX12_keep_10 : decode cX12_keep 10 = .ok (.ireturn, 1) := by decide +kernel
theorem dX12_keep_11 : decode cX12_keep 11 = .ok (.aload_n 0, 1) := by decide +kernel
theorem dX12_keep_12 : decode cX12_keep 12 = .ok (.iconst 0, 1) := by decide +kernel
theorem dX12_keep_13 : decode cX12_keep 13 = .ok (.bipush 35, 2) := by decide +kernel
theorem dX12_keep_15 : decode cX12_keep 15 = .ok (.bipush 35, 2) := by decide +kernel
theorem dX12_keep_17 : decode cX12_keep 17 = .ok (.aload_n 0, 1) := by decide +kernel
theorem dX12_keep_18 : decode cX12_keep 18 = .ok (.getfield 72, 3) := by decide +kernel
theorem dX12_keep_21 : decode cX12_keep 21 = .ok (.imul, 1) := by decide +kernel
theorem dX12_keep_22 : decode cX12_keep 22 = .ok (.iadd, 1) := by decide +kernel
theorem dX12_keep_23 : decode cX12_keep 23 = .ok (.invokevirtual 147, 3) := by decide +kernel
theorem dX12_keep_26 : decode cX12_keep 26 = .ok (.aload_n 0, 1) := by decide +kernel
theorem dX12_keep_27 : decode cX12_keep 27 = .ok (.dup, 1) := by decide +kernel
theorem dX12_keep_28 : decode cX12_keep 28 = .ok (.getfield 72, 3) := by decide +kernel
theorem dX12_keep_31 : decode cX12_keep 31 = .ok (.iconst 1, 1) := by decide +kernel
theorem dX12_keep_32 : decode cX12_keep 32 = .ok (.iadd, 1) := by decide +kernel
theorem dX12_keep_33 : decode cX12_keep 33 = .ok (.putfield 72, 3) := by decide +kernel
theorem dX12_keep_36 : decode cX12_keep 36 = .ok (.aload_n 0, 1) := by decide +kernel
theorem dX12_keep_37 : decode cX12_keep 37 = .ok (.getfield 72, 3) := by decide +kernel
theorem dX12_keep_40 : decode cX12_keep 40 = .ok (.ireturn, 1) := by decide +kernel
theorem dX12_back_0 : decode cX12_back 0 = .ok (.aload_n 0, 1) := by decide +kernel
theorem dX12_back_1 : decode cX12_back 1 = .ok (.getfield 72, 3) := by decide +kernel
theorem dX12_back_4 : decode cX12_back 4 = .ok (.ifCond .ne 6, 3) := by decide +kernel
theorem dX12_back_7 : decode cX12_back 7 = .ok (.bipush (-2), 2) := by decide +kernel
theorem dX12_back_9 : decode cX12_back 9 = .ok (.ireturn, 1) := by decide +kernel
theorem dX12_back_10 : decode cX12_back 10 = .ok (.aload_n 0, 1) := by decide +kernel
theorem dX12_back_11 : decode cX12_back 11 = .ok (.dup, 1) := by decide +kernel
theorem dX12_back_12 : decode cX12_back 12 = .ok (.getfield 72, 3) := by decide +kernel
theorem dX12_back_15 : decode cX12_back 15 = .ok (.iconst 1, 1) := by decide +kernel
theorem dX12_back_16 : decode cX12_back 16 = .ok (.isub, 1) := by decide +kernel
theorem dX12_back_17 : decode cX12_back 17 = .ok (.putfield 72, 3) := by decide +kernel
theorem dX12_back_20 : decode cX12_back 20 = .ok (.aload_n 0, 1) := by decide +kernel
theorem dX12_back_21 : decode cX12_back 21 = .ok (.bipush 35, 2) := by decide +kernel
theorem dX12_back_23 : decode cX12_back 23 = .ok (.bipush 35, 2) := by decide +kernel
theorem dX12_back_25 : decode cX12_back 25 = .ok (.aload_n 0, 1) := by decide +kernel
theorem dX12_back_26 : decode cX12_back 26 = .ok (.getfield 72, 3) := by decide +kernel
theorem dX12_back_29 : decode cX12_back 29 = .ok (.imul, 1) := by decide +kernel
theorem dX12_back_30 : decode cX12_back 30 = .ok (.iadd, 1) := by decide +kernel
theorem dX12_back_31 : decode cX12_back 31 = .ok (.iconst 0, 1) := by decide +kernel
theorem dX12_back_32 : decode cX12_back 32 = .ok (.invokevirtual 147, 3) := by decide +kernel
theorem dX12_back_35 : decode cX12_back 35 = .ok (.aload_n 0, 1) := by decide +kernel
theorem dX12_back_36 : decode cX12_back 36 = .ok (.iconst 0, 1) := by decide +kernel
theorem dX12_back_37 : decode cX12_back 37 = .ok (.putfield 68, 3) := by decide +kernel
theorem dX12_back_40 : decode cX12_back 40 = .ok (.aload_n 0, 1) := by decide +kernel
theorem dX12_back_41 : decode cX12_back 41 = .ok (.getfield 72, 3) := by decide +kernel
theorem dX12_back_44 : decode cX12_back 44 = .ok (.ireturn, 1) := by decide +kernel
theorem dX12_paidInAll_0 : decode cX12_paidInAll 0 = .ok (.iconst 0, 1) := by decide +kernel
theorem dX12_paidInAll_1 : decode cX12_paidInAll 1 = .ok (.istore_n 1, 1) := by decide +kernel
theorem dX12_paidInAll_2 : decode cX12_paidInAll 2 = .ok (.iconst 0, 1) := by decide +kernel
theorem dX12_paidInAll_3 : decode cX12_paidInAll 3 = .ok (.istore_n 2, 1) := by decide +kernel
theorem dX12_paidInAll_4 : decode cX12_paidInAll 4 = .ok (.iload_n 2, 1) := by decide +kernel
theorem dX12_paidInAll_5 : decode cX12_paidInAll 5 = .ok (.aload_n 0, 1) := by decide +kernel
theorem dX12_paidInAll_6 : decode cX12_paidInAll 6 = .ok (.getfield 7, 3) := by decide +kernel
theorem dX12_paidInAll_9 : decode cX12_paidInAll 9 = .ok (.iconst 0, 1) := by decide +kernel
theorem dX12_paidInAll_10 : decode cX12_paidInAll 10 = .ok (.iaload, 1) := by decide +kernel
theorem dX12_paidInAll_11 : decode cX12_paidInAll 11 = .ok (.if_icmp .ge 21, 3) := by decide +kernel
theorem dX12_paidInAll_14 : decode cX12_paidInAll 14 = .ok (.iload_n 1, 1) := by decide +kernel
theorem dX12_paidInAll_15 : decode cX12_paidInAll 15 = .ok (.aload_n 0, 1) := by decide +kernel
theorem dX12_paidInAll_16 : decode cX12_paidInAll 16 = .ok (.getfield 13, 3) := by decide +kernel
theorem dX12_paidInAll_19 : decode cX12_paidInAll 19 = .ok (.bipush 7, 2) := by decide +kernel
theorem dX12_paidInAll_21 : decode cX12_paidInAll 21 = .ok (.iload_n 2, 1) := by decide +kernel
theorem dX12_paidInAll_22 : decode cX12_paidInAll 22 = .ok (.iadd, 1) := by decide +kernel
theorem dX12_paidInAll_23 : decode cX12_paidInAll 23 = .ok (.iaload, 1) := by decide +kernel
theorem dX12_paidInAll_24 : decode cX12_paidInAll 24 = .ok (.iadd, 1) := by decide +kernel
theorem dX12_paidInAll_25 : decode cX12_paidInAll 25 = .ok (.istore_n 1, 1) := by decide +kernel
theorem dX12_paidInAll_26 : decode cX12_paidInAll 26 = .ok (.iinc 2 1, 3) := by decide +kernel
theorem dX12_paidInAll_29 : decode cX12_paidInAll 29 = .ok (.goto (-25), 3) := by decide +kernel
theorem dX12_paidInAll_32 : decode cX12_paidInAll 32 = .ok (.iload_n 1, 1) := by decide +kernel
theorem dX12_paidInAll_33 : decode cX12_paidInAll 33 = .ok (.ireturn, 1) := by decide +kernel
theorem dX12_goodsThat_0 : decode cX12_goodsThat 0 = .ok (.iconst 0, 1) := by decide +kernel
theorem dX12_goodsThat_1 : decode cX12_goodsThat 1 = .ok (.istore_n 2, 1) := by decide +kernel
theorem dX12_goodsThat_2 : decode cX12_goodsThat 2 = .ok (.iconst 0, 1) := by decide +kernel
theorem dX12_goodsThat_3 : decode cX12_goodsThat 3 = .ok (.istore_n 3, 1) := by decide +kernel
theorem dX12_goodsThat_4 : decode cX12_goodsThat 4 = .ok (.iload_n 3, 1) := by decide +kernel
theorem dX12_goodsThat_5 : decode cX12_goodsThat 5 = .ok (.aload_n 0, 1) := by decide +kernel
theorem dX12_goodsThat_6 : decode cX12_goodsThat 6 = .ok (.getfield 7, 3) := by decide +kernel
theorem dX12_goodsThat_9 : decode cX12_goodsThat 9 = .ok (.iconst 1, 1) := by decide +kernel
theorem dX12_goodsThat_10 : decode cX12_goodsThat 10 = .ok (.iaload, 1) := by decide +kernel
theorem dX12_goodsThat_11 : decode cX12_goodsThat 11 = .ok (.if_icmp .ge 51, 3) := by decide +kernel
theorem dX12_goodsThat_14 : decode cX12_goodsThat 14 = .ok (.iload_n 2, 1) := by decide +kernel
theorem dX12_goodsThat_15 : decode cX12_goodsThat 15 = .ok (.iload_n 1, 1) := by decide +kernel
theorem dX12_goodsThat_16 : decode cX12_goodsThat 16 = .ok (.ifCond .eq 19, 3) := by decide +kernel
theorem dX12_goodsThat_19 : decode cX12_goodsThat 19 = .ok (.aload_n 0, 1) := by decide +kernel
theorem dX12_goodsThat_20 : decode cX12_goodsThat 20 = .ok (.getfield 13, 3) := by decide +kernel
theorem dX12_goodsThat_23 : decode cX12_goodsThat 23 = .ok (.bipush 27, 2) := by decide +kernel
theorem dX12_goodsThat_25 : decode cX12_goodsThat 25 = .ok (.iload_n 3, 1) := by decide +kernel
theorem dX12_goodsThat_26 : decode cX12_goodsThat 26 = .ok (.iadd, 1) := by decide +kernel
theorem dX12_goodsThat_27 : decode cX12_goodsThat 27 = .ok (.iaload, 1) := by decide +kernel
theorem dX12_goodsThat_28 : decode cX12_goodsThat 28 = .ok (.iconst 1, 1) := by decide +kernel
theorem dX12_goodsThat_29 : decode cX12_goodsThat 29 = .ok (.if_icmp .ne 24, 3) := by decide +kernel
theorem dX12_goodsThat_32 : decode cX12_goodsThat 32 = .ok (.goto 17, 3) := by decide +kernel
theorem dX12_goodsThat_35 : decode cX12_goodsThat 35 = .ok (.aload_n 0, 1) := by decide +kernel
theorem dX12_goodsThat_36 : decode cX12_goodsThat 36 = .ok (.getfield 13, 3) := by decide +kernel
theorem dX12_goodsThat_39 : decode cX12_goodsThat 39 = .ok (.bipush 19, 2) := by decide +kernel
theorem dX12_goodsThat_41 : decode cX12_goodsThat 41 = .ok (.iload_n 3, 1) := by decide +kernel
theorem dX12_goodsThat_42 : decode cX12_goodsThat 42 = .ok (.iadd, 1) := by decide +kernel
theorem dX12_goodsThat_43 : decode cX12_goodsThat 43 = .ok (.iaload, 1) := by decide +kernel
theorem dX12_goodsThat_44 : decode cX12_goodsThat 44 = .ok (.bipush (-4), 2) := by decide +kernel
theorem dX12_goodsThat_46 : decode cX12_goodsThat 46 = .ok (.if_icmp .ne 7, 3) := by decide +kernel
theorem dX12_goodsThat_49 : decode cX12_goodsThat 49 = .ok (.iconst 1, 1) := by decide +kernel
theorem dX12_goodsThat_50 : decode cX12_goodsThat 50 = .ok (.goto 4, 3) := by decide +kernel
theorem dX12_goodsThat_53 : decode cX12_goodsThat 53 = .ok (.iconst 0, 1) := by decide +kernel
theorem dX12_goodsThat_54 : decode cX12_goodsThat 54 = .ok (.iadd, 1) := by decide +kernel
theorem dX12_goodsThat_55 : decode cX12_goodsThat 55 = .ok (.istore_n 2, 1) := by decide +kernel
theorem dX12_goodsThat_56 : decode cX12_goodsThat 56 = .ok (.iinc 3 1, 3) := by decide +kernel
theorem dX12_goodsThat_59 : decode cX12_goodsThat 59 = .ok (.goto (-55), 3) := by decide +kernel
theorem dX12_goodsThat_62 : decode cX12_goodsThat 62 = .ok (.iload_n 2, 1) := by decide +kernel
theorem dX12_goodsThat_63 : decode cX12_goodsThat 63 = .ok (.ireturn, 1) := by decide +kernel
theorem dX12_count_0 : decode cX12_count 0 = .ok (.iload_n 1, 1) := by decide +kernel
theorem dX12_count_1 : decode cX12_count 1 = .ok (.tableswitch 134 0 10 #[59, 66, 73, 90, 96, 102, 107, 114, 119, 124, 129], 59) := by decide +kernel
theorem dX12_count_60 : decode cX12_count 60 = .ok (.aload_n 0, 1) := by decide +kernel
theorem dX12_count_61 : decode cX12_count 61 = .ok (.getfield 7, 3) := by decide +kernel
theorem dX12_count_64 : decode cX12_count 64 = .ok (.iconst 0, 1) := by decide +kernel
theorem dX12_count_65 : decode cX12_count 65 = .ok (.iaload, 1) := by decide +kernel
theorem dX12_count_66 : decode cX12_count 66 = .ok (.ireturn, 1) := by decide +kernel
theorem dX12_count_67 : decode cX12_count 67 = .ok (.aload_n 0, 1) := by decide +kernel
theorem dX12_count_68 : decode cX12_count 68 = .ok (.getfield 7, 3) := by decide +kernel
theorem dX12_count_71 : decode cX12_count 71 = .ok (.iconst 1, 1) := by decide +kernel
theorem dX12_count_72 : decode cX12_count 72 = .ok (.iaload, 1) := by decide +kernel
theorem dX12_count_73 : decode cX12_count 73 = .ok (.ireturn, 1) := by decide +kernel
theorem dX12_count_74 : decode cX12_count 74 = .ok (.aload_n 0, 1) := by decide +kernel
theorem dX12_count_75 : decode cX12_count 75 = .ok (.getfield 7, 3) := by decide +kernel
theorem dX12_count_78 : decode cX12_count 78 = .ok (.iconst 0, 1) := by decide +kernel
theorem dX12_count_79 : decode cX12_count 79 = .ok (.iaload, 1) := by decide +kernel
theorem dX12_count_80 : decode cX12_count 80 = .ok (.aload_n 0, 1) := by decide +kernel
theorem dX12_count_81 : decode cX12_count 81 = .ok (.getfield 13, 3) := by decide +kernel
theorem dX12_count_84 : decode cX12_count 84 = .ok (.iconst 0, 1) := by decide +kernel
theorem dX12_count_85 : decode cX12_count 85 = .ok (.iaload, 1) := by decide +kernel
theorem dX12_count_86 : decode cX12_count 86 = .ok (.invokestatic 205, 3) := by decide +kernel
theorem dX12_count_89 : decode cX12_count 89 = .ok (.isub, 1) := by decide +kernel
theorem dX12_count_90 : decode cX12_count 90 = .ok (.ireturn, 1) := by decide +kernel
theorem dX12_count_91 : decode cX12_count 91 = .ok (.aload_n 0, 1) := by decide +kernel
theorem dX12_count_92 : decode cX12_count 92 = .ok (.iconst 1, 1) := by decide +kernel
theorem dX12_count_93 : decode cX12_count 93 = .ok (.invokevirtual 218, 3) := by decide +kernel
theorem dX12_count_96 : decode cX12_count 96 = .ok (.ireturn, 1) := by decide +kernel
theorem dX12_count_97 : decode cX12_count 97 = .ok (.aload_n 0, 1) := by decide +kernel
theorem dX12_count_98 : decode cX12_count 98 = .ok (.iconst 0, 1) := by decide +kernel
theorem dX12_count_99 : decode cX12_count 99 = .ok (.invokevirtual 218, 3) := by decide +kernel
theorem dX12_count_102 : decode cX12_count 102 = .ok (.ireturn, 1) := by decide +kernel
theorem dX12_count_103 : decode cX12_count 103 = .ok (.aload_n 0, 1) := by decide +kernel
theorem dX12_count_104 : decode cX12_count 104 = .ok (.invokevirtual 222, 3) := by decide +kernel
theorem dX12_count_107 : decode cX12_count 107 = .ok (.ireturn, 1) := by decide +kernel
theorem dX12_count_108 : decode cX12_count 108 = .ok (.aload_n 0, 1) := by decide +kernel
theorem dX12_count_109 : decode cX12_count 109 = .ok (.getfield 7, 3) := by decide +kernel
theorem dX12_count_112 : decode cX12_count 112 = .ok (.iconst 2, 1) := by decide +kernel
theorem dX12_count_113 : decode cX12_count 113 = .ok (.iaload, 1) := by decide +kernel
theorem dX12_count_114 : decode cX12_count 114 = .ok (.ireturn, 1) := by decide +kernel
theorem dX12_count_115 : decode cX12_count 115 = .ok (.aload_n 0, 1) := by decide +kernel
theorem dX12_count_116 : decode cX12_count 116 = .ok (.getfield 75, 3) := by decide +kernel
theorem dX12_count_119 : decode cX12_count 119 = .ok (.ireturn, 1) := by decide +kernel
theorem dX12_count_120 : decode cX12_count 120 = .ok (.aload_n 0, 1) := by decide +kernel
theorem dX12_count_121 : decode cX12_count 121 = .ok (.getfield 68, 3) := by decide +kernel
theorem dX12_count_124 : decode cX12_count 124 = .ok (.ireturn, 1) := by decide +kernel
theorem dX12_count_125 : decode cX12_count 125 = .ok (.aload_n 0, 1) := by decide +kernel
theorem dX12_count_126 : decode cX12_count 126 = .ok (.getfield 72, 3) := by decide +kernel
theorem dX12_count_129 : decode cX12_count 129 = .ok (.ireturn, 1) := by decide +kernel
theorem dX12_count_130 : decode cX12_count 130 = .ok (.aload_n 0, 1) := by decide +kernel
theorem dX12_count_131 : decode cX12_count 131 = .ok (.getfield 82, 3) := by decide +kernel
theorem dX12_count_134 : decode cX12_count 134 = .ok (.ireturn, 1) := by decide +kernel
theorem dX12_count_135 : decode cX12_count 135 = .ok (.iconst (-1), 1) := by decide +kernel
theorem dX12_count_136 : decode cX12_count 136 = .ok (.ireturn, 1) := by decide +kernel
theorem dJ6_bitCount_0f7a4_0 : decode cJ6_bitCount_0f7a4 0 = .ok (.iload_n 0, 1) := by decide +kernel
theorem dJ6_bitCount_0f7a4_1 : decode cJ6_bitCount_0f7a4 1 = .ok (.iload_n 0, 1) := by decide +kernel
theorem dJ6_bitCount_0f7a4_2 : decode cJ6_bitCount_0f7a4 2 = .ok (.iconst 1, 1) := by decide +kernel
theorem dJ6_bitCount_0f7a4_3 : decode cJ6_bitCount_0f7a4 3 = .ok (.iushr, 1) := by decide +kernel
theorem dJ6_bitCount_0f7a4_4 : decode cJ6_bitCount_0f7a4 4 = .ok (.ldc_w 265, 3) := by decide +kernel
theorem dJ6_bitCount_0f7a4_7 : decode cJ6_bitCount_0f7a4 7 = .ok (.iand, 1) := by decide +kernel
theorem dJ6_bitCount_0f7a4_8 : decode cJ6_bitCount_0f7a4 8 = .ok (.isub, 1) := by decide +kernel
theorem dJ6_bitCount_0f7a4_9 : decode cJ6_bitCount_0f7a4 9 = .ok (.istore_n 0, 1) := by decide +kernel
theorem dJ6_bitCount_0f7a4_10 : decode cJ6_bitCount_0f7a4 10 = .ok (.iload_n 0, 1) := by decide +kernel
theorem dJ6_bitCount_0f7a4_11 : decode cJ6_bitCount_0f7a4 11 = .ok (.ldc_w 266, 3) := by decide +kernel
theorem dJ6_bitCount_0f7a4_14 : decode cJ6_bitCount_0f7a4 14 = .ok (.iand, 1) := by decide +kernel
theorem dJ6_bitCount_0f7a4_15 : decode cJ6_bitCount_0f7a4 15 = .ok (.iload_n 0, 1) := by decide +kernel
theorem dJ6_bitCount_0f7a4_16 : decode cJ6_bitCount_0f7a4 16 = .ok (.iconst 2, 1) := by decide +kernel
theorem dJ6_bitCount_0f7a4_17 : decode cJ6_bitCount_0f7a4 17 = .ok (.iushr, 1) := by decide +kernel
theorem dJ6_bitCount_0f7a4_18 : decode cJ6_bitCount_0f7a4 18 = .ok (.ldc_w 266, 3) := by decide +kernel
theorem dJ6_bitCount_0f7a4_21 : decode cJ6_bitCount_0f7a4 21 = .ok (.iand, 1) := by decide +kernel
theorem dJ6_bitCount_0f7a4_22 : decode cJ6_bitCount_0f7a4 22 = .ok (.iadd, 1) := by decide +kernel
theorem dJ6_bitCount_0f7a4_23 : decode cJ6_bitCount_0f7a4 23 = .ok (.istore_n 0, 1) := by decide +kernel
theorem dJ6_bitCount_0f7a4_24 : decode cJ6_bitCount_0f7a4 24 = .ok (.iload_n 0, 1) := by decide +kernel
theorem dJ6_bitCount_0f7a4_25 : decode cJ6_bitCount_0f7a4 25 = .ok (.iload_n 0, 1) := by decide +kernel
theorem dJ6_bitCount_0f7a4_26 : decode cJ6_bitCount_0f7a4 26 = .ok (.iconst 4, 1) := by decide +kernel
theorem dJ6_bitCount_0f7a4_27 : decode cJ6_bitCount_0f7a4 27 = .ok (.iushr, 1) := by decide +kernel
theorem dJ6_bitCount_0f7a4_28 : decode cJ6_bitCount_0f7a4 28 = .ok (.iadd, 1) := by decide +kernel
theorem dJ6_bitCount_0f7a4_29 : decode cJ6_bitCount_0f7a4 29 = .ok (.ldc_w 267, 3) := by decide +kernel
theorem dJ6_bitCount_0f7a4_32 : decode cJ6_bitCount_0f7a4 32 = .ok (.iand, 1) := by decide +kernel
theorem dJ6_bitCount_0f7a4_33 : decode cJ6_bitCount_0f7a4 33 = .ok (.istore_n 0, 1) := by decide +kernel
theorem dJ6_bitCount_0f7a4_34 : decode cJ6_bitCount_0f7a4 34 = .ok (.iload_n 0, 1) := by decide +kernel
theorem dJ6_bitCount_0f7a4_35 : decode cJ6_bitCount_0f7a4 35 = .ok (.iload_n 0, 1) := by decide +kernel
theorem dJ6_bitCount_0f7a4_36 : decode cJ6_bitCount_0f7a4 36 = .ok (.bipush 8, 2) := by decide +kernel
theorem dJ6_bitCount_0f7a4_38 : decode cJ6_bitCount_0f7a4 38 = .ok (.iushr, 1) := by decide +kernel
theorem dJ6_bitCount_0f7a4_39 : decode cJ6_bitCount_0f7a4 39 = .ok (.iadd, 1) := by decide +kernel
theorem dJ6_bitCount_0f7a4_40 : decode cJ6_bitCount_0f7a4 40 = .ok (.istore_n 0, 1) := by decide +kernel
theorem dJ6_bitCount_0f7a4_41 : decode cJ6_bitCount_0f7a4 41 = .ok (.iload_n 0, 1) := by decide +kernel
theorem dJ6_bitCount_0f7a4_42 : decode cJ6_bitCount_0f7a4 42 = .ok (.iload_n 0, 1) := by decide +kernel
theorem dJ6_bitCount_0f7a4_43 : decode cJ6_bitCount_0f7a4 43 = .ok (.bipush 16, 2) := by decide +kernel
theorem dJ6_bitCount_0f7a4_45 : decode cJ6_bitCount_0f7a4 45 = .ok (.iushr, 1) := by decide +kernel
theorem dJ6_bitCount_0f7a4_46 : decode cJ6_bitCount_0f7a4 46 = .ok (.iadd, 1) := by decide +kernel
theorem dJ6_bitCount_0f7a4_47 : decode cJ6_bitCount_0f7a4 47 = .ok (.istore_n 0, 1) := by decide +kernel
theorem dJ6_bitCount_0f7a4_48 : decode cJ6_bitCount_0f7a4 48 = .ok (.iload_n 0, 1) := by decide +kernel
theorem dJ6_bitCount_0f7a4_49 : decode cJ6_bitCount_0f7a4 49 = .ok (.bipush 63, 2) := by decide +kernel
theorem dJ6_bitCount_0f7a4_51 : decode cJ6_bitCount_0f7a4 51 = .ok (.iand, 1) := by decide +kernel
theorem dJ6_bitCount_0f7a4_52 : decode cJ6_bitCount_0f7a4 52 = .ok (.ireturn, 1) := by decide +kernel
theorem dJ9_max_7cf53_0 : decode cJ9_max_7cf53 0 = .ok (.iload_n 0, 1) := by decide +kernel
theorem dJ9_max_7cf53_1 : decode cJ9_max_7cf53 1 = .ok (.iload_n 1, 1) := by decide +kernel
theorem dJ9_max_7cf53_2 : decode cJ9_max_7cf53 2 = .ok (.if_icmp .lt 7, 3) := by decide +kernel
theorem dJ9_max_7cf53_5 : decode cJ9_max_7cf53 5 = .ok (.iload_n 0, 1) := by decide +kernel
theorem dJ9_max_7cf53_6 : decode cJ9_max_7cf53 6 = .ok (.goto 4, 3) := by decide +kernel
theorem dJ9_max_7cf53_9 : decode cJ9_max_7cf53 9 = .ok (.iload_n 1, 1) := by decide +kernel
theorem dJ9_max_7cf53_10 : decode cJ9_max_7cf53 10 = .ok (.ireturn, 1) := by decide +kernel
theorem dJ9_min_7cf53_0 : decode cJ9_min_7cf53 0 = .ok (.iload_n 0, 1) := by decide +kernel
theorem dJ9_min_7cf53_1 : decode cJ9_min_7cf53 1 = .ok (.iload_n 1, 1) := by decide +kernel
theorem dJ9_min_7cf53_2 : decode cJ9_min_7cf53 2 = .ok (.if_icmp .gt 7, 3) := by decide +kernel
theorem dJ9_min_7cf53_5 : decode cJ9_min_7cf53 5 = .ok (.iload_n 0, 1) := by decide +kernel
theorem dJ9_min_7cf53_6 : decode cJ9_min_7cf53 6 = .ok (.goto 4, 3) := by decide +kernel
theorem dJ9_min_7cf53_9 : decode cJ9_min_7cf53 9 = .ok (.iload_n 1, 1) := by decide +kernel
theorem dJ9_min_7cf53_10 : decode cJ9_min_7cf53 10 = .ok (.ireturn, 1) := by decide +kernel
theorem dJ0_length_8abf5_0 : decode cJ0_length_8abf5 0 = .ok (.aload_n 0, 1) := by decide +kernel
theorem dJ0_length_8abf5_1 : decode cJ0_length_8abf5 1 = .ok (.getfield 9, 3) := by decide +kernel
theorem dJ0_length_8abf5_4 : decode cJ0_length_8abf5 4 = .ok (.arraylength, 1) := by decide +kernel
theorem dJ0_length_8abf5_5 : decode cJ0_length_8abf5 5 = .ok (.aload_n 0, 1) := by decide +kernel
theorem dJ0_length_8abf5_6 : decode cJ0_length_8abf5 6 = .ok (.invokevirtual 335, 3) := by decide +kernel
theorem dJ0_length_8abf5_9 : decode cJ0_length_8abf5 9 = .ok (.ishr, 1) := by decide +kernel
theorem dJ0_length_8abf5_10 : decode cJ0_length_8abf5 10 = .ok (.ireturn, 1) := by decide +kernel
theorem dJ0_charAt_5068e_0 : decode cJ0_charAt_5068e 0 = .ok (.aload_n 0, 1) := by decide +kernel
theorem dJ0_charAt_5068e_1 : decode cJ0_charAt_5068e 1 = .ok (.invokevirtual 492, 3) := by decide +kernel
theorem dJ0_charAt_5068e_4 : decode cJ0_charAt_5068e 4 = .ok (.ifCond .eq 12, 3) := by decide +kernel
theorem dJ0_charAt_5068e_7 : decode cJ0_charAt_5068e 7 = .ok (.aload_n 0, 1) := by decide +kernel
theorem dJ0_charAt_5068e_8 : decode cJ0_charAt_5068e 8 = .ok (.getfield 9, 3) := by decide +kernel
theorem dJ0_charAt_5068e_11 : decode cJ0_charAt_5068e 11 = .ok (.iload_n 1, 1) := by decide +kernel
theorem dJ0_charAt_5068e_12 : decode cJ0_charAt_5068e 12 = .ok (.invokestatic 495, 3) := by decide +kernel
theorem dJ0_charAt_5068e_15 : decode cJ0_charAt_5068e 15 = .ok (.ireturn, 1) := by decide +kernel
theorem dJ0_charAt_5068e_16 : decode cJ0_charAt_5068e 16 = .ok (.aload_n 0, 1) := by decide +kernel
theorem dJ0_charAt_5068e_17 : decode cJ0_charAt_5068e 17 = .ok (.getfield 9, 3) := by decide +kernel
theorem dJ0_charAt_5068e_20 : decode cJ0_charAt_5068e 20 = .ok (.iload_n 1, 1) := by decide +kernel
theorem dJ0_charAt_5068e_21 : decode cJ0_charAt_5068e 21 = .ok (.invokestatic 498, 3) := by decide +kernel
theorem dJ0_charAt_5068e_24 : decode cJ0_charAt_5068e 24 = .ok (.ireturn, 1) := by decide +kernel
theorem dJ0_coder_7d493_0 : decode cJ0_coder_7d493 0 = .ok (.getstatic 38, 3) := by decide +kernel
theorem dJ0_coder_7d493_3 : decode cJ0_coder_7d493 3 = .ok (.ifCond .eq 10, 3) := by decide +kernel
theorem dJ0_coder_7d493_6 : decode cJ0_coder_7d493 6 = .ok (.aload_n 0, 1) := by decide +kernel
theorem dJ0_coder_7d493_7 : decode cJ0_coder_7d493 7 = .ok (.getfield 15, 3) := by decide +kernel
theorem dJ0_coder_7d493_10 : decode cJ0_coder_7d493 10 = .ok (.goto 4, 3) := by decide +kernel
theorem dJ0_coder_7d493_13 : decode cJ0_coder_7d493 13 = .ok (.iconst 1, 1) := by decide +kernel
theorem dJ0_coder_7d493_14 : decode cJ0_coder_7d493 14 = .ok (.ireturn, 1) := by decide +kernel
theorem dJ0_isLatin1_aae02_0 : decode cJ0_isLatin1_aae02 0 = .ok (.getstatic 38, 3) := by decide +kernel
theorem dJ0_isLatin1_aae02_3 : decode cJ0_isLatin1_aae02 3 = .ok (.ifCond .eq 14, 3) := by decide +kernel
theorem dJ0_isLatin1_aae02_6 : decode cJ0_isLatin1_aae02 6 = .ok (.aload_n 0, 1) := by decide +kernel
theorem dJ0_isLatin1_aae02_7 : decode cJ0_isLatin1_aae02 7 = .ok (.getfield 15, 3) := by decide +kernel
theorem dJ0_isLatin1_aae02_10 : decode cJ0_isLatin1_aae02 10 = .ok (.ifCond .ne 7, 3) := by decide +kernel
theorem dJ0_isLatin1_aae02_13 : decode cJ0_isLatin1_aae02 13 = .ok (.iconst 1, 1) := by decide +kernel
theorem dJ0_isLatin1_aae02_14 : decode cJ0_isLatin1_aae02 14 = .ok (.goto 4, 3) := by decide +kernel
theorem dJ0_isLatin1_aae02_17 : decode cJ0_isLatin1_aae02 17 = .ok (.iconst 0, 1) := by decide +kernel
theorem dJ0_isLatin1_aae02_18 : decode cJ0_isLatin1_aae02 18 = .ok (.ireturn, 1) := by decide +kernel
theorem dJ0_checkIndex_df160_0 : decode cJ0_checkIndex_df160 0 = .ok (.iload_n 0, 1) := by decide +kernel
theorem dJ0_checkIndex_df160_1 : decode cJ0_checkIndex_df160 1 = .ok (.iload_n 1, 1) := by decide +kernel
theorem dJ0_checkIndex_df160_2 : decode cJ0_checkIndex_df160 2 = .ok (.getstatic 1053, 3) := by decide +kernel
theorem dJ0_checkIndex_df160_5 : decode cJ0_checkIndex_df160 5 = .ok (.invokestatic 1059, 3) := by decide +kernel
theorem dJ0_checkIndex_df160_8 : decode cJ0_checkIndex_df160 8 = .ok (.pop, 1) := by decide +kernel
theorem dJ0_checkIndex_df160_9 : decode cJ0_checkIndex_df160 9 = .ok (.return_, 1) := by decide +kernel
theorem dJ1_charAt_3b067_0 : decode cJ1_charAt_3b067 0 = .ok (.iload_n 1, 1) := by decide +kernel
theorem dJ1_charAt_3b067_1 : decode cJ1_charAt_3b067 1 = .ok (.aload_n 0, 1) := by decide +kernel
theorem dJ1_charAt_3b067_2 : decode cJ1_charAt_3b067 2 = .ok (.arraylength, 1) := by decide +kernel
theorem dJ1_charAt_3b067_3 : decode cJ1_charAt_3b067 3 = .ok (.invokestatic 9, 3) := by decide +kernel
theorem dJ1_charAt_3b067_6 : decode cJ1_charAt_3b067 6 = .ok (.aload_n 0, 1) := by decide +kernel
theorem dJ1_charAt_3b067_7 : decode cJ1_charAt_3b067 7 = .ok (.iload_n 1, 1) := by decide +kernel
theorem dJ1_charAt_3b067_8 : decode cJ1_charAt_3b067 8 = .ok (.baload, 1) := by decide +kernel
theorem dJ1_charAt_3b067_9 : decode cJ1_charAt_3b067 9 = .ok (.sipush 255, 3) := by decide +kernel
theorem dJ1_charAt_3b067_12 : decode cJ1_charAt_3b067 12 = .ok (.iand, 1) := by decide +kernel
theorem dJ1_charAt_3b067_13 : decode cJ1_charAt_3b067 13 = .ok (.i2c, 1) := by decide +kernel
theorem dJ1_charAt_3b067_14 : decode cJ1_charAt_3b067 14 = .ok (.ireturn, 1) := by decide +kernel
theorem dJ2_getChar_3b067_0 : decode cJ2_getChar_3b067 0 = .ok (.getstatic 44, 3) := by decide +kernel
theorem dJ2_getChar_3b067_3 : decode cJ2_getChar_3b067 3 = .ok (.ifCond .ne 25, 3) := by decide +kernel
theorem dJ2_getChar_3b067_6 : decode cJ2_getChar_3b067 6 = .ok (.iload_n 1, 1) := by decide +kernel
theorem dJ2_getChar_3b067_7 : decode cJ2_getChar_3b067 7 = .ok (.ifCond .lt 11, 3) := by decide +kernel
theorem dJ2_getChar_3b067_10 : decode cJ2_getChar_3b067 10 = .ok (.iload_n 1, 1) := by decide +kernel
theorem dJ2_getChar_3b067_11 : decode cJ2_getChar_3b067 11 = .ok (.aload_n 0, 1) := by decide +kernel
theorem dJ2_getChar_3b067_12 : decode cJ2_getChar_3b067 12 = .ok (.invokestatic 48, 3) := by decide +kernel
theorem dJ2_getChar_3b067_15 : decode cJ2_getChar_3b067 15 = .ok (.if_icmp .lt 13, 3) := by decide +kernel
theorem dJ2_getChar_3b067_18 : decode cJ2_getChar_3b067 18 = .ok (.new 52, 3) := by decide +kernel
theorem dJ2_getChar_3b067_21 : decode cJ2_getChar_3b067 21 = .ok (.dup, 1) := by decide +kernel
theorem dJ2_getChar_3b067_22 : decode cJ2_getChar_3b067 22 = .ok (.ldc 54, 2) := by decide +kernel
theorem dJ2_getChar_3b067_24 : decode cJ2_getChar_3b067 24 = .ok (.invokespecial 56, 3) := by decide +kernel
theorem dJ2_getChar_3b067_27 : decode cJ2_getChar_3b067 27 = .ok (.athrow, 1) := by decide +kernel
theorem dJ2_getChar_3b067_28 : decode cJ2_getChar_3b067 28 = .ok (.iload_n 1, 1) := by decide +kernel
theorem dJ2_getChar_3b067_29 : decode cJ2_getChar_3b067 29 = .ok (.iconst 1, 1) := by decide +kernel
theorem dJ2_getChar_3b067_30 : decode cJ2_getChar_3b067 30 = .ok (.ishl, 1) := by decide +kernel
theorem dJ2_getChar_3b067_31 : decode cJ2_getChar_3b067 31 = .ok (.istore_n 1, 1) := by decide +kernel
theorem dJ2_getChar_3b067_32 : decode cJ2_getChar_3b067 32 = .ok (.aload_n 0, 1) := by decide +kernel
theorem dJ2_getChar_3b067_33 : decode cJ2_getChar_3b067 33 = .ok (.iload_n 1, 1) := by decide +kernel
theorem dJ2_getChar_3b067_34 : decode cJ2_getChar_3b067 34 = .ok (.iinc 1 1, 3) := by decide +kernel
theorem dJ2_getChar_3b067_37 : decode cJ2_getChar_3b067 37 = .ok (.baload, 1) := by decide +kernel
theorem dJ2_getChar_3b067_38 : decode cJ2_getChar_3b067 38 = .ok (.sipush 255, 3) := by decide +kernel
theorem dJ2_getChar_3b067_41 : decode cJ2_getChar_3b067 41 = .ok (.iand, 1) := by decide +kernel
theorem dJ2_getChar_3b067_42 : decode cJ2_getChar_3b067 42 = .ok (.getstatic 59, 3) := by decide +kernel
theorem dJ2_getChar_3b067_45 : decode cJ2_getChar_3b067 45 = .ok (.ishl, 1) := by decide +kernel
theorem dJ2_getChar_3b067_46 : decode cJ2_getChar_3b067 46 = .ok (.aload_n 0, 1) := by decide +kernel
theorem dJ2_getChar_3b067_47 : decode cJ2_getChar_3b067 47 = .ok (.iload_n 1, 1) := by decide +kernel
theorem dJ2_getChar_3b067_48 : decode cJ2_getChar_3b067 48 = .ok (.baload, 1) := by decide +kernel
theorem dJ2_getChar_3b067_49 : decode cJ2_getChar_3b067 49 = .ok (.sipush 255, 3) := by decide +kernel
theorem dJ2_getChar_3b067_52 : decode cJ2_getChar_3b067 52 = .ok (.iand, 1) := by decide +kernel
theorem dJ2_getChar_3b067_53 : decode cJ2_getChar_3b067 53 = .ok (.getstatic 63, 3) := by decide +kernel
theorem dJ2_getChar_3b067_56 : decode cJ2_getChar_3b067 56 = .ok (.ishl, 1) := by decide +kernel
theorem dJ2_getChar_3b067_57 : decode cJ2_getChar_3b067 57 = .ok (.ior, 1) := by decide +kernel
theorem dJ2_getChar_3b067_58 : decode cJ2_getChar_3b067 58 = .ok (.i2c, 1) := by decide +kernel
theorem dJ2_getChar_3b067_59 : decode cJ2_getChar_3b067 59 = .ok (.ireturn, 1) := by decide +kernel
theorem dJ2_length_9d52b_0 : decode cJ2_length_9d52b 0 = .ok (.aload_n 0, 1) := by decide +kernel
theorem dJ2_length_9d52b_1 : decode cJ2_length_9d52b 1 = .ok (.arraylength, 1) := by decide +kernel
theorem dJ2_length_9d52b_2 : decode cJ2_length_9d52b 2 = .ok (.iconst 1, 1) := by decide +kernel
theorem dJ2_length_9d52b_3 : decode cJ2_length_9d52b 3 = .ok (.ishr, 1) := by decide +kernel
theorem dJ2_length_9d52b_4 : decode cJ2_length_9d52b 4 = .ok (.ireturn, 1) := by decide +kernel
theorem dJ2_charAt_3b067_0 : decode cJ2_charAt_3b067 0 = .ok (.iload_n 1, 1) := by decide +kernel
theorem dJ2_charAt_3b067_1 : decode cJ2_charAt_3b067 1 = .ok (.aload_n 0, 1) := by decide +kernel
theorem dJ2_charAt_3b067_2 : decode cJ2_charAt_3b067 2 = .ok (.invokestatic 67, 3) := by decide +kernel
theorem dJ2_charAt_3b067_5 : decode cJ2_charAt_3b067 5 = .ok (.aload_n 0, 1) := by decide +kernel
theorem dJ2_charAt_3b067_6 : decode cJ2_charAt_3b067 6 = .ok (.iload_n 1, 1) := by decide +kernel
theorem dJ2_charAt_3b067_7 : decode cJ2_charAt_3b067 7 = .ok (.invokestatic 71, 3) := by decide +kernel
theorem dJ2_charAt_3b067_10 : decode cJ2_charAt_3b067 10 = .ok (.ireturn, 1) := by decide +kernel
theorem dJ2_checkIndex_2214a_0 : decode cJ2_checkIndex_2214a 0 = .ok (.iload_n 0, 1) := by decide +kernel
theorem dJ2_checkIndex_2214a_1 : decode cJ2_checkIndex_2214a 1 = .ok (.aload_n 1, 1) := by decide +kernel
theorem dJ2_checkIndex_2214a_2 : decode cJ2_checkIndex_2214a 2 = .ok (.invokestatic 48, 3) := by decide +kernel
theorem dJ2_checkIndex_2214a_5 : decode cJ2_checkIndex_2214a 5 = .ok (.invokestatic 414, 3) := by decide +kernel
theorem dJ2_checkIndex_2214a_8 : decode cJ2_checkIndex_2214a 8 = .ok (.return_, 1) := by decide +kernel
theorem dJ3_checkIndex_8e157_0 : decode cJ3_checkIndex_8e157 0 = .ok (.iload_n 0, 1) := by decide +kernel
theorem dJ3_checkIndex_8e157_1 : decode cJ3_checkIndex_8e157 1 = .ok (.ifCond .lt 8, 3) := by decide +kernel
theorem dJ3_checkIndex_8e157_4 : decode cJ3_checkIndex_8e157 4 = .ok (.iload_n 0, 1) := by decide +kernel
theorem dJ3_checkIndex_8e157_5 : decode cJ3_checkIndex_8e157 5 = .ok (.iload_n 1, 1) := by decide +kernel
theorem dJ3_checkIndex_8e157_6 : decode cJ3_checkIndex_8e157 6 = .ok (.if_icmp .lt 10, 3) := by decide +kernel
theorem dJ3_checkIndex_8e157_9 : decode cJ3_checkIndex_8e157 9 = .ok (.aload_n 2, 1) := by decide +kernel
theorem dJ3_checkIndex_8e157_10 : decode cJ3_checkIndex_8e157 10 = .ok (.iload_n 0, 1) := by decide +kernel
theorem dJ3_checkIndex_8e157_11 : decode cJ3_checkIndex_8e157 11 = .ok (.iload_n 1, 1) := by decide +kernel
theorem dJ3_checkIndex_8e157_12 : decode cJ3_checkIndex_8e157 12 = .ok (.invokestatic 95, 3) := by decide +kernel
theorem dJ3_checkIndex_8e157_15 : decode cJ3_checkIndex_8e157 15 = .ok (.athrow, 1) := by decide +kernel
theorem dJ3_checkIndex_8e157_16 : decode cJ3_checkIndex_8e157 16 = .ok (.iload_n 0, 1) := by decide +kernel
theorem dJ3_checkIndex_8e157_17 : decode cJ3_checkIndex_8e157 17 = .ok (.ireturn, 1) := by decide +kernel
theorem dL_law_0 : decode cL_law 0 = .ok (.new 7, 3) := by decide +kernel
theorem dL_law_3 : decode cL_law 3 = .ok (.dup, 1) := by decide +kernel
theorem dL_law_4 : decode cL_law 4 = .ok (.invokespecial 9, 3) := by decide +kernel
theorem dL_law_7 : decode cL_law 7 = .ok (.astore_n 1, 1) := by decide +kernel
theorem dL_law_8 : decode cL_law 8 = .ok (.new 10, 3) := by decide +kernel
theorem dL_law_11 : decode cL_law 11 = .ok (.dup, 1) := by decide +kernel
theorem dL_law_12 : decode cL_law 12 = .ok (.invokespecial 12, 3) := by decide +kernel
theorem dL_law_15 : decode cL_law 15 = .ok (.astore_n 2, 1) := by decide +kernel
theorem dL_law_16 : decode cL_law 16 = .ok (.iconst 0, 1) := by decide +kernel
theorem dL_law_17 : decode cL_law 17 = .ok (.istore_n 3, 1) := by decide +kernel
theorem dL_law_18 : decode cL_law 18 = .ok (.iload_n 3, 1) := by decide +kernel
theorem dL_law_19 : decode cL_law 19 = .ok (.aload_n 0, 1) := by decide +kernel
theorem dL_law_20 : decode cL_law 20 = .ok (.arraylength, 1) := by decide +kernel
theorem dL_law_21 : decode cL_law 21 = .ok (.iconst 5, 1) := by decide +kernel
theorem dL_law_22 : decode cL_law 22 = .ok (.isub, 1) := by decide +kernel
theorem dL_law_23 : decode cL_law 23 = .ok (.if_icmp .gt 920, 3) := by decide +kernel
theorem dL_law_26 : decode cL_law 26 = .ok (.aload_n 0, 1) := by decide +kernel
theorem dL_law_27 : decode cL_law 27 = .ok (.iload_n 3, 1) := by decide +kernel
theorem dL_law_28 : decode cL_law 28 = .ok (.iaload, 1) := by decide +kernel
theorem dL_law_29 : decode cL_law 29 = .ok (.bipush 31, 2) := by decide +kernel
theorem dL_law_31 : decode cL_law 31 = .ok (.iand, 1) := by decide +kernel
theorem dL_law_32 : decode cL_law 32 = .ok (.tableswitch 905 0 28 #[132, 155, 168, 181, 194, 227, 260, 293, 342, 375, 398, 431, 454, 467, 490, 523, 556, 589, 612, 625, 658, 671, 694, 737, 790, 813, 856, 869, 882], 132) := by decide +kernel
theorem dL_law_164 : decode cL_law 164 = .ok (.aload_n 1, 1) := by decide +kernel
theorem dL_law_165 : decode cL_law 165 = .ok (.aload_n 0, 1) := by decide +kernel
theorem dL_law_166 : decode cL_law 166 = .ok (.iload_n 3, 1) := by decide +kernel
theorem dL_law_167 : decode cL_law 167 = .ok (.iconst 1, 1) := by decide +kernel
theorem dL_law_168 : decode cL_law 168 = .ok (.iadd, 1) := by decide +kernel
theorem dL_law_169 : decode cL_law 169 = .ok (.iaload, 1) := by decide +kernel
theorem dL_law_170 : decode cL_law 170 = .ok (.invokevirtual 13, 3) := by decide +kernel
theorem dL_law_173 : decode cL_law 173 = .ok (.aload_n 2, 1) := by decide +kernel
theorem dL_law_174 : decode cL_law 174 = .ok (.aload_n 0, 1) := by decide +kernel
theorem dL_law_175 : decode cL_law 175 = .ok (.iload_n 3, 1) := by decide +kernel
theorem dL_law_176 : decode cL_law 176 = .ok (.iconst 1, 1) := by decide +kernel
theorem dL_law_177 : decode cL_law 177 = .ok (.iadd, 1) := by decide +kernel
theorem dL_law_178 : decode cL_law 178 = .ok (.iaload, 1) := by decide +kernel
theorem dL_law_179 : decode cL_law 179 = .ok (.invokevirtual 17, 3) := by decide +kernel
theorem dL_law_182 : decode cL_law 182 = .ok (.if_icmp .eq 755, 3) := by decide +kernel
theorem dL_law_185 : decode cL_law 185 = .ok (.iconst 0, 1) := by decide +kernel
theorem dL_law_186 : decode cL_law 186 = .ok (.ireturn, 1) := by decide +kernel
theorem dL_law_187 : decode cL_law 187 = .ok (.aload_n 1, 1) := by decide +kernel
theorem dL_law_188 : decode cL_law 188 = .ok (.invokevirtual 18, 3) := by decide +kernel
theorem dL_law_191 : decode cL_law 191 = .ok (.aload_n 2, 1) := by decide +kernel
theorem dL_law_192 : decode cL_law 192 = .ok (.invokevirtual 22, 3) := by decide +kernel
theorem dL_law_195 : decode cL_law 195 = .ok (.if_icmp .eq 742, 3) := by decide +kernel
theorem dL_law_198 : decode cL_law 198 = .ok (.iconst 0, 1) := by decide +kernel
theorem dL_law_199 : decode cL_law 199 = .ok (.ireturn, 1) := by decide +kernel
theorem dL_law_200 : decode cL_law 200 = .ok (.aload_n 1, 1) := by decide +kernel
theorem dL_law_201 : decode cL_law 201 = .ok (.invokevirtual 23, 3) := by decide +kernel
theorem dL_law_204 : decode cL_law 204 = .ok (.aload_n 2, 1) := by decide +kernel
theorem dL_law_205 : decode cL_law 205 = .ok (.invokevirtual 26, 3) := by decide +kernel
theorem dL_law_208 : decode cL_law 208 = .ok (.if_icmp .eq 729, 3) := by decide +kernel
theorem dL_law_211 : decode cL_law 211 = .ok (.iconst 0, 1) := by decide +kernel
theorem dL_law_212 : decode cL_law 212 = .ok (.ireturn, 1) := by decide +kernel
theorem dL_law_213 : decode cL_law 213 = .ok (.aload_n 1, 1) := by decide +kernel
theorem dL_law_214 : decode cL_law 214 = .ok (.invokevirtual 27, 3) := by decide +kernel
theorem dL_law_217 : decode cL_law 217 = .ok (.aload_n 2, 1) := by decide +kernel
theorem dL_law_218 : decode cL_law 218 = .ok (.invokevirtual 30, 3) := by decide +kernel
theorem dL_law_221 : decode cL_law 221 = .ok (.if_icmp .eq 716, 3) := by decide +kernel
theorem dL_law_224 : decode cL_law 224 = .ok (.iconst 0, 1) := by decide +kernel
theorem dL_law_225 : decode cL_law 225 = .ok (.ireturn, 1) := by decide +kernel
theorem dL_law_226 : decode cL_law 226 = .ok (.aload_n 1, 1) := by decide +kernel
theorem dL_law_227 : decode cL_law 227 = .ok (.aload_n 0, 1) := by decide +kernel
theorem dL_law_228 : decode cL_law 228 = .ok (.iload_n 3, 1) := by decide +kernel
theorem dL_law_229 : decode cL_law 229 = .ok (.iconst 1, 1) := by decide +kernel
theorem dL_law_230 : decode cL_law 230 = .ok (.iadd, 1) := by decide +kernel
theorem dL_law_231 : decode cL_law 231 = .ok (.iaload, 1) := by decide +kernel
theorem dL_law_232 : decode cL_law 232 = .ok (.aload_n 0, 1) := by decide +kernel
theorem dL_law_233 : decode cL_law 233 = .ok (.iload_n 3, 1) := by decide +kernel
theorem dL_law_234 : decode cL_law 234 = .ok (.iconst 2, 1) := by decide +kernel
theorem dL_law_235 : decode cL_law 235 = .ok (.iadd, 1) := by decide +kernel
theorem dL_law_236 : decode cL_law 236 = .ok (.iaload, 1) := by decide +kernel
theorem dL_law_237 : decode cL_law 237 = .ok (.invokevirtual 31, 3) := by decide +kernel
theorem dL_law_240 : decode cL_law 240 = .ok (.aload_n 2, 1) := by decide +kernel
theorem dL_law_241 : decode cL_law 241 = .ok (.aload_n 0, 1) := by decide +kernel
theorem dL_law_242 : decode cL_law 242 = .ok (.iload_n 3, 1) := by decide +kernel
theorem dL_law_243 : decode cL_law 243 = .ok (.iconst 1, 1) := by decide +kernel
theorem dL_law_244 : decode cL_law 244 = .ok (.iadd, 1) := by decide +kernel
theorem dL_law_245 : decode cL_law 245 = .ok (.iaload, 1) := by decide +kernel
theorem dL_law_246 : decode cL_law 246 = .ok (.aload_n 0, 1) := by decide +kernel
theorem dL_law_247 : decode cL_law 247 = .ok (.iload_n 3, 1) := by decide +kernel
theorem dL_law_248 : decode cL_law 248 = .ok (.iconst 2, 1) := by decide +kernel
theorem dL_law_249 : decode cL_law 249 = .ok (.iadd, 1) := by decide +kernel
theorem dL_law_250 : decode cL_law 250 = .ok (.iaload, 1) := by decide +kernel
theorem dL_law_251 : decode cL_law 251 = .ok (.invokevirtual 35, 3) := by decide +kernel
theorem dL_law_254 : decode cL_law 254 = .ok (.if_icmp .eq 683, 3) := by decide +kernel
theorem dL_law_257 : decode cL_law 257 = .ok (.iconst 0, 1) := by decide +kernel
theorem dL_law_258 : decode cL_law 258 = .ok (.ireturn, 1) := by decide +kernel
theorem dL_law_259 : decode cL_law 259 = .ok (.aload_n 1, 1) := by decide +kernel
theorem dL_law_260 : decode cL_law 260 = .ok (.aload_n 0, 1) := by decide +kernel
theorem dL_law_261 : decode cL_law 261 = .ok (.iload_n 3, 1) := by decide +kernel
theorem dL_law_262 : decode cL_law 262 = .ok (.iconst 1, 1) := by decide +kernel
theorem dL_law_263 : decode cL_law 263 = .ok (.iadd, 1) := by decide +kernel
theorem dL_law_264 : decode cL_law 264 = .ok (.iaload, 1) := by decide +kernel
theorem dL_law_265 : decode cL_law 265 = .ok (.aload_n 0, 1) := by decide +kernel
theorem dL_law_266 : decode cL_law 266 = .ok (.iload_n 3, 1) := by decide +kernel
theorem dL_law_267 : decode cL_law 267 = .ok (.iconst 2, 1) := by decide +kernel
theorem dL_law_268 : decode cL_law 268 = .ok (.iadd, 1) := by decide +kernel
theorem dL_law_269 : decode cL_law 269 = .ok (.iaload, 1) := by decide +kernel
theorem dL_law_270 : decode cL_law 270 = .ok (.invokevirtual 36, 3) := by decide +kernel
theorem dL_law_273 : decode cL_law 273 = .ok (.aload_n 2, 1) := by decide +kernel
theorem dL_law_274 : decode cL_law 274 = .ok (.aload_n 0, 1) := by decide +kernel
theorem dL_law_275 : decode cL_law 275 = .ok (.iload_n 3, 1) := by decide +kernel
theorem dL_law_276 : decode cL_law 276 = .ok (.iconst 1, 1) := by decide +kernel
theorem dL_law_277 : decode cL_law 277 = .ok (.iadd, 1) := by decide +kernel
theorem dL_law_278 : decode cL_law 278 = .ok (.iaload, 1) := by decide +kernel
theorem dL_law_279 : decode cL_law 279 = .ok (.aload_n 0, 1) := by decide +kernel
theorem dL_law_280 : decode cL_law 280 = .ok (.iload_n 3, 1) := by decide +kernel
theorem dL_law_281 : decode cL_law 281 = .ok (.iconst 2, 1) := by decide +kernel
theorem dL_law_282 : decode cL_law 282 = .ok (.iadd, 1) := by decide +kernel
theorem dL_law_283 : decode cL_law 283 = .ok (.iaload, 1) := by decide +kernel
theorem dL_law_284 : decode cL_law 284 = .ok (.invokevirtual 39, 3) := by decide +kernel
theorem dL_law_287 : decode cL_law 287 = .ok (.if_icmp .eq 650, 3) := by decide +kernel
theorem dL_law_290 : decode cL_law 290 = .ok (.iconst 0, 1) := by decide +kernel
theorem dL_law_291 : decode cL_law 291 = .ok (.ireturn, 1) := by decide +kernel
theorem dL_law_292 : decode cL_law 292 = .ok (.aload_n 1, 1) := by decide +kernel
theorem dL_law_293 : decode cL_law 293 = .ok (.aload_n 0, 1) := by decide +kernel
theorem dL_law_294 : decode cL_law 294 = .ok (.iload_n 3, 1) := by decide +kernel
theorem dL_law_295 : decode cL_law 295 = .ok (.iconst 1, 1) := by decide +kernel
theorem dL_law_296 : decode cL_law 296 = .ok (.iadd, 1) := by decide +kernel
theorem dL_law_297 : decode cL_law 297 = .ok (.iaload, 1) := by decide +kernel
theorem dL_law_298 : decode cL_law 298 = .ok (.aload_n 0, 1) := by decide +kernel
theorem dL_law_299 : decode cL_law 299 = .ok (.iload_n 3, 1) := by decide +kernel
theorem dL_law_300 : decode cL_law 300 = .ok (.iconst 2, 1) := by decide +kernel
theorem dL_law_301 : decode cL_law 301 = .ok (.iadd, 1) := by decide +kernel
theorem dL_law_302 : decode cL_law 302 = .ok (.iaload, 1) := by decide +kernel
theorem dL_law_303 : decode cL_law 303 = .ok (.invokevirtual 40, 3) := by decide +kernel
theorem dL_law_306 : decode cL_law 306 = .ok (.aload_n 2, 1) := by decide +kernel
theorem dL_law_307 : decode cL_law 307 = .ok (.aload_n 0, 1) := by decide +kernel
theorem dL_law_308 : decode cL_law 308 = .ok (.iload_n 3, 1) := by decide +kernel
theorem dL_law_309 : decode cL_law 309 = .ok (.iconst 1, 1) := by decide +kernel
theorem dL_law_310 : decode cL_law 310 = .ok (.iadd, 1) := by decide +kernel
theorem dL_law_311 : decode cL_law 311 = .ok (.iaload, 1) := by decide +kernel
theorem dL_law_312 : decode cL_law 312 = .ok (.aload_n 0, 1) := by decide +kernel
theorem dL_law_313 : decode cL_law 313 = .ok (.iload_n 3, 1) := by decide +kernel
theorem dL_law_314 : decode cL_law 314 = .ok (.iconst 2, 1) := by decide +kernel
theorem dL_law_315 : decode cL_law 315 = .ok (.iadd, 1) := by decide +kernel
theorem dL_law_316 : decode cL_law 316 = .ok (.iaload, 1) := by decide +kernel
theorem dL_law_317 : decode cL_law 317 = .ok (.invokevirtual 43, 3) := by decide +kernel
theorem dL_law_320 : decode cL_law 320 = .ok (.if_icmp .eq 617, 3) := by decide +kernel
theorem dL_law_323 : decode cL_law 323 = .ok (.iconst 0, 1) := by decide +kernel
theorem dL_law_324 : decode cL_law 324 = .ok (.ireturn, 1) := by decide +kernel
theorem dL_law_325 : decode cL_law 325 = .ok (.aload_n 1, 1) := by decide +kernel
theorem dL_law_326 : decode cL_law 326 = .ok (.aload_n 0, 1) := by decide +kernel
theorem dL_law_327 : decode cL_law 327 = .ok (.iload_n 3, 1) := by decide +kernel
theorem dL_law_328 : decode cL_law 328 = .ok (.iconst 1, 1) := by decide +kernel
theorem dL_law_329 : decode cL_law 329 = .ok (.iadd, 1) := by decide +kernel
theorem dL_law_330 : decode cL_law 330 = .ok (.iaload, 1) := by decide +kernel
theorem dL_law_331 : decode cL_law 331 = .ok (.aload_n 0, 1) := by decide +kernel
theorem dL_law_332 : decode cL_law 332 = .ok (.iload_n 3, 1) := by decide +kernel
theorem dL_law_333 : decode cL_law 333 = .ok (.iconst 2, 1) := by decide +kernel
theorem dL_law_334 : decode cL_law 334 = .ok (.iadd, 1) := by decide +kernel
theorem dL_law_335 : decode cL_law 335 = .ok (.iaload, 1) := by decide +kernel
theorem dL_law_336 : decode cL_law 336 = .ok (.ifCond .eq 7, 3) := by decide +kernel
theorem dL_law_339 : decode cL_law 339 = .ok (.iconst 1, 1) := by decide +kernel
theorem dL_law_340 : decode cL_law 340 = .ok (.goto 4, 3) := by decide +kernel
theorem dL_law_343 : decode cL_law 343 = .ok (.iconst 0, 1) := by decide +kernel
theorem dL_law_344 : decode cL_law 344 = .ok (.invokevirtual 44, 3) := by decide +kernel
theorem dL_law_347 : decode cL_law 347 = .ok (.aload_n 2, 1) := by decide +kernel
theorem dL_law_348 : decode cL_law 348 = .ok (.aload_n 0, 1) := by decide +kernel
theorem dL_law_349 : decode cL_law 349 = .ok (.iload_n 3, 1) := by decide +kernel
theorem dL_law_350 : decode cL_law 350 = .ok (.iconst 1, 1) := by decide +kernel
theorem dL_law_351 : decode cL_law 351 = .ok (.iadd, 1) := by decide +kernel
theorem dL_law_352 : decode cL_law 352 = .ok (.iaload, 1) := by decide +kernel
theorem dL_law_353 : decode cL_law 353 = .ok (.aload_n 0, 1) := by decide +kernel
theorem dL_law_354 : decode cL_law 354 = .ok (.iload_n 3, 1) := by decide +kernel
theorem dL_law_355 : decode cL_law 355 = .ok (.iconst 2, 1) := by decide +kernel
theorem dL_law_356 : decode cL_law 356 = .ok (.iadd, 1) := by decide +kernel
theorem dL_law_357 : decode cL_law 357 = .ok (.iaload, 1) := by decide +kernel
theorem dL_law_358 : decode cL_law 358 = .ok (.ifCond .eq 7, 3) := by decide +kernel
theorem dL_law_361 : decode cL_law 361 = .ok (.iconst 1, 1) := by decide +kernel
theorem dL_law_362 : decode cL_law 362 = .ok (.goto 4, 3) := by decide +kernel
theorem dL_law_365 : decode cL_law 365 = .ok (.iconst 0, 1) := by decide +kernel
theorem dL_law_366 : decode cL_law 366 = .ok (.invokevirtual 48, 3) := by decide +kernel
theorem dL_law_369 : decode cL_law 369 = .ok (.if_icmp .eq 568, 3) := by decide +kernel
theorem dL_law_372 : decode cL_law 372 = .ok (.iconst 0, 1) := by decide +kernel
theorem dL_law_373 : decode cL_law 373 = .ok (.ireturn, 1) := by decide +kernel
theorem dL_law_374 : decode cL_law 374 = .ok (.aload_n 1, 1) := by decide +kernel
theorem dL_law_375 : decode cL_law 375 = .ok (.aload_n 0, 1) := by decide +kernel
theorem dL_law_376 : decode cL_law 376 = .ok (.iload_n 3, 1) := by decide +kernel
theorem dL_law_377 : decode cL_law 377 = .ok (.iconst 1, 1) := by decide +kernel
theorem dL_law_378 : decode cL_law 378 = .ok (.iadd, 1) := by decide +kernel
theorem dL_law_379 : decode cL_law 379 = .ok (.iaload, 1) := by decide +kernel
theorem dL_law_380 : decode cL_law 380 = .ok (.aload_n 0, 1) := by decide +kernel
theorem dL_law_381 : decode cL_law 381 = .ok (.iload_n 3, 1) := by decide +kernel
theorem dL_law_382 : decode cL_law 382 = .ok (.iconst 2, 1) := by decide +kernel
theorem dL_law_383 : decode cL_law 383 = .ok (.iadd, 1) := by decide +kernel
theorem dL_law_384 : decode cL_law 384 = .ok (.iaload, 1) := by decide +kernel
theorem dL_law_385 : decode cL_law 385 = .ok (.invokevirtual 49, 3) := by decide +kernel
theorem dL_law_388 : decode cL_law 388 = .ok (.aload_n 2, 1) := by decide +kernel
theorem dL_law_389 : decode cL_law 389 = .ok (.aload_n 0, 1) := by decide +kernel
theorem dL_law_390 : decode cL_law 390 = .ok (.iload_n 3, 1) := by decide +kernel
theorem dL_law_391 : decode cL_law 391 = .ok (.iconst 1, 1) := by decide +kernel
theorem dL_law_392 : decode cL_law 392 = .ok (.iadd, 1) := by decide +kernel
theorem dL_law_393 : decode cL_law 393 = .ok (.iaload, 1) := by decide +kernel
theorem dL_law_394 : decode cL_law 394 = .ok (.aload_n 0, 1) := by decide +kernel
theorem dL_law_395 : decode cL_law 395 = .ok (.iload_n 3, 1) := by decide +kernel
theorem dL_law_396 : decode cL_law 396 = .ok (.iconst 2, 1) := by decide +kernel
theorem dL_law_397 : decode cL_law 397 = .ok (.iadd, 1) := by decide +kernel
theorem dL_law_398 : decode cL_law 398 = .ok (.iaload, 1) := by decide +kernel
theorem dL_law_399 : decode cL_law 399 = .ok (.invokevirtual 52, 3) := by decide +kernel
theorem dL_law_402 : decode cL_law 402 = .ok (.if_icmp .eq 535, 3) := by decide +kernel
theorem dL_law_405 : decode cL_law 405 = .ok (.iconst 0, 1) := by decide +kernel
theorem dL_law_406 : decode cL_law 406 = .ok (.ireturn, 1) := by decide +kernel
theorem dL_law_407 : decode cL_law 407 = .ok (.aload_n 1, 1) := by decide +kernel
theorem dL_law_408 : decode cL_law 408 = .ok (.aload_n 0, 1) := by decide +kernel
theorem dL_law_409 : decode cL_law 409 = .ok (.iload_n 3, 1) := by decide +kernel
theorem dL_law_410 : decode cL_law 410 = .ok (.iconst 1, 1) := by decide +kernel
theorem dL_law_411 : decode cL_law 411 = .ok (.iadd, 1) := by decide +kernel
theorem dL_law_412 : decode cL_law 412 = .ok (.iaload, 1) := by decide +kernel
theorem dL_law_413 : decode cL_law 413 = .ok (.invokevirtual 53, 3) := by decide +kernel
theorem dL_law_416 : decode cL_law 416 = .ok (.aload_n 2, 1) := by decide +kernel
theorem dL_law_417 : decode cL_law 417 = .ok (.aload_n 0, 1) := by decide +kernel
theorem dL_law_418 : decode cL_law 418 = .ok (.iload_n 3, 1) := by decide +kernel
theorem dL_law_419 : decode cL_law 419 = .ok (.iconst 1, 1) := by decide +kernel
theorem dL_law_420 : decode cL_law 420 = .ok (.iadd, 1) := by decide +kernel
theorem dL_law_421 : decode cL_law 421 = .ok (.iaload, 1) := by decide +kernel
theorem dL_law_422 : decode cL_law 422 = .ok (.invokevirtual 56, 3) := by decide +kernel
theorem dL_law_425 : decode cL_law 425 = .ok (.if_icmp .eq 512, 3) := by decide +kernel
theorem dL_law_428 : decode cL_law 428 = .ok (.iconst 0, 1) := by decide +kernel
theorem dL_law_429 : decode cL_law 429 = .ok (.ireturn, 1) := by decide +kernel
theorem dL_law_430 : decode cL_law 430 = .ok (.aload_n 1, 1) := by decide +kernel
theorem dL_law_431 : decode cL_law 431 = .ok (.aload_n 0, 1) := by decide +kernel
theorem dL_law_432 : decode cL_law 432 = .ok (.iload_n 3, 1) := by decide +kernel
theorem dL_law_433 : decode cL_law 433 = .ok (.iconst 1, 1) := by decide +kernel
theorem dL_law_434 : decode cL_law 434 = .ok (.iadd, 1) := by decide +kernel
theorem dL_law_435 : decode cL_law 435 = .ok (.iaload, 1) := by decide +kernel
theorem dL_law_436 : decode cL_law 436 = .ok (.aload_n 0, 1) := by decide +kernel
theorem dL_law_437 : decode cL_law 437 = .ok (.iload_n 3, 1) := by decide +kernel
theorem dL_law_438 : decode cL_law 438 = .ok (.iconst 2, 1) := by decide +kernel
theorem dL_law_439 : decode cL_law 439 = .ok (.iadd, 1) := by decide +kernel
theorem dL_law_440 : decode cL_law 440 = .ok (.iaload, 1) := by decide +kernel
theorem dL_law_441 : decode cL_law 441 = .ok (.invokevirtual 57, 3) := by decide +kernel
theorem dL_law_444 : decode cL_law 444 = .ok (.aload_n 2, 1) := by decide +kernel
theorem dL_law_445 : decode cL_law 445 = .ok (.aload_n 0, 1) := by decide +kernel
theorem dL_law_446 : decode cL_law 446 = .ok (.iload_n 3, 1) := by decide +kernel
theorem dL_law_447 : decode cL_law 447 = .ok (.iconst 1, 1) := by decide +kernel
theorem dL_law_448 : decode cL_law 448 = .ok (.iadd, 1) := by decide +kernel
theorem dL_law_449 : decode cL_law 449 = .ok (.iaload, 1) := by decide +kernel
theorem dL_law_450 : decode cL_law 450 = .ok (.aload_n 0, 1) := by decide +kernel
theorem dL_law_451 : decode cL_law 451 = .ok (.iload_n 3, 1) := by decide +kernel
theorem dL_law_452 : decode cL_law 452 = .ok (.iconst 2, 1) := by decide +kernel
theorem dL_law_453 : decode cL_law 453 = .ok (.iadd, 1) := by decide +kernel
theorem dL_law_454 : decode cL_law 454 = .ok (.iaload, 1) := by decide +kernel
theorem dL_law_455 : decode cL_law 455 = .ok (.invokevirtual 60, 3) := by decide +kernel
theorem dL_law_458 : decode cL_law 458 = .ok (.if_icmp .eq 479, 3) := by decide +kernel
theorem dL_law_461 : decode cL_law 461 = .ok (.iconst 0, 1) := by decide +kernel
theorem dL_law_462 : decode cL_law 462 = .ok (.ireturn, 1) := by decide +kernel
theorem dL_law_463 : decode cL_law 463 = .ok (.aload_n 1, 1) := by decide +kernel
theorem dL_law_464 : decode cL_law 464 = .ok (.aload_n 0, 1) := by decide +kernel
theorem dL_law_465 : decode cL_law 465 = .ok (.iload_n 3, 1) := by decide +kernel
theorem dL_law_466 : decode cL_law 466 = .ok (.iconst 1, 1) := by decide +kernel
theorem dL_law_467 : decode cL_law 467 = .ok (.iadd, 1) := by decide +kernel
theorem dL_law_468 : decode cL_law 468 = .ok (.iaload, 1) := by decide +kernel
theorem dL_law_469 : decode cL_law 469 = .ok (.invokevirtual 61, 3) := by decide +kernel
theorem dL_law_472 : decode cL_law 472 = .ok (.aload_n 2, 1) := by decide +kernel
theorem dL_law_473 : decode cL_law 473 = .ok (.aload_n 0, 1) := by decide +kernel
theorem dL_law_474 : decode cL_law 474 = .ok (.iload_n 3, 1) := by decide +kernel
theorem dL_law_475 : decode cL_law 475 = .ok (.iconst 1, 1) := by decide +kernel
theorem dL_law_476 : decode cL_law 476 = .ok (.iadd, 1) := by decide +kernel
theorem dL_law_477 : decode cL_law 477 = .ok (.iaload, 1) := by decide +kernel
theorem dL_law_478 : decode cL_law 478 = .ok (.invokevirtual 64, 3) := by decide +kernel
theorem dL_law_481 : decode cL_law 481 = .ok (.if_icmp .eq 456, 3) := by decide +kernel
theorem dL_law_484 : decode cL_law 484 = .ok (.iconst 0, 1) := by decide +kernel
theorem dL_law_485 : decode cL_law 485 = .ok (.ireturn, 1) := by decide +kernel
theorem dL_law_486 : decode cL_law 486 = .ok (.aload_n 1, 1) := by decide +kernel
theorem dL_law_487 : decode cL_law 487 = .ok (.invokevirtual 65, 3) := by decide +kernel
theorem dL_law_490 : decode cL_law 490 = .ok (.aload_n 2, 1) := by decide +kernel
theorem dL_law_491 : decode cL_law 491 = .ok (.invokevirtual 68, 3) := by decide +kernel
theorem dL_law_494 : decode cL_law 494 = .ok (.if_icmp .eq 443, 3) := by decide +kernel
theorem dL_law_497 : decode cL_law 497 = .ok (.iconst 0, 1) := by decide +kernel
theorem dL_law_498 : decode cL_law 498 = .ok (.ireturn, 1) := by decide +kernel
theorem dL_law_499 : decode cL_law 499 = .ok (.aload_n 1, 1) := by decide +kernel
theorem dL_law_500 : decode cL_law 500 = .ok (.aload_n 0, 1) := by decide +kernel
theorem dL_law_501 : decode cL_law 501 = .ok (.iload_n 3, 1) := by decide +kernel
theorem dL_law_502 : decode cL_law 502 = .ok (.iconst 1, 1) := by decide +kernel
theorem dL_law_503 : decode cL_law 503 = .ok (.iadd, 1) := by decide +kernel
theorem dL_law_504 : decode cL_law 504 = .ok (.iaload, 1) := by decide +kernel
theorem dL_law_505 : decode cL_law 505 = .ok (.invokevirtual 69, 3) := by decide +kernel
theorem dL_law_508 : decode cL_law 508 = .ok (.aload_n 2, 1) := by decide +kernel
theorem dL_law_509 : decode cL_law 509 = .ok (.aload_n 0, 1) := by decide +kernel
theorem dL_law_510 : decode cL_law 510 = .ok (.iload_n 3, 1) := by decide +kernel
theorem dL_law_511 : decode cL_law 511 = .ok (.iconst 1, 1) := by decide +kernel
theorem dL_law_512 : decode cL_law 512 = .ok (.iadd, 1) := by decide +kernel
theorem dL_law_513 : decode cL_law 513 = .ok (.iaload, 1) := by decide +kernel
theorem dL_law_514 : decode cL_law 514 = .ok (.invokevirtual 72, 3) := by decide +kernel
theorem dL_law_517 : decode cL_law 517 = .ok (.if_icmp .eq 420, 3) := by decide +kernel
theorem dL_law_520 : decode cL_law 520 = .ok (.iconst 0, 1) := by decide +kernel
theorem dL_law_521 : decode cL_law 521 = .ok (.ireturn, 1) := by decide +kernel
theorem dL_law_522 : decode cL_law 522 = .ok (.aload_n 1, 1) := by decide +kernel
theorem dL_law_523 : decode cL_law 523 = .ok (.aload_n 0, 1) := by decide +kernel
theorem dL_law_524 : decode cL_law 524 = .ok (.iload_n 3, 1) := by decide +kernel
theorem dL_law_525 : decode cL_law 525 = .ok (.iconst 1, 1) := by decide +kernel
theorem dL_law_526 : decode cL_law 526 = .ok (.iadd, 1) := by decide +kernel
theorem dL_law_527 : decode cL_law 527 = .ok (.iaload, 1) := by decide +kernel
theorem dL_law_528 : decode cL_law 528 = .ok (.aload_n 0, 1) := by decide +kernel
theorem dL_law_529 : decode cL_law 529 = .ok (.iload_n 3, 1) := by decide +kernel
theorem dL_law_530 : decode cL_law 530 = .ok (.iconst 2, 1) := by decide +kernel
theorem dL_law_531 : decode cL_law 531 = .ok (.iadd, 1) := by decide +kernel
theorem dL_law_532 : decode cL_law 532 = .ok (.iaload, 1) := by decide +kernel
theorem dL_law_533 : decode cL_law 533 = .ok (.invokevirtual 73, 3) := by decide +kernel
theorem dL_law_536 : decode cL_law 536 = .ok (.aload_n 2, 1) := by decide +kernel
theorem dL_law_537 : decode cL_law 537 = .ok (.aload_n 0, 1) := by decide +kernel
theorem dL_law_538 : decode cL_law 538 = .ok (.iload_n 3, 1) := by decide +kernel
theorem dL_law_539 : decode cL_law 539 = .ok (.iconst 1, 1) := by decide +kernel
theorem dL_law_540 : decode cL_law 540 = .ok (.iadd, 1) := by decide +kernel
theorem dL_law_541 : decode cL_law 541 = .ok (.iaload, 1) := by decide +kernel
theorem dL_law_542 : decode cL_law 542 = .ok (.aload_n 0, 1) := by decide +kernel
theorem dL_law_543 : decode cL_law 543 = .ok (.iload_n 3, 1) := by decide +kernel
theorem dL_law_544 : decode cL_law 544 = .ok (.iconst 2, 1) := by decide +kernel
theorem dL_law_545 : decode cL_law 545 = .ok (.iadd, 1) := by decide +kernel
theorem dL_law_546 : decode cL_law 546 = .ok (.iaload, 1) := by decide +kernel
theorem dL_law_547 : decode cL_law 547 = .ok (.invokevirtual 76, 3) := by decide +kernel
theorem dL_law_550 : decode cL_law 550 = .ok (.if_icmp .eq 387, 3) := by decide +kernel
theorem dL_law_553 : decode cL_law 553 = .ok (.iconst 0, 1) := by decide +kernel
theorem dL_law_554 : decode cL_law 554 = .ok (.ireturn, 1) := by decide +kernel
theorem dL_law_555 : decode cL_law 555 = .ok (.aload_n 1, 1) := by decide +kernel
theorem dL_law_556 : decode cL_law 556 = .ok (.aload_n 0, 1) := by decide +kernel
theorem dL_law_557 : decode cL_law 557 = .ok (.iload_n 3, 1) := by decide +kernel
theorem dL_law_558 : decode cL_law 558 = .ok (.iconst 1, 1) := by decide +kernel
theorem dL_law_559 : decode cL_law 559 = .ok (.iadd, 1) := by decide +kernel
theorem dL_law_560 : decode cL_law 560 = .ok (.iaload, 1) := by decide +kernel
theorem dL_law_561 : decode cL_law 561 = .ok (.aload_n 0, 1) := by decide +kernel
theorem dL_law_562 : decode cL_law 562 = .ok (.iload_n 3, 1) := by decide +kernel
theorem dL_law_563 : decode cL_law 563 = .ok (.iconst 2, 1) := by decide +kernel
theorem dL_law_564 : decode cL_law 564 = .ok (.iadd, 1) := by decide +kernel
theorem dL_law_565 : decode cL_law 565 = .ok (.iaload, 1) := by decide +kernel
theorem dL_law_566 : decode cL_law 566 = .ok (.invokevirtual 77, 3) := by decide +kernel
theorem dL_law_569 : decode cL_law 569 = .ok (.aload_n 2, 1) := by decide +kernel
theorem dL_law_570 : decode cL_law 570 = .ok (.aload_n 0, 1) := by decide +kernel
theorem dL_law_571 : decode cL_law 571 = .ok (.iload_n 3, 1) := by decide +kernel
theorem dL_law_572 : decode cL_law 572 = .ok (.iconst 1, 1) := by decide +kernel
theorem dL_law_573 : decode cL_law 573 = .ok (.iadd, 1) := by decide +kernel
theorem dL_law_574 : decode cL_law 574 = .ok (.iaload, 1) := by decide +kernel
theorem dL_law_575 : decode cL_law 575 = .ok (.aload_n 0, 1) := by decide +kernel
theorem dL_law_576 : decode cL_law 576 = .ok (.iload_n 3, 1) := by decide +kernel
theorem dL_law_577 : decode cL_law 577 = .ok (.iconst 2, 1) := by decide +kernel
theorem dL_law_578 : decode cL_law 578 = .ok (.iadd, 1) := by decide +kernel
theorem dL_law_579 : decode cL_law 579 = .ok (.iaload, 1) := by decide +kernel
theorem dL_law_580 : decode cL_law 580 = .ok (.invokevirtual 80, 3) := by decide +kernel
theorem dL_law_583 : decode cL_law 583 = .ok (.if_icmp .eq 354, 3) := by decide +kernel
theorem dL_law_586 : decode cL_law 586 = .ok (.iconst 0, 1) := by decide +kernel
theorem dL_law_587 : decode cL_law 587 = .ok (.ireturn, 1) := by decide +kernel
theorem dL_law_588 : decode cL_law 588 = .ok (.aload_n 1, 1) := by decide +kernel
theorem dL_law_589 : decode cL_law 589 = .ok (.aload_n 0, 1) := by decide +kernel
theorem dL_law_590 : decode cL_law 590 = .ok (.iload_n 3, 1) := by decide +kernel
theorem dL_law_591 : decode cL_law 591 = .ok (.iconst 1, 1) := by decide +kernel
theorem dL_law_592 : decode cL_law 592 = .ok (.iadd, 1) := by decide +kernel
theorem dL_law_593 : decode cL_law 593 = .ok (.iaload, 1) := by decide +kernel
theorem dL_law_594 : decode cL_law 594 = .ok (.aload_n 0, 1) := by decide +kernel
theorem dL_law_595 : decode cL_law 595 = .ok (.iload_n 3, 1) := by decide +kernel
theorem dL_law_596 : decode cL_law 596 = .ok (.iconst 2, 1) := by decide +kernel
theorem dL_law_597 : decode cL_law 597 = .ok (.iadd, 1) := by decide +kernel
theorem dL_law_598 : decode cL_law 598 = .ok (.iaload, 1) := by decide +kernel
theorem dL_law_599 : decode cL_law 599 = .ok (.invokevirtual 81, 3) := by decide +kernel
theorem dL_law_602 : decode cL_law 602 = .ok (.aload_n 2, 1) := by decide +kernel
theorem dL_law_603 : decode cL_law 603 = .ok (.aload_n 0, 1) := by decide +kernel
theorem dL_law_604 : decode cL_law 604 = .ok (.iload_n 3, 1) := by decide +kernel
theorem dL_law_605 : decode cL_law 605 = .ok (.iconst 1, 1) := by decide +kernel
theorem dL_law_606 : decode cL_law 606 = .ok (.iadd, 1) := by decide +kernel
theorem dL_law_607 : decode cL_law 607 = .ok (.iaload, 1) := by decide +kernel
theorem dL_law_608 : decode cL_law 608 = .ok (.aload_n 0, 1) := by decide +kernel
theorem dL_law_609 : decode cL_law 609 = .ok (.iload_n 3, 1) := by decide +kernel
theorem dL_law_610 : decode cL_law 610 = .ok (.iconst 2, 1) := by decide +kernel
theorem dL_law_611 : decode cL_law 611 = .ok (.iadd, 1) := by decide +kernel
theorem dL_law_612 : decode cL_law 612 = .ok (.iaload, 1) := by decide +kernel
theorem dL_law_613 : decode cL_law 613 = .ok (.invokevirtual 84, 3) := by decide +kernel
theorem dL_law_616 : decode cL_law 616 = .ok (.if_icmp .eq 321, 3) := by decide +kernel
theorem dL_law_619 : decode cL_law 619 = .ok (.iconst 0, 1) := by decide +kernel
theorem dL_law_620 : decode cL_law 620 = .ok (.ireturn, 1) := by decide +kernel
theorem dL_law_621 : decode cL_law 621 = .ok (.aload_n 1, 1) := by decide +kernel
theorem dL_law_622 : decode cL_law 622 = .ok (.aload_n 0, 1) := by decide +kernel
theorem dL_law_623 : decode cL_law 623 = .ok (.iload_n 3, 1) := by decide +kernel
theorem dL_law_624 : decode cL_law 624 = .ok (.iconst 1, 1) := by decide +kernel
theorem dL_law_625 : decode cL_law 625 = .ok (.iadd, 1) := by decide +kernel
theorem dL_law_626 : decode cL_law 626 = .ok (.iaload, 1) := by decide +kernel
theorem dL_law_627 : decode cL_law 627 = .ok (.invokevirtual 85, 3) := by decide +kernel
theorem dL_law_630 : decode cL_law 630 = .ok (.aload_n 2, 1) := by decide +kernel
theorem dL_law_631 : decode cL_law 631 = .ok (.aload_n 0, 1) := by decide +kernel
theorem dL_law_632 : decode cL_law 632 = .ok (.iload_n 3, 1) := by decide +kernel
theorem dL_law_633 : decode cL_law 633 = .ok (.iconst 1, 1) := by decide +kernel
theorem dL_law_634 : decode cL_law 634 = .ok (.iadd, 1) := by decide +kernel
theorem dL_law_635 : decode cL_law 635 = .ok (.iaload, 1) := by decide +kernel
theorem dL_law_636 : decode cL_law 636 = .ok (.invokevirtual 88, 3) := by decide +kernel
theorem dL_law_639 : decode cL_law 639 = .ok (.if_icmp .eq 298, 3) := by decide +kernel
theorem dL_law_642 : decode cL_law 642 = .ok (.iconst 0, 1) := by decide +kernel
theorem dL_law_643 : decode cL_law 643 = .ok (.ireturn, 1) := by decide +kernel
theorem dL_law_644 : decode cL_law 644 = .ok (.aload_n 1, 1) := by decide +kernel
theorem dL_law_645 : decode cL_law 645 = .ok (.invokevirtual 89, 3) := by decide +kernel
theorem dL_law_648 : decode cL_law 648 = .ok (.aload_n 2, 1) := by decide +kernel
theorem dL_law_649 : decode cL_law 649 = .ok (.invokevirtual 92, 3) := by decide +kernel
theorem dL_law_652 : decode cL_law 652 = .ok (.if_icmp .eq 285, 3) := by decide +kernel
theorem dL_law_655 : decode cL_law 655 = .ok (.iconst 0, 1) := by decide +kernel
theorem dL_law_656 : decode cL_law 656 = .ok (.ireturn, 1) := by decide +kernel
theorem dL_law_657 : decode cL_law 657 = .ok (.aload_n 1, 1) := by decide +kernel
theorem dL_law_658 : decode cL_law 658 = .ok (.aload_n 0, 1) := by decide +kernel
theorem dL_law_659 : decode cL_law 659 = .ok (.iload_n 3, 1) := by decide +kernel
theorem dL_law_660 : decode cL_law 660 = .ok (.iconst 1, 1) := by decide +kernel
theorem dL_law_661 : decode cL_law 661 = .ok (.iadd, 1) := by decide +kernel
theorem dL_law_662 : decode cL_law 662 = .ok (.iaload, 1) := by decide +kernel
theorem dL_law_663 : decode cL_law 663 = .ok (.aload_n 0, 1) := by decide +kernel
theorem dL_law_664 : decode cL_law 664 = .ok (.iload_n 3, 1) := by decide +kernel
theorem dL_law_665 : decode cL_law 665 = .ok (.iconst 2, 1) := by decide +kernel
theorem dL_law_666 : decode cL_law 666 = .ok (.iadd, 1) := by decide +kernel
theorem dL_law_667 : decode cL_law 667 = .ok (.iaload, 1) := by decide +kernel
theorem dL_law_668 : decode cL_law 668 = .ok (.invokevirtual 93, 3) := by decide +kernel
theorem dL_law_671 : decode cL_law 671 = .ok (.aload_n 2, 1) := by decide +kernel
theorem dL_law_672 : decode cL_law 672 = .ok (.aload_n 0, 1) := by decide +kernel
theorem dL_law_673 : decode cL_law 673 = .ok (.iload_n 3, 1) := by decide +kernel
theorem dL_law_674 : decode cL_law 674 = .ok (.iconst 1, 1) := by decide +kernel
theorem dL_law_675 : decode cL_law 675 = .ok (.iadd, 1) := by decide +kernel
theorem dL_law_676 : decode cL_law 676 = .ok (.iaload, 1) := by decide +kernel
theorem dL_law_677 : decode cL_law 677 = .ok (.aload_n 0, 1) := by decide +kernel
theorem dL_law_678 : decode cL_law 678 = .ok (.iload_n 3, 1) := by decide +kernel
theorem dL_law_679 : decode cL_law 679 = .ok (.iconst 2, 1) := by decide +kernel
theorem dL_law_680 : decode cL_law 680 = .ok (.iadd, 1) := by decide +kernel
theorem dL_law_681 : decode cL_law 681 = .ok (.iaload, 1) := by decide +kernel
theorem dL_law_682 : decode cL_law 682 = .ok (.invokevirtual 96, 3) := by decide +kernel
theorem dL_law_685 : decode cL_law 685 = .ok (.if_icmp .eq 252, 3) := by decide +kernel
theorem dL_law_688 : decode cL_law 688 = .ok (.iconst 0, 1) := by decide +kernel
theorem dL_law_689 : decode cL_law 689 = .ok (.ireturn, 1) := by decide +kernel
theorem dL_law_690 : decode cL_law 690 = .ok (.aload_n 1, 1) := by decide +kernel
theorem dL_law_691 : decode cL_law 691 = .ok (.invokevirtual 97, 3) := by decide +kernel
theorem dL_law_694 : decode cL_law 694 = .ok (.aload_n 2, 1) := by decide +kernel
theorem dL_law_695 : decode cL_law 695 = .ok (.invokevirtual 100, 3) := by decide +kernel
theorem dL_law_698 : decode cL_law 698 = .ok (.if_icmp .eq 239, 3) := by decide +kernel
theorem dL_law_701 : decode cL_law 701 = .ok (.iconst 0, 1) := by decide +kernel
theorem dL_law_702 : decode cL_law 702 = .ok (.ireturn, 1) := by decide +kernel
theorem dL_law_703 : decode cL_law 703 = .ok (.aload_n 1, 1) := by decide +kernel
theorem dL_law_704 : decode cL_law 704 = .ok (.aload_n 0, 1) := by decide +kernel
theorem dL_law_705 : decode cL_law 705 = .ok (.iload_n 3, 1) := by decide +kernel
theorem dL_law_706 : decode cL_law 706 = .ok (.iconst 1, 1) := by decide +kernel
theorem dL_law_707 : decode cL_law 707 = .ok (.iadd, 1) := by decide +kernel
theorem dL_law_708 : decode cL_law 708 = .ok (.iaload, 1) := by decide +kernel
theorem dL_law_709 : decode cL_law 709 = .ok (.invokevirtual 101, 3) := by decide +kernel
theorem dL_law_712 : decode cL_law 712 = .ok (.aload_n 2, 1) := by decide +kernel
theorem dL_law_713 : decode cL_law 713 = .ok (.aload_n 0, 1) := by decide +kernel
theorem dL_law_714 : decode cL_law 714 = .ok (.iload_n 3, 1) := by decide +kernel
theorem dL_law_715 : decode cL_law 715 = .ok (.iconst 1, 1) := by decide +kernel
theorem dL_law_716 : decode cL_law 716 = .ok (.iadd, 1) := by decide +kernel
theorem dL_law_717 : decode cL_law 717 = .ok (.iaload, 1) := by decide +kernel
theorem dL_law_718 : decode cL_law 718 = .ok (.invokevirtual 104, 3) := by decide +kernel
theorem dL_law_721 : decode cL_law 721 = .ok (.if_icmp .eq 216, 3) := by decide +kernel
theorem dL_law_724 : decode cL_law 724 = .ok (.iconst 0, 1) := by decide +kernel
theorem dL_law_725 : decode cL_law 725 = .ok (.ireturn, 1) := by decide +kernel
theorem dL_law_726 : decode cL_law 726 = .ok (.aload_n 1, 1) := by decide +kernel
theorem dL_law_727 : decode cL_law 727 = .ok (.aload_n 0, 1) := by decide +kernel
theorem dL_law_728 : decode cL_law 728 = .ok (.iload_n 3, 1) := by decide +kernel
theorem dL_law_729 : decode cL_law 729 = .ok (.iconst 1, 1) := by decide +kernel
theorem dL_law_730 : decode cL_law 730 = .ok (.iadd, 1) := by decide +kernel
theorem dL_law_731 : decode cL_law 731 = .ok (.iaload, 1) := by decide +kernel
theorem dL_law_732 : decode cL_law 732 = .ok (.aload_n 0, 1) := by decide +kernel
theorem dL_law_733 : decode cL_law 733 = .ok (.iload_n 3, 1) := by decide +kernel
theorem dL_law_734 : decode cL_law 734 = .ok (.iconst 2, 1) := by decide +kernel
theorem dL_law_735 : decode cL_law 735 = .ok (.iadd, 1) := by decide +kernel
theorem dL_law_736 : decode cL_law 736 = .ok (.iaload, 1) := by decide +kernel
theorem dL_law_737 : decode cL_law 737 = .ok (.aload_n 0, 1) := by decide +kernel
theorem dL_law_738 : decode cL_law 738 = .ok (.iload_n 3, 1) := by decide +kernel
theorem dL_law_739 : decode cL_law 739 = .ok (.iconst 3, 1) := by decide +kernel
theorem dL_law_740 : decode cL_law 740 = .ok (.iadd, 1) := by decide +kernel
theorem dL_law_741 : decode cL_law 741 = .ok (.iaload, 1) := by decide +kernel
theorem dL_law_742 : decode cL_law 742 = .ok (.invokevirtual 105, 3) := by decide +kernel
theorem dL_law_745 : decode cL_law 745 = .ok (.aload_n 2, 1) := by decide +kernel
theorem dL_law_746 : decode cL_law 746 = .ok (.aload_n 0, 1) := by decide +kernel
theorem dL_law_747 : decode cL_law 747 = .ok (.iload_n 3, 1) := by decide +kernel
theorem dL_law_748 : decode cL_law 748 = .ok (.iconst 1, 1) := by decide +kernel
theorem dL_law_749 : decode cL_law 749 = .ok (.iadd, 1) := by decide +kernel
theorem dL_law_750 : decode cL_law 750 = .ok (.iaload, 1) := by decide +kernel
theorem dL_law_751 : decode cL_law 751 = .ok (.aload_n 0, 1) := by decide +kernel
theorem dL_law_752 : decode cL_law 752 = .ok (.iload_n 3, 1) := by decide +kernel
theorem dL_law_753 : decode cL_law 753 = .ok (.iconst 2, 1) := by decide +kernel
theorem dL_law_754 : decode cL_law 754 = .ok (.iadd, 1) := by decide +kernel
theorem dL_law_755 : decode cL_law 755 = .ok (.iaload, 1) := by decide +kernel
theorem dL_law_756 : decode cL_law 756 = .ok (.aload_n 0, 1) := by decide +kernel
theorem dL_law_757 : decode cL_law 757 = .ok (.iload_n 3, 1) := by decide +kernel
theorem dL_law_758 : decode cL_law 758 = .ok (.iconst 3, 1) := by decide +kernel
theorem dL_law_759 : decode cL_law 759 = .ok (.iadd, 1) := by decide +kernel
theorem dL_law_760 : decode cL_law 760 = .ok (.iaload, 1) := by decide +kernel
theorem dL_law_761 : decode cL_law 761 = .ok (.invokevirtual 109, 3) := by decide +kernel
theorem dL_law_764 : decode cL_law 764 = .ok (.if_icmp .eq 173, 3) := by decide +kernel
theorem dL_law_767 : decode cL_law 767 = .ok (.iconst 0, 1) := by decide +kernel
theorem dL_law_768 : decode cL_law 768 = .ok (.ireturn, 1) := by decide +kernel
theorem dL_law_769 : decode cL_law 769 = .ok (.aload_n 1, 1) := by decide +kernel
theorem dL_law_770 : decode cL_law 770 = .ok (.aload_n 0, 1) := by decide +kernel
theorem dL_law_771 : decode cL_law 771 = .ok (.iload_n 3, 1) := by decide +kernel
theorem dL_law_772 : decode cL_law 772 = .ok (.iconst 1, 1) := by decide +kernel
theorem dL_law_773 : decode cL_law 773 = .ok (.iadd, 1) := by decide +kernel
theorem dL_law_774 : decode cL_law 774 = .ok (.iaload, 1) := by decide +kernel
theorem dL_law_775 : decode cL_law 775 = .ok (.aload_n 0, 1) := by decide +kernel
theorem dL_law_776 : decode cL_law 776 = .ok (.iload_n 3, 1) := by decide +kernel
theorem dL_law_777 : decode cL_law 777 = .ok (.iconst 2, 1) := by decide +kernel
theorem dL_law_778 : decode cL_law 778 = .ok (.iadd, 1) := by decide +kernel
theorem dL_law_779 : decode cL_law 779 = .ok (.iaload, 1) := by decide +kernel
theorem dL_law_780 : decode cL_law 780 = .ok (.aload_n 0, 1) := by decide +kernel
theorem dL_law_781 : decode cL_law 781 = .ok (.iload_n 3, 1) := by decide +kernel
theorem dL_law_782 : decode cL_law 782 = .ok (.iconst 3, 1) := by decide +kernel
theorem dL_law_783 : decode cL_law 783 = .ok (.iadd, 1) := by decide +kernel
theorem dL_law_784 : decode cL_law 784 = .ok (.iaload, 1) := by decide +kernel
theorem dL_law_785 : decode cL_law 785 = .ok (.aload_n 0, 1) := by decide +kernel
theorem dL_law_786 : decode cL_law 786 = .ok (.iload_n 3, 1) := by decide +kernel
theorem dL_law_787 : decode cL_law 787 = .ok (.iconst 4, 1) := by decide +kernel
theorem dL_law_788 : decode cL_law 788 = .ok (.iadd, 1) := by decide +kernel
theorem dL_law_789 : decode cL_law 789 = .ok (.iaload, 1) := by decide +kernel
theorem dL_law_790 : decode cL_law 790 = .ok (.invokevirtual 110, 3) := by decide +kernel
theorem dL_law_793 : decode cL_law 793 = .ok (.aload_n 2, 1) := by decide +kernel
theorem dL_law_794 : decode cL_law 794 = .ok (.aload_n 0, 1) := by decide +kernel
theorem dL_law_795 : decode cL_law 795 = .ok (.iload_n 3, 1) := by decide +kernel
theorem dL_law_796 : decode cL_law 796 = .ok (.iconst 1, 1) := by decide +kernel
theorem dL_law_797 : decode cL_law 797 = .ok (.iadd, 1) := by decide +kernel
theorem dL_law_798 : decode cL_law 798 = .ok (.iaload, 1) := by decide +kernel
theorem dL_law_799 : decode cL_law 799 = .ok (.aload_n 0, 1) := by decide +kernel
theorem dL_law_800 : decode cL_law 800 = .ok (.iload_n 3, 1) := by decide +kernel
theorem dL_law_801 : decode cL_law 801 = .ok (.iconst 2, 1) := by decide +kernel
theorem dL_law_802 : decode cL_law 802 = .ok (.iadd, 1) := by decide +kernel
theorem dL_law_803 : decode cL_law 803 = .ok (.iaload, 1) := by decide +kernel
theorem dL_law_804 : decode cL_law 804 = .ok (.aload_n 0, 1) := by decide +kernel
theorem dL_law_805 : decode cL_law 805 = .ok (.iload_n 3, 1) := by decide +kernel
theorem dL_law_806 : decode cL_law 806 = .ok (.iconst 3, 1) := by decide +kernel
theorem dL_law_807 : decode cL_law 807 = .ok (.iadd, 1) := by decide +kernel
theorem dL_law_808 : decode cL_law 808 = .ok (.iaload, 1) := by decide +kernel
theorem dL_law_809 : decode cL_law 809 = .ok (.aload_n 0, 1) := by decide +kernel
theorem dL_law_810 : decode cL_law 810 = .ok (.iload_n 3, 1) := by decide +kernel
theorem dL_law_811 : decode cL_law 811 = .ok (.iconst 4, 1) := by decide +kernel
theorem dL_law_812 : decode cL_law 812 = .ok (.iadd, 1) := by decide +kernel
theorem dL_law_813 : decode cL_law 813 = .ok (.iaload, 1) := by decide +kernel
theorem dL_law_814 : decode cL_law 814 = .ok (.invokevirtual 114, 3) := by decide +kernel
theorem dL_law_817 : decode cL_law 817 = .ok (.if_icmp .eq 120, 3) := by decide +kernel
theorem dL_law_820 : decode cL_law 820 = .ok (.iconst 0, 1) := by decide +kernel
theorem dL_law_821 : decode cL_law 821 = .ok (.ireturn, 1) := by decide +kernel
theorem dL_law_822 : decode cL_law 822 = .ok (.aload_n 1, 1) := by decide +kernel
theorem dL_law_823 : decode cL_law 823 = .ok (.aload_n 0, 1) := by decide +kernel
theorem dL_law_824 : decode cL_law 824 = .ok (.iload_n 3, 1) := by decide +kernel
theorem dL_law_825 : decode cL_law 825 = .ok (.iconst 1, 1) := by decide +kernel
theorem dL_law_826 : decode cL_law 826 = .ok (.iadd, 1) := by decide +kernel
theorem dL_law_827 : decode cL_law 827 = .ok (.iaload, 1) := by decide +kernel
theorem dL_law_828 : decode cL_law 828 = .ok (.invokevirtual 115, 3) := by decide +kernel
theorem dL_law_831 : decode cL_law 831 = .ok (.aload_n 2, 1) := by decide +kernel
theorem dL_law_832 : decode cL_law 832 = .ok (.aload_n 0, 1) := by decide +kernel
theorem dL_law_833 : decode cL_law 833 = .ok (.iload_n 3, 1) := by decide +kernel
theorem dL_law_834 : decode cL_law 834 = .ok (.iconst 1, 1) := by decide +kernel
theorem dL_law_835 : decode cL_law 835 = .ok (.iadd, 1) := by decide +kernel
theorem dL_law_836 : decode cL_law 836 = .ok (.iaload, 1) := by decide +kernel
theorem dL_law_837 : decode cL_law 837 = .ok (.invokevirtual 118, 3) := by decide +kernel
theorem dL_law_840 : decode cL_law 840 = .ok (.if_icmp .eq 97, 3) := by decide +kernel
theorem dL_law_843 : decode cL_law 843 = .ok (.iconst 0, 1) := by decide +kernel
theorem dL_law_844 : decode cL_law 844 = .ok (.ireturn, 1) := by decide +kernel
theorem dL_law_845 : decode cL_law 845 = .ok (.aload_n 1, 1) := by decide +kernel
theorem dL_law_846 : decode cL_law 846 = .ok (.aload_n 0, 1) := by decide +kernel
theorem dL_law_847 : decode cL_law 847 = .ok (.iload_n 3, 1) := by decide +kernel
theorem dL_law_848 : decode cL_law 848 = .ok (.iconst 1, 1) := by decide +kernel
theorem dL_law_849 : decode cL_law 849 = .ok (.iadd, 1) := by decide +kernel
theorem dL_law_850 : decode cL_law 850 = .ok (.iaload, 1) := by decide +kernel
theorem dL_law_851 : decode cL_law 851 = .ok (.aload_n 0, 1) := by decide +kernel
theorem dL_law_852 : decode cL_law 852 = .ok (.iload_n 3, 1) := by decide +kernel
theorem dL_law_853 : decode cL_law 853 = .ok (.iconst 2, 1) := by decide +kernel
theorem dL_law_854 : decode cL_law 854 = .ok (.iadd, 1) := by decide +kernel
theorem dL_law_855 : decode cL_law 855 = .ok (.iaload, 1) := by decide +kernel
theorem dL_law_856 : decode cL_law 856 = .ok (.aload_n 0, 1) := by decide +kernel
theorem dL_law_857 : decode cL_law 857 = .ok (.iload_n 3, 1) := by decide +kernel
theorem dL_law_858 : decode cL_law 858 = .ok (.iconst 3, 1) := by decide +kernel
theorem dL_law_859 : decode cL_law 859 = .ok (.iadd, 1) := by decide +kernel
theorem dL_law_860 : decode cL_law 860 = .ok (.iaload, 1) := by decide +kernel
theorem dL_law_861 : decode cL_law 861 = .ok (.invokevirtual 119, 3) := by decide +kernel
theorem dL_law_864 : decode cL_law 864 = .ok (.aload_n 2, 1) := by decide +kernel
theorem dL_law_865 : decode cL_law 865 = .ok (.aload_n 0, 1) := by decide +kernel
theorem dL_law_866 : decode cL_law 866 = .ok (.iload_n 3, 1) := by decide +kernel
theorem dL_law_867 : decode cL_law 867 = .ok (.iconst 1, 1) := by decide +kernel
theorem dL_law_868 : decode cL_law 868 = .ok (.iadd, 1) := by decide +kernel
theorem dL_law_869 : decode cL_law 869 = .ok (.iaload, 1) := by decide +kernel
theorem dL_law_870 : decode cL_law 870 = .ok (.aload_n 0, 1) := by decide +kernel
theorem dL_law_871 : decode cL_law 871 = .ok (.iload_n 3, 1) := by decide +kernel
theorem dL_law_872 : decode cL_law 872 = .ok (.iconst 2, 1) := by decide +kernel
theorem dL_law_873 : decode cL_law 873 = .ok (.iadd, 1) := by decide +kernel
theorem dL_law_874 : decode cL_law 874 = .ok (.iaload, 1) := by decide +kernel
theorem dL_law_875 : decode cL_law 875 = .ok (.aload_n 0, 1) := by decide +kernel
theorem dL_law_876 : decode cL_law 876 = .ok (.iload_n 3, 1) := by decide +kernel
theorem dL_law_877 : decode cL_law 877 = .ok (.iconst 3, 1) := by decide +kernel
theorem dL_law_878 : decode cL_law 878 = .ok (.iadd, 1) := by decide +kernel
theorem dL_law_879 : decode cL_law 879 = .ok (.iaload, 1) := by decide +kernel
theorem dL_law_880 : decode cL_law 880 = .ok (.invokevirtual 122, 3) := by decide +kernel
theorem dL_law_883 : decode cL_law 883 = .ok (.if_icmp .eq 54, 3) := by decide +kernel
theorem dL_law_886 : decode cL_law 886 = .ok (.iconst 0, 1) := by decide +kernel
theorem dL_law_887 : decode cL_law 887 = .ok (.ireturn, 1) := by decide +kernel
theorem dL_law_888 : decode cL_law 888 = .ok (.aload_n 1, 1) := by decide +kernel
theorem dL_law_889 : decode cL_law 889 = .ok (.invokevirtual 123, 3) := by decide +kernel
theorem dL_law_892 : decode cL_law 892 = .ok (.aload_n 2, 1) := by decide +kernel
theorem dL_law_893 : decode cL_law 893 = .ok (.invokevirtual 126, 3) := by decide +kernel
theorem dL_law_896 : decode cL_law 896 = .ok (.if_icmp .eq 41, 3) := by decide +kernel
theorem dL_law_899 : decode cL_law 899 = .ok (.iconst 0, 1) := by decide +kernel
theorem dL_law_900 : decode cL_law 900 = .ok (.ireturn, 1) := by decide +kernel
theorem dL_law_901 : decode cL_law 901 = .ok (.aload_n 1, 1) := by decide +kernel
theorem dL_law_902 : decode cL_law 902 = .ok (.invokevirtual 127, 3) := by decide +kernel
theorem dL_law_905 : decode cL_law 905 = .ok (.aload_n 2, 1) := by decide +kernel
theorem dL_law_906 : decode cL_law 906 = .ok (.invokevirtual 130, 3) := by decide +kernel
theorem dL_law_909 : decode cL_law 909 = .ok (.if_icmp .eq 28, 3) := by decide +kernel
theorem dL_law_912 : decode cL_law 912 = .ok (.iconst 0, 1) := by decide +kernel
theorem dL_law_913 : decode cL_law 913 = .ok (.ireturn, 1) := by decide +kernel
theorem dL_law_914 : decode cL_law 914 = .ok (.aload_n 1, 1) := by decide +kernel
theorem dL_law_915 : decode cL_law 915 = .ok (.aload_n 0, 1) := by decide +kernel
theorem dL_law_916 : decode cL_law 916 = .ok (.iload_n 3, 1) := by decide +kernel
theorem dL_law_917 : decode cL_law 917 = .ok (.iconst 1, 1) := by decide +kernel
theorem dL_law_918 : decode cL_law 918 = .ok (.iadd, 1) := by decide +kernel
theorem dL_law_919 : decode cL_law 919 = .ok (.iaload, 1) := by decide +kernel
theorem dL_law_920 : decode cL_law 920 = .ok (.invokevirtual 131, 3) := by decide +kernel
theorem dL_law_923 : decode cL_law 923 = .ok (.aload_n 2, 1) := by decide +kernel
theorem dL_law_924 : decode cL_law 924 = .ok (.aload_n 0, 1) := by decide +kernel
theorem dL_law_925 : decode cL_law 925 = .ok (.iload_n 3, 1) := by decide +kernel
theorem dL_law_926 : decode cL_law 926 = .ok (.iconst 1, 1) := by decide +kernel
theorem dL_law_927 : decode cL_law 927 = .ok (.iadd, 1) := by decide +kernel
theorem dL_law_928 : decode cL_law 928 = .ok (.iaload, 1) := by decide +kernel
theorem dL_law_929 : decode cL_law 929 = .ok (.invokevirtual 134, 3) := by decide +kernel
theorem dL_law_932 : decode cL_law 932 = .ok (.if_icmp .eq 5, 3) := by decide +kernel
theorem dL_law_935 : decode cL_law 935 = .ok (.iconst 0, 1) := by decide +kernel
theorem dL_law_936 : decode cL_law 936 = .ok (.ireturn, 1) := by decide +kernel
theorem dL_law_937 : decode cL_law 937 = .ok (.iinc 3 5, 3) := by decide +kernel
theorem dL_law_940 : decode cL_law 940 = .ok (.goto (-922), 3) := by decide +kernel
theorem dL_law_943 : decode cL_law 943 = .ok (.iconst 1, 1) := by decide +kernel
theorem dL_law_944 : decode cL_law 944 = .ok (.ireturn, 1) := by decide +kernel
end
section
/-- the class' one string constant: its text, its place in the constant pool -/
def mTx : String := "p0,60,9;p1,30,4;p3,20,2;p4,5,3;p2,40,6;g0,0,20,8;g1,0,9,0;g2,2,12,0;g0,1,7,3;g3,3,40,20;g0,4,15,5;v0,1,8;v1,0,6;v2,3,10;v3,2,9;v4,0,5;v0,4,5;t8;"
def mIx : Nat := 73
/-- the links between nest mates: class, place, method, host -/
def mNest : List (String × Nat × MethodName × String) := [("DutyOnLeft", 9, ⟨"DutyOnLeft$Text", "<init>", "()V"⟩, "DutyOnLeft"), ("DutyOnLeft", 18, ⟨"DutyOnLeft$Reader", "<init>", "()V"⟩, "DutyOnLeft"), ("DutyOnLeft", 25, ⟨"DutyOnLeft$Standing", "<init>", "()V"⟩, "DutyOnLeft"), ("DutyOnLeft$Pile", 28, ⟨"DutyOnLeft$Standing", "<init>", "()V"⟩, "DutyOnLeft"), ("DutyOnLeft", 47, ⟨"DutyOnLeft$Oaths", "<init>", "()V"⟩, "DutyOnLeft"), ("DutyOnLeft", 54, ⟨"DutyOnLeft$Orders", "<init>", "()V"⟩, "DutyOnLeft"), ("DutyOnLeft", 65, ⟨"DutyOnLeft$Family", "<init>", "()V"⟩, "DutyOnLeft"), ("DutyOnLeft", 275, ⟨"DutyOnLeft$Turns", "play", "(LDutyOnLeft$Family;LDutyOnLeft$Standing;[IIII)I"⟩, "DutyOnLeft")]
end
section
/-! ===== a heap by numbers: a cell is a number from 1 on (0: null), its address is base + number - 1 ===== -/
abbrev mSh : Type := List (Nat × Nat)
abbrev mHp : Type := (Nat → Nat → Int32) × (Nat → Nat → Nat)
abbrev mCx : Type := Launch × Nat × va_G × (ClassId × ClassId × ClassId) × ((Nat → Nat) × (Nat → Nat)) × (Nat × Nat × (Nat → Int32))
abbrev mMe : Type := MethodName × ByteArray × Nat × Option FieldType
def xL (X : mCx) : Launch := X.1
def xB (X : mCx) : Nat := X.2.1
def xD (X : mCx) : va_G := X.2.2.1
def xI (X : mCx) : ClassId := X.2.2.2.1.1
def xC (X : mCx) : ClassId := X.2.2.2.1.2.1
def xS (X : mCx) : ClassId := X.2.2.2.1.2.2
def xK (X : mCx) : Nat → Nat := X.2.2.2.2.1.1
def xV (X : mCx) : Nat → Nat := X.2.2.2.2.1.2
def xb (X : mCx) : Nat := X.2.2.2.2.2.1
def xN (X : mCx) : Nat := X.2.2.2.2.2.2.1
def xX (X : mCx) : Nat → Int32 := X.2.2.2.2.2.2.2
/-- which fields are references, by class (as in vwCl) and place -/
def mRfT : List (List Bool) := [[false, false, false, true, true, true, true, true, true, true, true, true], [true, true, false], [true, true], [true, false, false], [true], [false, false, true, true, true, true, false], [true, false], [true, true, true, true, true, true, true, true, true, true, true], [true, true, false, false, false, true, true, true, false, false, true, true, true, true, true, true, false]]
def mRf (t j : Nat) : Bool := (mRfT.getD t []).getD j false
def mVr (X : mCx) (r : Nat) : Value := match r with
  | 0 => .null
  | k + 1 => .ref (xB X + k)
def mOr (X : mCx) (r : Nat) : Option Nat := match r with
  | 0 => none
  | k + 1 => some (xB X + k)
theorem mOr_rf (X : mCx) (r : Nat) : va_rf (mOr X r) = mVr X r := by cases r <;> rfl
def mEnc (X : mCx) (v : Value) : Value := match v with
  | .ref r => mVr X r
  | .float b => .ref (if b = 0 then xK X 0 else xb X)
  | .int x => .int x
  | .long x => .long x
  | .double b => .double b
  | .null => .null
  | .retAddr q => .retAddr q
theorem mEnc_cat (X : mCx) (v : Value) : (mEnc X v).category = v.category := by
  cases v with
  | ref r => cases r <;> rfl
  | _ => rfl
def mFs (X : mCx) (t n o : Nat) (h : mHp) : List Value := (List.range n).map (fun j => if mRf t j = true then mVr X (h.2 o j) else .int (h.1 o j))
def mCell (X : mCx) (S : mSh) (h : mHp) (i : Nat) : va_E := match S[i]? with
  | none => .inr (0, [])
  | some (t, n) => if t < 9 then .inr (t, mFs X t n (i + 1) h) else if t = 20 then .inl (xI X, n, .inl (h.1 (i + 1))) else if t = 21 then .inl (xC X, n, .inl (h.1 (i + 1))) else .inl (xS X, n, .inr (.inr (.inr (.inr (fun j => mOr X (h.2 (i + 1) j))))))
def mW (X : mCx) (S : mSh) (h : mHp) : va_W := (List.range S.length).map (fun i => (xB X + i, mCell X S h i))
def mTy (X : mCx) : List (ClassId × FieldType) := [(xI X, .int), (xC X, .char), (xS X, .object "DutyOnLeft$Standing")]
def mSl (S : mSh) : Nat := (S.map (fun q => q.2)).sum
def sI (h : mHp) (o j : Nat) (v : Int32) : mHp := (fun a b => if a = o ∧ b = j then v else h.1 a b, h.2)
def sR (h : mHp) (o j r : Nat) : mHp := (h.1, fun a b => if a = o ∧ b = j then r else h.2 a b)
def sN (h : mHp) (o : Nat) : mHp := (fun a b => if a = o then 0 else h.1 a b, fun a b => if a = o then 0 else h.2 a b)
theorem mW_len (X : mCx) (S : mSh) (h : mHp) : (mW X S h).length = S.length := by simp [mW]
theorem mW_get {X : mCx} {S : mSh} {h : mHp} {o : Nat} (hl : o < S.length) : (mW X S h)[o]? = some (xB X + o, mCell X S h o) := by
  rw [mW, List.getElem?_map, List.getElem?_range hl]; rfl
theorem mW_at {X : mCx} {S : mSh} {h : mHp} {k : Nat} {q : Nat × va_E} (hk : (mW X S h)[k]? = some q) : k < S.length ∧ q = (xB X + k, mCell X S h k) := by
  have hl : k < S.length := by
    have := (List.getElem?_eq_some_iff.mp hk).1
    rwa [mW_len] at this
  refine ⟨hl, ?_⟩
  rw [mW_get hl] at hk
  exact (Option.some.inj hk).symm
theorem mW_D (X : mCx) (S : mSh) (h : mHp) : va_D (fun q => xB X ≤ q) (mW X S h) := by
  refine ⟨fun i j p q hi hj hpq => ?_, fun k q hk => ?_⟩
  · obtain ⟨-, rfl⟩ := mW_at hi
    obtain ⟨-, rfl⟩ := mW_at hj
    have : xB X + i = xB X + j := hpq
    omega
  · obtain ⟨-, rfl⟩ := mW_at hk
    exact Nat.le_add_right _ _
theorem mSt_lt {S : mSh} {o : Nat} {q : Nat × Nat} (h : S[o]? = some q) : o < S.length := (List.getElem?_eq_some_iff.mp h).1
theorem mCell_obj {X : mCx} {S : mSh} {h : mHp} {o t n : Nat} (hs : S[o]? = some (t, n)) (ht : t < 9) : mCell X S h o = .inr (t, mFs X t n (o + 1) h) := by
  unfold mCell; rw [hs]; exact if_pos ht
theorem mCell_i {X : mCx} {S : mSh} {h : mHp} {o n : Nat} (hs : S[o]? = some (20, n)) : mCell X S h o = .inl (xI X, n, .inl (h.1 (o + 1))) := by
  unfold mCell; rw [hs]; rfl
theorem mCell_c {X : mCx} {S : mSh} {h : mHp} {o n : Nat} (hs : S[o]? = some (21, n)) : mCell X S h o = .inl (xC X, n, .inl (h.1 (o + 1))) := by
  unfold mCell; rw [hs]; rfl
theorem mCell_s {X : mCx} {S : mSh} {h : mHp} {o n : Nat} (hs : S[o]? = some (22, n)) : mCell X S h o = .inl (xS X, n, .inr (.inr (.inr (.inr (fun j => mOr X (h.2 (o + 1) j)))))) := by
  unfold mCell; rw [hs]; rfl
theorem mCell_eq {X : mCx} {S S1 : mSh} {h h1 : mHp} {i : Nat} (hs : S1[i]? = S[i]?) (e1 : h1.1 (i + 1) = h.1 (i + 1)) (e2 : h1.2 (i + 1) = h.2 (i + 1)) : mCell X S1 h1 i = mCell X S h i := by
  unfold mCell mFs; rw [hs, e1, e2]
theorem mFs_len (X : mCx) (t n o : Nat) (h : mHp) : (mFs X t n o h).length = n := by simp [mFs]
theorem mFs_get {X : mCx} {t n o j : Nat} {h : mHp} (hj : j < n) : (mFs X t n o h)[j]? = some (if mRf t j = true then mVr X (h.2 o j) else .int (h.1 o j)) := by
  rw [mFs, List.getElem?_map, List.getElem?_range hj]; rfl
theorem mFs_set {X : mCx} {t n o k : Nat} {h h1 : mHp} {v : Value} (hk : k < n) (hv : v = if mRf t k = true then mVr X (h1.2 o k) else .int (h1.1 o k)) (e1 : ∀ j, j ≠ k → h1.1 o j = h.1 o j) (e2 : ∀ j, j ≠ k → h1.2 o j = h.2 o j) : (mFs X t n o h).set k v = mFs X t n o h1 := by
  apply List.ext_getElem?
  intro j
  rw [List.getElem?_set]
  by_cases hj : k = j
  · subst hj
    rw [if_pos rfl, if_pos (by rw [mFs_len]; exact hk), mFs_get hk, hv]
  · rw [if_neg hj]
    by_cases hl : j < n
    · rw [mFs_get hl, mFs_get hl, e1 j (Ne.symm hj), e2 j (Ne.symm hj)]
    · rw [List.getElem?_eq_none (by rw [mFs_len]; omega), List.getElem?_eq_none (by rw [mFs_len]; omega)]
theorem mW_set {X : mCx} {S : mSh} {h h1 : mHp} {o : Nat} {e : va_E} (ho : o < S.length) (he : e = mCell X S h1 o) (e1 : ∀ a, a ≠ o + 1 → h1.1 a = h.1 a) (e2 : ∀ a, a ≠ o + 1 → h1.2 a = h.2 a) : (mW X S h).set o (xB X + o, e) = mW X S h1 := by
  subst he
  apply List.ext_getElem?
  intro i
  rw [List.getElem?_set]
  by_cases hi : o = i
  · subst hi
    rw [if_pos rfl, if_pos (by rw [mW_len]; exact ho), mW_get ho]
  · rw [if_neg hi]
    by_cases hl : i < S.length
    · rw [mW_get hl, mW_get hl, mCell_eq rfl (e1 (i + 1) (by omega)) (e2 (i + 1) (by omega))]
    · rw [List.getElem?_eq_none (by rw [mW_len]; omega), List.getElem?_eq_none (by rw [mW_len]; omega)]
theorem mW_push {X : mCx} {S : mSh} {h h1 : mHp} {q : Nat × Nat} {e : va_E} (he : e = mCell X (S ++ [q]) h1 S.length) (e1 : ∀ a, a ≠ S.length + 1 → h1.1 a = h.1 a) (e2 : ∀ a, a ≠ S.length + 1 → h1.2 a = h.2 a) : mW X S h ++ [(xB X + S.length, e)] = mW X (S ++ [q]) h1 := by
  subst he
  apply List.ext_getElem?
  intro i
  by_cases hl : i < S.length
  · rw [List.getElem?_append_left (by rw [mW_len]; exact hl), mW_get hl, mW_get (by simp; omega), mCell_eq (S := S) (S1 := S ++ [q]) (List.getElem?_append_left hl) (e1 (i + 1) (by omega)) (e2 (i + 1) (by omega))]
  · rw [List.getElem?_append_right (by rw [mW_len]; omega), mW_len]
    by_cases hi : i = S.length
    · subst hi
      rw [Nat.sub_self, mW_get (by simp)]
      rfl
    · rw [List.getElem?_eq_none (by simp; omega), List.getElem?_eq_none (by rw [mW_len]; simp; omega)]
/-! the string constant, the script, what else the start gives -/
def mBy : List Int32 := mTx.toList.map (fun ch => Int32.ofNat ch.toNat)
def mXF (X : mCx) (U : State) (H : Heap) : Prop :=
  vk_S 1 [mBy.length] [mBy] (xK X) (xV X) (fun q => xB X ≤ q) U H ∧ vk_R RX11 mIx mTx (xK X 0) U ∧ va_X (xb X) (xN X) (xX X) U H ∧ xb X < xB X ∧ va_Z "java/lang/String" "COMPACT_STRINGS" "Z" (.int 1) (fun q => xB X ≤ q) U H ∧ va_Zq "jdk/internal/util/Preconditions" "SIOOBE_FORMATTER" "Ljava/util/function/BiFunction;" (fun q => xB X ≤ q) U H ∧ va_AO "DutyOnLeft$Standing" U ∧ ∀ q ∈ mNest, va_Nw (.methodLinkNest q.1 q.2.1 q.2.2.1 q.2.2.2) U
theorem mXF.next {X : mCx} {s t : State} {H H1 : Heap} (h : mXF X s H) (hW : s.WarmedH t.vm) (hk : ∀ a : Nat, a < H.size → ¬ xB X ≤ a → H1[a]? = H[a]?) : mXF X t H1 := by
  obtain ⟨h1, h2, h3, h4, h5, h6, h7, h8⟩ := h
  have hA := hW.alike
  refine ⟨(h1.moved hA).kept hk, h2.warm hW, (h3.moved hA).kept (hk _ ?_ (Nat.not_le.mpr h4)), h4, (h5.moved hA).kept hk, (h6.moved hA).kept hk, h7.moved hA, fun q hq => va_Nw.warmM hW (h8 q hq)⟩
  obtain ⟨scr, g1, -⟩ := h3
  exact (Array.getElem?_eq_some_iff.mp g1).1
/-- the world of a state -/
def mU (X : mCx) (S : mSh) (h : mHp) (U : State) : Prop := U.heap.size = xB X + S.length ∧ va_P (xD X) vwCl (mW X S h) U.heap ∧ va_K (xD X) vwCl (mTy X) U ∧ mXF X U U.heap
theorem mU.calling {X : mCx} {S : mSh} {h : mHp} {U : State} (q : mU X S h U) (g : JFrame) (mk : MethodId) (a : Array Value) : mU X S h (U.calling g mk a) := by
  obtain ⟨q1, q2, q3, h1, h2, h3, h4, h5, h6, h7, h8⟩ := q
  exact ⟨q1, q2, va_K.moved (u := U) (U := U.calling g mk a) (Vm.Alike.refl U.vm) q3, vk_S.moved (u := U) (U := U.calling g mk a) (Vm.Alike.refl U.vm) h1, vk_R.same (u := U) (U := U.calling g mk a) rfl h2, va_X.moved (u := U) (U := U.calling g mk a) (Vm.Alike.refl U.vm) h3, h4, va_Z.moved (u := U) (U := U.calling g mk a) (Vm.Alike.refl U.vm) h5, va_Zq.moved (u := U) (U := U.calling g mk a) (Vm.Alike.refl U.vm) h6, va_AO.moved (u := U) (U := U.calling g mk a) (Vm.Alike.refl U.vm) h7, fun q hq => va_Nw.same (u := U) (U := U.calling g mk a) rfl rfl (h8 q hq)⟩
end
section
/-! ===== what a method does, by numbers: JJ (from a place in it to its end), CC (its contract) ===== -/
/-- the words that every method may use -/
def mWd : List Cond := lw_tbl.filter goodWord
theorem mWd_in {w : Cond} (h : w ∈ mWd) : w ∈ lw_tbl := (List.mem_filter.mp h).1
theorem mWd_ok {w : Cond} (h : w ∈ mWd) : (w.onTables && w.keeps) = true ∨ ∃ ty, w = .arrayClass ty := good_of_word (List.mem_filter.mp h).2
theorem mWd_at {w : Cond} (i : Nat) (h : lw_tbl[i]? = some w) (hg : goodWord w = true) : w ∈ mWd := List.mem_filter.mpr ⟨List.mem_of_getElem? h, hg⟩
def mWs (M : mMe) : List Cond := Cond.code M.1 M.2.1 M.2.2.1 M.2.2.2 :: mWd
theorem mWs_good {M : mMe} (h : Cond.code M.1 M.2.1 M.2.2.1 M.2.2.2 ∈ mWd) : GoodIn mWd (mWs M) := by
  intro w hw
  rcases List.mem_cons.mp hw with rfl | hw
  · exact ⟨h, mWd_ok h⟩
  · exact ⟨hw, mWd_ok hw⟩
def mRoom (d : Nat) (S S' : mSh) : Room := { frames := d, cells := S'.length - S.length, slots := mSl S' - mSl S, locals := 64 * d }
def mFix (X : mCx) (M : mMe) (d : Nat) (S0 S' : mSh) (p : Program) (s : State) (m : MethodId) (args : Array Value) (meth : Method) (c : Code) (R : Room) : Prop :=
  p.tables.exec = Jvm.exec ∧ c.code = M.2.1 ∧ c.maxLocals = M.2.2.1 ∧ s.vm.findClass M.1.cls = some m.cls ∧ meth.name = M.1.name ∧ (∀ w ∈ mWd, w.before args s = true) ∧ d ≤ R.frames ∧ 64 * d ≤ R.locals ∧ S'.length - S0.length ≤ R.cells ∧ mSl S' - mSl S0 ≤ R.slots ∧ s.heap.size = xB X + S0.length ∧ va_K (xD X) vwCl (mTy X) s ∧ mXF X s s.heap
def mJunk (v : Value) : Bool := match v with
  | .retAddr _ => true
  | _ => false
def mLv (X : mCx) (n : Nat) (ls : Array Slot) (L : List Value) : Prop := L.length = n ∧ ls.size = n ∧ lv_wf ls ∧ ∀ (i : Nat) (v : Value), L[i]? = some v → mJunk v = false → ls[i]? = some (.val (mEnc X v))
def mAt (X : mCx) (S : mSh) (h : mHp) (S0 : mSh) (s : State) (H : Heap) (locs : List Loc) (cells slots : Nat) : Prop :=
  H.size = xB X + S.length ∧ va_P (xD X) vwCl (mW X S h) H ∧ va_S (fun q => xB X ≤ q) s.heap H locs ∧ S0 <+: S ∧ cells = S.length - S0.length ∧ slots = mSl S - mSl S0
def mRet (M : mMe) (pc : Nat) (st : List Value) (r : Option Value) : Prop :=
  (∃ v, decode M.2.1 pc = .ok (.ireturn, 1) ∧ st = [.int v] ∧ r = some (.int v)) ∨ (decode M.2.1 pc = .ok (.return_, 1) ∧ st = [] ∧ r = none) ∨ (∃ k, decode M.2.1 pc = .ok (.areturn, 1) ∧ st = [.ref k] ∧ r = some (.ref k))
def JJ (X : mCx) (M : mMe) (d pc : Nat) (L st : List Value) (S : mSh) (h : mHp) (r : Option Value) (S' : mSh) (h' : mHp) : Prop :=
  S <+: S' → ∀ (p : Program) (e : Env) (s : State) (m : MethodId) (args : Array Value) (below : List Frame) (meth : Method) (c : Code) (R : Room) (S0 : mSh) (Q : State → Prop), mFix X M d S0 S' p s m args meth c R →
    (∀ (pc : Nat) (H : Heap) (locs : List Loc) (cells slots : Nat) (ls : Array Slot) (st : List Value), mRet M pc st r → mAt X S' h' S0 s H locs cells slots → W p (xL X) e R s m args below meth c H locs cells slots Q (F0 m pc ls (st.map (mEnc X)))) →
    ∀ (H : Heap) (locs : List Loc) (cells slots : Nat) (ls : Array Slot), mAt X S h S0 s H locs cells slots → mLv X M.2.2.1 ls L → W p (xL X) e R s m args below meth c H locs cells slots Q (F0 m pc ls (st.map (mEnc X)))
def mPc (X : mCx) (as : List Value) (S : mSh) (h : mHp) : Array Value → State → Prop := fun v U => v = (as.map (mEnc X)).toArray ∧ mU X S h U
def mQc (X : mCx) (r : Option Value) (S' : mSh) (h' : mHp) : Array Value → State → Outcome → State → Prop := fun _ st o t => o = .returned (r.map (mEnc X)) ∧ mU X S' h' t ∧ va_F (fun q => xB X ≤ q) st t
def CC (X : mCx) (d : Nat) (M : mMe) (as : List Value) (S : mSh) (h : mHp) (r : Option Value) (S' : mSh) (h' : mHp) : Prop :=
  S <+: S' ∧ Met (xL X) M.1 (mWs M) (mRoom d S S') (mPc X as S h) (mQc X r S' h') (S'.length - S.length) (mSl S' - mSl S) (fun q => xB X ≤ q)
/-! the locals at the entry -/
def mEn (as : List Value) : List Value := as.flatMap (fun v => if v.category = 2 then [v, .retAddr 0] else [v])
def mEnt (as : List Value) (n : Nat) : List Value := mEn as ++ List.replicate (n - (mEn as).length) (.retAddr 0)
theorem mEn_sl (X : mCx) (as : List Value) : (lg_sl (as.map (mEnc X))).length = (mEn as).length := by
  induction as with
  | nil => rfl
  | cons v as ih =>
    have e : (mEnc X v).category = v.category := mEnc_cat X v
    unfold lg_sl mEn at ih ⊢
    rw [List.map_cons, List.flatMap_cons, List.flatMap_cons, List.length_append, List.length_append, ih, e]
    congr 1
    by_cases hc : v.category = 2
    · rw [if_pos hc, if_pos hc]; rfl
    · rw [if_neg hc, if_neg hc]; rfl
theorem mEn_in (X : mCx) : ∀ (as : List Value) (k i : Nat) (v : Value), (mEn as)[i]? = some v → mJunk v = false → (k + i, mEnc X v) ∈ lv_args k (as.map (mEnc X)) := by
  intro as
  induction as with
  | nil => intro k i v h; simp [mEn] at h
  | cons a as ih =>
    intro k i v h hj
    have e : (mEnc X a).category = a.category := mEnc_cat X a
    have hE : mEn (a :: as) = (if a.category = 2 then [a, .retAddr 0] else [a]) ++ mEn as := by unfold mEn; rw [List.flatMap_cons]
    rw [hE] at h
    rw [List.map_cons]
    show _ ∈ (k, mEnc X a) :: lv_args (if (mEnc X a).category = 2 then k + 2 else k + 1) (as.map (mEnc X))
    rw [e]
    by_cases hc : a.category = 2
    · rw [if_pos hc] at h ⊢
      match i, h with
      | 0, h => cases h; exact List.mem_cons_self
      | 1, h => cases h; simp [mJunk] at hj
      | i + 2, h =>
        have := ih (k + 2) i v h hj
        rw [show k + 2 + i = k + (i + 2) by omega] at this
        exact List.mem_cons_of_mem _ this
    · rw [if_neg hc] at h ⊢
      match i, h with
      | 0, h => cases h; exact List.mem_cons_self
      | i + 1, h =>
        have := ih (k + 1) i v h hj
        rw [show k + 1 + i = k + (i + 1) by omega] at this
        exact List.mem_cons_of_mem _ this
theorem mEnt_lv (X : mCx) (as : List Value) (n : Nat) (hn : (mEn as).length ≤ n) : mLv X n ((lg_sl (as.map (mEnc X)) ++ List.replicate (n - (lg_sl (as.map (mEnc X))).length) Slot.unset).toArray) (mEnt as n) := by
  obtain ⟨h1, h2, h3⟩ := lv_entry (as.map (mEnc X)) (n := n) (by rw [mEn_sl]; exact hn)
  refine ⟨by simp [mEnt]; omega, h1, h2, fun i v hv hj => ?_⟩
  have hi : i < (mEn as).length := by
    apply Decidable.byContradiction
    intro hi
    rw [mEnt, List.getElem?_append_right (by omega), List.getElem?_replicate] at hv
    split at hv
    · cases hv; simp [mJunk] at hj
    · cases hv
  rw [mEnt, List.getElem?_append_left hi] at hv
  have := mEn_in X as 0 i v hv hj
  rw [Nat.zero_add] at this
  exact h3 _ this
/-! stores into locals -/
def mLl (X : mCx) (L : List Value) : List (Nat × Value) := L.zipIdx.filterMap (fun q => if mJunk q.1 = true then none else some (q.2, mEnc X q.1))
theorem mLl_mem {X : mCx} {L : List Value} {i : Nat} {w : Value} : (i, w) ∈ mLl X L ↔ ∃ v, L[i]? = some v ∧ mJunk v = false ∧ w = mEnc X v := by
  unfold mLl
  rw [List.mem_filterMap]
  constructor
  · rintro ⟨⟨v, j⟩, h1, h2⟩
    have h3 := List.mem_zipIdx_iff_getElem?.mp h1
    by_cases hj : mJunk v = true
    · simp [hj] at h2
    · simp only [hj, Bool.false_eq_true, if_false, Option.some.injEq, Prod.mk.injEq] at h2
      obtain ⟨rfl, rfl⟩ := h2
      exact ⟨v, h3, by simpa using hj, rfl⟩
  · rintro ⟨v, h1, h2, rfl⟩
    exact ⟨(v, i), List.mem_zipIdx_iff_getElem?.mpr h1, by simp [h2]⟩
theorem mLv.has {X : mCx} {n : Nat} {ls : Array Slot} {L : List Value} (h : mLv X n ls L) : lv_has ls n (mLl X L) := by
  obtain ⟨h1, h2, h3, h4⟩ := h
  refine ⟨h2, h3, fun q hq => ?_⟩
  obtain ⟨i, w⟩ := q
  obtain ⟨v, g1, g2, rfl⟩ := mLl_mem.mp hq
  exact h4 i v g1 g2
/-- one word may be stored at i: the place is there, and no long stands just ahead -/
def mSt1 (L : List Value) (i : Nat) : Bool := decide (i < L.length) && (match i with
  | 0 => true
  | k + 1 => match L[k]? with
    | some (.long _) => false
    | some (.double _) => false
    | _ => true)
theorem mSt1_prev {X : mCx} {L : List Value} {k : Nat} (h : mSt1 L (k + 1) = true) {v : Value} (hv : L[k]? = some v) : (mEnc X v).category ≠ 2 := by
  unfold mSt1 at h
  rw [mEnc_cat]
  cases v <;> simp_all [Value.category]
theorem mLv.set1 {X : mCx} {n i : Nat} {ls ls' : Array Slot} {L : List Value} {v : Value} (h : mLv X n ls L) (hk : mSt1 L i = true) (hl : lv_has ls' n ((i, mEnc X v) :: (mLl X L).filter (fun q => !(q.1 == i) && !(q.1 + 1 == i && q.2.category == 2)))) : mLv X n ls' (L.set i v) := by
  obtain ⟨h1, h2, h3⟩ := hl
  refine ⟨by rw [List.length_set]; exact h.1, h1, h2, fun j w hj hw => ?_⟩
  have hi : i < L.length := by unfold mSt1 at hk; simp at hk; exact hk.1
  by_cases he : i = j
  · subst he
    rw [List.getElem?_set_self hi] at hj
    cases hj
    exact h3 (i, mEnc X v) List.mem_cons_self
  · rw [List.getElem?_set_ne he] at hj
    refine h3 (j, mEnc X w) (List.mem_cons_of_mem _ (List.mem_filter.mpr ⟨mLl_mem.mpr ⟨w, hj, hw, rfl⟩, ?_⟩))
    by_cases hp : j + 1 = i
    · subst hp
      have := mSt1_prev (X := X) hk hj
      simp [this]
    · simp [hp, Ne.symm he]
def mSt2 (L : List Value) (i : Nat) : Bool := decide (i + 1 < L.length) && mSt1 L i
theorem mLv.set2 {X : mCx} {n i : Nat} {ls ls' : Array Slot} {L : List Value} {v : Value} (h : mLv X n ls L) (hk : mSt2 L i = true) (hl : lv_has ls' n ((i, mEnc X v) :: (mLl X L).filter (fun q => !(q.1 == i) && (!(q.1 == i + 1) && !(q.1 + 1 == i && q.2.category == 2))))) : mLv X n ls' ((L.set i v).set (i + 1) (.retAddr 0)) := by
  obtain ⟨h1, h2, h3⟩ := hl
  unfold mSt2 at hk
  rw [Bool.and_eq_true] at hk
  obtain ⟨hk2, hk⟩ := hk
  have hi2 : i + 1 < L.length := by simpa using hk2
  refine ⟨by rw [List.length_set, List.length_set]; exact h.1, h1, h2, fun j w hj hw => ?_⟩
  by_cases he2 : i + 1 = j
  · subst he2
    rw [List.getElem?_set_self (by rw [List.length_set]; exact hi2)] at hj
    cases hj
    simp [mJunk] at hw
  · rw [List.getElem?_set_ne he2] at hj
    by_cases he : i = j
    · subst he
      rw [List.getElem?_set_self (by omega)] at hj
      cases hj
      exact h3 (i, mEnc X v) List.mem_cons_self
    · rw [List.getElem?_set_ne he] at hj
      refine h3 (j, mEnc X w) (List.mem_cons_of_mem _ (List.mem_filter.mpr ⟨mLl_mem.mpr ⟨w, hj, hw, rfl⟩, ?_⟩))
      by_cases hp : j + 1 = i
      · subst hp
        have := mSt1_prev (X := X) hk hj
        simp [this]
        omega
      · have e1 : ¬ j = i := fun e => he e.symm
        have e2 : ¬ j = i + 1 := fun e => he2 e.symm
        simp [hp, e1, e2]
/-! a method's contract out of its walk -/
def mRok (ret : Option FieldType) (r : Option Value) : Prop := match ret, r with
  | some ty, some (.int v) => narrow ty (.int v) = .int v
  | none, none => True
  | some (.object _), some (.ref _) => True
  | _, _ => False
theorem mVr_ref (X : mCx) (k : Nat) : mVr X k = .null ∨ ∃ a, mVr X k = .ref a := by
  cases k with
  | zero => exact Or.inl rfl
  | succ k => exact Or.inr ⟨_, rfl⟩
theorem CC.of {X : mCx} {d : Nat} {M : mMe} {as : List Value} {S S' : mSh} {h h' : mHp} {r : Option Value} (hp : plainName M.1.cls = true) (hn : (mEn as).length ≤ M.2.2.1) (hr : mRok M.2.2.2 r) (hS : S <+: S') (J : JJ X M d 0 (mEnt as M.2.2.1) [] S h r S' h') : CC X d M as S h r S' h' := by
  refine ⟨hS, Met.ofW (cc := M.2.1) (maxL := M.2.2.1) (ret := M.2.2.2) hp rfl ?_⟩
  intro p e s m args below meth c s₁ B hml hv
  obtain ⟨rfl, hsz, hP, hK, hX⟩ := hv
  have hts := atoms_spec (ws := mWs M) B.pre
  have hF : mFix X M d S S' p s m (as.map (mEnc X)).toArray meth c (mRoom d S S') := ⟨B.exec, B.bytes, hml, findClass_of_methodNamed B.named, (name_of_methodNamed B.named B.method).1, fun w hw => hts w (List.mem_cons_of_mem _ hw), Nat.le_refl _, Nat.le_refl _, Nat.le_refl _, Nat.le_refl _, hsz, hK, hX⟩
  have hr0 := B.returns
  have hlocks := B.notSynchronized
  rw [lg_entry_eq]
  refine J hS p e s m _ below meth c (mRoom d S S') S _ hF ?_ s.heap [] 0 0 _ ⟨hsz, hP, va_S.rf, List.prefix_refl S, by omega, by omega⟩ (mEnt_lv X as M.2.2.1 hn)
  intro pc H locs cells slots ls st hm hA
  obtain ⟨z1, z2, z3, z4, rfl, rfl⟩ := hA
  have hU : ∀ t : State, t.heap = H → s.WarmedH t.vm → mU X S' h' t ∧ va_F (fun q => xB X ≤ q) s t := fun t ht hW => ⟨⟨by rw [ht]; exact z1, by rw [ht]; exact z2, hK.moved hW.alike, by rw [ht]; exact hX.next hW z3.2.1⟩, z3.F ht⟩
  rcases hm with ⟨v, hd, rfl, rfl⟩ | ⟨hd, rfl, rfl⟩ | ⟨k, hd, rfl, rfl⟩
  · cases hret : M.2.2.2 with
    | none => rw [hret] at hr; exact hr.elim
    | some ty =>
      rw [hret] at hr hr0
      have hr' : narrow ty (.int v) = .int v := by
        unfold mRok at hr
        split at hr <;> simp_all
      exact W.zret B.exec B.bytes hr0 hr' (fun t ht hW => ⟨rfl, hU t ht hW⟩) z3.2.2 hd
  · cases hret : M.2.2.2 with
    | none =>
      rw [hret] at hr0
      exact W.vret B.exec B.bytes hr0 (fun t ht hW => ⟨rfl, hU t ht hW⟩) z3.2.2 hd
    | some ty => rw [hret] at hr; cases ty <;> exact hr.elim
  · cases hret : M.2.2.2 with
    | none => rw [hret] at hr; exact hr.elim
    | some ty =>
      rw [hret] at hr hr0
      have hty : (∃ n, ty = .object n) ∨ ∃ t, ty = .array t := by
        cases ty <;> first | exact Or.inl ⟨_, rfl⟩ | exact hr.elim
      exact W.aret B.exec B.bytes hr0 hty (mVr_ref X k) (fun t ht hW => ⟨rfl, hU t ht hW⟩) z3.2.2 hd
end
section
theorem mSt1_lt {L : List Value} {i : Nat} (h : mSt1 L i = true) : i < L.length := by
  unfold mSt1 at h; simp at h; exact h.1
theorem mSt2_lt {L : List Value} {i : Nat} (h : mSt2 L i = true) : i + 1 < L.length := by
  unfold mSt2 at h; simp at h; exact h.1
/-! ===== the rows: an instruction each ===== -/
section
variable {X : mCx} {M : mMe} {d pc : Nat} {L st : List Value} {S S' : mSh} {h h' : mHp} {r : Option Value}
theorem r_iadd {x y : Int32}  (hd : decode M.2.1 pc = .ok (.iadd, 1))  (K : JJ X M d (pc + 1) L (.int (x + y) :: st) S h r S' h') : JJ X M d (pc) L (.int y :: .int x :: st) S h r S' h' := fun hpre p e s m args below meth c R S0 Q F ret H locs cells slots ls hA hL => lv_iadd F.1 F.2.1 hd  (K hpre p e s m args below meth c R S0 Q F ret H locs cells slots ls hA hL)
theorem r_isub {x y : Int32}  (hd : decode M.2.1 pc = .ok (.isub, 1))  (K : JJ X M d (pc + 1) L (.int (x - y) :: st) S h r S' h') : JJ X M d (pc) L (.int y :: .int x :: st) S h r S' h' := fun hpre p e s m args below meth c R S0 Q F ret H locs cells slots ls hA hL => lv_isub F.1 F.2.1 hd  (K hpre p e s m args below meth c R S0 Q F ret H locs cells slots ls hA hL)
theorem r_imul {x y : Int32}  (hd : decode M.2.1 pc = .ok (.imul, 1))  (K : JJ X M d (pc + 1) L (.int (x * y) :: st) S h r S' h') : JJ X M d (pc) L (.int y :: .int x :: st) S h r S' h' := fun hpre p e s m args below meth c R S0 Q F ret H locs cells slots ls hA hL => lv_imul F.1 F.2.1 hd  (K hpre p e s m args below meth c R S0 Q F ret H locs cells slots ls hA hL)
theorem r_iand {x y : Int32}  (hd : decode M.2.1 pc = .ok (.iand, 1))  (K : JJ X M d (pc + 1) L (.int (x &&& y) :: st) S h r S' h') : JJ X M d (pc) L (.int y :: .int x :: st) S h r S' h' := fun hpre p e s m args below meth c R S0 Q F ret H locs cells slots ls hA hL => lv_iand F.1 F.2.1 hd  (K hpre p e s m args below meth c R S0 Q F ret H locs cells slots ls hA hL)
theorem r_ior {x y : Int32}  (hd : decode M.2.1 pc = .ok (.ior, 1))  (K : JJ X M d (pc + 1) L (.int (x ||| y) :: st) S h r S' h') : JJ X M d (pc) L (.int y :: .int x :: st) S h r S' h' := fun hpre p e s m args below meth c R S0 Q F ret H locs cells slots ls hA hL => lv_ior F.1 F.2.1 hd  (K hpre p e s m args below meth c R S0 Q F ret H locs cells slots ls hA hL)
theorem r_ixor {x y : Int32}  (hd : decode M.2.1 pc = .ok (.ixor, 1))  (K : JJ X M d (pc + 1) L (.int (x ^^^ y) :: st) S h r S' h') : JJ X M d (pc) L (.int y :: .int x :: st) S h r S' h' := fun hpre p e s m args below meth c R S0 Q F ret H locs cells slots ls hA hL => lv_ixor F.1 F.2.1 hd  (K hpre p e s m args below meth c R S0 Q F ret H locs cells slots ls hA hL)
theorem r_idiv {x y : Int32}  (hd : decode M.2.1 pc = .ok (.idiv, 1)) (hne : ¬ y = 0) (K : JJ X M d (pc + 1) L (.int (x / y) :: st) S h r S' h') : JJ X M d (pc) L (.int y :: .int x :: st) S h r S' h' := fun hpre p e s m args below meth c R S0 Q F ret H locs cells slots ls hA hL => lv_idiv F.1 F.2.1 hd hne (K hpre p e s m args below meth c R S0 Q F ret H locs cells slots ls hA hL)
theorem r_irem {x y : Int32}  (hd : decode M.2.1 pc = .ok (.irem, 1)) (hne : ¬ y = 0) (K : JJ X M d (pc + 1) L (.int (x - x / y * y) :: st) S h r S' h') : JJ X M d (pc) L (.int y :: .int x :: st) S h r S' h' := fun hpre p e s m args below meth c R S0 Q F ret H locs cells slots ls hA hL => lv_irem F.1 F.2.1 hd hne (K hpre p e s m args below meth c R S0 Q F ret H locs cells slots ls hA hL)
theorem r_ineg {x : Int32}  (hd : decode M.2.1 pc = .ok (.ineg, 1))  (K : JJ X M d (pc + 1) L (.int (-x) :: st) S h r S' h') : JJ X M d (pc) L (.int x :: st) S h r S' h' := fun hpre p e s m args below meth c R S0 Q F ret H locs cells slots ls hA hL => lv_ineg F.1 F.2.1 hd  (K hpre p e s m args below meth c R S0 Q F ret H locs cells slots ls hA hL)
theorem r_ladd {x y : Int64}  (hd : decode M.2.1 pc = .ok (.ladd, 1))  (K : JJ X M d (pc + 1) L (.long (x + y) :: st) S h r S' h') : JJ X M d (pc) L (.long y :: .long x :: st) S h r S' h' := fun hpre p e s m args below meth c R S0 Q F ret H locs cells slots ls hA hL => lv_ladd F.1 F.2.1 hd  (K hpre p e s m args below meth c R S0 Q F ret H locs cells slots ls hA hL)
theorem r_lsub {x y : Int64}  (hd : decode M.2.1 pc = .ok (.lsub, 1))  (K : JJ X M d (pc + 1) L (.long (x - y) :: st) S h r S' h') : JJ X M d (pc) L (.long y :: .long x :: st) S h r S' h' := fun hpre p e s m args below meth c R S0 Q F ret H locs cells slots ls hA hL => lv_lsub F.1 F.2.1 hd  (K hpre p e s m args below meth c R S0 Q F ret H locs cells slots ls hA hL)
theorem r_lmul {x y : Int64}  (hd : decode M.2.1 pc = .ok (.lmul, 1))  (K : JJ X M d (pc + 1) L (.long (x * y) :: st) S h r S' h') : JJ X M d (pc) L (.long y :: .long x :: st) S h r S' h' := fun hpre p e s m args below meth c R S0 Q F ret H locs cells slots ls hA hL => lv_lmul F.1 F.2.1 hd  (K hpre p e s m args below meth c R S0 Q F ret H locs cells slots ls hA hL)
theorem r_ldiv {x y : Int64}  (hd : decode M.2.1 pc = .ok (.ldiv, 1)) (hne : ¬ y = 0) (K : JJ X M d (pc + 1) L (.long (x / y) :: st) S h r S' h') : JJ X M d (pc) L (.long y :: .long x :: st) S h r S' h' := fun hpre p e s m args below meth c R S0 Q F ret H locs cells slots ls hA hL => lv_ldiv F.1 F.2.1 hd hne (K hpre p e s m args below meth c R S0 Q F ret H locs cells slots ls hA hL)
theorem r_lrem {x y : Int64}  (hd : decode M.2.1 pc = .ok (.lrem, 1)) (hne : ¬ y = 0) (K : JJ X M d (pc + 1) L (.long (x - x / y * y) :: st) S h r S' h') : JJ X M d (pc) L (.long y :: .long x :: st) S h r S' h' := fun hpre p e s m args below meth c R S0 Q F ret H locs cells slots ls hA hL => lv_lrem F.1 F.2.1 hd hne (K hpre p e s m args below meth c R S0 Q F ret H locs cells slots ls hA hL)
theorem r_ishl {x y : Int32}  (hd : decode M.2.1 pc = .ok (.ishl, 1))  (K : JJ X M d (pc + 1) L (.int (x <<< (y &&& 31)) :: st) S h r S' h') : JJ X M d (pc) L (.int y :: .int x :: st) S h r S' h' := fun hpre p e s m args below meth c R S0 Q F ret H locs cells slots ls hA hL => lv_ishl F.1 F.2.1 hd  (K hpre p e s m args below meth c R S0 Q F ret H locs cells slots ls hA hL)
theorem r_ishr {x y : Int32}  (hd : decode M.2.1 pc = .ok (.ishr, 1))  (K : JJ X M d (pc + 1) L (.int (x >>> (y &&& 31)) :: st) S h r S' h') : JJ X M d (pc) L (.int y :: .int x :: st) S h r S' h' := fun hpre p e s m args below meth c R S0 Q F ret H locs cells slots ls hA hL => lv_ishr F.1 F.2.1 hd  (K hpre p e s m args below meth c R S0 Q F ret H locs cells slots ls hA hL)
theorem r_i2l {x : Int32} {v : Int64}  (hd : decode M.2.1 pc = .ok (.i2l, 1)) (hv : x.toInt64 = v) (K : JJ X M d (pc + 1) L (.long v :: st) S h r S' h') : JJ X M d (pc) L (.int x :: st) S h r S' h' := fun hpre p e s m args below meth c R S0 Q F ret H locs cells slots ls hA hL => lv_i2l F.1 F.2.1 hd hv (K hpre p e s m args below meth c R S0 Q F ret H locs cells slots ls hA hL)
theorem r_l2i {x : Int64} {v : Int32}  (hd : decode M.2.1 pc = .ok (.l2i, 1)) (hv : x.toInt32 = v) (K : JJ X M d (pc + 1) L (.int v :: st) S h r S' h') : JJ X M d (pc) L (.long x :: st) S h r S' h' := fun hpre p e s m args below meth c R S0 Q F ret H locs cells slots ls hA hL => lv_l2i F.1 F.2.1 hd hv (K hpre p e s m args below meth c R S0 Q F ret H locs cells slots ls hA hL)
theorem r_i2c {x : Int32} {v : Int32}  (hd : decode M.2.1 pc = .ok (.i2c, 1)) (hv : (x.toUInt32 % 65536).toInt32 = v) (K : JJ X M d (pc + 1) L (.int v :: st) S h r S' h') : JJ X M d (pc) L (.int x :: st) S h r S' h' := fun hpre p e s m args below meth c R S0 Q F ret H locs cells slots ls hA hL => lv_i2c F.1 F.2.1 hd hv (K hpre p e s m args below meth c R S0 Q F ret H locs cells slots ls hA hL)
theorem r_iushr {x y v : Int32}  (hd : decode M.2.1 pc = .ok (.iushr, 1)) (hv : (x.toUInt32 >>> (y.toUInt32 &&& Int32.toUInt32 31)).toInt32 = v) (K : JJ X M d (pc + 1) L (.int v :: st) S h r S' h') : JJ X M d (pc) L (.int y :: .int x :: st) S h r S' h' := fun hpre p e s m args below meth c R S0 Q F ret H locs cells slots ls hA hL => lv_iushr F.1 F.2.1 hd hv (K hpre p e s m args below meth c R S0 Q F ret H locs cells slots ls hA hL)
theorem r_lcmp {x y : Int64} (hd : decode M.2.1 pc = .ok (.lcmp, 1)) (K : JJ X M d (pc + 1) L (.int (lg_cmp x y) :: st) S h r S' h') : JJ X M d (pc) L (.long y :: .long x :: st) S h r S' h' := fun hpre p e s m args below meth c R S0 Q F ret H locs cells slots ls hA hL => W.lcmp F.1 F.2.1 hd (K hpre p e s m args below meth c R S0 Q F ret H locs cells slots ls hA hL)
theorem r_iconst {n : Int} {v : Int32} (hd : decode M.2.1 pc = .ok (.iconst n, 1)) (hv : Int32.ofInt n = v) (K : JJ X M d (pc + 1) L (.int v :: st) S h r S' h') : JJ X M d (pc) L (st) S h r S' h' := fun hpre p e s m args below meth c R S0 Q F ret H locs cells slots ls hA hL => lv_iconst F.1 F.2.1 hd hv (K hpre p e s m args below meth c R S0 Q F ret H locs cells slots ls hA hL)
theorem r_bipush {n : Int} {v : Int32} (hd : decode M.2.1 pc = .ok (.bipush n, 2)) (hv : (Int8.ofInt n).toInt32 = v) (K : JJ X M d (pc + 2) L (.int v :: st) S h r S' h') : JJ X M d (pc) L (st) S h r S' h' := fun hpre p e s m args below meth c R S0 Q F ret H locs cells slots ls hA hL => lv_bipush F.1 F.2.1 hd hv (K hpre p e s m args below meth c R S0 Q F ret H locs cells slots ls hA hL)
theorem r_sipush {n : Int} {v : Int32} (hd : decode M.2.1 pc = .ok (.sipush n, 3)) (hv : (Int16.ofInt n).toInt32 = v) (K : JJ X M d (pc + 3) L (.int v :: st) S h r S' h') : JJ X M d (pc) L (st) S h r S' h' := fun hpre p e s m args below meth c R S0 Q F ret H locs cells slots ls hA hL => lv_sipush F.1 F.2.1 hd hv (K hpre p e s m args below meth c R S0 Q F ret H locs cells slots ls hA hL)
theorem r_lconst {n : Fin 2} {v : Int64} (hd : decode M.2.1 pc = .ok (.lconst n, 1)) (hv : Int64.ofNat (n : Nat) = v) (K : JJ X M d (pc + 1) L (.long v :: st) S h r S' h') : JJ X M d (pc) L (st) S h r S' h' := fun hpre p e s m args below meth c R S0 Q F ret H locs cells slots ls hA hL => lv_lconst F.1 F.2.1 hd hv (K hpre p e s m args below meth c R S0 Q F ret H locs cells slots ls hA hL)
theorem r_ldc {i : Nat} {v : Int32} (hd : decode M.2.1 pc = .ok (.ldc i, 2)) (hw : Cond.constant M.1.cls i v ∈ mWd) (K : JJ X M d (pc + 2) L (.int v :: st) S h r S' h') : JJ X M d (pc) L (st) S h r S' h' := fun hpre p e s m args below meth c R S0 Q F ret H locs cells slots ls hA hL => lv_ldc F.1 F.2.1 F.2.2.2.1 (F.2.2.2.2.2.1 _ hw) hd (K hpre p e s m args below meth c R S0 Q F ret H locs cells slots ls hA hL)
theorem r_ldcw {i : Nat} {v : Int32} (hd : decode M.2.1 pc = .ok (.ldc_w i, 3)) (hw : Cond.constant M.1.cls i v ∈ mWd) (K : JJ X M d (pc + 3) L (.int v :: st) S h r S' h') : JJ X M d (pc) L (st) S h r S' h' := fun hpre p e s m args below meth c R S0 Q F ret H locs cells slots ls hA hL => lv_ldcw F.1 F.2.1 F.2.2.2.1 (F.2.2.2.2.2.1 _ hw) hd (K hpre p e s m args below meth c R S0 Q F ret H locs cells slots ls hA hL)
theorem r_ldc2 {i : Nat} {v : Int64} (hd : decode M.2.1 pc = .ok (.ldc2_w i, 3)) (hw : Cond.constantLong M.1.cls i v ∈ mWd) (K : JJ X M d (pc + 3) L (.long v :: st) S h r S' h') : JJ X M d (pc) L (st) S h r S' h' := fun hpre p e s m args below meth c R S0 Q F ret H locs cells slots ls hA hL => lv_ldc2 F.1 F.2.1 F.2.2.2.1 (F.2.2.2.2.2.1 _ hw) hd (K hpre p e s m args below meth c R S0 Q F ret H locs cells slots ls hA hL)
theorem r_ldcS (hd : decode M.2.1 pc = .ok (.ldc mIx, 2)) (hc : M.1.cls = RX11) (K : JJ X M d (pc + 2) L (.float 0 :: st) S h r S' h') : JJ X M d (pc) L (st) S h r S' h' := fun hpre p e s m args below meth c R S0 Q F ret H locs cells slots ls hA hL => va_ldcS F.1 F.2.1 (own := RX11) (by rw [← hc]; exact F.2.2.2.1) F.2.2.2.2.2.2.2.2.2.2.2.2.2.1 hd (K hpre p e s m args below meth c R S0 Q F ret H locs cells slots ls hA hL)
theorem r_iload_n {k : Fin 4} {x : Int32} (hd : decode M.2.1 pc = .ok (.iload_n k, 1)) (hl : L[(k : Nat)]? = some (.int x)) (K : JJ X M d (pc + 1) L (.int x :: st) S h r S' h') : JJ X M d (pc) L (st) S h r S' h' := fun hpre p e s m args below meth c R S0 Q F ret H locs cells slots ls hA hL => lv_iload_n F.1 F.2.1 hd rfl (hL.2.2.2 _ _ hl rfl) (K hpre p e s m args below meth c R S0 Q F ret H locs cells slots ls hA hL)
theorem r_iload {k : Nat} {x : Int32} (hd : decode M.2.1 pc = .ok (.iload k, 2)) (hl : L[k]? = some (.int x)) (K : JJ X M d (pc + 2) L (.int x :: st) S h r S' h') : JJ X M d (pc) L (st) S h r S' h' := fun hpre p e s m args below meth c R S0 Q F ret H locs cells slots ls hA hL => lv_iload F.1 F.2.1 hd (hL.2.2.2 _ _ hl rfl) (K hpre p e s m args below meth c R S0 Q F ret H locs cells slots ls hA hL)
theorem r_lload_n {k : Fin 4} {x : Int64} (hd : decode M.2.1 pc = .ok (.lload_n k, 1)) (hl : L[(k : Nat)]? = some (.long x)) (K : JJ X M d (pc + 1) L (.long x :: st) S h r S' h') : JJ X M d (pc) L (st) S h r S' h' := fun hpre p e s m args below meth c R S0 Q F ret H locs cells slots ls hA hL => lv_lload_n F.1 F.2.1 hd rfl (hL.2.2.2 _ _ hl rfl) (K hpre p e s m args below meth c R S0 Q F ret H locs cells slots ls hA hL)
theorem r_lload {k : Nat} {x : Int64} (hd : decode M.2.1 pc = .ok (.lload k, 2)) (hl : L[k]? = some (.long x)) (K : JJ X M d (pc + 2) L (.long x :: st) S h r S' h') : JJ X M d (pc) L (st) S h r S' h' := fun hpre p e s m args below meth c R S0 Q F ret H locs cells slots ls hA hL => lv_lload F.1 F.2.1 hd (hL.2.2.2 _ _ hl rfl) (K hpre p e s m args below meth c R S0 Q F ret H locs cells slots ls hA hL)
theorem r_aload_n {k : Fin 4} {x : Nat} (hd : decode M.2.1 pc = .ok (.aload_n k, 1)) (hl : L[(k : Nat)]? = some (.ref x)) (K : JJ X M d (pc + 1) L (.ref x :: st) S h r S' h') : JJ X M d (pc) L (st) S h r S' h' := by
  intro hpre p e s m args below meth c R S0 Q F ret H locs cells slots ls hA hL
  have K1 := K hpre p e s m args below meth c R S0 Q F ret H locs cells slots ls hA hL
  have h1 := hL.2.2.2 _ _ hl rfl
  cases x with
  | zero => exact lv_aload_nN F.1 F.2.1 hd rfl h1 K1
  | succ x => exact lv_aload_n F.1 F.2.1 hd rfl h1 K1
theorem r_aload {k : Nat} {x : Nat} (hd : decode M.2.1 pc = .ok (.aload k, 2)) (hl : L[k]? = some (.ref x)) (K : JJ X M d (pc + 2) L (.ref x :: st) S h r S' h') : JJ X M d (pc) L (st) S h r S' h' := by
  intro hpre p e s m args below meth c R S0 Q F ret H locs cells slots ls hA hL
  have K1 := K hpre p e s m args below meth c R S0 Q F ret H locs cells slots ls hA hL
  have h1 := hL.2.2.2 _ _ hl rfl
  cases x with
  | zero => exact lv_aloadN F.1 F.2.1 hd h1 K1
  | succ x => exact lv_aload F.1 F.2.1 hd h1 K1
theorem r_aload_nF {k : Fin 4} {x : UInt32} (hd : decode M.2.1 pc = .ok (.aload_n k, 1)) (hl : L[(k : Nat)]? = some (.float x)) (K : JJ X M d (pc + 1) L (.float x :: st) S h r S' h') : JJ X M d (pc) L (st) S h r S' h' := fun hpre p e s m args below meth c R S0 Q F ret H locs cells slots ls hA hL => lv_aload_n F.1 F.2.1 hd rfl (hL.2.2.2 _ _ hl rfl) (K hpre p e s m args below meth c R S0 Q F ret H locs cells slots ls hA hL)
theorem r_istore_n {k : Fin 4} {x : Int32} {L' : List Value} (hd : decode M.2.1 pc = .ok (.istore_n k, 1)) (hk : mSt1 L k = true) (hs : L.set k (.int x) = L') (K : JJ X M d (pc + 1) L' (st) S h r S' h') : JJ X M d (pc) L (.int x :: st) S h r S' h' := fun hpre p e s m args below meth c R S0 Q F ret H locs cells slots ls hA hL => lv_istore_n F.1 F.2.1 hd rfl hL.has (hL.1 ▸ mSt1_lt hk) rfl (fun ls' hl => (K hpre p e s m args below meth c R S0 Q F ret H locs cells slots ls' hA (by rw [← hs]; exact hL.set1 hk hl)))
theorem r_istore {k : Nat} {x : Int32} {L' : List Value} (hd : decode M.2.1 pc = .ok (.istore k, 2)) (hk : mSt1 L k = true) (hs : L.set k (.int x) = L') (K : JJ X M d (pc + 2) L' (st) S h r S' h') : JJ X M d (pc) L (.int x :: st) S h r S' h' := fun hpre p e s m args below meth c R S0 Q F ret H locs cells slots ls hA hL => lv_istore F.1 F.2.1 hd hL.has (hL.1 ▸ mSt1_lt hk) rfl (fun ls' hl => (K hpre p e s m args below meth c R S0 Q F ret H locs cells slots ls' hA (by rw [← hs]; exact hL.set1 hk hl)))
theorem r_lstore_n {k : Fin 4} {x : Int64} {L' : List Value} (hd : decode M.2.1 pc = .ok (.lstore_n k, 1)) (hk : mSt2 L k = true) (hs : (L.set k (.long x)).set (k + 1) (.retAddr 0) = L') (K : JJ X M d (pc + 1) L' (st) S h r S' h') : JJ X M d (pc) L (.long x :: st) S h r S' h' := fun hpre p e s m args below meth c R S0 Q F ret H locs cells slots ls hA hL => lv_lstore_n F.1 F.2.1 hd rfl hL.has (hL.1 ▸ mSt2_lt hk) rfl (fun ls' hl => (K hpre p e s m args below meth c R S0 Q F ret H locs cells slots ls' hA (by rw [← hs]; exact hL.set2 hk hl)))
theorem r_lstore {k : Nat} {x : Int64} {L' : List Value} (hd : decode M.2.1 pc = .ok (.lstore k, 2)) (hk : mSt2 L k = true) (hs : (L.set k (.long x)).set (k + 1) (.retAddr 0) = L') (K : JJ X M d (pc + 2) L' (st) S h r S' h') : JJ X M d (pc) L (.long x :: st) S h r S' h' := fun hpre p e s m args below meth c R S0 Q F ret H locs cells slots ls hA hL => lv_lstore F.1 F.2.1 hd hL.has (hL.1 ▸ mSt2_lt hk) rfl (fun ls' hl => (K hpre p e s m args below meth c R S0 Q F ret H locs cells slots ls' hA (by rw [← hs]; exact hL.set2 hk hl)))
theorem r_astore_n {k : Fin 4} {x : Nat} {L' : List Value} (hd : decode M.2.1 pc = .ok (.astore_n k, 1)) (hk : mSt1 L k = true) (hs : L.set k (.ref x) = L') (K : JJ X M d (pc + 1) L' (st) S h r S' h') : JJ X M d (pc) L (.ref x :: st) S h r S' h' := by
  intro hpre p e s m args below meth c R S0 Q F ret H locs cells slots ls hA hL
  cases x with
  | zero => exact lv_astore_nN F.1 F.2.1 hd rfl hL.has (hL.1 ▸ mSt1_lt hk) rfl (fun ls' hl => (K hpre p e s m args below meth c R S0 Q F ret H locs cells slots ls' hA (by rw [← hs]; exact hL.set1 hk hl)))
  | succ x => exact lv_astore_n F.1 F.2.1 hd rfl hL.has (hL.1 ▸ mSt1_lt hk) rfl (fun ls' hl => (K hpre p e s m args below meth c R S0 Q F ret H locs cells slots ls' hA (by rw [← hs]; exact hL.set1 hk hl)))
theorem r_astore {k : Nat} {x : Nat} {L' : List Value} (hd : decode M.2.1 pc = .ok (.astore k, 2)) (hk : mSt1 L k = true) (hs : L.set k (.ref x) = L') (K : JJ X M d (pc + 2) L' (st) S h r S' h') : JJ X M d (pc) L (.ref x :: st) S h r S' h' := by
  intro hpre p e s m args below meth c R S0 Q F ret H locs cells slots ls hA hL
  cases x with
  | zero => exact lv_astoreN F.1 F.2.1 hd hL.has (hL.1 ▸ mSt1_lt hk) rfl (fun ls' hl => (K hpre p e s m args below meth c R S0 Q F ret H locs cells slots ls' hA (by rw [← hs]; exact hL.set1 hk hl)))
  | succ x => exact lv_astore F.1 F.2.1 hd hL.has (hL.1 ▸ mSt1_lt hk) rfl (fun ls' hl => (K hpre p e s m args below meth c R S0 Q F ret H locs cells slots ls' hA (by rw [← hs]; exact hL.set1 hk hl)))
theorem r_iinc {k : Nat} {n : Int} {x v : Int32} {L' : List Value} (hd : decode M.2.1 pc = .ok (.iinc k n, 3)) (hl0 : L[k]? = some (.int x)) (hk : mSt1 L k = true) (hv : x + Int32.ofInt n = v) (hs : L.set k (.int v) = L') (K : JJ X M d (pc + 3) L' (st) S h r S' h') : JJ X M d (pc) L (st) S h r S' h' := by
  intro hpre p e s m args below meth c R S0 Q F ret H locs cells slots ls hA hL
  obtain ⟨i, hi⟩ := List.getElem?_of_mem (mLl_mem.mpr ⟨_, hl0, rfl, rfl⟩ : (k, mEnc X (.int x)) ∈ mLl X L)
  exact lv_iinc F.1 F.2.1 hd hL.has hi hv (hL.1 ▸ mSt1_lt hk) rfl (fun ls' hl => (K hpre p e s m args below meth c R S0 Q F ret H locs cells slots ls' hA (by rw [← hs]; exact hL.set1 hk hl)))
theorem r_dup {v : Value} (hd : decode M.2.1 pc = .ok (.dup, 1)) (hv : v.category = 1) (K : JJ X M d (pc + 1) L (v :: v :: st) S h r S' h') : JJ X M d (pc) L (v :: st) S h r S' h' := fun hpre p e s m args below meth c R S0 Q F ret H locs cells slots ls hA hL => lv_dup F.1 F.2.1 hd ((mEnc_cat X v).trans hv) (K hpre p e s m args below meth c R S0 Q F ret H locs cells slots ls hA hL)
theorem r_pop {v : Value} (hd : decode M.2.1 pc = .ok (.pop, 1)) (hv : v.category = 1) (K : JJ X M d (pc + 1) L (st) S h r S' h') : JJ X M d (pc) L (v :: st) S h r S' h' := fun hpre p e s m args below meth c R S0 Q F ret H locs cells slots ls hA hL => lv_pop F.1 F.2.1 hd ((mEnc_cat X v).trans hv) (K hpre p e s m args below meth c R S0 Q F ret H locs cells slots ls hA hL)
theorem r_dup2 {v w : Value} (hd : decode M.2.1 pc = .ok (.dup2, 1)) (hv : v.category = 1) (hw : w.category = 1) (K : JJ X M d (pc + 1) L (v :: w :: v :: w :: st) S h r S' h') : JJ X M d (pc) L (v :: w :: st) S h r S' h' := fun hpre p e s m args below meth c R S0 Q F ret H locs cells slots ls hA hL => lv_dup2_11 F.1 F.2.1 hd ((mEnc_cat X v).trans hv) ((mEnc_cat X w).trans hw) (K hpre p e s m args below meth c R S0 Q F ret H locs cells slots ls hA hL)
theorem r_null (hd : decode M.2.1 pc = .ok (.aconst_null, 1)) (K : JJ X M d (pc + 1) L (.ref 0 :: st) S h r S' h') : JJ X M d (pc) L (st) S h r S' h' := fun hpre p e s m args below meth c R S0 Q F ret H locs cells slots ls hA hL => lv_null F.1 F.2.1 hd (K hpre p e s m args below meth c R S0 Q F ret H locs cells slots ls hA hL)
theorem r_if_eq {x : Int32} {off : Int} {tgt : Nat} (hd : decode M.2.1 pc = .ok (.ifCond .eq off, 3)) (ht : (pc : Int) + off = (tgt : Int)) (Kt : x = 0 → JJ X M d (tgt) L (st) S h r S' h') (Kf : ¬ x = 0 → JJ X M d (pc + 3) L (st) S h r S' h') : JJ X M d (pc) L (.int x :: st) S h r S' h' := fun hpre p e s m args below meth c R S0 Q F ret H locs cells slots ls hA hL => lv_if_eq F.1 F.2.1 hd ht (fun z => Kt z hpre p e s m args below meth c R S0 Q F ret H locs cells slots ls hA hL) (fun z => Kf z hpre p e s m args below meth c R S0 Q F ret H locs cells slots ls hA hL)
theorem r_icmp_eq {x y : Int32} {off : Int} {tgt : Nat} (hd : decode M.2.1 pc = .ok (.if_icmp .eq off, 3)) (ht : (pc : Int) + off = (tgt : Int)) (Kt : x = y → JJ X M d (tgt) L (st) S h r S' h') (Kf : ¬ x = y → JJ X M d (pc + 3) L (st) S h r S' h') : JJ X M d (pc) L (.int y :: .int x :: st) S h r S' h' := fun hpre p e s m args below meth c R S0 Q F ret H locs cells slots ls hA hL => lv_icmp_eq F.1 F.2.1 hd ht (fun z => Kt z hpre p e s m args below meth c R S0 Q F ret H locs cells slots ls hA hL) (fun z => Kf z hpre p e s m args below meth c R S0 Q F ret H locs cells slots ls hA hL)
theorem r_if_ne {x : Int32} {off : Int} {tgt : Nat} (hd : decode M.2.1 pc = .ok (.ifCond .ne off, 3)) (ht : (pc : Int) + off = (tgt : Int)) (Kt : ¬ x = 0 → JJ X M d (tgt) L (st) S h r S' h') (Kf : x = 0 → JJ X M d (pc + 3) L (st) S h r S' h') : JJ X M d (pc) L (.int x :: st) S h r S' h' := fun hpre p e s m args below meth c R S0 Q F ret H locs cells slots ls hA hL => lv_if_ne F.1 F.2.1 hd ht (fun z => Kt z hpre p e s m args below meth c R S0 Q F ret H locs cells slots ls hA hL) (fun z => Kf z hpre p e s m args below meth c R S0 Q F ret H locs cells slots ls hA hL)
theorem r_icmp_ne {x y : Int32} {off : Int} {tgt : Nat} (hd : decode M.2.1 pc = .ok (.if_icmp .ne off, 3)) (ht : (pc : Int) + off = (tgt : Int)) (Kt : ¬ x = y → JJ X M d (tgt) L (st) S h r S' h') (Kf : x = y → JJ X M d (pc + 3) L (st) S h r S' h') : JJ X M d (pc) L (.int y :: .int x :: st) S h r S' h' := fun hpre p e s m args below meth c R S0 Q F ret H locs cells slots ls hA hL => lv_icmp_ne F.1 F.2.1 hd ht (fun z => Kt z hpre p e s m args below meth c R S0 Q F ret H locs cells slots ls hA hL) (fun z => Kf z hpre p e s m args below meth c R S0 Q F ret H locs cells slots ls hA hL)
theorem r_if_lt {x : Int32} {off : Int} {tgt : Nat} (hd : decode M.2.1 pc = .ok (.ifCond .lt off, 3)) (ht : (pc : Int) + off = (tgt : Int)) (Kt : x < 0 → JJ X M d (tgt) L (st) S h r S' h') (Kf : ¬ x < 0 → JJ X M d (pc + 3) L (st) S h r S' h') : JJ X M d (pc) L (.int x :: st) S h r S' h' := fun hpre p e s m args below meth c R S0 Q F ret H locs cells slots ls hA hL => lv_if_lt F.1 F.2.1 hd ht (fun z => Kt z hpre p e s m args below meth c R S0 Q F ret H locs cells slots ls hA hL) (fun z => Kf z hpre p e s m args below meth c R S0 Q F ret H locs cells slots ls hA hL)
theorem r_icmp_lt {x y : Int32} {off : Int} {tgt : Nat} (hd : decode M.2.1 pc = .ok (.if_icmp .lt off, 3)) (ht : (pc : Int) + off = (tgt : Int)) (Kt : x < y → JJ X M d (tgt) L (st) S h r S' h') (Kf : ¬ x < y → JJ X M d (pc + 3) L (st) S h r S' h') : JJ X M d (pc) L (.int y :: .int x :: st) S h r S' h' := fun hpre p e s m args below meth c R S0 Q F ret H locs cells slots ls hA hL => lv_icmp_lt F.1 F.2.1 hd ht (fun z => Kt z hpre p e s m args below meth c R S0 Q F ret H locs cells slots ls hA hL) (fun z => Kf z hpre p e s m args below meth c R S0 Q F ret H locs cells slots ls hA hL)
theorem r_if_ge {x : Int32} {off : Int} {tgt : Nat} (hd : decode M.2.1 pc = .ok (.ifCond .ge off, 3)) (ht : (pc : Int) + off = (tgt : Int)) (Kt : 0 ≤ x → JJ X M d (tgt) L (st) S h r S' h') (Kf : ¬ 0 ≤ x → JJ X M d (pc + 3) L (st) S h r S' h') : JJ X M d (pc) L (.int x :: st) S h r S' h' := fun hpre p e s m args below meth c R S0 Q F ret H locs cells slots ls hA hL => lv_if_ge F.1 F.2.1 hd ht (fun z => Kt z hpre p e s m args below meth c R S0 Q F ret H locs cells slots ls hA hL) (fun z => Kf z hpre p e s m args below meth c R S0 Q F ret H locs cells slots ls hA hL)
theorem r_icmp_ge {x y : Int32} {off : Int} {tgt : Nat} (hd : decode M.2.1 pc = .ok (.if_icmp .ge off, 3)) (ht : (pc : Int) + off = (tgt : Int)) (Kt : y ≤ x → JJ X M d (tgt) L (st) S h r S' h') (Kf : ¬ y ≤ x → JJ X M d (pc + 3) L (st) S h r S' h') : JJ X M d (pc) L (.int y :: .int x :: st) S h r S' h' := fun hpre p e s m args below meth c R S0 Q F ret H locs cells slots ls hA hL => lv_icmp_ge F.1 F.2.1 hd ht (fun z => Kt z hpre p e s m args below meth c R S0 Q F ret H locs cells slots ls hA hL) (fun z => Kf z hpre p e s m args below meth c R S0 Q F ret H locs cells slots ls hA hL)
theorem r_if_gt {x : Int32} {off : Int} {tgt : Nat} (hd : decode M.2.1 pc = .ok (.ifCond .gt off, 3)) (ht : (pc : Int) + off = (tgt : Int)) (Kt : 0 < x → JJ X M d (tgt) L (st) S h r S' h') (Kf : ¬ 0 < x → JJ X M d (pc + 3) L (st) S h r S' h') : JJ X M d (pc) L (.int x :: st) S h r S' h' := fun hpre p e s m args below meth c R S0 Q F ret H locs cells slots ls hA hL => lv_if_gt F.1 F.2.1 hd ht (fun z => Kt z hpre p e s m args below meth c R S0 Q F ret H locs cells slots ls hA hL) (fun z => Kf z hpre p e s m args below meth c R S0 Q F ret H locs cells slots ls hA hL)
theorem r_icmp_gt {x y : Int32} {off : Int} {tgt : Nat} (hd : decode M.2.1 pc = .ok (.if_icmp .gt off, 3)) (ht : (pc : Int) + off = (tgt : Int)) (Kt : y < x → JJ X M d (tgt) L (st) S h r S' h') (Kf : ¬ y < x → JJ X M d (pc + 3) L (st) S h r S' h') : JJ X M d (pc) L (.int y :: .int x :: st) S h r S' h' := fun hpre p e s m args below meth c R S0 Q F ret H locs cells slots ls hA hL => lv_icmp_gt F.1 F.2.1 hd ht (fun z => Kt z hpre p e s m args below meth c R S0 Q F ret H locs cells slots ls hA hL) (fun z => Kf z hpre p e s m args below meth c R S0 Q F ret H locs cells slots ls hA hL)
theorem r_if_le {x : Int32} {off : Int} {tgt : Nat} (hd : decode M.2.1 pc = .ok (.ifCond .le off, 3)) (ht : (pc : Int) + off = (tgt : Int)) (Kt : x ≤ 0 → JJ X M d (tgt) L (st) S h r S' h') (Kf : ¬ x ≤ 0 → JJ X M d (pc + 3) L (st) S h r S' h') : JJ X M d (pc) L (.int x :: st) S h r S' h' := fun hpre p e s m args below meth c R S0 Q F ret H locs cells slots ls hA hL => lv_if_le F.1 F.2.1 hd ht (fun z => Kt z hpre p e s m args below meth c R S0 Q F ret H locs cells slots ls hA hL) (fun z => Kf z hpre p e s m args below meth c R S0 Q F ret H locs cells slots ls hA hL)
theorem r_icmp_le {x y : Int32} {off : Int} {tgt : Nat} (hd : decode M.2.1 pc = .ok (.if_icmp .le off, 3)) (ht : (pc : Int) + off = (tgt : Int)) (Kt : x ≤ y → JJ X M d (tgt) L (st) S h r S' h') (Kf : ¬ x ≤ y → JJ X M d (pc + 3) L (st) S h r S' h') : JJ X M d (pc) L (.int y :: .int x :: st) S h r S' h' := fun hpre p e s m args below meth c R S0 Q F ret H locs cells slots ls hA hL => lv_icmp_le F.1 F.2.1 hd ht (fun z => Kt z hpre p e s m args below meth c R S0 Q F ret H locs cells slots ls hA hL) (fun z => Kf z hpre p e s m args below meth c R S0 Q F ret H locs cells slots ls hA hL)
theorem r_goto {off : Int} {tgt : Nat} (hd : decode M.2.1 pc = .ok (.goto off, 3)) (ht : (pc : Int) + off = (tgt : Int)) (K : JJ X M d (tgt) L (st) S h r S' h') : JJ X M d (pc) L (st) S h r S' h' := fun hpre p e s m args below meth c R S0 Q F ret H locs cells slots ls hA hL => lv_goto F.1 F.2.1 hd ht (K hpre p e s m args below meth c R S0 Q F ret H locs cells slots ls hA hL)
theorem r_ifnonnull {x : Nat} {off : Int} {tgt : Nat} (hd : decode M.2.1 pc = .ok (.ifnonnull off, 3)) (ht : (pc : Int) + off = (tgt : Int)) (Kt : x ≠ 0 → JJ X M d (tgt) L (st) S h r S' h') (Kf : x = 0 → JJ X M d (pc + 3) L (st) S h r S' h') : JJ X M d (pc) L (.ref x :: st) S h r S' h' := by
  intro hpre p e s m args below meth c R S0 Q F ret H locs cells slots ls hA hL
  cases x with
  | zero => exact lv_ifnonnullN F.1 F.2.1 hd (Kf rfl hpre p e s m args below meth c R S0 Q F ret H locs cells slots ls hA hL)
  | succ x => exact lv_ifnonnull F.1 F.2.1 hd ht (Kt (Nat.succ_ne_zero x) hpre p e s m args below meth c R S0 Q F ret H locs cells slots ls hA hL)
theorem r_lookup {dflt : Int} {ps : Array (Int × Int)} {len : Nat} {x : Int32} {off : Int} {tgt : Nat} (hd : decode M.2.1 pc = .ok (.lookupswitch dflt ps, len)) (hp : (ps.toList.zip (ps.toList.drop 1)).all (fun (a, next) => a.1 < next.1) = true) (ho : Op.lookupswitch.offset ps.toList dflt x.toInt = off) (ht : (pc : Int) + off = (tgt : Int)) (K : JJ X M d (tgt) L (st) S h r S' h') : JJ X M d (pc) L (.int x :: st) S h r S' h' := fun hpre p e s m args below meth c R S0 Q F ret H locs cells slots ls hA hL => lv_lookup F.1 F.2.1 hd hp ho ht (K hpre p e s m args below meth c R S0 Q F ret H locs cells slots ls hA hL)
theorem r_tableOut {dflt lo hi : Int} {offs : Array Int} {len : Nat} {x : Int32} {tgt : Nat} (hd : decode M.2.1 pc = .ok (.tableswitch dflt lo hi offs, len)) (hx : x.toInt < lo ∨ hi < x.toInt) (ht : (pc : Int) + dflt = (tgt : Int)) (K : JJ X M d (tgt) L (st) S h r S' h') : JJ X M d (pc) L (.int x :: st) S h r S' h' := fun hpre p e s m args below meth c R S0 Q F ret H locs cells slots ls hA hL => lv_tableOut F.1 F.2.1 hd hx ht (K hpre p e s m args below meth c R S0 Q F ret H locs cells slots ls hA hL)
theorem r_tableIn {dflt lo hi : Int} {offs : Array Int} {len : Nat} {x : Int32} {off : Int} {tgt : Nat} (hd : decode M.2.1 pc = .ok (.tableswitch dflt lo hi offs, len)) (h1 : ¬ x.toInt < lo) (h2 : ¬ hi < x.toInt) (ho : offs[(x.toInt - lo).toNat]? = some off) (ht : (pc : Int) + off = (tgt : Int)) (K : JJ X M d (tgt) L (st) S h r S' h') : JJ X M d (pc) L (.int x :: st) S h r S' h' := fun hpre p e s m args below meth c R S0 Q F ret H locs cells slots ls hA hL => lv_tableIn F.1 F.2.1 hd h1 h2 ho ht (K hpre p e s m args below meth c R S0 Q F ret H locs cells slots ls hA hL)
theorem r_ireturn {v : Int32} (hd : decode M.2.1 pc = .ok (.ireturn, 1)) : JJ X M d pc L [.int v] S h (some (.int v)) S h := fun hpre p e s m args below meth c R S0 Q F ret H locs cells slots ls hA hL => ret pc H locs cells slots ls _ (Or.inl ⟨v, hd, rfl, rfl⟩) hA
theorem r_return (hd : decode M.2.1 pc = .ok (.return_, 1)) : JJ X M d pc L [] S h none S h := fun hpre p e s m args below meth c R S0 Q F ret H locs cells slots ls hA hL => ret pc H locs cells slots ls _ (Or.inr (Or.inl ⟨hd, rfl, rfl⟩)) hA
theorem r_areturn {k : Nat} (hd : decode M.2.1 pc = .ok (.areturn, 1)) : JJ X M d pc L [.ref k] S h (some (.ref k)) S h := fun hpre p e s m args below meth c R S0 Q F ret H locs cells slots ls hA hL => ret pc H locs cells slots ls _ (Or.inr (Or.inr ⟨k, hd, rfl, rfl⟩)) hA
end
end
section
/-! ===== the rows of the heap ===== -/
def mSg (S : mSh) (o : Nat) : Option (Nat × Nat) := match o with
  | 0 => none
  | k + 1 => S[k]?
def mFL (own : String) (idx t n j : Nat) (fin : Bool) : Prop := ∃ (C : String) (T : u_T), vwCl[t]? = some (C, T, n) ∧ j < n ∧ Cond.fieldLink own idx (T j).1 (T j).2.1 (T j).2.2.1 ∈ mWd ∧ (T j).2.2.2 = fin ∧ (T j).1 = C ∧ (∀ w ∈ u_ws C T n, w ∈ mWd)
/-- of each class in vwCl: its fields' types, by kind -/
def mTyK (t : FieldType) : Bool := match t with
  | .object _ => true
  | .array _ => true
  | _ => false
theorem mCls {t n : Nat} {C : String} {T : u_T} (h : vwCl[t]? = some (C, T, n)) : t < 9 ∧ ∃ ty : Nat → FieldType, (∀ k, k < n → parseFieldDescriptor (T k).2.2.1 = some (ty k)) ∧ (∀ a, a < n → ∀ b, b < n → a ≠ b → (T a).2.1 ≠ (T b).2.1) ∧ ∀ k, k < n → mTyK (ty k) = mRf t k ∧ (mRf t k = false → ty k = .int) := by
  have ht : t < 9 := by
    apply Decidable.byContradiction
    intro hn
    rw [List.getElem?_eq_none (by simp [vwCl]; omega)] at h
    cases h
  refine ⟨ht, ?_⟩
  match t, ht, h with
  | 0, _, h => cases h; exact ⟨tyX1, tyX1_ok, nmX1, by decide +kernel⟩
  | 1, _, h => cases h; exact ⟨tyX3, tyX3_ok, nmX3, by decide +kernel⟩
  | 2, _, h => cases h; exact ⟨tyX4, tyX4_ok, nmX4, by decide +kernel⟩
  | 3, _, h => cases h; exact ⟨tyX5, tyX5_ok, nmX5, by decide +kernel⟩
  | 4, _, h => cases h; exact ⟨tyX6, tyX6_ok, nmX6, by decide +kernel⟩
  | 5, _, h => cases h; exact ⟨tyX8, tyX8_ok, nmX8, by decide +kernel⟩
  | 6, _, h => cases h; exact ⟨tyX9, tyX9_ok, nmX9, by decide +kernel⟩
  | 7, _, h => cases h; exact ⟨tyX11, tyX11_ok, nmX11, by decide +kernel⟩
  | 8, _, h => cases h; exact ⟨tyX12, tyX12_ok, nmX12, by decide +kernel⟩
theorem mTyK_nar {t : FieldType} (h : mTyK t = true) (X : mCx) (q : Nat) : narrow t (mVr X q) = mVr X q ∧ fits t (mVr X q) = true := by
  cases t <;> simp_all [mTyK] <;> cases q <;> simp [mVr, narrow, fits]
theorem va_S.putz {A : Nat → Prop} {a i : Nat} {H0 H H1 : Heap} {locs : List Loc} (h : va_S A H0 H locs) (z : H1.size = H.size) (o : ∀ q : Nat, q ≠ a → H1[q]? = H[q]?) (ha : A a) : va_S A H0 H1 (locs ++ [⟨a, i⟩]) := h.put z o ha
section
variable {p : Program} {l : Launch} {e : Env} {R : Room} {s : State} {m : MethodId} {args : Array Value} {below : List Frame} {meth : Method} {c : Code} {H : Heap} {locs : List Loc} {cells slots : Nat} {Q : State → Prop}
variable {pc : Nat} {ls : Array Slot} {rest : List Value} {D : va_G} {cl : List vw_C} {tys : List (ClassId × FieldType)} {ws : va_W} {A : Nat → Prop} {H0 : Heap} {a : Nat} {cc : ByteArray}
/-- putfield, with the heap's size -/
theorem m_put (hexec : p.tables.exec = Jvm.exec) (hb : c.code = cc) {own C : String} {T : u_T} {N ci index : Nat} {Ts : List Cond} (hts : ∀ w ∈ Ts, w.before args s = true) (hin : ∀ w ∈ u_ws C T N, w ∈ Ts) {ty0 : Nat → FieldType} (hty : ∀ k, k < N → parseFieldDescriptor (T k).2.2.1 = some (ty0 k)) (hnm : ∀ a, a < N → ∀ b, b < N → a ≠ b → (T a).2.1 ≠ (T b).2.1) (hown : s.vm.findClass own = some m.cls) (hK : va_K D cl tys s) (hP : va_P D cl ws H) (hD : va_D A ws) (hS0 : va_S A H0 H locs) {q0 : Nat} {fs : List Value} (he : ws[q0]? = some (a, .inr (ci, fs))) (hc : cl[ci]? = some (C, T, N)) {k : Nat} (hk : k < N) (hlink : (Cond.fieldLink own index (T k).1 (T k).2.1 (T k).2.2.1).before args s = true) (hfin : (T k).2.2.2 = false) {v : Value} (hn : narrow (ty0 k) v = v) (hfit : fits (ty0 k) v = true) (hl : k < fs.length)
    (hdg : decode cc pc = .ok (.putfield index, 3)) (kk : ∀ (H1 : Heap) (locs1 : List Loc), H1.size = H.size → va_P D cl (ws.set q0 (a, .inr (ci, fs.set k v))) H1 → va_S A H0 H1 locs1 → W p l e R s m args below meth c H1 locs1 cells slots Q (F0 m (pc + 3) ls rest)) : W p l e R s m args below meth c H locs cells slots Q (F0 m pc ls (v :: .ref a :: rest)) := by
  have hap := va_apart (own := own) hts hin ty0 hty hnm hK hc
  obtain ⟨r, h1, cell, q1, q2, q3, q4⟩ := hP q0 _ he
  have hr : r = (C, T, N) := Option.some.inj (h1.symm.trans hc)
  subst hr
  obtain ⟨hS, hfc, kC, hkC, hkind⟩ := hK.1 ci _ hc
  obtain ⟨cf, kf, fi, f, hi, hsl⟩ := hS k hk
  have hlay := hts _ (hin _ (u_in_lay hk))
  unfold u_lay at hlay
  rw [if_neg (by rw [hfin]; decide)] at hlay
  refine W.putK hexec hb (f := f) ⟨hown, hlink, ⟨_, _, _, hi⟩, (u_facts hfc hkC (u_lays hts hin hk) hi).1⟩ (by rw [q2]; exact u_store hfc hkC hkind hlay hi (hty k hk) hn hfit) q1 q3 (by rw [hsl]; exact k2_hasslot (q4 k hk)) rfl rfl hdg fun H' e1 e2 e3 => ?_
  rw [hsl] at e1 ⊢
  exact kk H' _ e2 (hP.set hD he ⟨_, hc, t_OB.to (V := updV (vp_V fs) k v) ⟨_, e1, q2, q3, t_set q4 hap hk v⟩ (fun j _ => vp_updV_set hl v j)⟩ e3) (hS0.put e2 e3 (hD.2 q0 _ he))
theorem m_putF (hexec : p.tables.exec = Jvm.exec) (hb : c.code = cc) {own C : String} {T : u_T} {N ci index : Nat} {Ts : List Cond} (hts : ∀ w ∈ Ts, w.before args s = true) (hin : ∀ w ∈ u_ws C T N, w ∈ Ts) {ty0 : Nat → FieldType} (hty : ∀ k, k < N → parseFieldDescriptor (T k).2.2.1 = some (ty0 k)) (hnm : ∀ a, a < N → ∀ b, b < N → a ≠ b → (T a).2.1 ≠ (T b).2.1) (hown : s.vm.findClass own = some m.cls) (hK : va_K D cl tys s) (hP : va_P D cl ws H) (hD : va_D A ws) (hS0 : va_S A H0 H locs) {q0 : Nat} {fs : List Value} (he : ws[q0]? = some (a, .inr (ci, fs))) (hc : cl[ci]? = some (C, T, N)) {k : Nat} (hk : k < N) (hlink : (Cond.fieldLink own index (T k).1 (T k).2.1 (T k).2.2.1).before args s = true) (hfin : (T k).2.2.2 = true) (hin2 : meth.name = "<init>") (hdecl : (T k).1 = own) {v : Value} (hn : narrow (ty0 k) v = v) (hfit : fits (ty0 k) v = true) (hl : k < fs.length)
    (hdg : decode cc pc = .ok (.putfield index, 3)) (kk : ∀ (H1 : Heap) (locs1 : List Loc), H1.size = H.size → va_P D cl (ws.set q0 (a, .inr (ci, fs.set k v))) H1 → va_S A H0 H1 locs1 → W p l e R s m args below meth c H1 locs1 cells slots Q (F0 m (pc + 3) ls rest)) : W p l e R s m args below meth c H locs cells slots Q (F0 m pc ls (v :: .ref a :: rest)) := by
  have hap := va_apart (own := own) hts hin ty0 hty hnm hK hc
  obtain ⟨r, h1, cell, q1, q2, q3, q4⟩ := hP q0 _ he
  have hr : r = (C, T, N) := Option.some.inj (h1.symm.trans hc)
  subst hr
  obtain ⟨hS, hfc, kC, hkC, hkind⟩ := hK.1 ci _ hc
  obtain ⟨cf, kf, fi, f, hi, hsl⟩ := hS k hk
  have hlay := hts _ (hin _ (u_in_lay hk))
  unfold u_lay at hlay
  rw [if_pos hfin] at hlay
  have hst := (u_facts hfc hkC (u_lays hts hin hk) hi).1
  have hcf : m.cls = cf := by
    obtain ⟨_, _, c', _, _, _, -, -, hf', -, -, -, hown2, -⟩ := Cond.laysFinal_spec hlay
    have e1 : c' = cf := by have := hi.symm.trans hf'; simp at this; exact this.1.symm
    rw [hdecl] at hown2
    rw [← e1]; exact Option.some.inj (hown.symm.trans hown2)
  refine W.putFinK hexec hb hown hlink hi hst hcf hin2 (by rw [q2]; exact u_fits hfc hkC hkind (Or.inr hlay) hi (hty k hk) hn hfit) q1 q3 (by rw [hsl]; exact k2_hasslot (q4 k hk)) rfl rfl hdg fun H' e1 e2 e3 => ?_
  rw [hsl] at e1 ⊢
  exact kk H' _ e2 (hP.set hD he ⟨_, hc, t_OB.to (V := updV (vp_V fs) k v) ⟨_, e1, q2, q3, t_set q4 hap hk v⟩ (fun j _ => vp_updV_set hl v j)⟩ e3) (hS0.put e2 e3 (hD.2 q0 _ he))
theorem m_iast (hexec : p.tables.exec = Jvm.exec) (hb : c.code = cc) (hK : va_K D cl tys s) (hP : va_P D cl ws H) (hD : va_D A ws) (hS : va_S A H0 H locs) {q0 t0 : Nat} {cA : ClassId} {n : Nat} {f : Nat → Int32} (ha : ws[q0]? = some (a, .inl (cA, n, .inl f))) (ht : tys[t0]? = some (cA, .int)) {i : Int32} {x : Int32} (hin : vp_in i n) (hdg : decode cc pc = .ok (.iastore, 1))
    (kk : ∀ (H1 : Heap) (locs1 : List Loc), H1.size = H.size → va_P D cl (ws.set q0 (a, .inl (cA, n, .inl (upd f i.toNatClampNeg x)))) H1 → va_S A H0 H1 locs1 → W p l e R s m args below meth c H1 locs1 cells slots Q (F0 m (pc + 1) ls rest)) : W p l e R s m args below meth c H locs cells slots Q (F0 m pc ls (.int x :: .int i :: .ref a :: rest)) := by
  refine W.iast hexec hb (hP q0 _ ha) ((hK.2 t0 _ ht).1 n (fun j => .int (f j))) (fun q => by cases q) (by show ¬ (i < 0 ∨ (arrV _ _ _).slots.size ≤ _); rw [arrV_size]; exact hin) rfl rfl hdg fun H1 e z oq => ?_
  refine kk H1 _ z (hP.set hD ha ?_ oq) (hS.put z oq (hD.2 q0 _ ha))
  show H1[a]? = some (vp_cell _ _)
  rw [e, vp_cell_i, vp_cell_i, arrV_store]
  congr 2
  funext q
  by_cases hq : q = i.toNatClampNeg
  · subst hq; simp [updV, upd]
  · simp [updV, upd, hq]
theorem m_cast (hexec : p.tables.exec = Jvm.exec) (hb : c.code = cc) (hK : va_K D cl tys s) (hP : va_P D cl ws H) (hD : va_D A ws) (hS : va_S A H0 H locs) {q0 t0 : Nat} {cA : ClassId} {n : Nat} {f : Nat → Int32} (ha : ws[q0]? = some (a, .inl (cA, n, .inl f))) (ht : tys[t0]? = some (cA, .char)) {i : Int32} {x : Int32} (hin : vp_in i n) (hdg : decode cc pc = .ok (.castore, 1))
    (kk : ∀ (H1 : Heap) (locs1 : List Loc), H1.size = H.size → va_P D cl (ws.set q0 (a, .inl (cA, n, .inl (upd f i.toNatClampNeg (vp_nar .char x))))) H1 → va_S A H0 H1 locs1 → W p l e R s m args below meth c H1 locs1 cells slots Q (F0 m (pc + 1) ls rest)) : W p l e R s m args below meth c H locs cells slots Q (F0 m pc ls (.int x :: .int i :: .ref a :: rest)) := by
  refine W.cast hexec hb (hP q0 _ ha) ((hK.2 t0 _ ht).1 n (fun j => .int (f j))) (fun q => by cases q) (by show ¬ (i < 0 ∨ (arrV _ _ _).slots.size ≤ _); rw [arrV_size]; exact hin) rfl rfl hdg fun H1 e z oq => ?_
  refine kk H1 _ z (hP.set hD ha ?_ oq) (hS.put z oq (hD.2 q0 _ ha))
  show H1[a]? = some (vp_cell _ _)
  rw [e, vp_cell_i, vp_cell_i, arrV_store]
  congr 2
  funext q
  by_cases hq : q = i.toNatClampNeg
  · subst hq; simp [updV, upd, vp_nar]; try rfl
  · simp [updV, upd, hq]
theorem m_astq (hexec : p.tables.exec = Jvm.exec) (hb : c.code = cc) (hK : va_K D cl tys s) (hP : va_P D cl ws H) (hD : va_D A ws) (hS : va_S A H0 H locs) {q0 t0 qk ci : Nat} {cA : ClassId} {r : vw_C} {n v : Nat} {vs : List Value} {f : Nat → Option Nat} (ha : ws[q0]? = some (a, .inl (cA, n, .inr (.inr (.inr (.inr f)))))) (ht : tys[t0]? = some (cA, .object r.1)) (hv : ws[qk]? = some (v, .inr (ci, vs))) (hc : cl[ci]? = some r) {i : Int32} (hin : vp_in i n) (hdg : decode cc pc = .ok (.aastore, 1))
    (kk : ∀ (H1 : Heap) (locs1 : List Loc), H1.size = H.size → va_P D cl (ws.set q0 (a, .inl (cA, n, .inr (.inr (.inr (.inr (va_up f i.toNatClampNeg (some v)))))))) H1 → va_S A H0 H1 locs1 → W p l e R s m args below meth c H1 locs1 cells slots Q (F0 m (pc + 1) ls rest)) : W p l e R s m args below meth c H locs cells slots Q (F0 m pc ls (.ref v :: .int i :: .ref a :: rest)) := by
  have hlt : i.toNatClampNeg < n := Nat.not_le.mp fun q => hin (Or.inr q)
  have h0 : ¬ i < 0 := fun q => hin (Or.inl q)
  obtain ⟨r', hr', cellV, g1, g2, g3, -⟩ := hP qk _ hv
  have hcls := (hK.1 ci r hc).2
  obtain ⟨kA, comp, k1, k2, k3, -⟩ := (hK.2 t0 _ ht).2
  have hcomp : comp = D.1 ci := Option.some.inj (k3.symm.trans hcls.1)
  subst hcomp
  obtain ⟨kC, hkC, -⟩ := hcls.2
  refine W.aast hexec hb (hP q0 _ ha) (fun q h => by cases h) (fun h => by cases h) k1 k2 rfl hkC ⟨h0, by show _ < (arrV _ _ _).slots.size; rw [arrV_size]; exact hlt⟩ g1 (fun q h => by rw [g3] at h; cases h) (by rw [g2]; exact hkC) (by rw [g2]; exact va_assign hcls) rfl rfl hdg fun H1 e z oq => ?_
  refine kk H1 _ z (hP.set hD ha ?_ oq) (hS.put z oq (hD.2 q0 _ ha))
  show H1[a]? = some (vp_cell _ _)
  rw [e, vp_cell_q, vp_cell_q, arrV_store]
  congr 2
  funext q
  by_cases hq : q = i.toNatClampNeg
  · subst hq; simp [updV, va_up, va_rf]
  · simp [updV, va_up, hq]
end
section
variable {X : mCx} {M : mMe} {d pc : Nat} {L st : List Value} {S S' : mSh} {h h' : mHp} {r : Option Value}
theorem r_getI {idx t n j o : Nat} {fin : Bool} (hd : decode M.2.1 pc = .ok (.getfield idx, 3)) (hf : mFL M.1.cls idx t n j fin) (hs : mSg S o = some (t, n)) (hr : mRf t j = false) (K : JJ X M d (pc + 3) L (.int (h.1 o j) :: st) S h r S' h') : JJ X M d (pc) L (.ref o :: st) S h r S' h' := by
  intro hpre p e s m args below meth c R S0 Q F ret H locs cells slots ls hA hL
  cases o with
  | zero => cases hs
  | succ o =>
    obtain ⟨C, T, hc, hj, hw, -, -, hin⟩ := hf
    have hl := mSt_lt (S := S) hs
    have he : (mW X S h)[o]? = some (xB X + o, .inr (t, mFs X t n (o + 1) h)) := by rw [mW_get hl, mCell_obj hs (mCls hc).1]
    exact va_get (D := xD X) (cl := vwCl) (tys := mTy X) (Ts := mWd) F.1 F.2.1 F.2.2.2.2.2.1 hin F.2.2.2.1 F.2.2.2.2.2.2.2.2.2.2.2.1 hA.2.1 o he hc j hj (F.2.2.2.2.2.1 _ hw) (fun _ h9 => h9) (v := .int (h.1 (o + 1) j)) (by rw [mFs_get hj, hr]; rfl) hd (K hpre p e s m args below meth c R S0 Q F ret H locs cells slots ls hA hL)
theorem r_getR {idx t n j o : Nat} {fin : Bool} (hd : decode M.2.1 pc = .ok (.getfield idx, 3)) (hf : mFL M.1.cls idx t n j fin) (hs : mSg S o = some (t, n)) (hr : mRf t j = true) (K : JJ X M d (pc + 3) L (.ref (h.2 o j) :: st) S h r S' h') : JJ X M d (pc) L (.ref o :: st) S h r S' h' := by
  intro hpre p e s m args below meth c R S0 Q F ret H locs cells slots ls hA hL
  cases o with
  | zero => cases hs
  | succ o =>
    obtain ⟨C, T, hc, hj, hw, -, -, hin⟩ := hf
    have hl := mSt_lt (S := S) hs
    have he : (mW X S h)[o]? = some (xB X + o, .inr (t, mFs X t n (o + 1) h)) := by rw [mW_get hl, mCell_obj hs (mCls hc).1]
    exact va_get (D := xD X) (cl := vwCl) (tys := mTy X) (Ts := mWd) F.1 F.2.1 F.2.2.2.2.2.1 hin F.2.2.2.1 F.2.2.2.2.2.2.2.2.2.2.2.1 hA.2.1 o he hc j hj (F.2.2.2.2.2.1 _ hw) (fun _ h9 => h9) (v := mVr X (h.2 (o + 1) j)) (by rw [mFs_get hj, hr]; rfl) hd (K hpre p e s m args below meth c R S0 Q F ret H locs cells slots ls hA hL)
theorem r_putI {idx t n j o : Nat} {x : Int32} (hd : decode M.2.1 pc = .ok (.putfield idx, 3)) (hf : mFL M.1.cls idx t n j false) (hs : mSg S o = some (t, n)) (hr : mRf t j = false) (K : JJ X M d (pc + 3) L (st) S (sI h o j x) r S' h') : JJ X M d (pc) L (.int x :: .ref o :: st) S h r S' h' := by
  intro hpre p e s m args below meth c R S0 Q F ret H locs cells slots ls hA hL
  cases o with
  | zero => cases hs
  | succ o =>
    obtain ⟨C, T, hc, hj, hw, hfin, hC, hin⟩ := hf
    obtain ⟨ht, ty0, hty, hnm, hk⟩ := mCls hc
    have hl := mSt_lt (S := S) hs
    have he : (mW X S h)[o]? = some (xB X + o, .inr (t, mFs X t n (o + 1) h)) := by rw [mW_get hl, mCell_obj hs ht]
    have he1 : (mW X S h).set o (xB X + o, .inr (t, (mFs X t n (o + 1) h).set j (.int x))) = mW X S (sI h (o + 1) j x) := mW_set hl (by rw [mCell_obj hs ht, mFs_set hj (h1 := sI h (o + 1) j x) (by rw [hr]; simp [sI, sR]) (fun k hk => by simp [sI, sR, hk]) (fun k hk => by simp [sI, sR, hk])]) (fun a ha => by funext b; simp [sI, sR, ha]) (fun a ha => by funext b; simp [sI, sR, ha])
    exact m_put (D := xD X) (cl := vwCl) (tys := mTy X) (Ts := mWd) F.1 F.2.1 F.2.2.2.2.2.1 hin hty hnm F.2.2.2.1 F.2.2.2.2.2.2.2.2.2.2.2.1 hA.2.1 (mW_D X S h) hA.2.2.1 he hc hj (F.2.2.2.2.2.1 _ hw) hfin (by rw [(hk j hj).2 hr]; rfl) (by rw [(hk j hj).2 hr]; rfl) (by rw [mFs_len]; exact hj) hd (fun H1 locs1 z hP1 hS1 => K hpre p e s m args below meth c R S0 Q F ret H1 locs1 cells slots ls ⟨z.trans hA.1, by rw [← he1]; exact hP1, hS1, hA.2.2.2⟩ hL)
theorem r_putR {idx t n j o : Nat} {x : Nat} (hd : decode M.2.1 pc = .ok (.putfield idx, 3)) (hf : mFL M.1.cls idx t n j false) (hs : mSg S o = some (t, n)) (hr : mRf t j = true) (K : JJ X M d (pc + 3) L (st) S (sR h o j x) r S' h') : JJ X M d (pc) L (.ref x :: .ref o :: st) S h r S' h' := by
  intro hpre p e s m args below meth c R S0 Q F ret H locs cells slots ls hA hL
  cases o with
  | zero => cases hs
  | succ o =>
    obtain ⟨C, T, hc, hj, hw, hfin, hC, hin⟩ := hf
    obtain ⟨ht, ty0, hty, hnm, hk⟩ := mCls hc
    have hl := mSt_lt (S := S) hs
    have he : (mW X S h)[o]? = some (xB X + o, .inr (t, mFs X t n (o + 1) h)) := by rw [mW_get hl, mCell_obj hs ht]
    have he1 : (mW X S h).set o (xB X + o, .inr (t, (mFs X t n (o + 1) h).set j (mVr X x))) = mW X S (sR h (o + 1) j x) := mW_set hl (by rw [mCell_obj hs ht, mFs_set hj (h1 := sR h (o + 1) j x) (by rw [hr]; simp [sI, sR]) (fun k hk => by simp [sI, sR, hk]) (fun k hk => by simp [sI, sR, hk])]) (fun a ha => by funext b; simp [sI, sR, ha]) (fun a ha => by funext b; simp [sI, sR, ha])
    exact m_put (D := xD X) (cl := vwCl) (tys := mTy X) (Ts := mWd) F.1 F.2.1 F.2.2.2.2.2.1 hin hty hnm F.2.2.2.1 F.2.2.2.2.2.2.2.2.2.2.2.1 hA.2.1 (mW_D X S h) hA.2.2.1 he hc hj (F.2.2.2.2.2.1 _ hw) hfin (mTyK_nar ((hk j hj).1.trans hr) X x).1 (mTyK_nar ((hk j hj).1.trans hr) X x).2 (by rw [mFs_len]; exact hj) hd (fun H1 locs1 z hP1 hS1 => K hpre p e s m args below meth c R S0 Q F ret H1 locs1 cells slots ls ⟨z.trans hA.1, by rw [← he1]; exact hP1, hS1, hA.2.2.2⟩ hL)
theorem r_putF {idx t n j o : Nat} {x : Nat} (hd : decode M.2.1 pc = .ok (.putfield idx, 3)) (hf : mFL M.1.cls idx t n j true) (hs : mSg S o = some (t, n)) (hr : mRf t j = true) (hi : M.1.name = "<init>") (ho : ∀ C T, vwCl[t]? = some (C, T, n) → C = M.1.cls) (K : JJ X M d (pc + 3) L (st) S (sR h o j x) r S' h') : JJ X M d (pc) L (.ref x :: .ref o :: st) S h r S' h' := by
  intro hpre p e s m args below meth c R S0 Q F ret H locs cells slots ls hA hL
  cases o with
  | zero => cases hs
  | succ o =>
    obtain ⟨C, T, hc, hj, hw, hfin, hC, hin⟩ := hf
    obtain ⟨ht, ty0, hty, hnm, hk⟩ := mCls hc
    have hl := mSt_lt (S := S) hs
    have he : (mW X S h)[o]? = some (xB X + o, .inr (t, mFs X t n (o + 1) h)) := by rw [mW_get hl, mCell_obj hs ht]
    have he1 : (mW X S h).set o (xB X + o, .inr (t, (mFs X t n (o + 1) h).set j (mVr X x))) = mW X S (sR h (o + 1) j x) := mW_set hl (by rw [mCell_obj hs ht, mFs_set hj (h1 := sR h (o + 1) j x) (by rw [hr]; simp [sI, sR]) (fun k hk => by simp [sI, sR, hk]) (fun k hk => by simp [sI, sR, hk])]) (fun a ha => by funext b; simp [sI, sR, ha]) (fun a ha => by funext b; simp [sI, sR, ha])
    exact m_putF (D := xD X) (cl := vwCl) (tys := mTy X) (Ts := mWd) F.1 F.2.1 F.2.2.2.2.2.1 hin hty hnm F.2.2.2.1 F.2.2.2.2.2.2.2.2.2.2.2.1 hA.2.1 (mW_D X S h) hA.2.2.1 he hc hj (F.2.2.2.2.2.1 _ hw) hfin (F.2.2.2.2.1.trans hi) (hC.trans (ho C T hc)) (mTyK_nar ((hk j hj).1.trans hr) X x).1 (mTyK_nar ((hk j hj).1.trans hr) X x).2 (by rw [mFs_len]; exact hj) hd (fun H1 locs1 z hP1 hS1 => K hpre p e s m args below meth c R S0 Q F ret H1 locs1 cells slots ls ⟨z.trans hA.1, by rw [← he1]; exact hP1, hS1, hA.2.2.2⟩ hL)
theorem r_iald {n o : Nat} {i : Int32} (hd : decode M.2.1 pc = .ok (.iaload, 1)) (hs : mSg S o = some (20, n)) (hi : vp_in i n) (K : JJ X M d (pc + 1) L (.int (h.1 o i.toNatClampNeg) :: st) S h r S' h') : JJ X M d (pc) L (.int i :: .ref o :: st) S h r S' h' := by
  intro hpre p e s m args below meth c R S0 Q F ret H locs cells slots ls hA hL
  cases o with
  | zero => cases hs
  | succ o =>
    have hl := mSt_lt (S := S) hs
    exact va_iald (D := xD X) (cl := vwCl) (tys := mTy X) F.1 F.2.1 F.2.2.2.2.2.2.2.2.2.2.2.1 hA.2.1 o 0 (by rw [mW_get hl, mCell_i hs]) rfl hi hd (K hpre p e s m args below meth c R S0 Q F ret H locs cells slots ls hA hL)
theorem r_cald {n o : Nat} {i : Int32} (hd : decode M.2.1 pc = .ok (.caload, 1)) (hs : mSg S o = some (21, n)) (hi : vp_in i n) (K : JJ X M d (pc + 1) L (.int (h.1 o i.toNatClampNeg) :: st) S h r S' h') : JJ X M d (pc) L (.int i :: .ref o :: st) S h r S' h' := by
  intro hpre p e s m args below meth c R S0 Q F ret H locs cells slots ls hA hL
  cases o with
  | zero => cases hs
  | succ o =>
    have hl := mSt_lt (S := S) hs
    exact va_cald (D := xD X) (cl := vwCl) (tys := mTy X) F.1 F.2.1 F.2.2.2.2.2.2.2.2.2.2.2.1 hA.2.1 o 1 (by rw [mW_get hl, mCell_c hs]) rfl hi hd (K hpre p e s m args below meth c R S0 Q F ret H locs cells slots ls hA hL)
theorem r_aald {n o : Nat} {i : Int32} (hd : decode M.2.1 pc = .ok (.aaload, 1)) (hs : mSg S o = some (22, n)) (hi : vp_in i n) (K : JJ X M d (pc + 1) L (.ref (h.2 o i.toNatClampNeg) :: st) S h r S' h') : JJ X M d (pc) L (.int i :: .ref o :: st) S h r S' h' := by
  intro hpre p e s m args below meth c R S0 Q F ret H locs cells slots ls hA hL
  cases o with
  | zero => cases hs
  | succ o =>
    have hl := mSt_lt (S := S) hs
    refine va_aldq (D := xD X) (cl := vwCl) (tys := mTy X) F.1 F.2.1 F.2.2.2.2.2.2.2.2.2.2.2.1 hA.2.1 o 2 (by rw [mW_get hl, mCell_s hs]) rfl hi hd ?_
    rw [mOr_rf]
    exact K hpre p e s m args below meth c R S0 Q F ret H locs cells slots ls hA hL
theorem r_iast {n o : Nat} {i x : Int32} (hd : decode M.2.1 pc = .ok (.iastore, 1)) (hs : mSg S o = some (20, n)) (hi : vp_in i n) (K : JJ X M d (pc + 1) L (st) S (sI h o i.toNatClampNeg x) r S' h') : JJ X M d (pc) L (.int x :: .int i :: .ref o :: st) S h r S' h' := by
  intro hpre p e s m args below meth c R S0 Q F ret H locs cells slots ls hA hL
  cases o with
  | zero => cases hs
  | succ o =>
    have hl := mSt_lt (S := S) hs
    have he1 : (mW X S h).set o (xB X + o, .inl (xI X, n, .inl (upd (h.1 (o + 1)) i.toNatClampNeg x))) = mW X S (sI h (o + 1) i.toNatClampNeg x) := mW_set hl (by rw [mCell_i hs]; congr 4; funext q; simp [upd, sI]) (fun a ha => by funext b; simp [sI, ha]) (fun a ha => rfl)
    exact m_iast (D := xD X) (cl := vwCl) (tys := mTy X) F.1 F.2.1 F.2.2.2.2.2.2.2.2.2.2.2.1 hA.2.1 (mW_D X S h) hA.2.2.1 (t0 := 0) (by rw [mW_get hl, mCell_i hs]) rfl hi hd (fun H1 locs1 z hP1 hS1 => K hpre p e s m args below meth c R S0 Q F ret H1 locs1 cells slots ls ⟨z.trans hA.1, by rw [← he1]; exact hP1, hS1, hA.2.2.2⟩ hL)
theorem r_cast {n o : Nat} {i x : Int32} (hd : decode M.2.1 pc = .ok (.castore, 1)) (hs : mSg S o = some (21, n)) (hi : vp_in i n) (K : JJ X M d (pc + 1) L (st) S (sI h o i.toNatClampNeg (vp_nar .char x)) r S' h') : JJ X M d (pc) L (.int x :: .int i :: .ref o :: st) S h r S' h' := by
  intro hpre p e s m args below meth c R S0 Q F ret H locs cells slots ls hA hL
  cases o with
  | zero => cases hs
  | succ o =>
    have hl := mSt_lt (S := S) hs
    have he1 : (mW X S h).set o (xB X + o, .inl (xC X, n, .inl (upd (h.1 (o + 1)) i.toNatClampNeg (vp_nar .char x)))) = mW X S (sI h (o + 1) i.toNatClampNeg (vp_nar .char x)) := mW_set hl (by rw [mCell_c hs]; congr 4; funext q; simp [upd, sI]) (fun a ha => by funext b; simp [sI, ha]) (fun a ha => rfl)
    exact m_cast (D := xD X) (cl := vwCl) (tys := mTy X) F.1 F.2.1 F.2.2.2.2.2.2.2.2.2.2.2.1 hA.2.1 (mW_D X S h) hA.2.2.1 (t0 := 1) (by rw [mW_get hl, mCell_c hs]) rfl hi hd (fun H1 locs1 z hP1 hS1 => K hpre p e s m args below meth c R S0 Q F ret H1 locs1 cells slots ls ⟨z.trans hA.1, by rw [← he1]; exact hP1, hS1, hA.2.2.2⟩ hL)
theorem r_aast {n o q : Nat} {i : Int32} (hd : decode M.2.1 pc = .ok (.aastore, 1)) (hs : mSg S o = some (22, n)) (hq : mSg S q = some (5, 7)) (hi : vp_in i n) (K : JJ X M d (pc + 1) L (st) S (sR h o i.toNatClampNeg q) r S' h') : JJ X M d (pc) L (.ref q :: .int i :: .ref o :: st) S h r S' h' := by
  intro hpre p e s m args below meth c R S0 Q F ret H locs cells slots ls hA hL
  cases o with
  | zero => cases hs
  | succ o =>
    cases q with
    | zero => cases hq
    | succ q =>
      have hl := mSt_lt (S := S) hs
      have hlq := mSt_lt (S := S) hq
      have he1 : (mW X S h).set o (xB X + o, .inl (xS X, n, .inr (.inr (.inr (.inr (va_up (fun j => mOr X (h.2 (o + 1) j)) i.toNatClampNeg (some (xB X + q)))))))) = mW X S (sR h (o + 1) i.toNatClampNeg (q + 1)) := mW_set hl (by rw [mCell_s hs]; congr 7; funext j; by_cases hj : j = i.toNatClampNeg <;> simp [va_up, sR, hj, mOr]) (fun a ha => rfl) (fun a ha => by funext b; simp [sR, ha])
      exact m_astq (D := xD X) (cl := vwCl) (tys := mTy X) (r := (RX8, TX8, 7)) F.1 F.2.1 F.2.2.2.2.2.2.2.2.2.2.2.1 hA.2.1 (mW_D X S h) hA.2.2.1 (t0 := 2) (ci := 5) (by rw [mW_get hl, mCell_s hs]) rfl (by rw [mW_get hlq, mCell_obj hq (by decide)]) rfl hi hd (fun H1 locs1 z hP1 hS1 => K hpre p e s m args below meth c R S0 Q F ret H1 locs1 cells slots ls ⟨z.trans hA.1, by rw [← he1]; exact hP1, hS1, hA.2.2.2⟩ hL)
theorem r_alen_i {n o : Nat} {v : Int32} (hd : decode M.2.1 pc = .ok (.arraylength, 1)) (hs : mSg S o = some (20, n)) (hv : Int32.ofNat n = v) (K : JJ X M d (pc + 1) L (.int v :: st) S h r S' h') : JJ X M d (pc) L (.ref o :: st) S h r S' h' := by
  intro hpre p e s m args below meth c R S0 Q F ret H locs cells slots ls hA hL
  cases o with
  | zero => cases hs
  | succ o =>
    have hl := mSt_lt (S := S) hs
    exact va_alen (D := xD X) (cl := vwCl) (tys := mTy X) F.1 F.2.1 F.2.2.2.2.2.2.2.2.2.2.2.1 hA.2.1 o 0 (by rw [mW_get hl, mCell_i hs]) rfl hv hd (K hpre p e s m args below meth c R S0 Q F ret H locs cells slots ls hA hL)
theorem r_alen_c {n o : Nat} {v : Int32} (hd : decode M.2.1 pc = .ok (.arraylength, 1)) (hs : mSg S o = some (21, n)) (hv : Int32.ofNat n = v) (K : JJ X M d (pc + 1) L (.int v :: st) S h r S' h') : JJ X M d (pc) L (.ref o :: st) S h r S' h' := by
  intro hpre p e s m args below meth c R S0 Q F ret H locs cells slots ls hA hL
  cases o with
  | zero => cases hs
  | succ o =>
    have hl := mSt_lt (S := S) hs
    exact va_alen (D := xD X) (cl := vwCl) (tys := mTy X) F.1 F.2.1 F.2.2.2.2.2.2.2.2.2.2.2.1 hA.2.1 o 1 (by rw [mW_get hl, mCell_c hs]) rfl hv hd (K hpre p e s m args below meth c R S0 Q F ret H locs cells slots ls hA hL)
theorem r_alen_s {n o : Nat} {v : Int32} (hd : decode M.2.1 pc = .ok (.arraylength, 1)) (hs : mSg S o = some (22, n)) (hv : Int32.ofNat n = v) (K : JJ X M d (pc + 1) L (.int v :: st) S h r S' h') : JJ X M d (pc) L (.ref o :: st) S h r S' h' := by
  intro hpre p e s m args below meth c R S0 Q F ret H locs cells slots ls hA hL
  cases o with
  | zero => cases hs
  | succ o =>
    have hl := mSt_lt (S := S) hs
    exact va_alen (D := xD X) (cl := vwCl) (tys := mTy X) F.1 F.2.1 F.2.2.2.2.2.2.2.2.2.2.2.1 hA.2.1 o 2 (by rw [mW_get hl, mCell_s hs]) rfl hv hd (K hpre p e s m args below meth c R S0 Q F ret H locs cells slots ls hA hL)
theorem mPre_len {S0 S S' : mSh} (h1 : S0 <+: S) (h2 : S <+: S') : S0.length ≤ S.length ∧ S.length ≤ S'.length ∧ mSl S0 ≤ mSl S ∧ mSl S ≤ mSl S' := by
  obtain ⟨t1, rfl⟩ := h1
  obtain ⟨t2, rfl⟩ := h2
  simp [mSl, List.sum_append]
theorem mSl_push (S : mSh) (q : Nat × Nat) : mSl (S ++ [q]) = mSl S + q.2 := by simp [mSl, List.sum_append]
/-- behind an allocation -/
theorem mAt_push {H H1 : Heap} {s : State} {locs : List Loc} {cells slots t n : Nat} {S0 : mSh} (hA : mAt X S h S0 s H locs cells slots) {v : va_E} (z : H1.size = H.size + 1) (hk : ∀ q, q < H.size → H1[q]? = H[q]?) (hv : va_at (xD X) vwCl (H.size, v) H1) (he : v = mCell X (S ++ [(t, n)]) (sN h (S.length + 1)) S.length) (hsz : s.heap.size = xB X + S0.length) : mAt X (S ++ [(t, n)]) (sN h (S.length + 1)) S0 s H1 locs (cells + 1) (slots + n) := by
  obtain ⟨a1, a2, a3, a4, rfl, rfl⟩ := hA
  obtain ⟨b1, -, b3, -⟩ := mPre_len a4 (List.prefix_refl S)
  refine ⟨by rw [z, a1]; simp; omega, ?_, ⟨Nat.le_trans a3.1 (by omega), fun x h1 h2 => (hk x (Nat.lt_of_lt_of_le h1 a3.1)).trans (a3.2.1 x h1 h2), a3.2.2⟩, a4.trans (List.prefix_append _ _), by simp; omega, by rw [mSl_push]; show _ = mSl S + n - mSl S0; omega⟩
  rw [← mW_push (h := h) he (fun a ha => by funext b; simp [sN, ha]) (fun a ha => by funext b; simp [sN, ha])]
  refine va_P.app (a2.kept (fun k q hq => hk q.1 ((a2 k q hq).lt))) (fun k q hq => ?_)
  have hz : k < 1 := (List.getElem?_eq_some_iff.mp hq).1
  rw [show k = 0 by omega] at hq
  cases hq
  rw [← a1]
  exact hv
theorem r_new {idx t n : Nat} {C : String} (hd : decode M.2.1 pc = .ok (.new idx, 3)) (hc : ∃ T : u_T, vwCl[t]? = some (C, T, n) ∧ ∀ w ∈ u_ws C T n, w ∈ mWd) (hcl : Cond.classLink M.1.cls idx C ∈ mWd) (hinst : Cond.instantiable C n ∈ mWd) (hini : Cond.initialized C ∈ mWd) (hpre2 : S ++ [(t, n)] <+: S') (K : JJ X M d (pc + 3) L (.ref (S.length + 1) :: st) (S ++ [(t, n)]) (sN h (S.length + 1)) r S' h') : JJ X M d (pc) L (st) S h r S' h' := by
  intro hpre p e s m args below meth c R S0 Q F ret H locs cells slots ls hA hL
  obtain ⟨T, hc, hin⟩ := hc
  obtain ⟨ht, ty0, hty, hnm, hk⟩ := mCls hc
  have hKn := F.2.2.2.2.2.2.2.2.2.2.2.1.1 t _ hc
  have hts := F.2.2.2.2.2.1
  refine W.newcK F.1 F.2.1 F.2.2.2.1 (hts _ hcl) (hts _ hinst) (hts _ hini) rfl hd (by have b := mPre_len hA.2.2.2.1 (List.prefix_append S [(t, n)]); have b2 := mPre_len (hA.2.2.2.1.trans (List.prefix_append S [(t, n)])) hpre2; have b3 := mSl_push S (t, n); have g1 := F.2.2.2.2.2.2.2.2.1; have g2 := F.2.2.2.2.2.2.2.2.2.1; have g3 := hA.2.2.2.2.1; have g4 := hA.2.2.2.2.2; simp at b b2 b3; omega) (by have b := mPre_len hA.2.2.2.1 (List.prefix_append S [(t, n)]); have b2 := mPre_len (hA.2.2.2.1.trans (List.prefix_append S [(t, n)])) hpre2; have b3 := mSl_push S (t, n); have g1 := F.2.2.2.2.2.2.2.2.1; have g2 := F.2.2.2.2.2.2.2.2.2.1; have g3 := hA.2.2.2.2.1; have g4 := hA.2.2.2.2.2; simp at b b2 b3; omega) hKn.2.1 rfl fun H1 kC hkC e1 z1 o1 => ?_
  have hfs : ∀ j, j < n → defaultValue (ty0 j) = vp_V (mFs X t n (S.length + 1) (sN h (S.length + 1))) j := by
    intro j hj
    unfold vp_V
    rw [List.getD_eq_getElem?_getD, mFs_get hj]
    have h1 := (hk j hj).1
    have h2 := (hk j hj).2
    by_cases hb : mRf t j = true
    · rw [hb] at h1
      rw [if_pos hb]
      cases hty0 : ty0 j <;> simp_all [mTyK, defaultValue, mVr, sN]
    · have hb' : mRf t j = false := by simpa using hb
      rw [if_neg hb, h2 hb']
      simp [defaultValue, sN]
  have hA1 := mAt_push (t := t) (n := n) hA z1 o1 (v := .inr (t, mFs X t n (S.length + 1) (sN h (S.length + 1)))) ⟨_, hc, (u_born ty0 hts hin hKn hkC e1 hty).to hfs⟩ (by rw [mCell_obj (n := n) (S := S ++ [(t, n)]) (by simp) ht]) F.2.2.2.2.2.2.2.2.2.2.1
  have := K hpre2 p e s m args below meth c R S0 Q F ret H1 locs (cells + 1) (slots + n) ls hA1 hL
  have hz : H.size = xB X + S.length := hA.1
  show W _ _ _ _ _ _ _ _ _ _ _ _ _ _ _ (F0 m (pc + 3) ls (.ref H.size :: st.map (mEnc X)))
  rw [hz]
  exact this
theorem r_newa_i {n : Nat} {v : Int32} (hd : decode M.2.1 pc = .ok (.newarray .int, 2)) (hw : Cond.arrayClass (newarray.typeOf .int) ∈ mWd) (hn : ¬ v < 0) (hN : v.toNatClampNeg = n) (hb : n ≤ 100000) (hpre2 : S ++ [(20, n)] <+: S') (K : JJ X M d (pc + 2) L (.ref (S.length + 1) :: st) (S ++ [(20, n)]) (sN h (S.length + 1)) r S' h') : JJ X M d (pc) L (.int v :: st) S h r S' h' := by
  intro hpre p e s m args below meth c R S0 Q F ret H locs cells slots ls hA hL
  have hts := F.2.2.2.2.2.1
  refine va_newaK F.1 F.2.1 (hts _ hw) rfl hd rfl hn hN (by simp [newarray.typeOf, componentBytes]; omega) (by have b := mPre_len hA.2.2.2.1 (List.prefix_append S [(20, n)]); have b2 := mPre_len (hA.2.2.2.1.trans (List.prefix_append S [(20, n)])) hpre2; have b3 := mSl_push S (20, n); have g1 := F.2.2.2.2.2.2.2.2.1; have g2 := F.2.2.2.2.2.2.2.2.2.1; have g3 := hA.2.2.2.2.1; have g4 := hA.2.2.2.2.2; simp at b b2 b3; omega) (by have b := mPre_len hA.2.2.2.1 (List.prefix_append S [(20, n)]); have b2 := mPre_len (hA.2.2.2.1.trans (List.prefix_append S [(20, n)])) hpre2; have b3 := mSl_push S (20, n); have g1 := F.2.2.2.2.2.2.2.2.1; have g2 := F.2.2.2.2.2.2.2.2.2.1; have g3 := hA.2.2.2.2.1; have g4 := hA.2.2.2.2.2; simp at b b2 b3; omega) rfl fun H1 cA e1 z1 o1 _ hf => ?_
  have hcA : cA = xI X := Option.some.inj (hf.symm.trans (F.2.2.2.2.2.2.2.2.2.2.2.1.2 0 _ rfl).2)
  subst hcA
  have hA1 := mAt_push (t := 20) (n := n) hA z1 o1 (v := .inl (xI X, n, .inl (fun _ => 0))) e1 (by rw [mCell_i (n := n) (S := S ++ [(20, n)]) (by simp)]; congr 4; funext q; simp [sN]) F.2.2.2.2.2.2.2.2.2.2.1
  have := K hpre2 p e s m args below meth c R S0 Q F ret H1 locs (cells + 1) (slots + n) ls hA1 hL
  have hz : H.size = xB X + S.length := hA.1
  show W _ _ _ _ _ _ _ _ _ _ _ _ _ _ _ (F0 m (pc + 2) ls (.ref H.size :: st.map (mEnc X)))
  rw [hz]
  exact this
theorem r_newa_c {n : Nat} {v : Int32} (hd : decode M.2.1 pc = .ok (.newarray .char, 2)) (hw : Cond.arrayClass (newarray.typeOf .char) ∈ mWd) (hn : ¬ v < 0) (hN : v.toNatClampNeg = n) (hb : n ≤ 100000) (hpre2 : S ++ [(21, n)] <+: S') (K : JJ X M d (pc + 2) L (.ref (S.length + 1) :: st) (S ++ [(21, n)]) (sN h (S.length + 1)) r S' h') : JJ X M d (pc) L (.int v :: st) S h r S' h' := by
  intro hpre p e s m args below meth c R S0 Q F ret H locs cells slots ls hA hL
  have hts := F.2.2.2.2.2.1
  refine va_newaK F.1 F.2.1 (hts _ hw) rfl hd rfl hn hN (by simp [newarray.typeOf, componentBytes]; omega) (by have b := mPre_len hA.2.2.2.1 (List.prefix_append S [(21, n)]); have b2 := mPre_len (hA.2.2.2.1.trans (List.prefix_append S [(21, n)])) hpre2; have b3 := mSl_push S (21, n); have g1 := F.2.2.2.2.2.2.2.2.1; have g2 := F.2.2.2.2.2.2.2.2.2.1; have g3 := hA.2.2.2.2.1; have g4 := hA.2.2.2.2.2; simp at b b2 b3; omega) (by have b := mPre_len hA.2.2.2.1 (List.prefix_append S [(21, n)]); have b2 := mPre_len (hA.2.2.2.1.trans (List.prefix_append S [(21, n)])) hpre2; have b3 := mSl_push S (21, n); have g1 := F.2.2.2.2.2.2.2.2.1; have g2 := F.2.2.2.2.2.2.2.2.2.1; have g3 := hA.2.2.2.2.1; have g4 := hA.2.2.2.2.2; simp at b b2 b3; omega) rfl fun H1 cA e1 z1 o1 _ hf => ?_
  have hcA : cA = xC X := Option.some.inj (hf.symm.trans (F.2.2.2.2.2.2.2.2.2.2.2.1.2 1 _ rfl).2)
  subst hcA
  have hA1 := mAt_push (t := 21) (n := n) hA z1 o1 (v := .inl (xC X, n, .inl (fun _ => 0))) e1 (by rw [mCell_c (n := n) (S := S ++ [(21, n)]) (by simp)]; congr 4; funext q; simp [sN]) F.2.2.2.2.2.2.2.2.2.2.1
  have := K hpre2 p e s m args below meth c R S0 Q F ret H1 locs (cells + 1) (slots + n) ls hA1 hL
  have hz : H.size = xB X + S.length := hA.1
  show W _ _ _ _ _ _ _ _ _ _ _ _ _ _ _ (F0 m (pc + 2) ls (.ref H.size :: st.map (mEnc X)))
  rw [hz]
  exact this
theorem r_newa_s {idx n : Nat} {v : Int32} (hd : decode M.2.1 pc = .ok (.anewarray idx, 3)) (hw : Cond.classLink M.1.cls idx "DutyOnLeft$Standing" ∈ mWd) (hn : ¬ v < 0) (hN : v.toNatClampNeg = n) (hb : n ≤ 100000) (hpre2 : S ++ [(22, n)] <+: S') (K : JJ X M d (pc + 3) L (.ref (S.length + 1) :: st) (S ++ [(22, n)]) (sN h (S.length + 1)) r S' h') : JJ X M d (pc) L (.int v :: st) S h r S' h' := by
  intro hpre p e s m args below meth c R S0 Q F ret H locs cells slots ls hA hL
  subst hN
  have hts := F.2.2.2.2.2.1
  refine W.anew F.1 F.2.1 F.2.2.2.1 (hts _ hw) (va_AO.use F.2.2.2.2.2.2.2.2.2.2.2.2.2.2.2.2.2.2.1) rfl hd rfl hn (by omega) (by have b := mPre_len hA.2.2.2.1 (List.prefix_append S [(22, v.toNatClampNeg)]); have b2 := mPre_len (hA.2.2.2.1.trans (List.prefix_append S [(22, v.toNatClampNeg)])) hpre2; have b3 := mSl_push S (22, v.toNatClampNeg); have g1 := F.2.2.2.2.2.2.2.2.1; have g2 := F.2.2.2.2.2.2.2.2.2.1; have g3 := hA.2.2.2.2.1; have g4 := hA.2.2.2.2.2; simp at b b2 b3; omega) (by have b := mPre_len hA.2.2.2.1 (List.prefix_append S [(22, v.toNatClampNeg)]); have b2 := mPre_len (hA.2.2.2.1.trans (List.prefix_append S [(22, v.toNatClampNeg)])) hpre2; have b3 := mSl_push S (22, v.toNatClampNeg); have g1 := F.2.2.2.2.2.2.2.2.1; have g2 := F.2.2.2.2.2.2.2.2.2.1; have g3 := hA.2.2.2.2.1; have g4 := hA.2.2.2.2.2; simp at b b2 b3; omega) fun cA kA comp f1 f2 f3 f4 => ?_
  generalize hH1 : H.push ({ cls := cA, slots := Array.replicate v.toNatClampNeg .null, vm := .none } : Cell) = H1
  have z1 : H1.size = H.size + 1 := by rw [← hH1, Array.size_push]
  have e1 : H1[H.size]? = some (arrV cA v.toNatClampNeg (fun _ => .null)) := by rw [← hH1, Array.getElem?_push_size, ← arrV_new]
  have o1 : ∀ q : Nat, q < H.size → H1[q]? = H[q]? := fun q hq => by rw [← hH1, Array.getElem?_push, if_neg (Nat.ne_of_lt hq)]
  have hcA : cA = xS X := by
    obtain ⟨_, _, _, _, _, g⟩ := (F.2.2.2.2.2.2.2.2.2.2.2.1.2 2 _ rfl).2
    exact Option.some.inj (f1.symm.trans g)
  subst hcA
  have hA1 := mAt_push (t := 22) (n := v.toNatClampNeg) hA z1 o1 (v := .inl (xS X, v.toNatClampNeg, .inr (.inr (.inr (.inr (fun _ => none)))))) e1 (by rw [mCell_s (n := v.toNatClampNeg) (S := S ++ [(22, v.toNatClampNeg)]) (by simp)]; congr 7; funext q; simp [sN, mOr]) F.2.2.2.2.2.2.2.2.2.2.1
  have := K hpre2 p e s m args below meth c R S0 Q F ret H1 locs (cells + 1) (slots + v.toNatClampNeg) ls hA1 hL
  have hz : H.size = xB X + S.length := hA.1
  show W _ _ _ _ _ _ _ _ _ _ _ _ _ _ _ (F0 m (pc + 3) ls (.ref H.size :: st.map (mEnc X)))
  rw [hz]
  exact this
end
end
section
/-! ===== the rows of calls ===== -/
def mK2 (M2 : mMe) (n : Nat) : Prop := Cond.code M2.1 M2.2.1 M2.2.2.1 M2.2.2.2 ∈ mWd ∧ Cond.initialized M2.1.cls ∈ mWd ∧ (M2.1.cls ≠ "java/lang/invoke/MethodHandle" ∧ M2.1.cls ≠ "java/lang/invoke/VarHandle" ∧ (parseMethodDescriptor M2.1.desc).map (fun d => d.parameters.length) = some n) ∧ M2.2.2.1 ≤ 45
def mKI (M2 : mMe) : Prop := Cond.instanceMethod M2.1 ∈ mWd ∧ Cond.selects M2.1.cls M2.1 M2.1 ∈ mWd
section
variable {X : mCx} {M : mMe} {d pc : Nat} {L st : List Value} {S S' : mSh} {h h' : mHp} {r : Option Value}
theorem m_go {p : Program} {e : Env} {s : State} {m : MethodId} {args : Array Value} {below : List Frame} {meth : Method} {c : Code} {R : Room} {S0 S1 : mSh} {h1 : mHp} {r1 : Option Value} {Q : State → Prop} {H : Heap} {locs : List Loc} {cells slots : Nat} {ls : Array Slot} {st0 rest0 : List Value} {a : Array Value}
    (hr : va_Run p (xL X) e R s m args below meth c H locs cells slots (S1.length - S.length) (mSl S1 - mSl S) (F0 m pc ls st0) rest0 (mQc X r1 S1 h1 a) (fun q => xB X ≤ q)) (hA : mAt X S h S0 s H locs cells slots) (hS1 : S <+: S1)
    (kk : ∀ (H1 : Heap) (locs1 : List Loc), mAt X S1 h1 S0 s H1 locs1 (S1.length - S0.length) (mSl S1 - mSl S0) → W p (xL X) e R s m args below meth c H1 locs1 (S1.length - S0.length) (mSl S1 - mSl S0) Q (F0 m (pc + 3) ls ((r1.map (mEnc X)).toList ++ rest0))) : W p (xL X) e R s m args below meth c H locs cells slots Q (F0 m pc ls st0) := by
  intro T hT XX
  obtain ⟨v, st₀, t, T', Lc, h0, X', hL, e1, e2, ⟨hv, hU, hz, hk⟩, st⟩ := hr T hT XX
  have hv' : v = r1.map (mEnc X) := Outcome.returned.inj hv
  subst hv'
  obtain ⟨a1, a2, a3, a4, a5, a6⟩ := hA
  rw [h0] at hz hk
  have b := mPre_len a4 hS1
  have ec : cells + (S1.length - S.length) = S1.length - S0.length := by omega
  have es : slots + (mSl S1 - mSl S) = mSl S1 - mSl S0 := by omega
  rw [ec, es] at X'
  obtain ⟨t2, g1, g2⟩ := kk T'.heap (locs ++ Lc) ⟨by rw [e1]; exact hU.1, by rw [e1]; exact hU.2.1, ⟨Nat.le_trans a3.1 (by rw [e1]; exact hz), fun q h1 h2 => by rw [e1, hk q (Nat.lt_of_lt_of_le h1 a3.1) h2]; exact a3.2.1 q h1 h2, fun q hq => by
      rcases List.mem_append.mp hq with h | h
      · exact a3.2.2 q h
      · exact hL q h⟩, a4.trans hS1, rfl, rfl⟩ T' rfl X'
  exact ⟨t2, st t2 g1, g2⟩
theorem mPc_blind (as : List Value) : FrameBlind (mPc X as S h) := fun a U g mk q => ⟨q.1, q.2.calling g mk a⟩
theorem mU_at {M : mMe} {S0 S1 : mSh} {p : Program} {s : State} {m : MethodId} {args : Array Value} {meth : Method} {c : Code} {R : Room} {H : Heap} {locs : List Loc} {cells slots : Nat} (F : mFix X M d S0 S1 p s m args meth c R) (hA : mAt X S h S0 s H locs cells slots) {U : State} (hU : U.heap = H) (hW : s.WarmedH U.vm) : mU X S h U := by
  obtain ⟨a1, a2, a3, -⟩ := hA
  refine ⟨by rw [hU]; exact a1, by rw [hU]; exact a2, F.2.2.2.2.2.2.2.2.2.2.2.1.moved hW.alike, ?_⟩
  rw [hU]
  exact F.2.2.2.2.2.2.2.2.2.2.2.2.next hW a3.2.1
theorem r_callV {idx n : Nat} {M2 : mMe} {rest : List Value} {S1 : mSh} {h1 : mHp} {r1 : Option Value} (as : List Value) {o t nt : Nat} (hd : decode M.2.1 pc = .ok (.invokevirtual idx, 3)) (hl : Cond.methodLink M.1.cls idx M2.1 ∈ mWd) (h2 : mK2 M2 n) (hI : mKI M2) (ho : mSg S o = some (t, nt)) (hc : ∃ T, vwCl[t]? = some (M2.1.cls, T, nt)) (hn : as.length = n) (hst : (rest.map Value.category).sum ≤ 8) (hC : CC X d M2 (.ref o :: as) S h r1 S1 h1) (hpre2 : S1 <+: S') (K : JJ X M (d + 1) (pc + 3) L (r1.toList ++ rest) S1 h1 r S' h') : JJ X M (d + 1) pc L (as.reverse ++ .ref o :: rest) S h r S' h' := by
  intro hpre p e s m args below meth c R S0 Q F ret H locs cells slots ls hA hL
  obtain ⟨hS1, hM⟩ := hC
  have b := mPre_len hA.2.2.2.1 hS1
  have b2 := mPre_len (hA.2.2.2.1.trans hS1) hpre2
  have g1 := F.2.2.2.2.2.2.2.2.1
  have g2 := F.2.2.2.2.2.2.2.2.2.1
  have g3 := hA.2.2.2.2.1
  have g4 := hA.2.2.2.2.2
  have hts := F.2.2.2.2.2.1
  have hf1 := F.2.2.2.2.2.2.1
  have hf2 := F.2.2.2.2.2.2.2.1
  have hcat : ((rest.map (mEnc X)).map fun v => v.category).sum ≤ 8 := by
    rw [List.map_map]
    have : (fun v => v.category) ∘ mEnc X = (fun v : Value => v.category) := by funext v; exact mEnc_cat X v
    rw [this]; exact hst
  cases o with
  | zero => cases ho
  | succ o =>
  obtain ⟨T, hcl⟩ := hc
  have he : (mW X S h)[o]? = some (xB X + o, .inr (t, mFs X t nt (o + 1) h)) := by rw [mW_get (mSt_lt (S := S) ho), mCell_obj ho (mCls hcl).1]
  have hrun := va_runV (l := xL X) (e := e) (below := below) (meth := meth) (H := H) (locs := locs) (cells := cells) (slots := slots) (As := as.map (mEnc X)) (b := xB X + o) (rest := rest.map (mEnc X)) (g := F0 m pc ls ((as.reverse ++ .ref (o + 1) :: rest).map (mEnc X))) ⟨F.1, F.2.1, F.2.2.1, F.2.2.2.1, hts⟩ hM ⟨(callB_of n hts (mWs_good h2.1) rfl rfl rfl (hts _ h2.2.1) (hts _ hl) h2.2.2.1 ⟨hf1, by show 8 + (M2.2.2.1 + 11) + 64 * d ≤ R.locals; have := h2.2.2.2; omega⟩), hts _ hI.1, hts _ hI.2⟩ ⟨mPc_blind _, va_recv F.2.2.2.2.2.2.2.2.2.2.2.1 hA.2.1 hcl he, fun U hU hW => ⟨rfl, mU_at F hA hU hW⟩⟩ rfl (by rw [List.length_map]; exact hn) hL.2.1 (by rw [List.map_append, List.map_reverse]; rfl) (lv_room hcat) hd ⟨by omega, by omega⟩
  refine m_go hrun hA hS1 (fun H1 locs1 hA1 => ?_)
  have := K hpre2 p e s m args below meth c R S0 Q F ret H1 locs1 _ _ ls hA1 hL
  rw [List.map_append] at this
  cases r1 <;> exact this
theorem r_callS {idx n : Nat} {M2 : mMe} {rest : List Value} {S1 : mSh} {h1 : mHp} {r1 : Option Value} (as : List Value) (hd : decode M.2.1 pc = .ok (.invokestatic idx, 3)) (hl : Cond.methodLink M.1.cls idx M2.1 ∈ mWd) (h2 : mK2 M2 n) (hI : Cond.static M2.1 ∈ mWd) (hn : as.length = n) (hst : (rest.map Value.category).sum ≤ 8) (hC : CC X d M2 as S h r1 S1 h1) (hpre2 : S1 <+: S') (K : JJ X M (d + 1) (pc + 3) L (r1.toList ++ rest) S1 h1 r S' h') : JJ X M (d + 1) pc L (as.reverse ++ rest) S h r S' h' := by
  intro hpre p e s m args below meth c R S0 Q F ret H locs cells slots ls hA hL
  obtain ⟨hS1, hM⟩ := hC
  have b := mPre_len hA.2.2.2.1 hS1
  have b2 := mPre_len (hA.2.2.2.1.trans hS1) hpre2
  have g1 := F.2.2.2.2.2.2.2.2.1
  have g2 := F.2.2.2.2.2.2.2.2.2.1
  have g3 := hA.2.2.2.2.1
  have g4 := hA.2.2.2.2.2
  have hts := F.2.2.2.2.2.1
  have hf1 := F.2.2.2.2.2.2.1
  have hf2 := F.2.2.2.2.2.2.2.1
  have hcat : ((rest.map (mEnc X)).map fun v => v.category).sum ≤ 8 := by
    rw [List.map_map]
    have : (fun v => v.category) ∘ mEnc X = (fun v : Value => v.category) := by funext v; exact mEnc_cat X v
    rw [this]; exact hst
  have hrun := va_runS (l := xL X) (e := e) (below := below) (meth := meth) (H := H) (locs := locs) (cells := cells) (slots := slots) (As := as.map (mEnc X)) (rest := rest.map (mEnc X)) (g := F0 m pc ls ((as.reverse ++ rest).map (mEnc X))) ⟨F.1, F.2.1, F.2.2.1, F.2.2.2.1, hts⟩ hM ⟨(callB_of n hts (mWs_good h2.1) rfl rfl rfl (hts _ h2.2.1) (hts _ hl) h2.2.2.1 ⟨hf1, by show 8 + (M2.2.2.1 + 11) + 64 * d ≤ R.locals; have := h2.2.2.2; omega⟩), hts _ hI⟩ ⟨mPc_blind _, fun U hU hW => ⟨rfl, mU_at F hA hU hW⟩⟩ rfl (by rw [List.length_map]; exact hn) hL.2.1 (by rw [List.map_append, List.map_reverse]) (lv_room hcat) hd ⟨by omega, by omega⟩
  refine m_go hrun hA hS1 (fun H1 locs1 hA1 => ?_)
  have := K hpre2 p e s m args below meth c R S0 Q F ret H1 locs1 _ _ ls hA1 hL
  rw [List.map_append] at this
  cases r1 <;> exact this
theorem r_callSN {idx n : Nat} {M2 : mMe} {rest : List Value} {S1 : mSh} {h1 : mHp} {r1 : Option Value} (as : List Value) (hd : decode M.2.1 pc = .ok (.invokestatic idx, 3)) (hl : (M.1.cls, idx, M2.1, "DutyOnLeft") ∈ mNest) (h2 : mK2 M2 n) (hI : Cond.static M2.1 ∈ mWd) (hn : as.length = n) (hst : (rest.map Value.category).sum ≤ 8) (hC : CC X d M2 as S h r1 S1 h1) (hpre2 : S1 <+: S') (K : JJ X M (d + 1) (pc + 3) L (r1.toList ++ rest) S1 h1 r S' h') : JJ X M (d + 1) pc L (as.reverse ++ rest) S h r S' h' := by
  intro hpre p e s m args below meth c R S0 Q F ret H locs cells slots ls hA hL
  obtain ⟨hS1, hM⟩ := hC
  have b := mPre_len hA.2.2.2.1 hS1
  have b2 := mPre_len (hA.2.2.2.1.trans hS1) hpre2
  have g1 := F.2.2.2.2.2.2.2.2.1
  have g2 := F.2.2.2.2.2.2.2.2.2.1
  have g3 := hA.2.2.2.2.1
  have g4 := hA.2.2.2.2.2
  have hts := F.2.2.2.2.2.1
  have hf1 := F.2.2.2.2.2.2.1
  have hf2 := F.2.2.2.2.2.2.2.1
  have hcat : ((rest.map (mEnc X)).map fun v => v.category).sum ≤ 8 := by
    rw [List.map_map]
    have : (fun v => v.category) ∘ mEnc X = (fun v : Value => v.category) := by funext v; exact mEnc_cat X v
    rw [this]; exact hst
  have hrun := va_runSN (l := xL X) (e := e) (below := below) (meth := meth) (H := H) (locs := locs) (cells := cells) (slots := slots) (As := as.map (mEnc X)) (rest := rest.map (mEnc X)) (g := F0 m pc ls ((as.reverse ++ rest).map (mEnc X))) ⟨F.1, F.2.1, F.2.2.1, F.2.2.2.1, hts⟩ hM ⟨(va_cnB (host := "DutyOnLeft") n hts (mWs_good h2.1) rfl rfl rfl (F.2.2.2.2.2.2.2.2.2.2.2.2.2.2.2.2.2.2.2 _ hl) (hts _ h2.2.1) h2.2.2.1 ⟨hf1, by show 8 + (M2.2.2.1 + 11) + 64 * d ≤ R.locals; have := h2.2.2.2; omega⟩), hts _ hI, trivial⟩ ⟨mPc_blind _, fun U hU hW => ⟨rfl, mU_at F hA hU hW⟩⟩ rfl (by rw [List.length_map]; exact hn) hL.2.1 (by rw [List.map_append, List.map_reverse]) (lv_room hcat) hd ⟨by omega, by omega⟩
  refine m_go hrun hA hS1 (fun H1 locs1 hA1 => ?_)
  have := K hpre2 p e s m args below meth c R S0 Q F ret H1 locs1 _ _ ls hA1 hL
  rw [List.map_append] at this
  cases r1 <;> exact this
theorem r_callI {idx n : Nat} {M2 : mMe} {rest : List Value} {S1 : mSh} {h1 : mHp} {r1 : Option Value} (as : List Value) {o : Nat} (hd : decode M.2.1 pc = .ok (.invokespecial idx, 3)) (hl : Cond.methodLink M.1.cls idx M2.1 ∈ mWd) (h2 : mK2 M2 n) (hI : Cond.instanceMethod M2.1 ∈ mWd) (hret : M2.2.2.2 = none) (hin : M2.1.name = "<init>") (ho : o ≠ 0) (hn : as.length = n) (hst : (rest.map Value.category).sum ≤ 8) (hC : CC X d M2 (.ref o :: as) S h r1 S1 h1) (hpre2 : S1 <+: S') (K : JJ X M (d + 1) (pc + 3) L (r1.toList ++ rest) S1 h1 r S' h') : JJ X M (d + 1) pc L (as.reverse ++ .ref o :: rest) S h r S' h' := by
  intro hpre p e s m args below meth c R S0 Q F ret H locs cells slots ls hA hL
  obtain ⟨hS1, hM⟩ := hC
  have b := mPre_len hA.2.2.2.1 hS1
  have b2 := mPre_len (hA.2.2.2.1.trans hS1) hpre2
  have g1 := F.2.2.2.2.2.2.2.2.1
  have g2 := F.2.2.2.2.2.2.2.2.2.1
  have g3 := hA.2.2.2.2.1
  have g4 := hA.2.2.2.2.2
  have hts := F.2.2.2.2.2.1
  have hf1 := F.2.2.2.2.2.2.1
  have hf2 := F.2.2.2.2.2.2.2.1
  have hcat : ((rest.map (mEnc X)).map fun v => v.category).sum ≤ 8 := by
    rw [List.map_map]
    have : (fun v => v.category) ∘ mEnc X = (fun v : Value => v.category) := by funext v; exact mEnc_cat X v
    rw [this]; exact hst
  cases o with
  | zero => exact absurd rfl ho
  | succ o =>
  have hrun := va_runI (l := xL X) (e := e) (below := below) (meth := meth) (H := H) (locs := locs) (cells := cells) (slots := slots) (As := as.map (mEnc X)) (b := xB X + o) (rest := rest.map (mEnc X)) (g := F0 m pc ls ((as.reverse ++ .ref (o + 1) :: rest).map (mEnc X))) ⟨F.1, F.2.1, F.2.2.1, F.2.2.2.1, hts⟩ hM ⟨(callB_of n hts (mWs_good h2.1) (by unfold mWs; rw [hret]) rfl rfl (hts _ h2.2.1) (hts _ hl) h2.2.2.1 ⟨hf1, by show 8 + (M2.2.2.1 + 11) + 64 * d ≤ R.locals; have := h2.2.2.2; omega⟩), hin, hts _ hI⟩ ⟨mPc_blind _, fun U hU hW => ⟨rfl, mU_at F hA hU hW⟩⟩ rfl (by rw [List.length_map]; exact hn) hL.2.1 (by rw [List.map_append, List.map_reverse]; rfl) (lv_room hcat) hd ⟨by omega, by omega⟩
  refine m_go hrun hA hS1 (fun H1 locs1 hA1 => ?_)
  have := K hpre2 p e s m args below meth c R S0 Q F ret H1 locs1 _ _ ls hA1 hL
  rw [List.map_append] at this
  cases r1 <;> exact this
theorem r_callIN {idx n : Nat} {M2 : mMe} {rest : List Value} {S1 : mSh} {h1 : mHp} {r1 : Option Value} (as : List Value) {o : Nat} (hd : decode M.2.1 pc = .ok (.invokespecial idx, 3)) (hl : (M.1.cls, idx, M2.1, "DutyOnLeft") ∈ mNest) (h2 : mK2 M2 n) (hI : Cond.instanceMethod M2.1 ∈ mWd) (hret : M2.2.2.2 = none) (hin : M2.1.name = "<init>") (ho : o ≠ 0) (hn : as.length = n) (hst : (rest.map Value.category).sum ≤ 8) (hC : CC X d M2 (.ref o :: as) S h r1 S1 h1) (hpre2 : S1 <+: S') (K : JJ X M (d + 1) (pc + 3) L (r1.toList ++ rest) S1 h1 r S' h') : JJ X M (d + 1) pc L (as.reverse ++ .ref o :: rest) S h r S' h' := by
  intro hpre p e s m args below meth c R S0 Q F ret H locs cells slots ls hA hL
  obtain ⟨hS1, hM⟩ := hC
  have b := mPre_len hA.2.2.2.1 hS1
  have b2 := mPre_len (hA.2.2.2.1.trans hS1) hpre2
  have g1 := F.2.2.2.2.2.2.2.2.1
  have g2 := F.2.2.2.2.2.2.2.2.2.1
  have g3 := hA.2.2.2.2.1
  have g4 := hA.2.2.2.2.2
  have hts := F.2.2.2.2.2.1
  have hf1 := F.2.2.2.2.2.2.1
  have hf2 := F.2.2.2.2.2.2.2.1
  have hcat : ((rest.map (mEnc X)).map fun v => v.category).sum ≤ 8 := by
    rw [List.map_map]
    have : (fun v => v.category) ∘ mEnc X = (fun v : Value => v.category) := by funext v; exact mEnc_cat X v
    rw [this]; exact hst
  cases o with
  | zero => exact absurd rfl ho
  | succ o =>
  have hrun := va_runIN (l := xL X) (e := e) (below := below) (meth := meth) (H := H) (locs := locs) (cells := cells) (slots := slots) (As := as.map (mEnc X)) (b := xB X + o) (rest := rest.map (mEnc X)) (g := F0 m pc ls ((as.reverse ++ .ref (o + 1) :: rest).map (mEnc X))) ⟨F.1, F.2.1, F.2.2.1, F.2.2.2.1, hts⟩ hM ⟨(va_cnB (host := "DutyOnLeft") n hts (mWs_good h2.1) (by unfold mWs; rw [hret]) rfl rfl (F.2.2.2.2.2.2.2.2.2.2.2.2.2.2.2.2.2.2.2 _ hl) (hts _ h2.2.1) h2.2.2.1 ⟨hf1, by show 8 + (M2.2.2.1 + 11) + 64 * d ≤ R.locals; have := h2.2.2.2; omega⟩), hin, hts _ hI⟩ ⟨mPc_blind _, fun U hU hW => ⟨rfl, mU_at F hA hU hW⟩⟩ rfl (by rw [List.length_map]; exact hn) hL.2.1 (by rw [List.map_append, List.map_reverse]; rfl) (lv_room hcat) hd ⟨by omega, by omega⟩
  refine m_go hrun hA hS1 (fun H1 locs1 hA1 => ?_)
  have := K hpre2 p e s m args below meth c R S0 Q F ret H1 locs1 _ _ ls hA1 hL
  rw [List.map_append] at this
  cases r1 <;> exact this
theorem r_objInit {idx o : Nat} (hd : decode M.2.1 pc = .ok (.invokespecial idx, 3)) (hl : Cond.methodLink M.1.cls idx Lib.objectInit ∈ mWd) (hi : Cond.instanceMethod Lib.objectInit ∈ mWd) (hc : Cond.code Lib.objectInit ⟨#[0xb1]⟩ 1 none ∈ mWd) (ho : o ≠ 0) (hst : (st.map Value.category).sum ≤ 8) (K : JJ X M (d + 1) (pc + 3) L st S h r S' h') : JJ X M (d + 1) pc L (.ref o :: st) S h r S' h' := by
  intro hpre p e s m args below meth c R S0 Q F ret H locs cells slots ls hA hL
  have hts := F.2.2.2.2.2.1
  have hf1 := F.2.2.2.2.2.2.1
  have hf2 := F.2.2.2.2.2.2.2.1
  have hcat : ((st.map (mEnc X)).map fun v => v.category).sum ≤ 8 := by
    rw [List.map_map]
    have : (fun v => v.category) ∘ mEnc X = (fun v : Value => v.category) := by funext v; exact mEnc_cat X v
    rw [this]; exact hst
  cases o with
  | zero => exact absurd rfl ho
  | succ o =>
    have h8 := lv_room (m := m) (pc := pc) (ls := ls) (rest := (mVr X (o + 1)) :: st.map (mEnc X)) hcat
    exact W.objInit F.1 F.2.1 F.2.2.2.1 (hts _ hl) (hts _ hi) (hts _ hc) (g := F0 m pc ls ((.ref (o + 1) :: st).map (mEnc X))) rfl (hL.2.1.trans F.2.2.1.symm) rfl hd (by omega) (Nat.le_trans (Nat.add_le_add_right h8 12) (by omega)) (K hpre p e s m args below meth c R S0 Q F ret H locs cells slots ls hA hL)
theorem r_V0 {idx o t nt : Nat} {M2 : mMe} {rest : List Value} {S1 : mSh} {h1 : mHp} {r1 : Option Value} (hd : decode M.2.1 pc = .ok (.invokevirtual idx, 3)) (hl : Cond.methodLink M.1.cls idx M2.1 ∈ mWd) (h2 : mK2 M2 0) (hI : mKI M2) (ho : mSg S o = some (t, nt)) (hc : ∃ T, vwCl[t]? = some (M2.1.cls, T, nt)) (hst : (rest.map Value.category).sum ≤ 8) (hC : CC X d M2 (.ref o :: []) S h r1 S1 h1) (hpre2 : S1 <+: S') (K : JJ X M (d + 1) (pc + 3) L (r1.toList ++ rest) S1 h1 r S' h') : JJ X M (d + 1) pc L (.ref o :: rest) S h r S' h' := r_callV [] hd hl h2 hI ho hc rfl hst hC hpre2 K
theorem r_S0 {idx : Nat} {M2 : mMe} {rest : List Value} {S1 : mSh} {h1 : mHp} {r1 : Option Value} (hd : decode M.2.1 pc = .ok (.invokestatic idx, 3)) (hl : Cond.methodLink M.1.cls idx M2.1 ∈ mWd) (h2 : mK2 M2 0) (hI : Cond.static M2.1 ∈ mWd) (hst : (rest.map Value.category).sum ≤ 8) (hC : CC X d M2 [] S h r1 S1 h1) (hpre2 : S1 <+: S') (K : JJ X M (d + 1) (pc + 3) L (r1.toList ++ rest) S1 h1 r S' h') : JJ X M (d + 1) pc L (rest) S h r S' h' := r_callS [] hd hl h2 hI rfl hst hC hpre2 K
theorem r_SN0 {idx : Nat} {M2 : mMe} {rest : List Value} {S1 : mSh} {h1 : mHp} {r1 : Option Value} (hd : decode M.2.1 pc = .ok (.invokestatic idx, 3)) (hl : (M.1.cls, idx, M2.1, "DutyOnLeft") ∈ mNest) (h2 : mK2 M2 0) (hI : Cond.static M2.1 ∈ mWd) (hst : (rest.map Value.category).sum ≤ 8) (hC : CC X d M2 [] S h r1 S1 h1) (hpre2 : S1 <+: S') (K : JJ X M (d + 1) (pc + 3) L (r1.toList ++ rest) S1 h1 r S' h') : JJ X M (d + 1) pc L (rest) S h r S' h' := r_callSN [] hd hl h2 hI rfl hst hC hpre2 K
theorem r_V1 {idx o t nt : Nat} {M2 : mMe} {v0 : Value} {rest : List Value} {S1 : mSh} {h1 : mHp} {r1 : Option Value} (hd : decode M.2.1 pc = .ok (.invokevirtual idx, 3)) (hl : Cond.methodLink M.1.cls idx M2.1 ∈ mWd) (h2 : mK2 M2 1) (hI : mKI M2) (ho : mSg S o = some (t, nt)) (hc : ∃ T, vwCl[t]? = some (M2.1.cls, T, nt)) (hst : (rest.map Value.category).sum ≤ 8) (hC : CC X d M2 (.ref o :: [v0]) S h r1 S1 h1) (hpre2 : S1 <+: S') (K : JJ X M (d + 1) (pc + 3) L (r1.toList ++ rest) S1 h1 r S' h') : JJ X M (d + 1) pc L (v0 :: .ref o :: rest) S h r S' h' := r_callV [v0] hd hl h2 hI ho hc rfl hst hC hpre2 K
theorem r_S1 {idx : Nat} {M2 : mMe} {v0 : Value} {rest : List Value} {S1 : mSh} {h1 : mHp} {r1 : Option Value} (hd : decode M.2.1 pc = .ok (.invokestatic idx, 3)) (hl : Cond.methodLink M.1.cls idx M2.1 ∈ mWd) (h2 : mK2 M2 1) (hI : Cond.static M2.1 ∈ mWd) (hst : (rest.map Value.category).sum ≤ 8) (hC : CC X d M2 [v0] S h r1 S1 h1) (hpre2 : S1 <+: S') (K : JJ X M (d + 1) (pc + 3) L (r1.toList ++ rest) S1 h1 r S' h') : JJ X M (d + 1) pc L (v0 :: rest) S h r S' h' := r_callS [v0] hd hl h2 hI rfl hst hC hpre2 K
theorem r_SN1 {idx : Nat} {M2 : mMe} {v0 : Value} {rest : List Value} {S1 : mSh} {h1 : mHp} {r1 : Option Value} (hd : decode M.2.1 pc = .ok (.invokestatic idx, 3)) (hl : (M.1.cls, idx, M2.1, "DutyOnLeft") ∈ mNest) (h2 : mK2 M2 1) (hI : Cond.static M2.1 ∈ mWd) (hst : (rest.map Value.category).sum ≤ 8) (hC : CC X d M2 [v0] S h r1 S1 h1) (hpre2 : S1 <+: S') (K : JJ X M (d + 1) (pc + 3) L (r1.toList ++ rest) S1 h1 r S' h') : JJ X M (d + 1) pc L (v0 :: rest) S h r S' h' := r_callSN [v0] hd hl h2 hI rfl hst hC hpre2 K
theorem r_V2 {idx o t nt : Nat} {M2 : mMe} {v0 v1 : Value} {rest : List Value} {S1 : mSh} {h1 : mHp} {r1 : Option Value} (hd : decode M.2.1 pc = .ok (.invokevirtual idx, 3)) (hl : Cond.methodLink M.1.cls idx M2.1 ∈ mWd) (h2 : mK2 M2 2) (hI : mKI M2) (ho : mSg S o = some (t, nt)) (hc : ∃ T, vwCl[t]? = some (M2.1.cls, T, nt)) (hst : (rest.map Value.category).sum ≤ 8) (hC : CC X d M2 (.ref o :: [v0, v1]) S h r1 S1 h1) (hpre2 : S1 <+: S') (K : JJ X M (d + 1) (pc + 3) L (r1.toList ++ rest) S1 h1 r S' h') : JJ X M (d + 1) pc L (v1 :: v0 :: .ref o :: rest) S h r S' h' := r_callV [v0, v1] hd hl h2 hI ho hc rfl hst hC hpre2 K
theorem r_S2 {idx : Nat} {M2 : mMe} {v0 v1 : Value} {rest : List Value} {S1 : mSh} {h1 : mHp} {r1 : Option Value} (hd : decode M.2.1 pc = .ok (.invokestatic idx, 3)) (hl : Cond.methodLink M.1.cls idx M2.1 ∈ mWd) (h2 : mK2 M2 2) (hI : Cond.static M2.1 ∈ mWd) (hst : (rest.map Value.category).sum ≤ 8) (hC : CC X d M2 [v0, v1] S h r1 S1 h1) (hpre2 : S1 <+: S') (K : JJ X M (d + 1) (pc + 3) L (r1.toList ++ rest) S1 h1 r S' h') : JJ X M (d + 1) pc L (v1 :: v0 :: rest) S h r S' h' := r_callS [v0, v1] hd hl h2 hI rfl hst hC hpre2 K
theorem r_SN2 {idx : Nat} {M2 : mMe} {v0 v1 : Value} {rest : List Value} {S1 : mSh} {h1 : mHp} {r1 : Option Value} (hd : decode M.2.1 pc = .ok (.invokestatic idx, 3)) (hl : (M.1.cls, idx, M2.1, "DutyOnLeft") ∈ mNest) (h2 : mK2 M2 2) (hI : Cond.static M2.1 ∈ mWd) (hst : (rest.map Value.category).sum ≤ 8) (hC : CC X d M2 [v0, v1] S h r1 S1 h1) (hpre2 : S1 <+: S') (K : JJ X M (d + 1) (pc + 3) L (r1.toList ++ rest) S1 h1 r S' h') : JJ X M (d + 1) pc L (v1 :: v0 :: rest) S h r S' h' := r_callSN [v0, v1] hd hl h2 hI rfl hst hC hpre2 K
theorem r_V3 {idx o t nt : Nat} {M2 : mMe} {v0 v1 v2 : Value} {rest : List Value} {S1 : mSh} {h1 : mHp} {r1 : Option Value} (hd : decode M.2.1 pc = .ok (.invokevirtual idx, 3)) (hl : Cond.methodLink M.1.cls idx M2.1 ∈ mWd) (h2 : mK2 M2 3) (hI : mKI M2) (ho : mSg S o = some (t, nt)) (hc : ∃ T, vwCl[t]? = some (M2.1.cls, T, nt)) (hst : (rest.map Value.category).sum ≤ 8) (hC : CC X d M2 (.ref o :: [v0, v1, v2]) S h r1 S1 h1) (hpre2 : S1 <+: S') (K : JJ X M (d + 1) (pc + 3) L (r1.toList ++ rest) S1 h1 r S' h') : JJ X M (d + 1) pc L (v2 :: v1 :: v0 :: .ref o :: rest) S h r S' h' := r_callV [v0, v1, v2] hd hl h2 hI ho hc rfl hst hC hpre2 K
theorem r_S3 {idx : Nat} {M2 : mMe} {v0 v1 v2 : Value} {rest : List Value} {S1 : mSh} {h1 : mHp} {r1 : Option Value} (hd : decode M.2.1 pc = .ok (.invokestatic idx, 3)) (hl : Cond.methodLink M.1.cls idx M2.1 ∈ mWd) (h2 : mK2 M2 3) (hI : Cond.static M2.1 ∈ mWd) (hst : (rest.map Value.category).sum ≤ 8) (hC : CC X d M2 [v0, v1, v2] S h r1 S1 h1) (hpre2 : S1 <+: S') (K : JJ X M (d + 1) (pc + 3) L (r1.toList ++ rest) S1 h1 r S' h') : JJ X M (d + 1) pc L (v2 :: v1 :: v0 :: rest) S h r S' h' := r_callS [v0, v1, v2] hd hl h2 hI rfl hst hC hpre2 K
theorem r_SN3 {idx : Nat} {M2 : mMe} {v0 v1 v2 : Value} {rest : List Value} {S1 : mSh} {h1 : mHp} {r1 : Option Value} (hd : decode M.2.1 pc = .ok (.invokestatic idx, 3)) (hl : (M.1.cls, idx, M2.1, "DutyOnLeft") ∈ mNest) (h2 : mK2 M2 3) (hI : Cond.static M2.1 ∈ mWd) (hst : (rest.map Value.category).sum ≤ 8) (hC : CC X d M2 [v0, v1, v2] S h r1 S1 h1) (hpre2 : S1 <+: S') (K : JJ X M (d + 1) (pc + 3) L (r1.toList ++ rest) S1 h1 r S' h') : JJ X M (d + 1) pc L (v2 :: v1 :: v0 :: rest) S h r S' h' := r_callSN [v0, v1, v2] hd hl h2 hI rfl hst hC hpre2 K
theorem r_V4 {idx o t nt : Nat} {M2 : mMe} {v0 v1 v2 v3 : Value} {rest : List Value} {S1 : mSh} {h1 : mHp} {r1 : Option Value} (hd : decode M.2.1 pc = .ok (.invokevirtual idx, 3)) (hl : Cond.methodLink M.1.cls idx M2.1 ∈ mWd) (h2 : mK2 M2 4) (hI : mKI M2) (ho : mSg S o = some (t, nt)) (hc : ∃ T, vwCl[t]? = some (M2.1.cls, T, nt)) (hst : (rest.map Value.category).sum ≤ 8) (hC : CC X d M2 (.ref o :: [v0, v1, v2, v3]) S h r1 S1 h1) (hpre2 : S1 <+: S') (K : JJ X M (d + 1) (pc + 3) L (r1.toList ++ rest) S1 h1 r S' h') : JJ X M (d + 1) pc L (v3 :: v2 :: v1 :: v0 :: .ref o :: rest) S h r S' h' := r_callV [v0, v1, v2, v3] hd hl h2 hI ho hc rfl hst hC hpre2 K
theorem r_S4 {idx : Nat} {M2 : mMe} {v0 v1 v2 v3 : Value} {rest : List Value} {S1 : mSh} {h1 : mHp} {r1 : Option Value} (hd : decode M.2.1 pc = .ok (.invokestatic idx, 3)) (hl : Cond.methodLink M.1.cls idx M2.1 ∈ mWd) (h2 : mK2 M2 4) (hI : Cond.static M2.1 ∈ mWd) (hst : (rest.map Value.category).sum ≤ 8) (hC : CC X d M2 [v0, v1, v2, v3] S h r1 S1 h1) (hpre2 : S1 <+: S') (K : JJ X M (d + 1) (pc + 3) L (r1.toList ++ rest) S1 h1 r S' h') : JJ X M (d + 1) pc L (v3 :: v2 :: v1 :: v0 :: rest) S h r S' h' := r_callS [v0, v1, v2, v3] hd hl h2 hI rfl hst hC hpre2 K
theorem r_SN4 {idx : Nat} {M2 : mMe} {v0 v1 v2 v3 : Value} {rest : List Value} {S1 : mSh} {h1 : mHp} {r1 : Option Value} (hd : decode M.2.1 pc = .ok (.invokestatic idx, 3)) (hl : (M.1.cls, idx, M2.1, "DutyOnLeft") ∈ mNest) (h2 : mK2 M2 4) (hI : Cond.static M2.1 ∈ mWd) (hst : (rest.map Value.category).sum ≤ 8) (hC : CC X d M2 [v0, v1, v2, v3] S h r1 S1 h1) (hpre2 : S1 <+: S') (K : JJ X M (d + 1) (pc + 3) L (r1.toList ++ rest) S1 h1 r S' h') : JJ X M (d + 1) pc L (v3 :: v2 :: v1 :: v0 :: rest) S h r S' h' := r_callSN [v0, v1, v2, v3] hd hl h2 hI rfl hst hC hpre2 K
theorem r_V5 {idx o t nt : Nat} {M2 : mMe} {v0 v1 v2 v3 v4 : Value} {rest : List Value} {S1 : mSh} {h1 : mHp} {r1 : Option Value} (hd : decode M.2.1 pc = .ok (.invokevirtual idx, 3)) (hl : Cond.methodLink M.1.cls idx M2.1 ∈ mWd) (h2 : mK2 M2 5) (hI : mKI M2) (ho : mSg S o = some (t, nt)) (hc : ∃ T, vwCl[t]? = some (M2.1.cls, T, nt)) (hst : (rest.map Value.category).sum ≤ 8) (hC : CC X d M2 (.ref o :: [v0, v1, v2, v3, v4]) S h r1 S1 h1) (hpre2 : S1 <+: S') (K : JJ X M (d + 1) (pc + 3) L (r1.toList ++ rest) S1 h1 r S' h') : JJ X M (d + 1) pc L (v4 :: v3 :: v2 :: v1 :: v0 :: .ref o :: rest) S h r S' h' := r_callV [v0, v1, v2, v3, v4] hd hl h2 hI ho hc rfl hst hC hpre2 K
theorem r_S5 {idx : Nat} {M2 : mMe} {v0 v1 v2 v3 v4 : Value} {rest : List Value} {S1 : mSh} {h1 : mHp} {r1 : Option Value} (hd : decode M.2.1 pc = .ok (.invokestatic idx, 3)) (hl : Cond.methodLink M.1.cls idx M2.1 ∈ mWd) (h2 : mK2 M2 5) (hI : Cond.static M2.1 ∈ mWd) (hst : (rest.map Value.category).sum ≤ 8) (hC : CC X d M2 [v0, v1, v2, v3, v4] S h r1 S1 h1) (hpre2 : S1 <+: S') (K : JJ X M (d + 1) (pc + 3) L (r1.toList ++ rest) S1 h1 r S' h') : JJ X M (d + 1) pc L (v4 :: v3 :: v2 :: v1 :: v0 :: rest) S h r S' h' := r_callS [v0, v1, v2, v3, v4] hd hl h2 hI rfl hst hC hpre2 K
theorem r_SN5 {idx : Nat} {M2 : mMe} {v0 v1 v2 v3 v4 : Value} {rest : List Value} {S1 : mSh} {h1 : mHp} {r1 : Option Value} (hd : decode M.2.1 pc = .ok (.invokestatic idx, 3)) (hl : (M.1.cls, idx, M2.1, "DutyOnLeft") ∈ mNest) (h2 : mK2 M2 5) (hI : Cond.static M2.1 ∈ mWd) (hst : (rest.map Value.category).sum ≤ 8) (hC : CC X d M2 [v0, v1, v2, v3, v4] S h r1 S1 h1) (hpre2 : S1 <+: S') (K : JJ X M (d + 1) (pc + 3) L (r1.toList ++ rest) S1 h1 r S' h') : JJ X M (d + 1) pc L (v4 :: v3 :: v2 :: v1 :: v0 :: rest) S h r S' h' := r_callSN [v0, v1, v2, v3, v4] hd hl h2 hI rfl hst hC hpre2 K
theorem r_S6 {idx : Nat} {M2 : mMe} {v0 v1 v2 v3 v4 v5 : Value} {rest : List Value} {S1 : mSh} {h1 : mHp} {r1 : Option Value} (hd : decode M.2.1 pc = .ok (.invokestatic idx, 3)) (hl : Cond.methodLink M.1.cls idx M2.1 ∈ mWd) (h2 : mK2 M2 6) (hI : Cond.static M2.1 ∈ mWd) (hst : (rest.map Value.category).sum ≤ 8) (hC : CC X d M2 [v0, v1, v2, v3, v4, v5] S h r1 S1 h1) (hpre2 : S1 <+: S') (K : JJ X M (d + 1) (pc + 3) L (r1.toList ++ rest) S1 h1 r S' h') : JJ X M (d + 1) pc L (v5 :: v4 :: v3 :: v2 :: v1 :: v0 :: rest) S h r S' h' := r_callS [v0, v1, v2, v3, v4, v5] hd hl h2 hI rfl hst hC hpre2 K
theorem r_SN6 {idx : Nat} {M2 : mMe} {v0 v1 v2 v3 v4 v5 : Value} {rest : List Value} {S1 : mSh} {h1 : mHp} {r1 : Option Value} (hd : decode M.2.1 pc = .ok (.invokestatic idx, 3)) (hl : (M.1.cls, idx, M2.1, "DutyOnLeft") ∈ mNest) (h2 : mK2 M2 6) (hI : Cond.static M2.1 ∈ mWd) (hst : (rest.map Value.category).sum ≤ 8) (hC : CC X d M2 [v0, v1, v2, v3, v4, v5] S h r1 S1 h1) (hpre2 : S1 <+: S') (K : JJ X M (d + 1) (pc + 3) L (r1.toList ++ rest) S1 h1 r S' h') : JJ X M (d + 1) pc L (v5 :: v4 :: v3 :: v2 :: v1 :: v0 :: rest) S h r S' h' := r_callSN [v0, v1, v2, v3, v4, v5] hd hl h2 hI rfl hst hC hpre2 K
end
end
section
/-! ===== methods, links: by program out of the tables ===== -/
theorem goodWord_of {w : Cond} (h : (w.onTables && w.keeps) = true ∨ ∃ ty, w = .arrayClass ty) : goodWord w = true := by
  rcases h with h | ⟨ty, rfl⟩
  · cases w <;> first | exact h | rfl
  · rfl
theorem u_TX1 : ∀ w ∈ u_ws RX1 TX1 12, w ∈ mWd := fun w hw => (goodIn_r (big := lw_tbl) (u_ws RX1 TX1 12) [216, 218, 220, 222, 224, 226, 228, 230, 232, 234, 236, 238] (by decide +kernel) (by decide +kernel) w hw).elim (fun a b => List.mem_filter.mpr ⟨a, goodWord_of b⟩)
theorem u_TX3 : ∀ w ∈ u_ws RX3 TX3 3, w ∈ mWd := fun w hw => (goodIn_r (big := lw_tbl) (u_ws RX3 TX3 3) [168, 170, 172] (by decide +kernel) (by decide +kernel) w hw).elim (fun a b => List.mem_filter.mpr ⟨a, goodWord_of b⟩)
theorem u_TX4 : ∀ w ∈ u_ws RX4 TX4 2, w ∈ mWd := fun w hw => (goodIn_r (big := lw_tbl) (u_ws RX4 TX4 2) [183, 185] (by decide +kernel) (by decide +kernel) w hw).elim (fun a b => List.mem_filter.mpr ⟨a, goodWord_of b⟩)
theorem u_TX5 : ∀ w ∈ u_ws RX5 TX5 3, w ∈ mWd := fun w hw => (goodIn_r (big := lw_tbl) (u_ws RX5 TX5 3) [151, 153, 155] (by decide +kernel) (by decide +kernel) w hw).elim (fun a b => List.mem_filter.mpr ⟨a, goodWord_of b⟩)
theorem u_TX6 : ∀ w ∈ u_ws RX6 TX6 1, w ∈ mWd := fun w hw => (goodIn_r (big := lw_tbl) (u_ws RX6 TX6 1) [98] (by decide +kernel) (by decide +kernel) w hw).elim (fun a b => List.mem_filter.mpr ⟨a, goodWord_of b⟩)
theorem u_TX8 : ∀ w ∈ u_ws RX8 TX8 7, w ∈ mWd := fun w hw => (goodIn_r (big := lw_tbl) (u_ws RX8 TX8 7) [120, 122, 124, 126, 128, 130, 132] (by decide +kernel) (by decide +kernel) w hw).elim (fun a b => List.mem_filter.mpr ⟨a, goodWord_of b⟩)
theorem u_TX9 : ∀ w ∈ u_ws RX9 TX9 2, w ∈ mWd := fun w hw => (goodIn_r (big := lw_tbl) (u_ws RX9 TX9 2) [85, 87] (by decide +kernel) (by decide +kernel) w hw).elim (fun a b => List.mem_filter.mpr ⟨a, goodWord_of b⟩)
theorem u_TX11 : ∀ w ∈ u_ws RX11 TX11 11, w ∈ mWd := fun w hw => (goodIn_r (big := lw_tbl) (u_ws RX11 TX11 11) [387, 389, 391, 393, 395, 397, 399, 401, 403, 405, 407] (by decide +kernel) (by decide +kernel) w hw).elim (fun a b => List.mem_filter.mpr ⟨a, goodWord_of b⟩)
theorem u_TX12 : ∀ w ∈ u_ws RX12 TX12 17, w ∈ mWd := fun w hw => (goodIn_r (big := lw_tbl) (u_ws RX12 TX12 17) [864, 866, 868, 870, 872, 874, 876, 878, 880, 882, 884, 886, 888, 890, 892, 894, 896] (by decide +kernel) (by decide +kernel) w hw).elim (fun a b => List.mem_filter.mpr ⟨a, goodWord_of b⟩)
def M_X0_worth : mMe := (yX0_worth, cX0_worth, 4, (some .int))
theorem k_X0_worth : mK2 M_X0_worth 2 := ⟨mWd_at 661 (by decide +kernel) rfl, mWd_at 63 (by decide +kernel) rfl, ⟨by decide, by decide, by decide +kernel⟩, by decide⟩
theorem s_X0_worth : Cond.static M_X0_worth.1 ∈ mWd := mWd_at 660 (by decide +kernel) rfl
def M_X0_load : mMe := (yX0_load, cX0_load, 4, (some .int))
theorem k_X0_load : mK2 M_X0_load 2 := ⟨mWd_at 509 (by decide +kernel) rfl, mWd_at 63 (by decide +kernel) rfl, ⟨by decide, by decide, by decide +kernel⟩, by decide⟩
theorem s_X0_load : Cond.static M_X0_load.1 ∈ mWd := mWd_at 508 (by decide +kernel) rfl
def M_X0_loveLeft : mMe := (yX0_loveLeft, cX0_loveLeft, 5, (some .int))
theorem k_X0_loveLeft : mK2 M_X0_loveLeft 3 := ⟨mWd_at 571 (by decide +kernel) rfl, mWd_at 63 (by decide +kernel) rfl, ⟨by decide, by decide, by decide +kernel⟩, by decide⟩
theorem s_X0_loveLeft : Cond.static M_X0_loveLeft.1 ∈ mWd := mWd_at 570 (by decide +kernel) rfl
def M_X0_onLeft : mMe := (yX0_onLeft, cX0_onLeft, 4, (some .int))
theorem k_X0_onLeft : mK2 M_X0_onLeft 3 := ⟨mWd_at 575 (by decide +kernel) rfl, mWd_at 63 (by decide +kernel) rfl, ⟨by decide, by decide, by decide +kernel⟩, by decide⟩
theorem s_X0_onLeft : Cond.static M_X0_onLeft.1 ∈ mWd := mWd_at 574 (by decide +kernel) rfl
def M_X0_left : mMe := (yX0_left, cX0_left, 3, (some .int))
theorem k_X0_left : mK2 M_X0_left 3 := ⟨mWd_at 606 (by decide +kernel) rfl, mWd_at 63 (by decide +kernel) rfl, ⟨by decide, by decide, by decide +kernel⟩, by decide⟩
theorem s_X0_left : Cond.static M_X0_left.1 ∈ mWd := mWd_at 605 (by decide +kernel) rfl
def M_X0_goodsLeft : mMe := (yX0_goodsLeft, cX0_goodsLeft, 5, (some .int))
theorem k_X0_goodsLeft : mK2 M_X0_goodsLeft 3 := ⟨mWd_at 560 (by decide +kernel) rfl, mWd_at 63 (by decide +kernel) rfl, ⟨by decide, by decide, by decide +kernel⟩, by decide⟩
theorem s_X0_goodsLeft : Cond.static M_X0_goodsLeft.1 ∈ mWd := mWd_at 559 (by decide +kernel) rfl
def M_X0_owed : mMe := (yX0_owed, cX0_owed, 3, (some .int))
theorem k_X0_owed : mK2 M_X0_owed 3 := ⟨mWd_at 557 (by decide +kernel) rfl, mWd_at 63 (by decide +kernel) rfl, ⟨by decide, by decide, by decide +kernel⟩, by decide⟩
theorem s_X0_owed : Cond.static M_X0_owed.1 ∈ mWd := mWd_at 556 (by decide +kernel) rfl
def M_X0_owedWith : mMe := (yX0_owedWith, cX0_owedWith, 5, (some .int))
theorem k_X0_owedWith : mK2 M_X0_owedWith 4 := ⟨mWd_at 603 (by decide +kernel) rfl, mWd_at 63 (by decide +kernel) rfl, ⟨by decide, by decide, by decide +kernel⟩, by decide⟩
theorem s_X0_owedWith : Cond.static M_X0_owedWith.1 ∈ mWd := mWd_at 602 (by decide +kernel) rfl
def M_X0_owedAmong : mMe := (yX0_owedAmong, cX0_owedAmong, 4, (some .int))
theorem k_X0_owedAmong : mK2 M_X0_owedAmong 4 := ⟨mWd_at 696 (by decide +kernel) rfl, mWd_at 63 (by decide +kernel) rfl, ⟨by decide, by decide, by decide +kernel⟩, by decide⟩
theorem s_X0_owedAmong : Cond.static M_X0_owedAmong.1 ∈ mWd := mWd_at 695 (by decide +kernel) rfl
def M_X0_owedPacking : mMe := (yX0_owedPacking, cX0_owedPacking, 5, (some .int))
theorem k_X0_owedPacking : mK2 M_X0_owedPacking 4 := ⟨mWd_at 658 (by decide +kernel) rfl, mWd_at 63 (by decide +kernel) rfl, ⟨by decide, by decide, by decide +kernel⟩, by decide⟩
theorem s_X0_owedPacking : Cond.static M_X0_owedPacking.1 ∈ mWd := mWd_at 657 (by decide +kernel) rfl
def M_X0_bestLoad : mMe := (yX0_bestLoad, cX0_bestLoad, 8, (some .int))
theorem k_X0_bestLoad : mK2 M_X0_bestLoad 3 := ⟨mWd_at 653 (by decide +kernel) rfl, mWd_at 63 (by decide +kernel) rfl, ⟨by decide, by decide, by decide +kernel⟩, by decide⟩
theorem s_X0_bestLoad : Cond.static M_X0_bestLoad.1 ∈ mWd := mWd_at 652 (by decide +kernel) rfl
def M_X1_init : mMe := (yX1_init, cX1_init, 1, none)
theorem k_X1_init : mK2 M_X1_init 0 := ⟨mWd_at 192 (by decide +kernel) rfl, mWd_at 56 (by decide +kernel) rfl, ⟨by decide, by decide, by decide +kernel⟩, by decide⟩
theorem i_X1_init : Cond.instanceMethod M_X1_init.1 ∈ mWd := mWd_at 191 (by decide +kernel) rfl
def M_X1_empty : mMe := (yX1_empty, cX1_empty, 1, none)
theorem k_X1_empty : mK2 M_X1_empty 0 := ⟨mWd_at 301 (by decide +kernel) rfl, mWd_at 56 (by decide +kernel) rfl, ⟨by decide, by decide, by decide +kernel⟩, by decide⟩
theorem i_X1_empty : mKI M_X1_empty := ⟨mWd_at 299 (by decide +kernel) rfl, mWd_at 300 (by decide +kernel) rfl⟩
def M_X1_addPerson : mMe := (yX1_addPerson, cX1_addPerson, 4, (some .boolean))
theorem k_X1_addPerson : mK2 M_X1_addPerson 3 := ⟨mWd_at 332 (by decide +kernel) rfl, mWd_at 56 (by decide +kernel) rfl, ⟨by decide, by decide, by decide +kernel⟩, by decide⟩
theorem i_X1_addPerson : mKI M_X1_addPerson := ⟨mWd_at 330 (by decide +kernel) rfl, mWd_at 331 (by decide +kernel) rfl⟩
def M_X1_addGood : mMe := (yX1_addGood, cX1_addGood, 6, (some .boolean))
theorem k_X1_addGood : mK2 M_X1_addGood 4 := ⟨mWd_at 337 (by decide +kernel) rfl, mWd_at 56 (by decide +kernel) rfl, ⟨by decide, by decide, by decide +kernel⟩, by decide⟩
theorem i_X1_addGood : mKI M_X1_addGood := ⟨mWd_at 335 (by decide +kernel) rfl, mWd_at 336 (by decide +kernel) rfl⟩
def M_X1_setLove : mMe := (yX1_setLove, cX1_setLove, 4, (some .boolean))
theorem k_X1_setLove : mK2 M_X1_setLove 3 := ⟨mWd_at 348 (by decide +kernel) rfl, mWd_at 56 (by decide +kernel) rfl, ⟨by decide, by decide, by decide +kernel⟩, by decide⟩
theorem i_X1_setLove : mKI M_X1_setLove := ⟨mWd_at 346 (by decide +kernel) rfl, mWd_at 347 (by decide +kernel) rfl⟩
def M_X1_setTenths : mMe := (yX1_setTenths, cX1_setTenths, 2, (some .boolean))
theorem k_X1_setTenths : mK2 M_X1_setTenths 1 := ⟨mWd_at 352 (by decide +kernel) rfl, mWd_at 56 (by decide +kernel) rfl, ⟨by decide, by decide, by decide +kernel⟩, by decide⟩
theorem i_X1_setTenths : mKI M_X1_setTenths := ⟨mWd_at 350 (by decide +kernel) rfl, mWd_at 351 (by decide +kernel) rfl⟩
def M_X1_isPerson : mMe := (yX1_isPerson, cX1_isPerson, 2, (some .boolean))
theorem k_X1_isPerson : mK2 M_X1_isPerson 1 := ⟨mWd_at 341 (by decide +kernel) rfl, mWd_at 56 (by decide +kernel) rfl, ⟨by decide, by decide, by decide +kernel⟩, by decide⟩
theorem i_X1_isPerson : mKI M_X1_isPerson := ⟨mWd_at 339 (by decide +kernel) rfl, mWd_at 340 (by decide +kernel) rfl⟩
def M_X1_isGood : mMe := (yX1_isGood, cX1_isGood, 2, (some .boolean))
theorem k_X1_isGood : mK2 M_X1_isGood 1 := ⟨mWd_at 364 (by decide +kernel) rfl, mWd_at 56 (by decide +kernel) rfl, ⟨by decide, by decide, by decide +kernel⟩, by decide⟩
theorem i_X1_isGood : mKI M_X1_isGood := ⟨mWd_at 362 (by decide +kernel) rfl, mWd_at 363 (by decide +kernel) rfl⟩
def M_X1_kindOf : mMe := (yX1_kindOf, cX1_kindOf, 2, (some .int))
theorem k_X1_kindOf : mK2 M_X1_kindOf 1 := ⟨mWd_at 443 (by decide +kernel) rfl, mWd_at 56 (by decide +kernel) rfl, ⟨by decide, by decide, by decide +kernel⟩, by decide⟩
theorem i_X1_kindOf : mKI M_X1_kindOf := ⟨mWd_at 441 (by decide +kernel) rfl, mWd_at 442 (by decide +kernel) rfl⟩
def M_X1_purseOf : mMe := (yX1_purseOf, cX1_purseOf, 2, (some .int))
theorem k_X1_purseOf : mK2 M_X1_purseOf 1 := ⟨mWd_at 370 (by decide +kernel) rfl, mWd_at 56 (by decide +kernel) rfl, ⟨by decide, by decide, by decide +kernel⟩, by decide⟩
theorem i_X1_purseOf : mKI M_X1_purseOf := ⟨mWd_at 368 (by decide +kernel) rfl, mWd_at 369 (by decide +kernel) rfl⟩
def M_X1_strengthOf : mMe := (yX1_strengthOf, cX1_strengthOf, 2, (some .int))
theorem k_X1_strengthOf : mK2 M_X1_strengthOf 1 := ⟨mWd_at 452 (by decide +kernel) rfl, mWd_at 56 (by decide +kernel) rfl, ⟨by decide, by decide, by decide +kernel⟩, by decide⟩
theorem i_X1_strengthOf : mKI M_X1_strengthOf := ⟨mWd_at 450 (by decide +kernel) rfl, mWd_at 451 (by decide +kernel) rfl⟩
def M_X1_loveOf : mMe := (yX1_loveOf, cX1_loveOf, 3, (some .int))
theorem k_X1_loveOf : mK2 M_X1_loveOf 2 := ⟨mWd_at 497 (by decide +kernel) rfl, mWd_at 56 (by decide +kernel) rfl, ⟨by decide, by decide, by decide +kernel⟩, by decide⟩
theorem i_X1_loveOf : mKI M_X1_loveOf := ⟨mWd_at 495 (by decide +kernel) rfl, mWd_at 496 (by decide +kernel) rfl⟩
def M_X1_sortOf : mMe := (yX1_sortOf, cX1_sortOf, 2, (some .int))
theorem k_X1_sortOf : mK2 M_X1_sortOf 1 := ⟨mWd_at 469 (by decide +kernel) rfl, mWd_at 56 (by decide +kernel) rfl, ⟨by decide, by decide, by decide +kernel⟩, by decide⟩
theorem i_X1_sortOf : mKI M_X1_sortOf := ⟨mWd_at 467 (by decide +kernel) rfl, mWd_at 468 (by decide +kernel) rfl⟩
def M_X1_firstOwnerOf : mMe := (yX1_firstOwnerOf, cX1_firstOwnerOf, 2, (some .int))
theorem k_X1_firstOwnerOf : mK2 M_X1_firstOwnerOf 1 := ⟨mWd_at 360 (by decide +kernel) rfl, mWd_at 56 (by decide +kernel) rfl, ⟨by decide, by decide, by decide +kernel⟩, by decide⟩
theorem i_X1_firstOwnerOf : mKI M_X1_firstOwnerOf := ⟨mWd_at 358 (by decide +kernel) rfl, mWd_at 359 (by decide +kernel) rfl⟩
def M_X1_worthOf : mMe := (yX1_worthOf, cX1_worthOf, 2, (some .int))
theorem k_X1_worthOf : mK2 M_X1_worthOf 1 := ⟨mWd_at 477 (by decide +kernel) rfl, mWd_at 56 (by decide +kernel) rfl, ⟨by decide, by decide, by decide +kernel⟩, by decide⟩
theorem i_X1_worthOf : mKI M_X1_worthOf := ⟨mWd_at 475 (by decide +kernel) rfl, mWd_at 476 (by decide +kernel) rfl⟩
def M_X1_heavyOf : mMe := (yX1_heavyOf, cX1_heavyOf, 2, (some .int))
theorem k_X1_heavyOf : mK2 M_X1_heavyOf 1 := ⟨mWd_at 481 (by decide +kernel) rfl, mWd_at 56 (by decide +kernel) rfl, ⟨by decide, by decide, by decide +kernel⟩, by decide⟩
theorem i_X1_heavyOf : mKI M_X1_heavyOf := ⟨mWd_at 479 (by decide +kernel) rfl, mWd_at 480 (by decide +kernel) rfl⟩
def M_X1_countOf : mMe := (yX1_countOf, cX1_countOf, 2, (some .int))
theorem k_X1_countOf : mK2 M_X1_countOf 1 := ⟨mWd_at 568 (by decide +kernel) rfl, mWd_at 56 (by decide +kernel) rfl, ⟨by decide, by decide, by decide +kernel⟩, by decide⟩
theorem i_X1_countOf : mKI M_X1_countOf := ⟨mWd_at 566 (by decide +kernel) rfl, mWd_at 567 (by decide +kernel) rfl⟩
def M_X1_counted : mMe := (yX1_counted, cX1_counted, 2, (some .int))
theorem k_X1_counted : mK2 M_X1_counted 2 := ⟨mWd_at 344 (by decide +kernel) rfl, mWd_at 56 (by decide +kernel) rfl, ⟨by decide, by decide, by decide +kernel⟩, by decide⟩
theorem s_X1_counted : Cond.static M_X1_counted.1 ∈ mWd := mWd_at 343 (by decide +kernel) rfl
def M_X1_isLonelyGrandmother : mMe := (yX1_isLonelyGrandmother, cX1_isLonelyGrandmother, 3, (some .boolean))
theorem k_X1_isLonelyGrandmother : mK2 M_X1_isLonelyGrandmother 1 := ⟨mWd_at 553 (by decide +kernel) rfl, mWd_at 56 (by decide +kernel) rfl, ⟨by decide, by decide, by decide +kernel⟩, by decide⟩
theorem i_X1_isLonelyGrandmother : mKI M_X1_isLonelyGrandmother := ⟨mWd_at 551 (by decide +kernel) rfl, mWd_at 552 (by decide +kernel) rfl⟩
def M_X2_feeToLeave : mMe := (yX2_feeToLeave, cX2_feeToLeave, 4, (some .int))
theorem k_X2_feeToLeave : mK2 M_X2_feeToLeave 3 := ⟨mWd_at 548 (by decide +kernel) rfl, mWd_at 64 (by decide +kernel) rfl, ⟨by decide, by decide, by decide +kernel⟩, by decide⟩
theorem s_X2_feeToLeave : Cond.static M_X2_feeToLeave.1 ∈ mWd := mWd_at 547 (by decide +kernel) rfl
def M_X2_feeToReturn : mMe := (yX2_feeToReturn, cX2_feeToReturn, 4, (some .int))
theorem k_X2_feeToReturn : mK2 M_X2_feeToReturn 3 := ⟨mWd_at 614 (by decide +kernel) rfl, mWd_at 64 (by decide +kernel) rfl, ⟨by decide, by decide, by decide +kernel⟩, by decide⟩
theorem s_X2_feeToReturn : Cond.static M_X2_feeToReturn.1 ∈ mWd := mWd_at 613 (by decide +kernel) rfl
def M_X2_depart : mMe := (yX2_depart, cX2_depart, 3, none)
theorem k_X2_depart : mK2 M_X2_depart 3 := ⟨mWd_at 581 (by decide +kernel) rfl, mWd_at 64 (by decide +kernel) rfl, ⟨by decide, by decide, by decide +kernel⟩, by decide⟩
theorem s_X2_depart : Cond.static M_X2_depart.1 ∈ mWd := mWd_at 580 (by decide +kernel) rfl
def M_X2_arrive : mMe := (yX2_arrive, cX2_arrive, 3, none)
theorem k_X2_arrive : mK2 M_X2_arrive 3 := ⟨mWd_at 622 (by decide +kernel) rfl, mWd_at 64 (by decide +kernel) rfl, ⟨by decide, by decide, by decide +kernel⟩, by decide⟩
theorem s_X2_arrive : Cond.static M_X2_arrive.1 ∈ mWd := mWd_at 621 (by decide +kernel) rfl
def M_X2_cross : mMe := (yX2_cross, cX2_cross, 5, (some .int))
theorem k_X2_cross : mK2 M_X2_cross 3 := ⟨mWd_at 792 (by decide +kernel) rfl, mWd_at 64 (by decide +kernel) rfl, ⟨by decide, by decide, by decide +kernel⟩, by decide⟩
theorem s_X2_cross : Cond.static M_X2_cross.1 ∈ mWd := mWd_at 791 (by decide +kernel) rfl
def M_X3_init : mMe := (yX3_init, cX3_init, 1, none)
theorem k_X3_init : mK2 M_X3_init 0 := ⟨mWd_at 162 (by decide +kernel) rfl, mWd_at 54 (by decide +kernel) rfl, ⟨by decide, by decide, by decide +kernel⟩, by decide⟩
theorem i_X3_init : Cond.instanceMethod M_X3_init.1 ∈ mWd := mWd_at 161 (by decide +kernel) rfl
def M_X3_add : mMe := (yX3_add, cX3_add, 3, (some .boolean))
theorem k_X3_add : mK2 M_X3_add 2 := ⟨mWd_at 716 (by decide +kernel) rfl, mWd_at 54 (by decide +kernel) rfl, ⟨by decide, by decide, by decide +kernel⟩, by decide⟩
theorem i_X3_add : mKI M_X3_add := ⟨mWd_at 714 (by decide +kernel) rfl, mWd_at 715 (by decide +kernel) rfl⟩
def M_X3_empty : mMe := (yX3_empty, cX3_empty, 1, none)
theorem k_X3_empty : mK2 M_X3_empty 0 := ⟨mWd_at 434 (by decide +kernel) rfl, mWd_at 54 (by decide +kernel) rfl, ⟨by decide, by decide, by decide +kernel⟩, by decide⟩
theorem i_X3_empty : mKI M_X3_empty := ⟨mWd_at 432 (by decide +kernel) rfl, mWd_at 433 (by decide +kernel) rfl⟩
def M_X3_holds : mMe := (yX3_holds, cX3_holds, 2, (some .boolean))
theorem k_X3_holds : mK2 M_X3_holds 1 := ⟨mWd_at 729 (by decide +kernel) rfl, mWd_at 54 (by decide +kernel) rfl, ⟨by decide, by decide, by decide +kernel⟩, by decide⟩
theorem i_X3_holds : mKI M_X3_holds := ⟨mWd_at 727 (by decide +kernel) rfl, mWd_at 728 (by decide +kernel) rfl⟩
def M_X3_swearer : mMe := (yX3_swearer, cX3_swearer, 2, (some .int))
theorem k_X3_swearer : mK2 M_X3_swearer 1 := ⟨mWd_at 733 (by decide +kernel) rfl, mWd_at 54 (by decide +kernel) rfl, ⟨by decide, by decide, by decide +kernel⟩, by decide⟩
theorem i_X3_swearer : mKI M_X3_swearer := ⟨mWd_at 731 (by decide +kernel) rfl, mWd_at 732 (by decide +kernel) rfl⟩
def M_X3_sum : mMe := (yX3_sum, cX3_sum, 2, (some .int))
theorem k_X3_sum : mK2 M_X3_sum 1 := ⟨mWd_at 738 (by decide +kernel) rfl, mWd_at 54 (by decide +kernel) rfl, ⟨by decide, by decide, by decide +kernel⟩, by decide⟩
theorem i_X3_sum : mKI M_X3_sum := ⟨mWd_at 736 (by decide +kernel) rfl, mWd_at 737 (by decide +kernel) rfl⟩
def M_X4_init : mMe := (yX4_init, cX4_init, 1, none)
theorem k_X4_init : mK2 M_X4_init 0 := ⟨mWd_at 179 (by decide +kernel) rfl, mWd_at 55 (by decide +kernel) rfl, ⟨by decide, by decide, by decide +kernel⟩, by decide⟩
theorem i_X4_init : Cond.instanceMethod M_X4_init.1 ∈ mWd := mWd_at 178 (by decide +kernel) rfl
def M_X4_reckon : mMe := (yX4_reckon, cX4_reckon, 4, none)
theorem k_X4_reckon : mK2 M_X4_reckon 2 := ⟨mWd_at 682 (by decide +kernel) rfl, mWd_at 55 (by decide +kernel) rfl, ⟨by decide, by decide, by decide +kernel⟩, by decide⟩
theorem i_X4_reckon : mKI M_X4_reckon := ⟨mWd_at 680 (by decide +kernel) rfl, mWd_at 681 (by decide +kernel) rfl⟩
def M_X4_reckonSet : mMe := (yX4_reckonSet, cX4_reckonSet, 9, none)
theorem k_X4_reckonSet : mK2 M_X4_reckonSet 3 := ⟨mWd_at 687 (by decide +kernel) rfl, mWd_at 55 (by decide +kernel) rfl, ⟨by decide, by decide, by decide +kernel⟩, by decide⟩
theorem i_X4_reckonSet : mKI M_X4_reckonSet := ⟨mWd_at 686 (by decide +kernel) rfl, mWd_at 6 (by decide +kernel) rfl⟩
def M_X4_least : mMe := (yX4_least, cX4_least, 2, (some .int))
theorem k_X4_least : mK2 M_X4_least 1 := ⟨mWd_at 692 (by decide +kernel) rfl, mWd_at 55 (by decide +kernel) rfl, ⟨by decide, by decide, by decide +kernel⟩, by decide⟩
theorem i_X4_least : mKI M_X4_least := ⟨mWd_at 690 (by decide +kernel) rfl, mWd_at 691 (by decide +kernel) rfl⟩
def M_X4_leaver : mMe := (yX4_leaver, cX4_leaver, 5, (some .int))
theorem k_X4_leaver : mK2 M_X4_leaver 2 := ⟨mWd_at 701 (by decide +kernel) rfl, mWd_at 55 (by decide +kernel) rfl, ⟨by decide, by decide, by decide +kernel⟩, by decide⟩
theorem i_X4_leaver : mKI M_X4_leaver := ⟨mWd_at 699 (by decide +kernel) rfl, mWd_at 700 (by decide +kernel) rfl⟩
def M_X5_init : mMe := (yX5_init, cX5_init, 3, none)
theorem k_X5_init : mK2 M_X5_init 1 := ⟨mWd_at 139 (by decide +kernel) rfl, mWd_at 52 (by decide +kernel) rfl, ⟨by decide, by decide, by decide +kernel⟩, by decide⟩
theorem i_X5_init : Cond.instanceMethod M_X5_init.1 ∈ mWd := mWd_at 138 (by decide +kernel) rfl
def M_X5_empty : mMe := (yX5_empty, cX5_empty, 1, none)
theorem k_X5_empty : mK2 M_X5_empty 0 := ⟨mWd_at 430 (by decide +kernel) rfl, mWd_at 52 (by decide +kernel) rfl, ⟨by decide, by decide, by decide +kernel⟩, by decide⟩
theorem i_X5_empty : mKI M_X5_empty := ⟨mWd_at 428 (by decide +kernel) rfl, mWd_at 429 (by decide +kernel) rfl⟩
def M_X5_put : mMe := (yX5_put, cX5_put, 3, none)
theorem k_X5_put : mK2 M_X5_put 1 := ⟨mWd_at 514 (by decide +kernel) rfl, mWd_at 52 (by decide +kernel) rfl, ⟨by decide, by decide, by decide +kernel⟩, by decide⟩
theorem i_X5_put : mKI M_X5_put := ⟨mWd_at 512 (by decide +kernel) rfl, mWd_at 513 (by decide +kernel) rfl⟩
def M_X5_take : mMe := (yX5_take, cX5_take, 4, (some .boolean))
theorem k_X5_take : mK2 M_X5_take 1 := ⟨mWd_at 634 (by decide +kernel) rfl, mWd_at 52 (by decide +kernel) rfl, ⟨by decide, by decide, by decide +kernel⟩, by decide⟩
theorem i_X5_take : mKI M_X5_take := ⟨mWd_at 632 (by decide +kernel) rfl, mWd_at 633 (by decide +kernel) rfl⟩
def M_X5_row : mMe := (yX5_row, cX5_row, 2, (some (.object "DutyOnLeft$Standing")))
theorem k_X5_row : mK2 M_X5_row 1 := ⟨mWd_at 518 (by decide +kernel) rfl, mWd_at 52 (by decide +kernel) rfl, ⟨by decide, by decide, by decide +kernel⟩, by decide⟩
theorem i_X5_row : mKI M_X5_row := ⟨mWd_at 517 (by decide +kernel) rfl, mWd_at 3 (by decide +kernel) rfl⟩
def M_X6_init : mMe := (yX6_init, cX6_init, 1, none)
theorem k_X6_init : mK2 M_X6_init 0 := ⟨mWd_at 95 (by decide +kernel) rfl, mWd_at 50 (by decide +kernel) rfl, ⟨by decide, by decide, by decide +kernel⟩, by decide⟩
theorem i_X6_init : Cond.instanceMethod M_X6_init.1 ∈ mWd := mWd_at 94 (by decide +kernel) rfl
def M_X6_firstFault : mMe := (yX6_firstFault, cX6_firstFault, 6, (some .int))
theorem k_X6_firstFault : mK2 M_X6_firstFault 2 := ⟨mWd_at 297 (by decide +kernel) rfl, mWd_at 50 (by decide +kernel) rfl, ⟨by decide, by decide, by decide +kernel⟩, by decide⟩
theorem i_X6_firstFault : mKI M_X6_firstFault := ⟨mWd_at 295 (by decide +kernel) rfl, mWd_at 296 (by decide +kernel) rfl⟩
def M_X6_numbersOf : mMe := (yX6_numbersOf, cX6_numbersOf, 1, (some .int))
theorem k_X6_numbersOf : mK2 M_X6_numbersOf 1 := ⟨mWd_at 311 (by decide +kernel) rfl, mWd_at 50 (by decide +kernel) rfl, ⟨by decide, by decide, by decide +kernel⟩, by decide⟩
theorem s_X6_numbersOf : Cond.static M_X6_numbersOf.1 ∈ mWd := mWd_at 310 (by decide +kernel) rfl
def M_X6_behindNumbers : mMe := (yX6_behindNumbers, cX6_behindNumbers, 7, (some .int))
theorem k_X6_behindNumbers : mK2 M_X6_behindNumbers 3 := ⟨mWd_at 315 (by decide +kernel) rfl, mWd_at 50 (by decide +kernel) rfl, ⟨by decide, by decide, by decide +kernel⟩, by decide⟩
theorem i_X6_behindNumbers : mKI M_X6_behindNumbers := ⟨mWd_at 314 (by decide +kernel) rfl, mWd_at 0 (by decide +kernel) rfl⟩
def M_X6_isFigure : mMe := (yX6_isFigure, cX6_isFigure, 1, (some .boolean))
theorem k_X6_isFigure : mK2 M_X6_isFigure 1 := ⟨mWd_at 318 (by decide +kernel) rfl, mWd_at 50 (by decide +kernel) rfl, ⟨by decide, by decide, by decide +kernel⟩, by decide⟩
theorem s_X6_isFigure : Cond.static M_X6_isFigure.1 ∈ mWd := mWd_at 317 (by decide +kernel) rfl
def M_X6_tell : mMe := (yX6_tell, cX6_tell, 7, (some .boolean))
theorem k_X6_tell : mK2 M_X6_tell 2 := ⟨mWd_at 325 (by decide +kernel) rfl, mWd_at 50 (by decide +kernel) rfl, ⟨by decide, by decide, by decide +kernel⟩, by decide⟩
theorem i_X6_tell : mKI M_X6_tell := ⟨mWd_at 324 (by decide +kernel) rfl, mWd_at 1 (by decide +kernel) rfl⟩
def M_X7_get : mMe := (yX7_get, cX7_get, 2, (some .int))
theorem k_X7_get : mK2 M_X7_get 2 := ⟨mWd_at 328 (by decide +kernel) rfl, mWd_at 61 (by decide +kernel) rfl, ⟨by decide, by decide, by decide +kernel⟩, by decide⟩
theorem s_X7_get : Cond.static M_X7_get.1 ∈ mWd := mWd_at 327 (by decide +kernel) rfl
def M_X7_put : mMe := (yX7_put, cX7_put, 3, none)
theorem k_X7_put : mK2 M_X7_put 3 := ⟨mWd_at 321 (by decide +kernel) rfl, mWd_at 61 (by decide +kernel) rfl, ⟨by decide, by decide, by decide +kernel⟩, by decide⟩
theorem s_X7_put : Cond.static M_X7_put.1 ∈ mWd := mWd_at 320 (by decide +kernel) rfl
def M_X7_fill : mMe := (yX7_fill, cX7_fill, 3, none)
theorem k_X7_fill : mK2 M_X7_fill 2 := ⟨mWd_at 304 (by decide +kernel) rfl, mWd_at 61 (by decide +kernel) rfl, ⟨by decide, by decide, by decide +kernel⟩, by decide⟩
theorem s_X7_fill : Cond.static M_X7_fill.1 ∈ mWd := mWd_at 303 (by decide +kernel) rfl
def M_X7_copy : mMe := (yX7_copy, cX7_copy, 3, none)
theorem k_X7_copy : mK2 M_X7_copy 2 := ⟨mWd_at 525 (by decide +kernel) rfl, mWd_at 61 (by decide +kernel) rfl, ⟨by decide, by decide, by decide +kernel⟩, by decide⟩
theorem s_X7_copy : Cond.static M_X7_copy.1 ∈ mWd := mWd_at 524 (by decide +kernel) rfl
def M_X8_init : mMe := (yX8_init, cX8_init, 1, none)
theorem k_X8_init : mK2 M_X8_init 0 := ⟨mWd_at 106 (by decide +kernel) rfl, mWd_at 51 (by decide +kernel) rfl, ⟨by decide, by decide, by decide +kernel⟩, by decide⟩
theorem i_X8_init : Cond.instanceMethod M_X8_init.1 ∈ mWd := mWd_at 105 (by decide +kernel) rfl
def M_X8_begin : mMe := (yX8_begin, cX8_begin, 3, none)
theorem k_X8_begin : mK2 M_X8_begin 1 := ⟨mWd_at 356 (by decide +kernel) rfl, mWd_at 51 (by decide +kernel) rfl, ⟨by decide, by decide, by decide +kernel⟩, by decide⟩
theorem i_X8_begin : mKI M_X8_begin := ⟨mWd_at 354 (by decide +kernel) rfl, mWd_at 355 (by decide +kernel) rfl⟩
def M_X8_copy : mMe := (yX8_copy, cX8_copy, 2, none)
theorem k_X8_copy : mK2 M_X8_copy 1 := ⟨mWd_at 522 (by decide +kernel) rfl, mWd_at 51 (by decide +kernel) rfl, ⟨by decide, by decide, by decide +kernel⟩, by decide⟩
theorem i_X8_copy : mKI M_X8_copy := ⟨mWd_at 520 (by decide +kernel) rfl, mWd_at 521 (by decide +kernel) rfl⟩
def M_X8_isHere : mMe := (yX8_isHere, cX8_isHere, 2, (some .boolean))
theorem k_X8_isHere : mK2 M_X8_isHere 1 := ⟨mWd_at 456 (by decide +kernel) rfl, mWd_at 51 (by decide +kernel) rfl, ⟨by decide, by decide, by decide +kernel⟩, by decide⟩
theorem i_X8_isHere : mKI M_X8_isHere := ⟨mWd_at 454 (by decide +kernel) rfl, mWd_at 455 (by decide +kernel) rfl⟩
def M_X8_isPacked : mMe := (yX8_isPacked, cX8_isPacked, 2, (some .boolean))
theorem k_X8_isPacked : mK2 M_X8_isPacked 1 := ⟨mWd_at 485 (by decide +kernel) rfl, mWd_at 51 (by decide +kernel) rfl, ⟨by decide, by decide, by decide +kernel⟩, by decide⟩
theorem i_X8_isPacked : mKI M_X8_isPacked := ⟨mWd_at 483 (by decide +kernel) rfl, mWd_at 484 (by decide +kernel) rfl⟩
def M_X8_ownerOf : mMe := (yX8_ownerOf, cX8_ownerOf, 2, (some .int))
theorem k_X8_ownerOf : mK2 M_X8_ownerOf 1 := ⟨mWd_at 473 (by decide +kernel) rfl, mWd_at 51 (by decide +kernel) rfl, ⟨by decide, by decide, by decide +kernel⟩, by decide⟩
theorem i_X8_ownerOf : mKI M_X8_ownerOf := ⟨mWd_at 471 (by decide +kernel) rfl, mWd_at 472 (by decide +kernel) rfl⟩
def M_X8_lies : mMe := (yX8_lies, cX8_lies, 3, (some .boolean))
theorem k_X8_lies : mK2 M_X8_lies 2 := ⟨mWd_at 564 (by decide +kernel) rfl, mWd_at 51 (by decide +kernel) rfl, ⟨by decide, by decide, by decide +kernel⟩, by decide⟩
theorem i_X8_lies : mKI M_X8_lies := ⟨mWd_at 562 (by decide +kernel) rfl, mWd_at 563 (by decide +kernel) rfl⟩
def M_X8_owned : mMe := (yX8_owned, cX8_owned, 4, (some .int))
theorem k_X8_owned : mK2 M_X8_owned 1 := ⟨mWd_at 505 (by decide +kernel) rfl, mWd_at 51 (by decide +kernel) rfl, ⟨by decide, by decide, by decide +kernel⟩, by decide⟩
theorem i_X8_owned : mKI M_X8_owned := ⟨mWd_at 503 (by decide +kernel) rfl, mWd_at 504 (by decide +kernel) rfl⟩
def M_X8_coinsOf : mMe := (yX8_coinsOf, cX8_coinsOf, 2, (some .int))
theorem k_X8_coinsOf : mK2 M_X8_coinsOf 1 := ⟨mWd_at 447 (by decide +kernel) rfl, mWd_at 51 (by decide +kernel) rfl, ⟨by decide, by decide, by decide +kernel⟩, by decide⟩
theorem i_X8_coinsOf : mKI M_X8_coinsOf := ⟨mWd_at 445 (by decide +kernel) rfl, mWd_at 446 (by decide +kernel) rfl⟩
def M_X8_paidBy : mMe := (yX8_paidBy, cX8_paidBy, 2, (some .int))
theorem k_X8_paidBy : mK2 M_X8_paidBy 1 := ⟨mWd_at 460 (by decide +kernel) rfl, mWd_at 51 (by decide +kernel) rfl, ⟨by decide, by decide, by decide +kernel⟩, by decide⟩
theorem i_X8_paidBy : mKI M_X8_paidBy := ⟨mWd_at 458 (by decide +kernel) rfl, mWd_at 459 (by decide +kernel) rfl⟩
def M_X8_paidLastBy : mMe := (yX8_paidLastBy, cX8_paidLastBy, 2, (some .int))
theorem k_X8_paidLastBy : mK2 M_X8_paidLastBy 1 := ⟨mWd_at 619 (by decide +kernel) rfl, mWd_at 51 (by decide +kernel) rfl, ⟨by decide, by decide, by decide +kernel⟩, by decide⟩
theorem i_X8_paidLastBy : mKI M_X8_paidLastBy := ⟨mWd_at 617 (by decide +kernel) rfl, mWd_at 618 (by decide +kernel) rfl⟩
def M_X8_setPacked : mMe := (yX8_setPacked, cX8_setPacked, 3, none)
theorem k_X8_setPacked : mK2 M_X8_setPacked 2 := ⟨mWd_at 532 (by decide +kernel) rfl, mWd_at 51 (by decide +kernel) rfl, ⟨by decide, by decide, by decide +kernel⟩, by decide⟩
theorem i_X8_setPacked : mKI M_X8_setPacked := ⟨mWd_at 530 (by decide +kernel) rfl, mWd_at 531 (by decide +kernel) rfl⟩
def M_X8_handOver : mMe := (yX8_handOver, cX8_handOver, 3, none)
theorem k_X8_handOver : mK2 M_X8_handOver 2 := ⟨mWd_at 540 (by decide +kernel) rfl, mWd_at 51 (by decide +kernel) rfl, ⟨by decide, by decide, by decide +kernel⟩, by decide⟩
theorem i_X8_handOver : mKI M_X8_handOver := ⟨mWd_at 538 (by decide +kernel) rfl, mWd_at 539 (by decide +kernel) rfl⟩
def M_X8_pay : mMe := (yX8_pay, cX8_pay, 3, none)
theorem k_X8_pay : mK2 M_X8_pay 2 := ⟨mWd_at 585 (by decide +kernel) rfl, mWd_at 51 (by decide +kernel) rfl, ⟨by decide, by decide, by decide +kernel⟩, by decide⟩
theorem i_X8_pay : mKI M_X8_pay := ⟨mWd_at 583 (by decide +kernel) rfl, mWd_at 584 (by decide +kernel) rfl⟩
def M_X8_goOut : mMe := (yX8_goOut, cX8_goOut, 4, none)
theorem k_X8_goOut : mK2 M_X8_goOut 2 := ⟨mWd_at 591 (by decide +kernel) rfl, mWd_at 51 (by decide +kernel) rfl, ⟨by decide, by decide, by decide +kernel⟩, by decide⟩
theorem i_X8_goOut : mKI M_X8_goOut := ⟨mWd_at 589 (by decide +kernel) rfl, mWd_at 590 (by decide +kernel) rfl⟩
def M_X8_comeIn : mMe := (yX8_comeIn, cX8_comeIn, 2, none)
theorem k_X8_comeIn : mK2 M_X8_comeIn 1 := ⟨mWd_at 626 (by decide +kernel) rfl, mWd_at 51 (by decide +kernel) rfl, ⟨by decide, by decide, by decide +kernel⟩, by decide⟩
theorem i_X8_comeIn : mKI M_X8_comeIn := ⟨mWd_at 624 (by decide +kernel) rfl, mWd_at 625 (by decide +kernel) rfl⟩
def M_X9_init : mMe := (yX9_init, cX9_init, 1, none)
theorem k_X9_init : mK2 M_X9_init 0 := ⟨mWd_at 79 (by decide +kernel) rfl, mWd_at 49 (by decide +kernel) rfl, ⟨by decide, by decide, by decide +kernel⟩, by decide⟩
theorem i_X9_init : Cond.instanceMethod M_X9_init.1 ∈ mWd := mWd_at 78 (by decide +kernel) rfl
def M_X9_add : mMe := (yX9_add, cX9_add, 2, (some .boolean))
theorem k_X9_add : mK2 M_X9_add 1 := ⟨mWd_at 293 (by decide +kernel) rfl, mWd_at 49 (by decide +kernel) rfl, ⟨by decide, by decide, by decide +kernel⟩, by decide⟩
theorem i_X9_add : mKI M_X9_add := ⟨mWd_at 291 (by decide +kernel) rfl, mWd_at 292 (by decide +kernel) rfl⟩
def M_X9_empty : mMe := (yX9_empty, cX9_empty, 1, none)
theorem k_X9_empty : mK2 M_X9_empty 0 := ⟨mWd_at 375 (by decide +kernel) rfl, mWd_at 49 (by decide +kernel) rfl, ⟨by decide, by decide, by decide +kernel⟩, by decide⟩
theorem i_X9_empty : mKI M_X9_empty := ⟨mWd_at 373 (by decide +kernel) rfl, mWd_at 374 (by decide +kernel) rfl⟩
def M_X9_sign : mMe := (yX9_sign, cX9_sign, 2, (some .char))
theorem k_X9_sign : mK2 M_X9_sign 1 := ⟨mWd_at 308 (by decide +kernel) rfl, mWd_at 49 (by decide +kernel) rfl, ⟨by decide, by decide, by decide +kernel⟩, by decide⟩
theorem i_X9_sign : mKI M_X9_sign := ⟨mWd_at 306 (by decide +kernel) rfl, mWd_at 307 (by decide +kernel) rfl⟩
def M_X10_play : mMe := (yX10_play, cX10_play, 10, (some .int))
theorem k_X10_play : mK2 M_X10_play 6 := ⟨mWd_at 753 (by decide +kernel) rfl, mWd_at 65 (by decide +kernel) rfl, ⟨by decide, by decide, by decide +kernel⟩, by decide⟩
theorem s_X10_play : Cond.static M_X10_play.1 ∈ mWd := mWd_at 752 (by decide +kernel) rfl
def M_X10_movers : mMe := (yX10_movers, cX10_movers, 1, (some .int))
theorem k_X10_movers : mK2 M_X10_movers 1 := ⟨mWd_at 763 (by decide +kernel) rfl, mWd_at 65 (by decide +kernel) rfl, ⟨by decide, by decide, by decide +kernel⟩, by decide⟩
theorem s_X10_movers : Cond.static M_X10_movers.1 ∈ mWd := mWd_at 762 (by decide +kernel) rfl
def M_X10_swapped : mMe := (yX10_swapped, cX10_swapped, 1, (some .int))
theorem k_X10_swapped : mK2 M_X10_swapped 1 := ⟨mWd_at 758 (by decide +kernel) rfl, mWd_at 65 (by decide +kernel) rfl, ⟨by decide, by decide, by decide +kernel⟩, by decide⟩
theorem s_X10_swapped : Cond.static M_X10_swapped.1 ∈ mWd := mWd_at 757 (by decide +kernel) rfl
def M_X11_init : mMe := (yX11_init, cX11_init, 2, none)
theorem k_X11_init : mK2 M_X11_init 0 := ⟨mWd_at 71 (by decide +kernel) rfl, mWd_at 48 (by decide +kernel) rfl, ⟨by decide, by decide, by decide +kernel⟩, by decide⟩
theorem i_X11_init : Cond.instanceMethod M_X11_init.1 ∈ mWd := mWd_at 70 (by decide +kernel) rfl
def M_X11_write : mMe := (yX11_write, cX11_write, 2, (some .int))
theorem k_X11_write : mK2 M_X11_write 1 := ⟨mWd_at 414 (by decide +kernel) rfl, mWd_at 48 (by decide +kernel) rfl, ⟨by decide, by decide, by decide +kernel⟩, by decide⟩
theorem i_X11_write : mKI M_X11_write := ⟨mWd_at 412 (by decide +kernel) rfl, mWd_at 413 (by decide +kernel) rfl⟩
def M_X11_wipe : mMe := (yX11_wipe, cX11_wipe, 2, (some .int))
theorem k_X11_wipe : mK2 M_X11_wipe 0 := ⟨mWd_at 418 (by decide +kernel) rfl, mWd_at 48 (by decide +kernel) rfl, ⟨by decide, by decide, by decide +kernel⟩, by decide⟩
theorem i_X11_wipe : mKI M_X11_wipe := ⟨mWd_at 416 (by decide +kernel) rfl, mWd_at 417 (by decide +kernel) rfl⟩
def M_X11_fault : mMe := (yX11_fault, cX11_fault, 1, (some .int))
theorem k_X11_fault : mK2 M_X11_fault 0 := ⟨mWd_at 422 (by decide +kernel) rfl, mWd_at 48 (by decide +kernel) rfl, ⟨by decide, by decide, by decide +kernel⟩, by decide⟩
theorem i_X11_fault : mKI M_X11_fault := ⟨mWd_at 420 (by decide +kernel) rfl, mWd_at 421 (by decide +kernel) rfl⟩
def M_X11_lay : mMe := (yX11_lay, cX11_lay, 2, (some .int))
theorem k_X11_lay : mK2 M_X11_lay 0 := ⟨mWd_at 426 (by decide +kernel) rfl, mWd_at 48 (by decide +kernel) rfl, ⟨by decide, by decide, by decide +kernel⟩, by decide⟩
theorem i_X11_lay : mKI M_X11_lay := ⟨mWd_at 424 (by decide +kernel) rfl, mWd_at 425 (by decide +kernel) rfl⟩
def M_X11_person : mMe := (yX11_person, cX11_person, 3, (some .int))
theorem k_X11_person : mK2 M_X11_person 2 := ⟨mWd_at 438 (by decide +kernel) rfl, mWd_at 48 (by decide +kernel) rfl, ⟨by decide, by decide, by decide +kernel⟩, by decide⟩
theorem i_X11_person : mKI M_X11_person := ⟨mWd_at 436 (by decide +kernel) rfl, mWd_at 437 (by decide +kernel) rfl⟩
def M_X11_good : mMe := (yX11_good, cX11_good, 3, (some .int))
theorem k_X11_good : mK2 M_X11_good 2 := ⟨mWd_at 464 (by decide +kernel) rfl, mWd_at 48 (by decide +kernel) rfl, ⟨by decide, by decide, by decide +kernel⟩, by decide⟩
theorem i_X11_good : mKI M_X11_good := ⟨mWd_at 462 (by decide +kernel) rfl, mWd_at 463 (by decide +kernel) rfl⟩
def M_X11_love : mMe := (yX11_love, cX11_love, 3, (some .int))
theorem k_X11_love : mK2 M_X11_love 2 := ⟨mWd_at 489 (by decide +kernel) rfl, mWd_at 48 (by decide +kernel) rfl, ⟨by decide, by decide, by decide +kernel⟩, by decide⟩
theorem i_X11_love : mKI M_X11_love := ⟨mWd_at 487 (by decide +kernel) rfl, mWd_at 488 (by decide +kernel) rfl⟩
def M_X11_pack : mMe := (yX11_pack, cX11_pack, 6, (some .int))
theorem k_X11_pack : mK2 M_X11_pack 2 := ⟨mWd_at 501 (by decide +kernel) rfl, mWd_at 48 (by decide +kernel) rfl, ⟨by decide, by decide, by decide +kernel⟩, by decide⟩
theorem i_X11_pack : mKI M_X11_pack := ⟨mWd_at 499 (by decide +kernel) rfl, mWd_at 500 (by decide +kernel) rfl⟩
def M_X11_give : mMe := (yX11_give, cX11_give, 4, (some .int))
theorem k_X11_give : mK2 M_X11_give 2 := ⟨mWd_at 536 (by decide +kernel) rfl, mWd_at 48 (by decide +kernel) rfl, ⟨by decide, by decide, by decide +kernel⟩, by decide⟩
theorem i_X11_give : mKI M_X11_give := ⟨mWd_at 534 (by decide +kernel) rfl, mWd_at 535 (by decide +kernel) rfl⟩
def M_X11_leave : mMe := (yX11_leave, cX11_leave, 3, (some .int))
theorem k_X11_leave : mK2 M_X11_leave 1 := ⟨mWd_at 545 (by decide +kernel) rfl, mWd_at 48 (by decide +kernel) rfl, ⟨by decide, by decide, by decide +kernel⟩, by decide⟩
theorem i_X11_leave : mKI M_X11_leave := ⟨mWd_at 543 (by decide +kernel) rfl, mWd_at 544 (by decide +kernel) rfl⟩
def M_X11_leaveBoth : mMe := (yX11_leaveBoth, cX11_leaveBoth, 6, (some .int))
theorem k_X11_leaveBoth : mK2 M_X11_leaveBoth 2 := ⟨mWd_at 596 (by decide +kernel) rfl, mWd_at 48 (by decide +kernel) rfl, ⟨by decide, by decide, by decide +kernel⟩, by decide⟩
theorem i_X11_leaveBoth : mKI M_X11_leaveBoth := ⟨mWd_at 594 (by decide +kernel) rfl, mWd_at 595 (by decide +kernel) rfl⟩
def M_X11_comeBack : mMe := (yX11_comeBack, cX11_comeBack, 3, (some .int))
theorem k_X11_comeBack : mK2 M_X11_comeBack 1 := ⟨mWd_at 611 (by decide +kernel) rfl, mWd_at 48 (by decide +kernel) rfl, ⟨by decide, by decide, by decide +kernel⟩, by decide⟩
theorem i_X11_comeBack : mKI M_X11_comeBack := ⟨mWd_at 609 (by decide +kernel) rfl, mWd_at 610 (by decide +kernel) rfl⟩
def M_X11_undo : mMe := (yX11_undo, cX11_undo, 1, (some .int))
theorem k_X11_undo : mK2 M_X11_undo 0 := ⟨mWd_at 630 (by decide +kernel) rfl, mWd_at 48 (by decide +kernel) rfl, ⟨by decide, by decide, by decide +kernel⟩, by decide⟩
theorem i_X11_undo : mKI M_X11_undo := ⟨mWd_at 628 (by decide +kernel) rfl, mWd_at 629 (by decide +kernel) rfl⟩
def M_X11_owes : mMe := (yX11_owes, cX11_owes, 2, (some .int))
theorem k_X11_owes : mK2 M_X11_owes 1 := ⟨mWd_at 638 (by decide +kernel) rfl, mWd_at 48 (by decide +kernel) rfl, ⟨by decide, by decide, by decide +kernel⟩, by decide⟩
theorem i_X11_owes : mKI M_X11_owes := ⟨mWd_at 636 (by decide +kernel) rfl, mWd_at 637 (by decide +kernel) rfl⟩
def M_X11_owesWith : mMe := (yX11_owesWith, cX11_owesWith, 3, (some .int))
theorem k_X11_owesWith : mK2 M_X11_owesWith 2 := ⟨mWd_at 643 (by decide +kernel) rfl, mWd_at 48 (by decide +kernel) rfl, ⟨by decide, by decide, by decide +kernel⟩, by decide⟩
theorem i_X11_owesWith : mKI M_X11_owesWith := ⟨mWd_at 641 (by decide +kernel) rfl, mWd_at 642 (by decide +kernel) rfl⟩
def M_X11_packing : mMe := (yX11_packing, cX11_packing, 4, (some .int))
theorem k_X11_packing : mK2 M_X11_packing 2 := ⟨mWd_at 647 (by decide +kernel) rfl, mWd_at 48 (by decide +kernel) rfl, ⟨by decide, by decide, by decide +kernel⟩, by decide⟩
theorem i_X11_packing : mKI M_X11_packing := ⟨mWd_at 645 (by decide +kernel) rfl, mWd_at 646 (by decide +kernel) rfl⟩
def M_X11_giving : mMe := (yX11_giving, cX11_giving, 8, (some .int))
theorem k_X11_giving : mK2 M_X11_giving 2 := ⟨mWd_at 669 (by decide +kernel) rfl, mWd_at 48 (by decide +kernel) rfl, ⟨by decide, by decide, by decide +kernel⟩, by decide⟩
theorem i_X11_giving : mKI M_X11_giving := ⟨mWd_at 667 (by decide +kernel) rfl, mWd_at 668 (by decide +kernel) rfl⟩
def M_X11_order : mMe := (yX11_order, cX11_order, 3, (some .int))
theorem k_X11_order : mK2 M_X11_order 1 := ⟨mWd_at 678 (by decide +kernel) rfl, mWd_at 48 (by decide +kernel) rfl, ⟨by decide, by decide, by decide +kernel⟩, by decide⟩
theorem i_X11_order : mKI M_X11_order := ⟨mWd_at 676 (by decide +kernel) rfl, mWd_at 677 (by decide +kernel) rfl⟩
def M_X11_stuck : mMe := (yX11_stuck, cX11_stuck, 3, (some .int))
theorem k_X11_stuck : mK2 M_X11_stuck 0 := ⟨mWd_at 705 (by decide +kernel) rfl, mWd_at 48 (by decide +kernel) rfl, ⟨by decide, by decide, by decide +kernel⟩, by decide⟩
theorem i_X11_stuck : mKI M_X11_stuck := ⟨mWd_at 703 (by decide +kernel) rfl, mWd_at 704 (by decide +kernel) rfl⟩
def M_X11_swear : mMe := (yX11_swear, cX11_swear, 3, (some .int))
theorem k_X11_swear : mK2 M_X11_swear 2 := ⟨mWd_at 709 (by decide +kernel) rfl, mWd_at 48 (by decide +kernel) rfl, ⟨by decide, by decide, by decide +kernel⟩, by decide⟩
theorem i_X11_swear : mKI M_X11_swear := ⟨mWd_at 707 (by decide +kernel) rfl, mWd_at 708 (by decide +kernel) rfl⟩
def M_X11_forget : mMe := (yX11_forget, cX11_forget, 2, (some .int))
theorem k_X11_forget : mK2 M_X11_forget 0 := ⟨mWd_at 721 (by decide +kernel) rfl, mWd_at 48 (by decide +kernel) rfl, ⟨by decide, by decide, by decide +kernel⟩, by decide⟩
theorem i_X11_forget : mKI M_X11_forget := ⟨mWd_at 719 (by decide +kernel) rfl, mWd_at 720 (by decide +kernel) rfl⟩
def M_X11_isFalse : mMe := (yX11_isFalse, cX11_isFalse, 7, (some .int))
theorem k_X11_isFalse : mK2 M_X11_isFalse 1 := ⟨mWd_at 725 (by decide +kernel) rfl, mWd_at 48 (by decide +kernel) rfl, ⟨by decide, by decide, by decide +kernel⟩, by decide⟩
theorem i_X11_isFalse : mKI M_X11_isFalse := ⟨mWd_at 723 (by decide +kernel) rfl, mWd_at 724 (by decide +kernel) rfl⟩
def M_X11_loved : mMe := (yX11_loved, cX11_loved, 9, (some .int))
theorem k_X11_loved : mK2 M_X11_loved 3 := ⟨mWd_at 746 (by decide +kernel) rfl, mWd_at 48 (by decide +kernel) rfl, ⟨by decide, by decide, by decide +kernel⟩, by decide⟩
theorem i_X11_loved : mKI M_X11_loved := ⟨mWd_at 744 (by decide +kernel) rfl, mWd_at 745 (by decide +kernel) rfl⟩
def M_X11_byTurns : mMe := (yX11_byTurns, cX11_byTurns, 6, (some .int))
theorem k_X11_byTurns : mK2 M_X11_byTurns 4 := ⟨mWd_at 750 (by decide +kernel) rfl, mWd_at 48 (by decide +kernel) rfl, ⟨by decide, by decide, by decide +kernel⟩, by decide⟩
theorem i_X11_byTurns : mKI M_X11_byTurns := ⟨mWd_at 748 (by decide +kernel) rfl, mWd_at 749 (by decide +kernel) rfl⟩
def M_X11_chairs : mMe := (yX11_chairs, cX11_chairs, 6, (some .int))
theorem k_X11_chairs : mK2 M_X11_chairs 1 := ⟨mWd_at 770 (by decide +kernel) rfl, mWd_at 48 (by decide +kernel) rfl, ⟨by decide, by decide, by decide +kernel⟩, by decide⟩
theorem i_X11_chairs : mKI M_X11_chairs := ⟨mWd_at 768 (by decide +kernel) rfl, mWd_at 769 (by decide +kernel) rfl⟩
def M_X11_year : mMe := (yX11_year, cX11_year, 6, (some .int))
theorem k_X11_year : mK2 M_X11_year 3 := ⟨mWd_at 781 (by decide +kernel) rfl, mWd_at 48 (by decide +kernel) rfl, ⟨by decide, by decide, by decide +kernel⟩, by decide⟩
theorem i_X11_year : mKI M_X11_year := ⟨mWd_at 779 (by decide +kernel) rfl, mWd_at 780 (by decide +kernel) rfl⟩
def M_X11_keep : mMe := (yX11_keep, cX11_keep, 1, (some .int))
theorem k_X11_keep : mK2 M_X11_keep 0 := ⟨mWd_at 804 (by decide +kernel) rfl, mWd_at 48 (by decide +kernel) rfl, ⟨by decide, by decide, by decide +kernel⟩, by decide⟩
theorem i_X11_keep : mKI M_X11_keep := ⟨mWd_at 802 (by decide +kernel) rfl, mWd_at 803 (by decide +kernel) rfl⟩
def M_X11_back : mMe := (yX11_back, cX11_back, 1, (some .int))
theorem k_X11_back : mK2 M_X11_back 0 := ⟨mWd_at 808 (by decide +kernel) rfl, mWd_at 48 (by decide +kernel) rfl, ⟨by decide, by decide, by decide +kernel⟩, by decide⟩
theorem i_X11_back : mKI M_X11_back := ⟨mWd_at 806 (by decide +kernel) rfl, mWd_at 807 (by decide +kernel) rfl⟩
def M_X11_count : mMe := (yX11_count, cX11_count, 2, (some .int))
theorem k_X11_count : mK2 M_X11_count 1 := ⟨mWd_at 812 (by decide +kernel) rfl, mWd_at 48 (by decide +kernel) rfl, ⟨by decide, by decide, by decide +kernel⟩, by decide⟩
theorem i_X11_count : mKI M_X11_count := ⟨mWd_at 810 (by decide +kernel) rfl, mWd_at 811 (by decide +kernel) rfl⟩
def M_X11_isAsked : mMe := (yX11_isAsked, cX11_isAsked, 1, (some .boolean))
theorem k_X11_isAsked : mK2 M_X11_isAsked 1 := ⟨mWd_at 650 (by decide +kernel) rfl, mWd_at 48 (by decide +kernel) rfl, ⟨by decide, by decide, by decide +kernel⟩, by decide⟩
theorem s_X11_isAsked : Cond.static M_X11_isAsked.1 ∈ mWd := mWd_at 649 (by decide +kernel) rfl
def M_X11_isSum : mMe := (yX11_isSum, cX11_isSum, 1, (some .boolean))
theorem k_X11_isSum : mK2 M_X11_isSum 1 := ⟨mWd_at 712 (by decide +kernel) rfl, mWd_at 48 (by decide +kernel) rfl, ⟨by decide, by decide, by decide +kernel⟩, by decide⟩
theorem s_X11_isSum : Cond.static M_X11_isSum.1 ∈ mWd := mWd_at 711 (by decide +kernel) rfl
def M_X11_isPair : mMe := (yX11_isPair, cX11_isPair, 3, (some .boolean))
theorem k_X11_isPair : mK2 M_X11_isPair 2 := ⟨mWd_at 493 (by decide +kernel) rfl, mWd_at 48 (by decide +kernel) rfl, ⟨by decide, by decide, by decide +kernel⟩, by decide⟩
theorem i_X11_isPair : mKI M_X11_isPair := ⟨mWd_at 492 (by decide +kernel) rfl, mWd_at 2 (by decide +kernel) rfl⟩
def M_X11_areHere : mMe := (yX11_areHere, cX11_areHere, 3, (some .boolean))
theorem k_X11_areHere : mK2 M_X11_areHere 2 := ⟨mWd_at 600 (by decide +kernel) rfl, mWd_at 48 (by decide +kernel) rfl, ⟨by decide, by decide, by decide +kernel⟩, by decide⟩
theorem i_X11_areHere : mKI M_X11_areHere := ⟨mWd_at 599 (by decide +kernel) rfl, mWd_at 4 (by decide +kernel) rfl⟩
def M_X11_gone : mMe := (yX11_gone, cX11_gone, 2, (some .int))
theorem k_X11_gone : mK2 M_X11_gone 1 := ⟨mWd_at 800 (by decide +kernel) rfl, mWd_at 48 (by decide +kernel) rfl, ⟨by decide, by decide, by decide +kernel⟩, by decide⟩
theorem i_X11_gone : mKI M_X11_gone := ⟨mWd_at 799 (by decide +kernel) rfl, mWd_at 8 (by decide +kernel) rfl⟩
def M_X11_paidInAll : mMe := (yX11_paidInAll, cX11_paidInAll, 3, (some .int))
theorem k_X11_paidInAll : mK2 M_X11_paidInAll 0 := ⟨mWd_at 816 (by decide +kernel) rfl, mWd_at 48 (by decide +kernel) rfl, ⟨by decide, by decide, by decide +kernel⟩, by decide⟩
theorem i_X11_paidInAll : mKI M_X11_paidInAll := ⟨mWd_at 815 (by decide +kernel) rfl, mWd_at 9 (by decide +kernel) rfl⟩
def M_X11_owedByAllAfterGiving : mMe := (yX11_owedByAllAfterGiving, cX11_owedByAllAfterGiving, 5, (some .int))
theorem k_X11_owedByAllAfterGiving : mK2 M_X11_owedByAllAfterGiving 2 := ⟨mWd_at 673 (by decide +kernel) rfl, mWd_at 48 (by decide +kernel) rfl, ⟨by decide, by decide, by decide +kernel⟩, by decide⟩
theorem i_X11_owedByAllAfterGiving : mKI M_X11_owedByAllAfterGiving := ⟨mWd_at 672 (by decide +kernel) rfl, mWd_at 5 (by decide +kernel) rfl⟩
def M_X11_drawn : mMe := (yX11_drawn, cX11_drawn, 7, (some .int))
theorem k_X11_drawn : mK2 M_X11_drawn 2 := ⟨mWd_at 785 (by decide +kernel) rfl, mWd_at 48 (by decide +kernel) rfl, ⟨by decide, by decide, by decide +kernel⟩, by decide⟩
theorem i_X11_drawn : mKI M_X11_drawn := ⟨mWd_at 784 (by decide +kernel) rfl, mWd_at 7 (by decide +kernel) rfl⟩
def M_X12_init : mMe := (yX12_init, cX12_init, 1, none)
theorem k_X12_init : mK2 M_X12_init 0 := ⟨mWd_at 821 (by decide +kernel) rfl, mWd_at 62 (by decide +kernel) rfl, ⟨by decide, by decide, by decide +kernel⟩, by decide⟩
theorem i_X12_init : Cond.instanceMethod M_X12_init.1 ∈ mWd := mWd_at 820 (by decide +kernel) rfl
def M_X12_in : mMe := (yX12_in, cX12_in, 6, (some .boolean))
theorem k_X12_in : mK2 M_X12_in 3 := ⟨mWd_at 838 (by decide +kernel) rfl, mWd_at 62 (by decide +kernel) rfl, ⟨by decide, by decide, by decide +kernel⟩, by decide⟩
theorem s_X12_in : Cond.static M_X12_in.1 ∈ mWd := mWd_at 837 (by decide +kernel) rfl
def M_X12_has : mMe := (yX12_has, cX12_has, 2, (some .boolean))
theorem k_X12_has : mK2 M_X12_has 2 := ⟨mWd_at 954 (by decide +kernel) rfl, mWd_at 62 (by decide +kernel) rfl, ⟨by decide, by decide, by decide +kernel⟩, by decide⟩
theorem s_X12_has : Cond.static M_X12_has.1 ∈ mWd := mWd_at 953 (by decide +kernel) rfl
def M_X12_ones : mMe := (yX12_ones, cX12_ones, 3, (some .int))
theorem k_X12_ones : mK2 M_X12_ones 1 := ⟨mWd_at 1133 (by decide +kernel) rfl, mWd_at 62 (by decide +kernel) rfl, ⟨by decide, by decide, by decide +kernel⟩, by decide⟩
theorem s_X12_ones : Cond.static M_X12_ones.1 ∈ mWd := mWd_at 1132 (by decide +kernel) rfl
def M_X12_begins : mMe := (yX12_begins, cX12_begins, 2, none)
theorem k_X12_begins : mK2 M_X12_begins 0 := ⟨mWd_at 826 (by decide +kernel) rfl, mWd_at 62 (by decide +kernel) rfl, ⟨by decide, by decide, by decide +kernel⟩, by decide⟩
theorem i_X12_begins : mKI M_X12_begins := ⟨mWd_at 825 (by decide +kernel) rfl, mWd_at 10 (by decide +kernel) rfl⟩
def M_X12_persons : mMe := (yX12_persons, cX12_persons, 5, (some .boolean))
theorem k_X12_persons : mK2 M_X12_persons 3 := ⟨mWd_at 830 (by decide +kernel) rfl, mWd_at 62 (by decide +kernel) rfl, ⟨by decide, by decide, by decide +kernel⟩, by decide⟩
theorem i_X12_persons : mKI M_X12_persons := ⟨mWd_at 829 (by decide +kernel) rfl, mWd_at 11 (by decide +kernel) rfl⟩
def M_X12_goods : mMe := (yX12_goods, cX12_goods, 6, (some .boolean))
theorem k_X12_goods : mK2 M_X12_goods 4 := ⟨mWd_at 834 (by decide +kernel) rfl, mWd_at 62 (by decide +kernel) rfl, ⟨by decide, by decide, by decide +kernel⟩, by decide⟩
theorem i_X12_goods : mKI M_X12_goods := ⟨mWd_at 833 (by decide +kernel) rfl, mWd_at 12 (by decide +kernel) rfl⟩
def M_X12_loves : mMe := (yX12_loves, cX12_loves, 5, (some .boolean))
theorem k_X12_loves : mK2 M_X12_loves 3 := ⟨mWd_at 842 (by decide +kernel) rfl, mWd_at 62 (by decide +kernel) rfl, ⟨by decide, by decide, by decide +kernel⟩, by decide⟩
theorem i_X12_loves : mKI M_X12_loves := ⟨mWd_at 841 (by decide +kernel) rfl, mWd_at 13 (by decide +kernel) rfl⟩
def M_X12_tenths : mMe := (yX12_tenths, cX12_tenths, 3, (some .boolean))
theorem k_X12_tenths : mK2 M_X12_tenths 1 := ⟨mWd_at 934 (by decide +kernel) rfl, mWd_at 62 (by decide +kernel) rfl, ⟨by decide, by decide, by decide +kernel⟩, by decide⟩
theorem i_X12_tenths : mKI M_X12_tenths := ⟨mWd_at 933 (by decide +kernel) rfl, mWd_at 19 (by decide +kernel) rfl⟩
def M_X12_copy : mMe := (yX12_copy, cX12_copy, 4, none)
theorem k_X12_copy : mK2 M_X12_copy 2 := ⟨mWd_at 1022 (by decide +kernel) rfl, mWd_at 62 (by decide +kernel) rfl, ⟨by decide, by decide, by decide +kernel⟩, by decide⟩
theorem i_X12_copy : mKI M_X12_copy := ⟨mWd_at 1021 (by decide +kernel) rfl, mWd_at 33 (by decide +kernel) rfl⟩
def M_X12_comes : mMe := (yX12_comes, cX12_comes, 2, none)
theorem k_X12_comes : mK2 M_X12_comes 0 := ⟨mWd_at 846 (by decide +kernel) rfl, mWd_at 62 (by decide +kernel) rfl, ⟨by decide, by decide, by decide +kernel⟩, by decide⟩
theorem i_X12_comes : mKI M_X12_comes := ⟨mWd_at 845 (by decide +kernel) rfl, mWd_at 14 (by decide +kernel) rfl⟩
def M_X12_write : mMe := (yX12_write, cX12_write, 2, (some .int))
theorem k_X12_write : mK2 M_X12_write 1 := ⟨mWd_at 902 (by decide +kernel) rfl, mWd_at 62 (by decide +kernel) rfl, ⟨by decide, by decide, by decide +kernel⟩, by decide⟩
theorem i_X12_write : mKI M_X12_write := ⟨mWd_at 900 (by decide +kernel) rfl, mWd_at 901 (by decide +kernel) rfl⟩
def M_X12_wipe : mMe := (yX12_wipe, cX12_wipe, 2, (some .int))
theorem k_X12_wipe : mK2 M_X12_wipe 0 := ⟨mWd_at 908 (by decide +kernel) rfl, mWd_at 62 (by decide +kernel) rfl, ⟨by decide, by decide, by decide +kernel⟩, by decide⟩
theorem i_X12_wipe : mKI M_X12_wipe := ⟨mWd_at 906 (by decide +kernel) rfl, mWd_at 907 (by decide +kernel) rfl⟩
def M_X12_letterAt : mMe := (yX12_letterAt, cX12_letterAt, 2, (some .int))
theorem k_X12_letterAt : mK2 M_X12_letterAt 1 := ⟨mWd_at 924 (by decide +kernel) rfl, mWd_at 62 (by decide +kernel) rfl, ⟨by decide, by decide, by decide +kernel⟩, by decide⟩
theorem i_X12_letterAt : mKI M_X12_letterAt := ⟨mWd_at 923 (by decide +kernel) rfl, mWd_at 17 (by decide +kernel) rfl⟩
def M_X12_takesNumbers : mMe := (yX12_takesNumbers, cX12_takesNumbers, 5, (some .boolean))
theorem k_X12_takesNumbers : mK2 M_X12_takesNumbers 1 := ⟨mWd_at 928 (by decide +kernel) rfl, mWd_at 62 (by decide +kernel) rfl, ⟨by decide, by decide, by decide +kernel⟩, by decide⟩
theorem i_X12_takesNumbers : mKI M_X12_takesNumbers := ⟨mWd_at 927 (by decide +kernel) rfl, mWd_at 18 (by decide +kernel) rfl⟩
def M_X12_takesItem : mMe := (yX12_takesItem, cX12_takesItem, 2, (some .boolean))
theorem k_X12_takesItem : mK2 M_X12_takesItem 0 := ⟨mWd_at 920 (by decide +kernel) rfl, mWd_at 62 (by decide +kernel) rfl, ⟨by decide, by decide, by decide +kernel⟩, by decide⟩
theorem i_X12_takesItem : mKI M_X12_takesItem := ⟨mWd_at 919 (by decide +kernel) rfl, mWd_at 16 (by decide +kernel) rfl⟩
def M_X12_faultOf : mMe := (yX12_faultOf, cX12_faultOf, 2, (some .int))
theorem k_X12_faultOf : mK2 M_X12_faultOf 0 := ⟨mWd_at 916 (by decide +kernel) rfl, mWd_at 62 (by decide +kernel) rfl, ⟨by decide, by decide, by decide +kernel⟩, by decide⟩
theorem i_X12_faultOf : mKI M_X12_faultOf := ⟨mWd_at 915 (by decide +kernel) rfl, mWd_at 15 (by decide +kernel) rfl⟩
def M_X12_fault : mMe := (yX12_fault, cX12_fault, 1, (some .int))
theorem k_X12_fault : mK2 M_X12_fault 0 := ⟨mWd_at 912 (by decide +kernel) rfl, mWd_at 62 (by decide +kernel) rfl, ⟨by decide, by decide, by decide +kernel⟩, by decide⟩
theorem i_X12_fault : mKI M_X12_fault := ⟨mWd_at 910 (by decide +kernel) rfl, mWd_at 911 (by decide +kernel) rfl⟩
def M_X12_lay : mMe := (yX12_lay, cX12_lay, 1, (some .int))
theorem k_X12_lay : mK2 M_X12_lay 0 := ⟨mWd_at 939 (by decide +kernel) rfl, mWd_at 62 (by decide +kernel) rfl, ⟨by decide, by decide, by decide +kernel⟩, by decide⟩
theorem i_X12_lay : mKI M_X12_lay := ⟨mWd_at 937 (by decide +kernel) rfl, mWd_at 938 (by decide +kernel) rfl⟩
def M_X12_isPerson : mMe := (yX12_isPerson, cX12_isPerson, 2, (some .boolean))
theorem k_X12_isPerson : mK2 M_X12_isPerson 1 := ⟨mWd_at 947 (by decide +kernel) rfl, mWd_at 62 (by decide +kernel) rfl, ⟨by decide, by decide, by decide +kernel⟩, by decide⟩
theorem i_X12_isPerson : mKI M_X12_isPerson := ⟨mWd_at 946 (by decide +kernel) rfl, mWd_at 20 (by decide +kernel) rfl⟩
def M_X12_isGood : mMe := (yX12_isGood, cX12_isGood, 2, (some .boolean))
theorem k_X12_isGood : mK2 M_X12_isGood 1 := ⟨mWd_at 962 (by decide +kernel) rfl, mWd_at 62 (by decide +kernel) rfl, ⟨by decide, by decide, by decide +kernel⟩, by decide⟩
theorem i_X12_isGood : mKI M_X12_isGood := ⟨mWd_at 961 (by decide +kernel) rfl, mWd_at 22 (by decide +kernel) rfl⟩
def M_X12_areTwo : mMe := (yX12_areTwo, cX12_areTwo, 3, (some .boolean))
theorem k_X12_areTwo : mK2 M_X12_areTwo 2 := ⟨mWd_at 970 (by decide +kernel) rfl, mWd_at 62 (by decide +kernel) rfl, ⟨by decide, by decide, by decide +kernel⟩, by decide⟩
theorem i_X12_areTwo : mKI M_X12_areTwo := ⟨mWd_at 969 (by decide +kernel) rfl, mWd_at 23 (by decide +kernel) rfl⟩
def M_X12_isHere : mMe := (yX12_isHere, cX12_isHere, 2, (some .boolean))
theorem k_X12_isHere : mK2 M_X12_isHere 1 := ⟨mWd_at 951 (by decide +kernel) rfl, mWd_at 62 (by decide +kernel) rfl, ⟨by decide, by decide, by decide +kernel⟩, by decide⟩
theorem i_X12_isHere : mKI M_X12_isHere := ⟨mWd_at 950 (by decide +kernel) rfl, mWd_at 21 (by decide +kernel) rfl⟩
def M_X12_person : mMe := (yX12_person, cX12_person, 3, (some .int))
theorem k_X12_person : mK2 M_X12_person 2 := ⟨mWd_at 943 (by decide +kernel) rfl, mWd_at 62 (by decide +kernel) rfl, ⟨by decide, by decide, by decide +kernel⟩, by decide⟩
theorem i_X12_person : mKI M_X12_person := ⟨mWd_at 941 (by decide +kernel) rfl, mWd_at 942 (by decide +kernel) rfl⟩
def M_X12_good : mMe := (yX12_good, cX12_good, 3, (some .int))
theorem k_X12_good : mK2 M_X12_good 2 := ⟨mWd_at 958 (by decide +kernel) rfl, mWd_at 62 (by decide +kernel) rfl, ⟨by decide, by decide, by decide +kernel⟩, by decide⟩
theorem i_X12_good : mKI M_X12_good := ⟨mWd_at 956 (by decide +kernel) rfl, mWd_at 957 (by decide +kernel) rfl⟩
def M_X12_love : mMe := (yX12_love, cX12_love, 3, (some .int))
theorem k_X12_love : mK2 M_X12_love 2 := ⟨mWd_at 966 (by decide +kernel) rfl, mWd_at 62 (by decide +kernel) rfl, ⟨by decide, by decide, by decide +kernel⟩, by decide⟩
theorem i_X12_love : mKI M_X12_love := ⟨mWd_at 964 (by decide +kernel) rfl, mWd_at 965 (by decide +kernel) rfl⟩
def M_X12_counts : mMe := (yX12_counts, cX12_counts, 3, (some .int))
theorem k_X12_counts : mK2 M_X12_counts 1 := ⟨mWd_at 990 (by decide +kernel) rfl, mWd_at 62 (by decide +kernel) rfl, ⟨by decide, by decide, by decide +kernel⟩, by decide⟩
theorem i_X12_counts : mKI M_X12_counts := ⟨mWd_at 989 (by decide +kernel) rfl, mWd_at 27 (by decide +kernel) rfl⟩
def M_X12_dutyOf : mMe := (yX12_dutyOf, cX12_dutyOf, 5, (some .int))
theorem k_X12_dutyOf : mK2 M_X12_dutyOf 2 := ⟨mWd_at 998 (by decide +kernel) rfl, mWd_at 62 (by decide +kernel) rfl, ⟨by decide, by decide, by decide +kernel⟩, by decide⟩
theorem i_X12_dutyOf : mKI M_X12_dutyOf := ⟨mWd_at 997 (by decide +kernel) rfl, mWd_at 29 (by decide +kernel) rfl⟩
def M_X12_leftBy : mMe := (yX12_leftBy, cX12_leftBy, 6, (some .int))
theorem k_X12_leftBy : mK2 M_X12_leftBy 3 := ⟨mWd_at 986 (by decide +kernel) rfl, mWd_at 62 (by decide +kernel) rfl, ⟨by decide, by decide, by decide +kernel⟩, by decide⟩
theorem i_X12_leftBy : mKI M_X12_leftBy := ⟨mWd_at 985 (by decide +kernel) rfl, mWd_at 26 (by decide +kernel) rfl⟩
def M_X12_lovedBy : mMe := (yX12_lovedBy, cX12_lovedBy, 7, (some .int))
theorem k_X12_lovedBy : mK2 M_X12_lovedBy 3 := ⟨mWd_at 994 (by decide +kernel) rfl, mWd_at 62 (by decide +kernel) rfl, ⟨by decide, by decide, by decide +kernel⟩, by decide⟩
theorem i_X12_lovedBy : mKI M_X12_lovedBy := ⟨mWd_at 993 (by decide +kernel) rfl, mWd_at 28 (by decide +kernel) rfl⟩
def M_X12_owesIn : mMe := (yX12_owesIn, cX12_owesIn, 4, (some .int))
theorem k_X12_owesIn : mK2 M_X12_owesIn 3 := ⟨mWd_at 982 (by decide +kernel) rfl, mWd_at 62 (by decide +kernel) rfl, ⟨by decide, by decide, by decide +kernel⟩, by decide⟩
theorem i_X12_owesIn : mKI M_X12_owesIn := ⟨mWd_at 981 (by decide +kernel) rfl, mWd_at 25 (by decide +kernel) rfl⟩
def M_X12_owesNow : mMe := (yX12_owesNow, cX12_owesNow, 2, (some .int))
theorem k_X12_owesNow : mK2 M_X12_owesNow 1 := ⟨mWd_at 978 (by decide +kernel) rfl, mWd_at 62 (by decide +kernel) rfl, ⟨by decide, by decide, by decide +kernel⟩, by decide⟩
theorem i_X12_owesNow : mKI M_X12_owesNow := ⟨mWd_at 977 (by decide +kernel) rfl, mWd_at 24 (by decide +kernel) rfl⟩
def M_X12_owes : mMe := (yX12_owes, cX12_owes, 2, (some .int))
theorem k_X12_owes : mK2 M_X12_owes 1 := ⟨mWd_at 974 (by decide +kernel) rfl, mWd_at 62 (by decide +kernel) rfl, ⟨by decide, by decide, by decide +kernel⟩, by decide⟩
theorem i_X12_owes : mKI M_X12_owes := ⟨mWd_at 972 (by decide +kernel) rfl, mWd_at 973 (by decide +kernel) rfl⟩
def M_X12_owesWith : mMe := (yX12_owesWith, cX12_owesWith, 3, (some .int))
theorem k_X12_owesWith : mK2 M_X12_owesWith 2 := ⟨mWd_at 1002 (by decide +kernel) rfl, mWd_at 62 (by decide +kernel) rfl, ⟨by decide, by decide, by decide +kernel⟩, by decide⟩
theorem i_X12_owesWith : mKI M_X12_owesWith := ⟨mWd_at 1000 (by decide +kernel) rfl, mWd_at 1001 (by decide +kernel) rfl⟩
def M_X12_minds : mMe := (yX12_minds, cX12_minds, 2, none)
theorem k_X12_minds : mK2 M_X12_minds 0 := ⟨mWd_at 1018 (by decide +kernel) rfl, mWd_at 62 (by decide +kernel) rfl, ⟨by decide, by decide, by decide +kernel⟩, by decide⟩
theorem i_X12_minds : mKI M_X12_minds := ⟨mWd_at 1017 (by decide +kernel) rfl, mWd_at 32 (by decide +kernel) rfl⟩
def M_X12_heavyOf : mMe := (yX12_heavyOf, cX12_heavyOf, 4, (some .int))
theorem k_X12_heavyOf : mK2 M_X12_heavyOf 1 := ⟨mWd_at 1014 (by decide +kernel) rfl, mWd_at 62 (by decide +kernel) rfl, ⟨by decide, by decide, by decide +kernel⟩, by decide⟩
theorem i_X12_heavyOf : mKI M_X12_heavyOf := ⟨mWd_at 1013 (by decide +kernel) rfl, mWd_at 31 (by decide +kernel) rfl⟩
def M_X12_isOurs : mMe := (yX12_isOurs, cX12_isOurs, 2, (some .boolean))
theorem k_X12_isOurs : mK2 M_X12_isOurs 1 := ⟨mWd_at 1010 (by decide +kernel) rfl, mWd_at 62 (by decide +kernel) rfl, ⟨by decide, by decide, by decide +kernel⟩, by decide⟩
theorem i_X12_isOurs : mKI M_X12_isOurs := ⟨mWd_at 1009 (by decide +kernel) rfl, mWd_at 30 (by decide +kernel) rfl⟩
def M_X12_pack : mMe := (yX12_pack, cX12_pack, 4, (some .int))
theorem k_X12_pack : mK2 M_X12_pack 2 := ⟨mWd_at 1006 (by decide +kernel) rfl, mWd_at 62 (by decide +kernel) rfl, ⟨by decide, by decide, by decide +kernel⟩, by decide⟩
theorem i_X12_pack : mKI M_X12_pack := ⟨mWd_at 1004 (by decide +kernel) rfl, mWd_at 1005 (by decide +kernel) rfl⟩
def M_X12_give : mMe := (yX12_give, cX12_give, 4, (some .int))
theorem k_X12_give : mK2 M_X12_give 2 := ⟨mWd_at 1026 (by decide +kernel) rfl, mWd_at 62 (by decide +kernel) rfl, ⟨by decide, by decide, by decide +kernel⟩, by decide⟩
theorem i_X12_give : mKI M_X12_give := ⟨mWd_at 1024 (by decide +kernel) rfl, mWd_at 1025 (by decide +kernel) rfl⟩
def M_X12_isAlone : mMe := (yX12_isAlone, cX12_isAlone, 4, (some .boolean))
theorem k_X12_isAlone : mK2 M_X12_isAlone 1 := ⟨mWd_at 1038 (by decide +kernel) rfl, mWd_at 62 (by decide +kernel) rfl, ⟨by decide, by decide, by decide +kernel⟩, by decide⟩
theorem i_X12_isAlone : mKI M_X12_isAlone := ⟨mWd_at 1037 (by decide +kernel) rfl, mWd_at 35 (by decide +kernel) rfl⟩
def M_X12_canLeave : mMe := (yX12_canLeave, cX12_canLeave, 3, (some .boolean))
theorem k_X12_canLeave : mK2 M_X12_canLeave 2 := ⟨mWd_at 1034 (by decide +kernel) rfl, mWd_at 62 (by decide +kernel) rfl, ⟨by decide, by decide, by decide +kernel⟩, by decide⟩
theorem i_X12_canLeave : mKI M_X12_canLeave := ⟨mWd_at 1033 (by decide +kernel) rfl, mWd_at 34 (by decide +kernel) rfl⟩
def M_X12_goes : mMe := (yX12_goes, cX12_goes, 5, none)
theorem k_X12_goes : mK2 M_X12_goes 3 := ⟨mWd_at 1042 (by decide +kernel) rfl, mWd_at 62 (by decide +kernel) rfl, ⟨by decide, by decide, by decide +kernel⟩, by decide⟩
theorem i_X12_goes : mKI M_X12_goes := ⟨mWd_at 1041 (by decide +kernel) rfl, mWd_at 36 (by decide +kernel) rfl⟩
def M_X12_backFor : mMe := (yX12_backFor, cX12_backFor, 3, (some .int))
theorem k_X12_backFor : mK2 M_X12_backFor 2 := ⟨mWd_at 1054 (by decide +kernel) rfl, mWd_at 62 (by decide +kernel) rfl, ⟨by decide, by decide, by decide +kernel⟩, by decide⟩
theorem i_X12_backFor : mKI M_X12_backFor := ⟨mWd_at 1053 (by decide +kernel) rfl, mWd_at 37 (by decide +kernel) rfl⟩
def M_X12_returns : mMe := (yX12_returns, cX12_returns, 4, none)
theorem k_X12_returns : mK2 M_X12_returns 3 := ⟨mWd_at 1058 (by decide +kernel) rfl, mWd_at 62 (by decide +kernel) rfl, ⟨by decide, by decide, by decide +kernel⟩, by decide⟩
theorem i_X12_returns : mKI M_X12_returns := ⟨mWd_at 1057 (by decide +kernel) rfl, mWd_at 38 (by decide +kernel) rfl⟩
def M_X12_leave : mMe := (yX12_leave, cX12_leave, 3, (some .int))
theorem k_X12_leave : mK2 M_X12_leave 1 := ⟨mWd_at 1030 (by decide +kernel) rfl, mWd_at 62 (by decide +kernel) rfl, ⟨by decide, by decide, by decide +kernel⟩, by decide⟩
theorem i_X12_leave : mKI M_X12_leave := ⟨mWd_at 1028 (by decide +kernel) rfl, mWd_at 1029 (by decide +kernel) rfl⟩
def M_X12_leaveBoth : mMe := (yX12_leaveBoth, cX12_leaveBoth, 5, (some .int))
theorem k_X12_leaveBoth : mK2 M_X12_leaveBoth 2 := ⟨mWd_at 1046 (by decide +kernel) rfl, mWd_at 62 (by decide +kernel) rfl, ⟨by decide, by decide, by decide +kernel⟩, by decide⟩
theorem i_X12_leaveBoth : mKI M_X12_leaveBoth := ⟨mWd_at 1044 (by decide +kernel) rfl, mWd_at 1045 (by decide +kernel) rfl⟩
def M_X12_comeBack : mMe := (yX12_comeBack, cX12_comeBack, 3, (some .int))
theorem k_X12_comeBack : mK2 M_X12_comeBack 1 := ⟨mWd_at 1050 (by decide +kernel) rfl, mWd_at 62 (by decide +kernel) rfl, ⟨by decide, by decide, by decide +kernel⟩, by decide⟩
theorem i_X12_comeBack : mKI M_X12_comeBack := ⟨mWd_at 1048 (by decide +kernel) rfl, mWd_at 1049 (by decide +kernel) rfl⟩
def M_X12_undo : mMe := (yX12_undo, cX12_undo, 1, (some .int))
theorem k_X12_undo : mK2 M_X12_undo 0 := ⟨mWd_at 1062 (by decide +kernel) rfl, mWd_at 62 (by decide +kernel) rfl, ⟨by decide, by decide, by decide +kernel⟩, by decide⟩
theorem i_X12_undo : mKI M_X12_undo := ⟨mWd_at 1060 (by decide +kernel) rfl, mWd_at 1061 (by decide +kernel) rfl⟩
def M_X12_packing : mMe := (yX12_packing, cX12_packing, 13, (some .int))
theorem k_X12_packing : mK2 M_X12_packing 2 := ⟨mWd_at 1066 (by decide +kernel) rfl, mWd_at 62 (by decide +kernel) rfl, ⟨by decide, by decide, by decide +kernel⟩, by decide⟩
theorem i_X12_packing : mKI M_X12_packing := ⟨mWd_at 1064 (by decide +kernel) rfl, mWd_at 1065 (by decide +kernel) rfl⟩
def M_X12_giving : mMe := (yX12_giving, cX12_giving, 8, (some .int))
theorem k_X12_giving : mK2 M_X12_giving 2 := ⟨mWd_at 1071 (by decide +kernel) rfl, mWd_at 62 (by decide +kernel) rfl, ⟨by decide, by decide, by decide +kernel⟩, by decide⟩
theorem i_X12_giving : mKI M_X12_giving := ⟨mWd_at 1069 (by decide +kernel) rfl, mWd_at 1070 (by decide +kernel) rfl⟩
def M_X12_findOrder : mMe := (yX12_findOrder, cX12_findOrder, 5, none)
theorem k_X12_findOrder : mK2 M_X12_findOrder 0 := ⟨mWd_at 1080 (by decide +kernel) rfl, mWd_at 62 (by decide +kernel) rfl, ⟨by decide, by decide, by decide +kernel⟩, by decide⟩
theorem i_X12_findOrder : mKI M_X12_findOrder := ⟨mWd_at 1079 (by decide +kernel) rfl, mWd_at 39 (by decide +kernel) rfl⟩
def M_X12_order : mMe := (yX12_order, cX12_order, 5, (some .int))
theorem k_X12_order : mK2 M_X12_order 1 := ⟨mWd_at 1075 (by decide +kernel) rfl, mWd_at 62 (by decide +kernel) rfl, ⟨by decide, by decide, by decide +kernel⟩, by decide⟩
theorem i_X12_order : mKI M_X12_order := ⟨mWd_at 1073 (by decide +kernel) rfl, mWd_at 1074 (by decide +kernel) rfl⟩
def M_X12_stuck : mMe := (yX12_stuck, cX12_stuck, 3, (some .int))
theorem k_X12_stuck : mK2 M_X12_stuck 0 := ⟨mWd_at 1084 (by decide +kernel) rfl, mWd_at 62 (by decide +kernel) rfl, ⟨by decide, by decide, by decide +kernel⟩, by decide⟩
theorem i_X12_stuck : mKI M_X12_stuck := ⟨mWd_at 1082 (by decide +kernel) rfl, mWd_at 1083 (by decide +kernel) rfl⟩
def M_X12_swear : mMe := (yX12_swear, cX12_swear, 3, (some .int))
theorem k_X12_swear : mK2 M_X12_swear 2 := ⟨mWd_at 1088 (by decide +kernel) rfl, mWd_at 62 (by decide +kernel) rfl, ⟨by decide, by decide, by decide +kernel⟩, by decide⟩
theorem i_X12_swear : mKI M_X12_swear := ⟨mWd_at 1086 (by decide +kernel) rfl, mWd_at 1087 (by decide +kernel) rfl⟩
def M_X12_forget : mMe := (yX12_forget, cX12_forget, 2, (some .int))
theorem k_X12_forget : mK2 M_X12_forget 0 := ⟨mWd_at 1093 (by decide +kernel) rfl, mWd_at 62 (by decide +kernel) rfl, ⟨by decide, by decide, by decide +kernel⟩, by decide⟩
theorem i_X12_forget : mKI M_X12_forget := ⟨mWd_at 1091 (by decide +kernel) rfl, mWd_at 1092 (by decide +kernel) rfl⟩
def M_X12_isFalse : mMe := (yX12_isFalse, cX12_isFalse, 7, (some .int))
theorem k_X12_isFalse : mK2 M_X12_isFalse 1 := ⟨mWd_at 1097 (by decide +kernel) rfl, mWd_at 62 (by decide +kernel) rfl, ⟨by decide, by decide, by decide +kernel⟩, by decide⟩
theorem i_X12_isFalse : mKI M_X12_isFalse := ⟨mWd_at 1095 (by decide +kernel) rfl, mWd_at 1096 (by decide +kernel) rfl⟩
def M_X12_loved : mMe := (yX12_loved, cX12_loved, 10, (some .int))
theorem k_X12_loved : mK2 M_X12_loved 3 := ⟨mWd_at 1101 (by decide +kernel) rfl, mWd_at 62 (by decide +kernel) rfl, ⟨by decide, by decide, by decide +kernel⟩, by decide⟩
theorem i_X12_loved : mKI M_X12_loved := ⟨mWd_at 1099 (by decide +kernel) rfl, mWd_at 1100 (by decide +kernel) rfl⟩
def M_X12_nextGift : mMe := (yX12_nextGift, cX12_nextGift, 4, (some .int))
theorem k_X12_nextGift : mK2 M_X12_nextGift 2 := ⟨mWd_at 1118 (by decide +kernel) rfl, mWd_at 62 (by decide +kernel) rfl, ⟨by decide, by decide, by decide +kernel⟩, by decide⟩
theorem i_X12_nextGift : mKI M_X12_nextGift := ⟨mWd_at 1117 (by decide +kernel) rfl, mWd_at 42 (by decide +kernel) rfl⟩
def M_X12_gives : mMe := (yX12_gives, cX12_gives, 3, none)
theorem k_X12_gives : mK2 M_X12_gives 2 := ⟨mWd_at 1122 (by decide +kernel) rfl, mWd_at 62 (by decide +kernel) rfl, ⟨by decide, by decide, by decide +kernel⟩, by decide⟩
theorem i_X12_gives : mKI M_X12_gives := ⟨mWd_at 1121 (by decide +kernel) rfl, mWd_at 43 (by decide +kernel) rfl⟩
def M_X12_offers : mMe := (yX12_offers, cX12_offers, 5, none)
theorem k_X12_offers : mK2 M_X12_offers 3 := ⟨mWd_at 1126 (by decide +kernel) rfl, mWd_at 62 (by decide +kernel) rfl, ⟨by decide, by decide, by decide +kernel⟩, by decide⟩
theorem i_X12_offers : mKI M_X12_offers := ⟨mWd_at 1125 (by decide +kernel) rfl, mWd_at 44 (by decide +kernel) rfl⟩
def M_X12_opens : mMe := (yX12_opens, cX12_opens, 2, none)
theorem k_X12_opens : mK2 M_X12_opens 1 := ⟨mWd_at 1114 (by decide +kernel) rfl, mWd_at 62 (by decide +kernel) rfl, ⟨by decide, by decide, by decide +kernel⟩, by decide⟩
theorem i_X12_opens : mKI M_X12_opens := ⟨mWd_at 1113 (by decide +kernel) rfl, mWd_at 41 (by decide +kernel) rfl⟩
def M_X12_findTurns : mMe := (yX12_findTurns, cX12_findTurns, 9, none)
theorem k_X12_findTurns : mK2 M_X12_findTurns 3 := ⟨mWd_at 1110 (by decide +kernel) rfl, mWd_at 62 (by decide +kernel) rfl, ⟨by decide, by decide, by decide +kernel⟩, by decide⟩
theorem i_X12_findTurns : mKI M_X12_findTurns := ⟨mWd_at 1109 (by decide +kernel) rfl, mWd_at 40 (by decide +kernel) rfl⟩
def M_X12_byTurns : mMe := (yX12_byTurns, cX12_byTurns, 5, (some .int))
theorem k_X12_byTurns : mK2 M_X12_byTurns 4 := ⟨mWd_at 1105 (by decide +kernel) rfl, mWd_at 62 (by decide +kernel) rfl, ⟨by decide, by decide, by decide +kernel⟩, by decide⟩
theorem i_X12_byTurns : mKI M_X12_byTurns := ⟨mWd_at 1103 (by decide +kernel) rfl, mWd_at 1104 (by decide +kernel) rfl⟩
def M_X12_chairs : mMe := (yX12_chairs, cX12_chairs, 7, (some .int))
theorem k_X12_chairs : mK2 M_X12_chairs 1 := ⟨mWd_at 1130 (by decide +kernel) rfl, mWd_at 62 (by decide +kernel) rfl, ⟨by decide, by decide, by decide +kernel⟩, by decide⟩
theorem i_X12_chairs : mKI M_X12_chairs := ⟨mWd_at 1128 (by decide +kernel) rfl, mWd_at 1129 (by decide +kernel) rfl⟩
def M_X12_year : mMe := (yX12_year, cX12_year, 11, (some .int))
theorem k_X12_year : mK2 M_X12_year 3 := ⟨mWd_at 1137 (by decide +kernel) rfl, mWd_at 62 (by decide +kernel) rfl, ⟨by decide, by decide, by decide +kernel⟩, by decide⟩
theorem i_X12_year : mKI M_X12_year := ⟨mWd_at 1135 (by decide +kernel) rfl, mWd_at 1136 (by decide +kernel) rfl⟩
def M_X12_keep : mMe := (yX12_keep, cX12_keep, 1, (some .int))
theorem k_X12_keep : mK2 M_X12_keep 0 := ⟨mWd_at 1146 (by decide +kernel) rfl, mWd_at 62 (by decide +kernel) rfl, ⟨by decide, by decide, by decide +kernel⟩, by decide⟩
theorem i_X12_keep : mKI M_X12_keep := ⟨mWd_at 1144 (by decide +kernel) rfl, mWd_at 1145 (by decide +kernel) rfl⟩
def M_X12_back : mMe := (yX12_back, cX12_back, 1, (some .int))
theorem k_X12_back : mK2 M_X12_back 0 := ⟨mWd_at 1150 (by decide +kernel) rfl, mWd_at 62 (by decide +kernel) rfl, ⟨by decide, by decide, by decide +kernel⟩, by decide⟩
theorem i_X12_back : mKI M_X12_back := ⟨mWd_at 1148 (by decide +kernel) rfl, mWd_at 1149 (by decide +kernel) rfl⟩
def M_X12_paidInAll : mMe := (yX12_paidInAll, cX12_paidInAll, 3, (some .int))
theorem k_X12_paidInAll : mK2 M_X12_paidInAll 0 := ⟨mWd_at 1162 (by decide +kernel) rfl, mWd_at 62 (by decide +kernel) rfl, ⟨by decide, by decide, by decide +kernel⟩, by decide⟩
theorem i_X12_paidInAll : mKI M_X12_paidInAll := ⟨mWd_at 1161 (by decide +kernel) rfl, mWd_at 46 (by decide +kernel) rfl⟩
def M_X12_goodsThat : mMe := (yX12_goodsThat, cX12_goodsThat, 4, (some .int))
theorem k_X12_goodsThat : mK2 M_X12_goodsThat 1 := ⟨mWd_at 1158 (by decide +kernel) rfl, mWd_at 62 (by decide +kernel) rfl, ⟨by decide, by decide, by decide +kernel⟩, by decide⟩
theorem i_X12_goodsThat : mKI M_X12_goodsThat := ⟨mWd_at 1157 (by decide +kernel) rfl, mWd_at 45 (by decide +kernel) rfl⟩
def M_X12_count : mMe := (yX12_count, cX12_count, 2, (some .int))
theorem k_X12_count : mK2 M_X12_count 1 := ⟨mWd_at 1154 (by decide +kernel) rfl, mWd_at 62 (by decide +kernel) rfl, ⟨by decide, by decide, by decide +kernel⟩, by decide⟩
theorem i_X12_count : mKI M_X12_count := ⟨mWd_at 1152 (by decide +kernel) rfl, mWd_at 1153 (by decide +kernel) rfl⟩
def M_J6_bitCount_0f7a4 : mMe := (yJ6_bitCount_0f7a4, cJ6_bitCount_0f7a4, 1, (some .int))
theorem k_J6_bitCount_0f7a4 : mK2 M_J6_bitCount_0f7a4 1 := ⟨mWd_at 773 (by decide +kernel) rfl, mWd_at 66 (by decide +kernel) rfl, ⟨by decide, by decide, by decide +kernel⟩, by decide⟩
theorem s_J6_bitCount_0f7a4 : Cond.static M_J6_bitCount_0f7a4.1 ∈ mWd := mWd_at 772 (by decide +kernel) rfl
def M_J9_max_7cf53 : mMe := (yJ9_max_7cf53, cJ9_max_7cf53, 2, (some .int))
theorem k_J9_max_7cf53 : mK2 M_J9_max_7cf53 2 := ⟨mWd_at 143 (by decide +kernel) rfl, mWd_at 53 (by decide +kernel) rfl, ⟨by decide, by decide, by decide +kernel⟩, by decide⟩
theorem s_J9_max_7cf53 : Cond.static M_J9_max_7cf53.1 ∈ mWd := mWd_at 142 (by decide +kernel) rfl
def M_J9_min_7cf53 : mMe := (yJ9_min_7cf53, cJ9_min_7cf53, 2, (some .int))
theorem k_J9_min_7cf53 : mK2 M_J9_min_7cf53 2 := ⟨mWd_at 528 (by decide +kernel) rfl, mWd_at 53 (by decide +kernel) rfl, ⟨by decide, by decide, by decide +kernel⟩, by decide⟩
theorem s_J9_min_7cf53 : Cond.static M_J9_min_7cf53.1 ∈ mWd := mWd_at 527 (by decide +kernel) rfl
def M_J0_length_8abf5 : mMe := (yJ0_length_8abf5, cJ0_length_8abf5, 1, (some .int))
theorem k_J0_length_8abf5 : mK2 M_J0_length_8abf5 0 := ⟨mWd_at 245 (by decide +kernel) rfl, mWd_at 57 (by decide +kernel) rfl, ⟨by decide, by decide, by decide +kernel⟩, by decide⟩
theorem i_J0_length_8abf5 : mKI M_J0_length_8abf5 := ⟨mWd_at 243 (by decide +kernel) rfl, mWd_at 244 (by decide +kernel) rfl⟩
def M_J0_charAt_5068e : mMe := (yJ0_charAt_5068e, cJ0_charAt_5068e, 2, (some .char))
theorem k_J0_charAt_5068e : mK2 M_J0_charAt_5068e 1 := ⟨mWd_at 255 (by decide +kernel) rfl, mWd_at 57 (by decide +kernel) rfl, ⟨by decide, by decide, by decide +kernel⟩, by decide⟩
theorem i_J0_charAt_5068e : mKI M_J0_charAt_5068e := ⟨mWd_at 253 (by decide +kernel) rfl, mWd_at 254 (by decide +kernel) rfl⟩
def M_J0_coder_7d493 : mMe := (yJ0_coder_7d493, cJ0_coder_7d493, 1, (some .byte))
theorem k_J0_coder_7d493 : mK2 M_J0_coder_7d493 0 := ⟨mWd_at 249 (by decide +kernel) rfl, mWd_at 57 (by decide +kernel) rfl, ⟨by decide, by decide, by decide +kernel⟩, by decide⟩
theorem i_J0_coder_7d493 : mKI M_J0_coder_7d493 := ⟨mWd_at 247 (by decide +kernel) rfl, mWd_at 248 (by decide +kernel) rfl⟩
def M_J0_isLatin1_aae02 : mMe := (yJ0_isLatin1_aae02, cJ0_isLatin1_aae02, 1, (some .boolean))
theorem k_J0_isLatin1_aae02 : mK2 M_J0_isLatin1_aae02 0 := ⟨mWd_at 259 (by decide +kernel) rfl, mWd_at 57 (by decide +kernel) rfl, ⟨by decide, by decide, by decide +kernel⟩, by decide⟩
theorem i_J0_isLatin1_aae02 : mKI M_J0_isLatin1_aae02 := ⟨mWd_at 257 (by decide +kernel) rfl, mWd_at 258 (by decide +kernel) rfl⟩
def M_J0_checkIndex_df160 : mMe := (yJ0_checkIndex_df160, cJ0_checkIndex_df160, 2, none)
theorem k_J0_checkIndex_df160 : mK2 M_J0_checkIndex_df160 2 := ⟨mWd_at 265 (by decide +kernel) rfl, mWd_at 57 (by decide +kernel) rfl, ⟨by decide, by decide, by decide +kernel⟩, by decide⟩
theorem s_J0_checkIndex_df160 : Cond.static M_J0_checkIndex_df160.1 ∈ mWd := mWd_at 264 (by decide +kernel) rfl
def M_J1_charAt_3b067 : mMe := (yJ1_charAt_3b067, cJ1_charAt_3b067, 2, (some .char))
theorem k_J1_charAt_3b067 : mK2 M_J1_charAt_3b067 2 := ⟨mWd_at 262 (by decide +kernel) rfl, mWd_at 58 (by decide +kernel) rfl, ⟨by decide, by decide, by decide +kernel⟩, by decide⟩
theorem s_J1_charAt_3b067 : Cond.static M_J1_charAt_3b067.1 ∈ mWd := mWd_at 261 (by decide +kernel) rfl
def M_J2_getChar_3b067 : mMe := (yJ2_getChar_3b067, cJ2_getChar_3b067, 2, (some .char))
theorem k_J2_getChar_3b067 : mK2 M_J2_getChar_3b067 2 := ⟨mWd_at 283 (by decide +kernel) rfl, mWd_at 60 (by decide +kernel) rfl, ⟨by decide, by decide, by decide +kernel⟩, by decide⟩
theorem s_J2_getChar_3b067 : Cond.static M_J2_getChar_3b067.1 ∈ mWd := mWd_at 282 (by decide +kernel) rfl
def M_J2_length_9d52b : mMe := (yJ2_length_9d52b, cJ2_length_9d52b, 1, (some .int))
theorem k_J2_length_9d52b : mK2 M_J2_length_9d52b 1 := ⟨mWd_at 279 (by decide +kernel) rfl, mWd_at 60 (by decide +kernel) rfl, ⟨by decide, by decide, by decide +kernel⟩, by decide⟩
theorem s_J2_length_9d52b : Cond.static M_J2_length_9d52b.1 ∈ mWd := mWd_at 278 (by decide +kernel) rfl
def M_J2_charAt_3b067 : mMe := (yJ2_charAt_3b067, cJ2_charAt_3b067, 2, (some .char))
theorem k_J2_charAt_3b067 : mK2 M_J2_charAt_3b067 2 := ⟨mWd_at 273 (by decide +kernel) rfl, mWd_at 60 (by decide +kernel) rfl, ⟨by decide, by decide, by decide +kernel⟩, by decide⟩
theorem s_J2_charAt_3b067 : Cond.static M_J2_charAt_3b067.1 ∈ mWd := mWd_at 272 (by decide +kernel) rfl
def M_J2_checkIndex_2214a : mMe := (yJ2_checkIndex_2214a, cJ2_checkIndex_2214a, 2, none)
theorem k_J2_checkIndex_2214a : mK2 M_J2_checkIndex_2214a 2 := ⟨mWd_at 276 (by decide +kernel) rfl, mWd_at 60 (by decide +kernel) rfl, ⟨by decide, by decide, by decide +kernel⟩, by decide⟩
theorem s_J2_checkIndex_2214a : Cond.static M_J2_checkIndex_2214a.1 ∈ mWd := mWd_at 275 (by decide +kernel) rfl
def M_J3_checkIndex_8e157 : mMe := (yJ3_checkIndex_8e157, cJ3_checkIndex_8e157, 3, (some .int))
theorem k_J3_checkIndex_8e157 : mK2 M_J3_checkIndex_8e157 3 := ⟨mWd_at 270 (by decide +kernel) rfl, mWd_at 59 (by decide +kernel) rfl, ⟨by decide, by decide, by decide +kernel⟩, by decide⟩
theorem s_J3_checkIndex_8e157 : Cond.static M_J3_checkIndex_8e157.1 ∈ mWd := mWd_at 269 (by decide +kernel) rfl
theorem cl_L_7 : Cond.classLink RL 7 RX11 ∈ mWd := mWd_at 67 (by decide +kernel) rfl
theorem in_7 : Cond.instantiable RX11 11 ∈ mWd := mWd_at 68 (by decide +kernel) rfl
theorem it_7 : Cond.initialized RX11 ∈ mWd := mWd_at 48 (by decide +kernel) rfl
theorem l_L_9 : Cond.methodLink RL 9 M_X11_init.1 ∈ mWd := mWd_at 69 (by decide +kernel) rfl
theorem l_X11_1 : Cond.methodLink RX11 1 Lib.objectInit ∈ mWd := mWd_at 72 (by decide +kernel) rfl
theorem cl_X11_7 : Cond.classLink RX11 7 RX9 ∈ mWd := mWd_at 75 (by decide +kernel) rfl
theorem in_6 : Cond.instantiable RX9 2 ∈ mWd := mWd_at 76 (by decide +kernel) rfl
theorem it_6 : Cond.initialized RX9 ∈ mWd := mWd_at 49 (by decide +kernel) rfl
theorem n_X11_9 : (RX11, 9, M_X9_init.1, "DutyOnLeft") ∈ mNest := by decide +kernel
theorem l_X9_3 : Cond.methodLink RX9 3 Lib.objectInit ∈ mWd := mWd_at 80 (by decide +kernel) rfl
theorem f_X9_9 : mFL RX9 9 6 2 0 true := ⟨RX9, TX9, rfl, by decide, mWd_at 81 (by decide +kernel) rfl, rfl, rfl, u_TX9⟩
theorem f_X9_15 : mFL RX9 15 6 2 1 false := ⟨RX9, TX9, rfl, by decide, mWd_at 82 (by decide +kernel) rfl, rfl, rfl, u_TX9⟩
theorem f_X6_20 : mFL RX6 20 6 2 1 false := ⟨RX9, TX9, rfl, by decide, mWd_at 83 (by decide +kernel) rfl, rfl, rfl, u_TX9⟩
theorem f_X11_100 : mFL RX11 100 6 2 1 false := ⟨RX9, TX9, rfl, by decide, mWd_at 84 (by decide +kernel) rfl, rfl, rfl, u_TX9⟩
theorem cl_X11_16 : Cond.classLink RX11 16 RX6 ∈ mWd := mWd_at 91 (by decide +kernel) rfl
theorem in_4 : Cond.instantiable RX6 1 ∈ mWd := mWd_at 92 (by decide +kernel) rfl
theorem it_4 : Cond.initialized RX6 ∈ mWd := mWd_at 50 (by decide +kernel) rfl
theorem n_X11_18 : (RX11, 18, M_X6_init.1, "DutyOnLeft") ∈ mNest := by decide +kernel
theorem l_X6_3 : Cond.methodLink RX6 3 Lib.objectInit ∈ mWd := mWd_at 96 (by decide +kernel) rfl
theorem f_X6_9 : mFL RX6 9 4 1 0 true := ⟨RX6, TX6, rfl, by decide, mWd_at 97 (by decide +kernel) rfl, rfl, rfl, u_TX6⟩
theorem cl_X11_23 : Cond.classLink RX11 23 RX8 ∈ mWd := mWd_at 102 (by decide +kernel) rfl
theorem in_5 : Cond.instantiable RX8 7 ∈ mWd := mWd_at 103 (by decide +kernel) rfl
theorem it_5 : Cond.initialized RX8 ∈ mWd := mWd_at 51 (by decide +kernel) rfl
theorem n_X11_25 : (RX11, 25, M_X8_init.1, "DutyOnLeft") ∈ mNest := by decide +kernel
theorem l_X8_3 : Cond.methodLink RX8 3 Lib.objectInit ∈ mWd := mWd_at 107 (by decide +kernel) rfl
theorem f_X8_9 : mFL RX8 9 5 7 0 false := ⟨RX8, TX8, rfl, by decide, mWd_at 108 (by decide +kernel) rfl, rfl, rfl, u_TX8⟩
theorem f_X2_15 : mFL RX2 15 5 7 0 false := ⟨RX8, TX8, rfl, by decide, mWd_at 109 (by decide +kernel) rfl, rfl, rfl, u_TX8⟩
theorem f_X4_24 : mFL RX4 24 5 7 0 false := ⟨RX8, TX8, rfl, by decide, mWd_at 110 (by decide +kernel) rfl, rfl, rfl, u_TX8⟩
theorem f_X0_46 : mFL RX0 46 5 7 0 false := ⟨RX8, TX8, rfl, by decide, mWd_at 111 (by decide +kernel) rfl, rfl, rfl, u_TX8⟩
theorem f_X11_195 : mFL RX11 195 5 7 0 false := ⟨RX8, TX8, rfl, by decide, mWd_at 112 (by decide +kernel) rfl, rfl, rfl, u_TX8⟩
theorem f_X8_15 : mFL RX8 15 5 7 1 false := ⟨RX8, TX8, rfl, by decide, mWd_at 113 (by decide +kernel) rfl, rfl, rfl, u_TX8⟩
theorem f_X11_157 : mFL RX11 157 5 7 1 false := ⟨RX8, TX8, rfl, by decide, mWd_at 114 (by decide +kernel) rfl, rfl, rfl, u_TX8⟩
theorem f_X8_18 : mFL RX8 18 5 7 2 true := ⟨RX8, TX8, rfl, by decide, mWd_at 115 (by decide +kernel) rfl, rfl, rfl, u_TX8⟩
theorem f_X8_22 : mFL RX8 22 5 7 3 true := ⟨RX8, TX8, rfl, by decide, mWd_at 116 (by decide +kernel) rfl, rfl, rfl, u_TX8⟩
theorem f_X8_25 : mFL RX8 25 5 7 4 true := ⟨RX8, TX8, rfl, by decide, mWd_at 117 (by decide +kernel) rfl, rfl, rfl, u_TX8⟩
theorem f_X8_28 : mFL RX8 28 5 7 5 true := ⟨RX8, TX8, rfl, by decide, mWd_at 118 (by decide +kernel) rfl, rfl, rfl, u_TX8⟩
theorem f_X8_31 : mFL RX8 31 5 7 6 false := ⟨RX8, TX8, rfl, by decide, mWd_at 119 (by decide +kernel) rfl, rfl, rfl, u_TX8⟩
theorem cl_X11_33 : Cond.classLink RX11 33 RX5 ∈ mWd := mWd_at 135 (by decide +kernel) rfl
theorem in_3 : Cond.instantiable RX5 3 ∈ mWd := mWd_at 136 (by decide +kernel) rfl
theorem it_3 : Cond.initialized RX5 ∈ mWd := mWd_at 52 (by decide +kernel) rfl
theorem l_X11_35 : Cond.methodLink RX11 35 M_X5_init.1 ∈ mWd := mWd_at 137 (by decide +kernel) rfl
theorem l_X5_1 : Cond.methodLink RX5 1 Lib.objectInit ∈ mWd := mWd_at 140 (by decide +kernel) rfl
theorem l_X5_16 : Cond.methodLink RX5 16 M_J9_max_7cf53.1 ∈ mWd := mWd_at 141 (by decide +kernel) rfl
theorem cl_X5_22 : Cond.classLink RX5 22 RX8 ∈ mWd := mWd_at 144 (by decide +kernel) rfl
theorem n_X5_28 : (RX5, 28, M_X8_init.1, "DutyOnLeft") ∈ mNest := by decide +kernel
theorem f_X5_24 : mFL RX5 24 3 3 0 true := ⟨RX5, TX5, rfl, by decide, mWd_at 147 (by decide +kernel) rfl, rfl, rfl, u_TX5⟩
theorem f_X5_7 : mFL RX5 7 3 3 1 false := ⟨RX5, TX5, rfl, by decide, mWd_at 148 (by decide +kernel) rfl, rfl, rfl, u_TX5⟩
theorem f_X5_13 : mFL RX5 13 3 3 2 false := ⟨RX5, TX5, rfl, by decide, mWd_at 149 (by decide +kernel) rfl, rfl, rfl, u_TX5⟩
theorem f_X11_211 : mFL RX11 211 3 3 2 false := ⟨RX5, TX5, rfl, by decide, mWd_at 150 (by decide +kernel) rfl, rfl, rfl, u_TX5⟩
theorem cl_X11_45 : Cond.classLink RX11 45 RX3 ∈ mWd := mWd_at 158 (by decide +kernel) rfl
theorem in_1 : Cond.instantiable RX3 3 ∈ mWd := mWd_at 159 (by decide +kernel) rfl
theorem it_1 : Cond.initialized RX3 ∈ mWd := mWd_at 54 (by decide +kernel) rfl
theorem n_X11_47 : (RX11, 47, M_X3_init.1, "DutyOnLeft") ∈ mNest := by decide +kernel
theorem l_X3_3 : Cond.methodLink RX3 3 Lib.objectInit ∈ mWd := mWd_at 163 (by decide +kernel) rfl
theorem f_X3_9 : mFL RX3 9 1 3 0 true := ⟨RX3, TX3, rfl, by decide, mWd_at 164 (by decide +kernel) rfl, rfl, rfl, u_TX3⟩
theorem f_X3_15 : mFL RX3 15 1 3 1 true := ⟨RX3, TX3, rfl, by decide, mWd_at 165 (by decide +kernel) rfl, rfl, rfl, u_TX3⟩
theorem f_X3_18 : mFL RX3 18 1 3 2 false := ⟨RX3, TX3, rfl, by decide, mWd_at 166 (by decide +kernel) rfl, rfl, rfl, u_TX3⟩
theorem f_X11_244 : mFL RX11 244 1 3 2 false := ⟨RX3, TX3, rfl, by decide, mWd_at 167 (by decide +kernel) rfl, rfl, rfl, u_TX3⟩
theorem cl_X11_52 : Cond.classLink RX11 52 RX4 ∈ mWd := mWd_at 175 (by decide +kernel) rfl
theorem in_2 : Cond.instantiable RX4 2 ∈ mWd := mWd_at 176 (by decide +kernel) rfl
theorem it_2 : Cond.initialized RX4 ∈ mWd := mWd_at 55 (by decide +kernel) rfl
theorem n_X11_54 : (RX11, 54, M_X4_init.1, "DutyOnLeft") ∈ mNest := by decide +kernel
theorem l_X4_3 : Cond.methodLink RX4 3 Lib.objectInit ∈ mWd := mWd_at 180 (by decide +kernel) rfl
theorem f_X4_9 : mFL RX4 9 2 2 0 true := ⟨RX4, TX4, rfl, by decide, mWd_at 181 (by decide +kernel) rfl, rfl, rfl, u_TX4⟩
theorem f_X4_15 : mFL RX4 15 2 2 1 true := ⟨RX4, TX4, rfl, by decide, mWd_at 182 (by decide +kernel) rfl, rfl, rfl, u_TX4⟩
theorem cl_X11_63 : Cond.classLink RX11 63 RX1 ∈ mWd := mWd_at 188 (by decide +kernel) rfl
theorem in_0 : Cond.instantiable RX1 12 ∈ mWd := mWd_at 189 (by decide +kernel) rfl
theorem it_0 : Cond.initialized RX1 ∈ mWd := mWd_at 56 (by decide +kernel) rfl
theorem n_X11_65 : (RX11, 65, M_X1_init.1, "DutyOnLeft") ∈ mNest := by decide +kernel
theorem l_X1_3 : Cond.methodLink RX1 3 Lib.objectInit ∈ mWd := mWd_at 193 (by decide +kernel) rfl
theorem f_X1_9 : mFL RX1 9 0 12 0 false := ⟨RX1, TX1, rfl, by decide, mWd_at 194 (by decide +kernel) rfl, rfl, rfl, u_TX1⟩
theorem f_X8_34 : mFL RX8 34 0 12 0 false := ⟨RX1, TX1, rfl, by decide, mWd_at 195 (by decide +kernel) rfl, rfl, rfl, u_TX1⟩
theorem f_X4_34 : mFL RX4 34 0 12 0 false := ⟨RX1, TX1, rfl, by decide, mWd_at 196 (by decide +kernel) rfl, rfl, rfl, u_TX1⟩
theorem f_X0_22 : mFL RX0 22 0 12 0 false := ⟨RX1, TX1, rfl, by decide, mWd_at 197 (by decide +kernel) rfl, rfl, rfl, u_TX1⟩
theorem f_X11_103 : mFL RX11 103 0 12 0 false := ⟨RX1, TX1, rfl, by decide, mWd_at 198 (by decide +kernel) rfl, rfl, rfl, u_TX1⟩
theorem f_X1_15 : mFL RX1 15 0 12 1 false := ⟨RX1, TX1, rfl, by decide, mWd_at 199 (by decide +kernel) rfl, rfl, rfl, u_TX1⟩
theorem f_X0_9 : mFL RX0 9 0 12 1 false := ⟨RX1, TX1, rfl, by decide, mWd_at 200 (by decide +kernel) rfl, rfl, rfl, u_TX1⟩
theorem f_X8_39 : mFL RX8 39 0 12 1 false := ⟨RX1, TX1, rfl, by decide, mWd_at 201 (by decide +kernel) rfl, rfl, rfl, u_TX1⟩
theorem f_X10_25 : mFL RX10 25 0 12 1 false := ⟨RX1, TX1, rfl, by decide, mWd_at 202 (by decide +kernel) rfl, rfl, rfl, u_TX1⟩
theorem f_X11_263 : mFL RX11 263 0 12 1 false := ⟨RX1, TX1, rfl, by decide, mWd_at 203 (by decide +kernel) rfl, rfl, rfl, u_TX1⟩
theorem f_X1_18 : mFL RX1 18 0 12 2 false := ⟨RX1, TX1, rfl, by decide, mWd_at 204 (by decide +kernel) rfl, rfl, rfl, u_TX1⟩
theorem f_X0_34 : mFL RX0 34 0 12 2 false := ⟨RX1, TX1, rfl, by decide, mWd_at 205 (by decide +kernel) rfl, rfl, rfl, u_TX1⟩
theorem f_X11_311 : mFL RX11 311 0 12 2 false := ⟨RX1, TX1, rfl, by decide, mWd_at 206 (by decide +kernel) rfl, rfl, rfl, u_TX1⟩
theorem f_X1_21 : mFL RX1 21 0 12 3 true := ⟨RX1, TX1, rfl, by decide, mWd_at 207 (by decide +kernel) rfl, rfl, rfl, u_TX1⟩
theorem f_X1_25 : mFL RX1 25 0 12 4 true := ⟨RX1, TX1, rfl, by decide, mWd_at 208 (by decide +kernel) rfl, rfl, rfl, u_TX1⟩
theorem f_X1_28 : mFL RX1 28 0 12 5 true := ⟨RX1, TX1, rfl, by decide, mWd_at 209 (by decide +kernel) rfl, rfl, rfl, u_TX1⟩
theorem f_X1_31 : mFL RX1 31 0 12 6 true := ⟨RX1, TX1, rfl, by decide, mWd_at 210 (by decide +kernel) rfl, rfl, rfl, u_TX1⟩
theorem f_X1_34 : mFL RX1 34 0 12 7 true := ⟨RX1, TX1, rfl, by decide, mWd_at 211 (by decide +kernel) rfl, rfl, rfl, u_TX1⟩
theorem f_X1_37 : mFL RX1 37 0 12 8 true := ⟨RX1, TX1, rfl, by decide, mWd_at 212 (by decide +kernel) rfl, rfl, rfl, u_TX1⟩
theorem f_X1_40 : mFL RX1 40 0 12 9 true := ⟨RX1, TX1, rfl, by decide, mWd_at 213 (by decide +kernel) rfl, rfl, rfl, u_TX1⟩
theorem f_X1_43 : mFL RX1 43 0 12 10 true := ⟨RX1, TX1, rfl, by decide, mWd_at 214 (by decide +kernel) rfl, rfl, rfl, u_TX1⟩
theorem f_X1_46 : mFL RX1 46 0 12 11 true := ⟨RX1, TX1, rfl, by decide, mWd_at 215 (by decide +kernel) rfl, rfl, rfl, u_TX1⟩
theorem l_X11_75 : Cond.methodLink RX11 75 M_J0_length_8abf5.1 ∈ mWd := mWd_at 242 (by decide +kernel) rfl
theorem l_J0_335 : Cond.methodLink RJ0 335 M_J0_coder_7d493.1 ∈ mWd := mWd_at 246 (by decide +kernel) rfl
theorem l_X11_81 : Cond.methodLink RX11 81 M_J0_charAt_5068e.1 ∈ mWd := mWd_at 252 (by decide +kernel) rfl
theorem l_J0_492 : Cond.methodLink RJ0 492 M_J0_isLatin1_aae02.1 ∈ mWd := mWd_at 256 (by decide +kernel) rfl
theorem l_J0_495 : Cond.methodLink RJ0 495 M_J1_charAt_3b067.1 ∈ mWd := mWd_at 260 (by decide +kernel) rfl
theorem l_J1_9 : Cond.methodLink RJ1 9 M_J0_checkIndex_df160.1 ∈ mWd := mWd_at 263 (by decide +kernel) rfl
theorem l_J0_1059 : Cond.methodLink RJ0 1059 M_J3_checkIndex_8e157.1 ∈ mWd := mWd_at 268 (by decide +kernel) rfl
theorem l_J0_498 : Cond.methodLink RJ0 498 M_J2_charAt_3b067.1 ∈ mWd := mWd_at 271 (by decide +kernel) rfl
theorem l_J2_67 : Cond.methodLink RJ2 67 M_J2_checkIndex_2214a.1 ∈ mWd := mWd_at 274 (by decide +kernel) rfl
theorem l_J2_48 : Cond.methodLink RJ2 48 M_J2_length_9d52b.1 ∈ mWd := mWd_at 277 (by decide +kernel) rfl
theorem l_J2_414 : Cond.methodLink RJ2 414 M_J0_checkIndex_df160.1 ∈ mWd := mWd_at 280 (by decide +kernel) rfl
theorem l_J2_71 : Cond.methodLink RJ2 71 M_J2_getChar_3b067.1 ∈ mWd := mWd_at 281 (by decide +kernel) rfl
theorem l_X11_85 : Cond.methodLink RX11 85 M_X9_add.1 ∈ mWd := mWd_at 290 (by decide +kernel) rfl
theorem l_X11_89 : Cond.methodLink RX11 89 M_X6_firstFault.1 ∈ mWd := mWd_at 294 (by decide +kernel) rfl
theorem l_X6_15 : Cond.methodLink RX6 15 M_X1_empty.1 ∈ mWd := mWd_at 298 (by decide +kernel) rfl
theorem l_X1_49 : Cond.methodLink RX1 49 M_X7_fill.1 ∈ mWd := mWd_at 302 (by decide +kernel) rfl
theorem l_X6_26 : Cond.methodLink RX6 26 M_X9_sign.1 ∈ mWd := mWd_at 305 (by decide +kernel) rfl
theorem l_X6_30 : Cond.methodLink RX6 30 M_X6_numbersOf.1 ∈ mWd := mWd_at 309 (by decide +kernel) rfl
theorem l_X6_34 : Cond.methodLink RX6 34 M_X6_behindNumbers.1 ∈ mWd := mWd_at 312 (by decide +kernel) rfl
theorem l_X6_42 : Cond.methodLink RX6 42 M_X6_isFigure.1 ∈ mWd := mWd_at 316 (by decide +kernel) rfl
theorem l_X6_46 : Cond.methodLink RX6 46 M_X7_put.1 ∈ mWd := mWd_at 319 (by decide +kernel) rfl
theorem l_X6_38 : Cond.methodLink RX6 38 M_X6_tell.1 ∈ mWd := mWd_at 322 (by decide +kernel) rfl
theorem l_X6_52 : Cond.methodLink RX6 52 M_X7_get.1 ∈ mWd := mWd_at 326 (by decide +kernel) rfl
theorem l_X6_56 : Cond.methodLink RX6 56 M_X1_addPerson.1 ∈ mWd := mWd_at 329 (by decide +kernel) rfl
theorem l_X1_55 : Cond.methodLink RX1 55 M_X7_put.1 ∈ mWd := mWd_at 333 (by decide +kernel) rfl
theorem l_X6_60 : Cond.methodLink RX6 60 M_X1_addGood.1 ∈ mWd := mWd_at 334 (by decide +kernel) rfl
theorem l_X1_59 : Cond.methodLink RX1 59 M_X1_isPerson.1 ∈ mWd := mWd_at 338 (by decide +kernel) rfl
theorem l_X1_63 : Cond.methodLink RX1 63 M_X1_counted.1 ∈ mWd := mWd_at 342 (by decide +kernel) rfl
theorem l_X6_64 : Cond.methodLink RX6 64 M_X1_setLove.1 ∈ mWd := mWd_at 345 (by decide +kernel) rfl
theorem l_X6_67 : Cond.methodLink RX6 67 M_X1_setTenths.1 ∈ mWd := mWd_at 349 (by decide +kernel) rfl
theorem l_X11_93 : Cond.methodLink RX11 93 M_X8_begin.1 ∈ mWd := mWd_at 353 (by decide +kernel) rfl
theorem l_X8_40 : Cond.methodLink RX8 40 M_X1_firstOwnerOf.1 ∈ mWd := mWd_at 357 (by decide +kernel) rfl
theorem l_X1_71 : Cond.methodLink RX1 71 M_X1_isGood.1 ∈ mWd := mWd_at 361 (by decide +kernel) rfl
theorem l_X1_67 : Cond.methodLink RX1 67 M_X7_get.1 ∈ mWd := mWd_at 365 (by decide +kernel) rfl
theorem l_X8_44 : Cond.methodLink RX8 44 M_X7_put.1 ∈ mWd := mWd_at 366 (by decide +kernel) rfl
theorem l_X8_50 : Cond.methodLink RX8 50 M_X1_purseOf.1 ∈ mWd := mWd_at 367 (by decide +kernel) rfl
theorem l_X8_53 : Cond.methodLink RX8 53 M_X7_fill.1 ∈ mWd := mWd_at 371 (by decide +kernel) rfl
theorem l_X11_97 : Cond.methodLink RX11 97 M_X9_empty.1 ∈ mWd := mWd_at 372 (by decide +kernel) rfl
theorem f_X11_10 : mFL RX11 10 7 11 0 true := ⟨RX11, TX11, rfl, by decide, mWd_at 376 (by decide +kernel) rfl, rfl, rfl, u_TX11⟩
theorem f_X11_19 : mFL RX11 19 7 11 1 true := ⟨RX11, TX11, rfl, by decide, mWd_at 377 (by decide +kernel) rfl, rfl, rfl, u_TX11⟩
theorem f_X11_26 : mFL RX11 26 7 11 2 true := ⟨RX11, TX11, rfl, by decide, mWd_at 378 (by decide +kernel) rfl, rfl, rfl, u_TX11⟩
theorem f_X11_30 : mFL RX11 30 7 11 3 true := ⟨RX11, TX11, rfl, by decide, mWd_at 379 (by decide +kernel) rfl, rfl, rfl, u_TX11⟩
theorem f_X11_38 : mFL RX11 38 7 11 4 true := ⟨RX11, TX11, rfl, by decide, mWd_at 380 (by decide +kernel) rfl, rfl, rfl, u_TX11⟩
theorem f_X11_42 : mFL RX11 42 7 11 5 true := ⟨RX11, TX11, rfl, by decide, mWd_at 381 (by decide +kernel) rfl, rfl, rfl, u_TX11⟩
theorem f_X11_48 : mFL RX11 48 7 11 6 true := ⟨RX11, TX11, rfl, by decide, mWd_at 382 (by decide +kernel) rfl, rfl, rfl, u_TX11⟩
theorem f_X11_55 : mFL RX11 55 7 11 7 true := ⟨RX11, TX11, rfl, by decide, mWd_at 383 (by decide +kernel) rfl, rfl, rfl, u_TX11⟩
theorem f_X11_59 : mFL RX11 59 7 11 8 true := ⟨RX11, TX11, rfl, by decide, mWd_at 384 (by decide +kernel) rfl, rfl, rfl, u_TX11⟩
theorem f_X11_66 : mFL RX11 66 7 11 9 false := ⟨RX11, TX11, rfl, by decide, mWd_at 385 (by decide +kernel) rfl, rfl, rfl, u_TX11⟩
theorem f_X11_70 : mFL RX11 70 7 11 10 false := ⟨RX11, TX11, rfl, by decide, mWd_at 386 (by decide +kernel) rfl, rfl, rfl, u_TX11⟩
theorem l_L_13 : Cond.methodLink RL 13 M_X11_write.1 ∈ mWd := mWd_at 411 (by decide +kernel) rfl
theorem l_L_18 : Cond.methodLink RL 18 M_X11_wipe.1 ∈ mWd := mWd_at 415 (by decide +kernel) rfl
theorem l_L_23 : Cond.methodLink RL 23 M_X11_fault.1 ∈ mWd := mWd_at 419 (by decide +kernel) rfl
theorem l_L_27 : Cond.methodLink RL 27 M_X11_lay.1 ∈ mWd := mWd_at 423 (by decide +kernel) rfl
theorem l_X11_106 : Cond.methodLink RX11 106 M_X5_empty.1 ∈ mWd := mWd_at 427 (by decide +kernel) rfl
theorem l_X11_107 : Cond.methodLink RX11 107 M_X3_empty.1 ∈ mWd := mWd_at 431 (by decide +kernel) rfl
theorem l_L_31 : Cond.methodLink RL 31 M_X11_person.1 ∈ mWd := mWd_at 435 (by decide +kernel) rfl
theorem l_X11_108 : Cond.methodLink RX11 108 M_X1_isPerson.1 ∈ mWd := mWd_at 439 (by decide +kernel) rfl
theorem l_X11_112 : Cond.methodLink RX11 112 M_X1_kindOf.1 ∈ mWd := mWd_at 440 (by decide +kernel) rfl
theorem l_X11_116 : Cond.methodLink RX11 116 M_X8_coinsOf.1 ∈ mWd := mWd_at 444 (by decide +kernel) rfl
theorem l_X8_61 : Cond.methodLink RX8 61 M_X7_get.1 ∈ mWd := mWd_at 448 (by decide +kernel) rfl
theorem l_X11_119 : Cond.methodLink RX11 119 M_X1_strengthOf.1 ∈ mWd := mWd_at 449 (by decide +kernel) rfl
theorem l_X11_122 : Cond.methodLink RX11 122 M_X8_isHere.1 ∈ mWd := mWd_at 453 (by decide +kernel) rfl
theorem l_X11_125 : Cond.methodLink RX11 125 M_X8_paidBy.1 ∈ mWd := mWd_at 457 (by decide +kernel) rfl
theorem l_L_36 : Cond.methodLink RL 36 M_X11_good.1 ∈ mWd := mWd_at 461 (by decide +kernel) rfl
theorem l_X11_128 : Cond.methodLink RX11 128 M_X1_isGood.1 ∈ mWd := mWd_at 465 (by decide +kernel) rfl
theorem l_X11_131 : Cond.methodLink RX11 131 M_X1_sortOf.1 ∈ mWd := mWd_at 466 (by decide +kernel) rfl
theorem l_X11_134 : Cond.methodLink RX11 134 M_X8_ownerOf.1 ∈ mWd := mWd_at 470 (by decide +kernel) rfl
theorem l_X11_137 : Cond.methodLink RX11 137 M_X1_worthOf.1 ∈ mWd := mWd_at 474 (by decide +kernel) rfl
theorem l_X11_140 : Cond.methodLink RX11 140 M_X1_heavyOf.1 ∈ mWd := mWd_at 478 (by decide +kernel) rfl
theorem l_X11_143 : Cond.methodLink RX11 143 M_X8_isPacked.1 ∈ mWd := mWd_at 482 (by decide +kernel) rfl
theorem l_L_40 : Cond.methodLink RL 40 M_X11_love.1 ∈ mWd := mWd_at 486 (by decide +kernel) rfl
theorem l_X11_146 : Cond.methodLink RX11 146 M_X11_isPair.1 ∈ mWd := mWd_at 490 (by decide +kernel) rfl
theorem l_X11_150 : Cond.methodLink RX11 150 M_X1_loveOf.1 ∈ mWd := mWd_at 494 (by decide +kernel) rfl
theorem l_L_44 : Cond.methodLink RL 44 M_X11_pack.1 ∈ mWd := mWd_at 498 (by decide +kernel) rfl
theorem l_X11_154 : Cond.methodLink RX11 154 M_X8_owned.1 ∈ mWd := mWd_at 502 (by decide +kernel) rfl
theorem l_X8_65 : Cond.methodLink RX8 65 M_X8_ownerOf.1 ∈ mWd := mWd_at 506 (by decide +kernel) rfl
theorem l_X11_160 : Cond.methodLink RX11 160 M_X0_load.1 ∈ mWd := mWd_at 507 (by decide +kernel) rfl
theorem l_X0_19 : Cond.methodLink RX0 19 M_X1_heavyOf.1 ∈ mWd := mWd_at 510 (by decide +kernel) rfl
theorem l_X11_166 : Cond.methodLink RX11 166 M_X5_put.1 ∈ mWd := mWd_at 511 (by decide +kernel) rfl
theorem l_X5_29 : Cond.methodLink RX5 29 M_X5_row.1 ∈ mWd := mWd_at 515 (by decide +kernel) rfl
theorem l_X5_33 : Cond.methodLink RX5 33 M_X8_copy.1 ∈ mWd := mWd_at 519 (by decide +kernel) rfl
theorem l_X8_57 : Cond.methodLink RX8 57 M_X7_copy.1 ∈ mWd := mWd_at 523 (by decide +kernel) rfl
theorem l_X5_37 : Cond.methodLink RX5 37 M_J9_min_7cf53.1 ∈ mWd := mWd_at 526 (by decide +kernel) rfl
theorem l_X11_170 : Cond.methodLink RX11 170 M_X8_setPacked.1 ∈ mWd := mWd_at 529 (by decide +kernel) rfl
theorem l_L_49 : Cond.methodLink RL 49 M_X11_give.1 ∈ mWd := mWd_at 533 (by decide +kernel) rfl
theorem l_X11_174 : Cond.methodLink RX11 174 M_X8_handOver.1 ∈ mWd := mWd_at 537 (by decide +kernel) rfl
theorem l_X8_68 : Cond.methodLink RX8 68 M_X8_setPacked.1 ∈ mWd := mWd_at 541 (by decide +kernel) rfl
theorem l_L_53 : Cond.methodLink RL 53 M_X11_leave.1 ∈ mWd := mWd_at 542 (by decide +kernel) rfl
theorem l_X11_178 : Cond.methodLink RX11 178 M_X2_feeToLeave.1 ∈ mWd := mWd_at 546 (by decide +kernel) rfl
theorem l_X2_9 : Cond.methodLink RX2 9 M_X8_isHere.1 ∈ mWd := mWd_at 549 (by decide +kernel) rfl
theorem l_X2_19 : Cond.methodLink RX2 19 M_X1_isLonelyGrandmother.1 ∈ mWd := mWd_at 550 (by decide +kernel) rfl
theorem l_X1_74 : Cond.methodLink RX1 74 M_X1_kindOf.1 ∈ mWd := mWd_at 554 (by decide +kernel) rfl
theorem l_X2_24 : Cond.methodLink RX2 24 M_X0_owed.1 ∈ mWd := mWd_at 555 (by decide +kernel) rfl
theorem l_X0_40 : Cond.methodLink RX0 40 M_X0_goodsLeft.1 ∈ mWd := mWd_at 558 (by decide +kernel) rfl
theorem l_X0_55 : Cond.methodLink RX0 55 M_X8_lies.1 ∈ mWd := mWd_at 561 (by decide +kernel) rfl
theorem l_X0_15 : Cond.methodLink RX0 15 M_X1_countOf.1 ∈ mWd := mWd_at 565 (by decide +kernel) rfl
theorem l_X0_51 : Cond.methodLink RX0 51 M_X0_loveLeft.1 ∈ mWd := mWd_at 569 (by decide +kernel) rfl
theorem l_X0_25 : Cond.methodLink RX0 25 M_X1_loveOf.1 ∈ mWd := mWd_at 572 (by decide +kernel) rfl
theorem l_X0_59 : Cond.methodLink RX0 59 M_X0_onLeft.1 ∈ mWd := mWd_at 573 (by decide +kernel) rfl
theorem l_X0_29 : Cond.methodLink RX0 29 M_J9_max_7cf53.1 ∈ mWd := mWd_at 576 (by decide +kernel) rfl
theorem l_X0_37 : Cond.methodLink RX0 37 M_X1_kindOf.1 ∈ mWd := mWd_at 577 (by decide +kernel) rfl
theorem l_X2_30 : Cond.methodLink RX2 30 M_X8_coinsOf.1 ∈ mWd := mWd_at 578 (by decide +kernel) rfl
theorem l_X11_184 : Cond.methodLink RX11 184 M_X2_depart.1 ∈ mWd := mWd_at 579 (by decide +kernel) rfl
theorem l_X2_40 : Cond.methodLink RX2 40 M_X8_pay.1 ∈ mWd := mWd_at 582 (by decide +kernel) rfl
theorem l_X8_72 : Cond.methodLink RX8 72 M_X8_coinsOf.1 ∈ mWd := mWd_at 586 (by decide +kernel) rfl
theorem l_X8_75 : Cond.methodLink RX8 75 M_X8_paidBy.1 ∈ mWd := mWd_at 587 (by decide +kernel) rfl
theorem l_X2_44 : Cond.methodLink RX2 44 M_X8_goOut.1 ∈ mWd := mWd_at 588 (by decide +kernel) rfl
theorem l_X8_78 : Cond.methodLink RX8 78 M_X8_lies.1 ∈ mWd := mWd_at 592 (by decide +kernel) rfl
theorem l_L_57 : Cond.methodLink RL 57 M_X11_leaveBoth.1 ∈ mWd := mWd_at 593 (by decide +kernel) rfl
theorem l_X11_188 : Cond.methodLink RX11 188 M_X11_areHere.1 ∈ mWd := mWd_at 597 (by decide +kernel) rfl
theorem l_X11_191 : Cond.methodLink RX11 191 M_X0_owedWith.1 ∈ mWd := mWd_at 601 (by decide +kernel) rfl
theorem l_X0_62 : Cond.methodLink RX0 62 M_X0_left.1 ∈ mWd := mWd_at 604 (by decide +kernel) rfl
theorem l_X11_198 : Cond.methodLink RX11 198 M_X1_isLonelyGrandmother.1 ∈ mWd := mWd_at 607 (by decide +kernel) rfl
theorem l_L_61 : Cond.methodLink RL 61 M_X11_comeBack.1 ∈ mWd := mWd_at 608 (by decide +kernel) rfl
theorem l_X11_201 : Cond.methodLink RX11 201 M_X2_feeToReturn.1 ∈ mWd := mWd_at 612 (by decide +kernel) rfl
theorem l_X2_34 : Cond.methodLink RX2 34 M_X1_kindOf.1 ∈ mWd := mWd_at 615 (by decide +kernel) rfl
theorem l_X2_37 : Cond.methodLink RX2 37 M_X8_paidLastBy.1 ∈ mWd := mWd_at 616 (by decide +kernel) rfl
theorem l_X11_204 : Cond.methodLink RX11 204 M_X2_arrive.1 ∈ mWd := mWd_at 620 (by decide +kernel) rfl
theorem l_X2_47 : Cond.methodLink RX2 47 M_X8_comeIn.1 ∈ mWd := mWd_at 623 (by decide +kernel) rfl
theorem l_L_65 : Cond.methodLink RL 65 M_X11_undo.1 ∈ mWd := mWd_at 627 (by decide +kernel) rfl
theorem l_X11_207 : Cond.methodLink RX11 207 M_X5_take.1 ∈ mWd := mWd_at 631 (by decide +kernel) rfl
theorem l_L_69 : Cond.methodLink RL 69 M_X11_owes.1 ∈ mWd := mWd_at 635 (by decide +kernel) rfl
theorem l_X11_214 : Cond.methodLink RX11 214 M_X0_owed.1 ∈ mWd := mWd_at 639 (by decide +kernel) rfl
theorem l_L_73 : Cond.methodLink RL 73 M_X11_owesWith.1 ∈ mWd := mWd_at 640 (by decide +kernel) rfl
theorem l_L_77 : Cond.methodLink RL 77 M_X11_packing.1 ∈ mWd := mWd_at 644 (by decide +kernel) rfl
theorem l_X11_217 : Cond.methodLink RX11 217 M_X11_isAsked.1 ∈ mWd := mWd_at 648 (by decide +kernel) rfl
theorem l_X11_220 : Cond.methodLink RX11 220 M_X0_bestLoad.1 ∈ mWd := mWd_at 651 (by decide +kernel) rfl
theorem l_X0_65 : Cond.methodLink RX0 65 M_X8_owned.1 ∈ mWd := mWd_at 654 (by decide +kernel) rfl
theorem l_X0_72 : Cond.methodLink RX0 72 M_X1_sortOf.1 ∈ mWd := mWd_at 655 (by decide +kernel) rfl
theorem l_X0_75 : Cond.methodLink RX0 75 M_X0_owedPacking.1 ∈ mWd := mWd_at 656 (by decide +kernel) rfl
theorem l_X0_68 : Cond.methodLink RX0 68 M_X0_worth.1 ∈ mWd := mWd_at 659 (by decide +kernel) rfl
theorem l_X0_79 : Cond.methodLink RX0 79 M_X0_load.1 ∈ mWd := mWd_at 662 (by decide +kernel) rfl
theorem l_X0_82 : Cond.methodLink RX0 82 M_X1_strengthOf.1 ∈ mWd := mWd_at 663 (by decide +kernel) rfl
theorem l_X0_85 : Cond.methodLink RX0 85 M_J9_min_7cf53.1 ∈ mWd := mWd_at 664 (by decide +kernel) rfl
theorem l_X11_223 : Cond.methodLink RX11 223 M_X0_owedPacking.1 ∈ mWd := mWd_at 665 (by decide +kernel) rfl
theorem l_L_81 : Cond.methodLink RL 81 M_X11_giving.1 ∈ mWd := mWd_at 666 (by decide +kernel) rfl
theorem l_X11_226 : Cond.methodLink RX11 226 M_X11_owedByAllAfterGiving.1 ∈ mWd := mWd_at 670 (by decide +kernel) rfl
theorem l_X11_272 : Cond.methodLink RX11 272 M_X8_copy.1 ∈ mWd := mWd_at 674 (by decide +kernel) rfl
theorem l_L_85 : Cond.methodLink RL 85 M_X11_order.1 ∈ mWd := mWd_at 675 (by decide +kernel) rfl
theorem l_X11_229 : Cond.methodLink RX11 229 M_X4_reckon.1 ∈ mWd := mWd_at 679 (by decide +kernel) rfl
theorem l_X4_18 : Cond.methodLink RX4 18 M_X7_put.1 ∈ mWd := mWd_at 683 (by decide +kernel) rfl
theorem l_X4_30 : Cond.methodLink RX4 30 M_X4_reckonSet.1 ∈ mWd := mWd_at 684 (by decide +kernel) rfl
theorem l_X4_39 : Cond.methodLink RX4 39 M_X1_isLonelyGrandmother.1 ∈ mWd := mWd_at 688 (by decide +kernel) rfl
theorem l_X4_43 : Cond.methodLink RX4 43 M_X4_least.1 ∈ mWd := mWd_at 689 (by decide +kernel) rfl
theorem l_X4_53 : Cond.methodLink RX4 53 M_X7_get.1 ∈ mWd := mWd_at 693 (by decide +kernel) rfl
theorem l_X4_47 : Cond.methodLink RX4 47 M_X0_owedAmong.1 ∈ mWd := mWd_at 694 (by decide +kernel) rfl
theorem l_X11_233 : Cond.methodLink RX11 233 M_X4_least.1 ∈ mWd := mWd_at 697 (by decide +kernel) rfl
theorem l_X11_236 : Cond.methodLink RX11 236 M_X4_leaver.1 ∈ mWd := mWd_at 698 (by decide +kernel) rfl
theorem l_L_89 : Cond.methodLink RL 89 M_X11_stuck.1 ∈ mWd := mWd_at 702 (by decide +kernel) rfl
theorem l_L_93 : Cond.methodLink RL 93 M_X11_swear.1 ∈ mWd := mWd_at 706 (by decide +kernel) rfl
theorem l_X11_239 : Cond.methodLink RX11 239 M_X11_isSum.1 ∈ mWd := mWd_at 710 (by decide +kernel) rfl
theorem l_X11_242 : Cond.methodLink RX11 242 M_X3_add.1 ∈ mWd := mWd_at 713 (by decide +kernel) rfl
theorem l_X3_22 : Cond.methodLink RX3 22 M_X7_put.1 ∈ mWd := mWd_at 717 (by decide +kernel) rfl
theorem l_L_97 : Cond.methodLink RL 97 M_X11_forget.1 ∈ mWd := mWd_at 718 (by decide +kernel) rfl
theorem l_L_101 : Cond.methodLink RL 101 M_X11_isFalse.1 ∈ mWd := mWd_at 722 (by decide +kernel) rfl
theorem l_X11_247 : Cond.methodLink RX11 247 M_X3_holds.1 ∈ mWd := mWd_at 726 (by decide +kernel) rfl
theorem l_X11_250 : Cond.methodLink RX11 250 M_X3_swearer.1 ∈ mWd := mWd_at 730 (by decide +kernel) rfl
theorem l_X3_28 : Cond.methodLink RX3 28 M_X7_get.1 ∈ mWd := mWd_at 734 (by decide +kernel) rfl
theorem l_X11_253 : Cond.methodLink RX11 253 M_X3_sum.1 ∈ mWd := mWd_at 735 (by decide +kernel) rfl
theorem l_X11_256 : Cond.methodLink RX11 256 M_X0_left.1 ∈ mWd := mWd_at 739 (by decide +kernel) rfl
theorem l_X11_259 : Cond.methodLink RX11 259 M_X0_onLeft.1 ∈ mWd := mWd_at 740 (by decide +kernel) rfl
theorem l_X11_266 : Cond.methodLink RX11 266 M_X8_lies.1 ∈ mWd := mWd_at 741 (by decide +kernel) rfl
theorem l_X11_269 : Cond.methodLink RX11 269 M_X1_countOf.1 ∈ mWd := mWd_at 742 (by decide +kernel) rfl
theorem l_L_105 : Cond.methodLink RL 105 M_X11_loved.1 ∈ mWd := mWd_at 743 (by decide +kernel) rfl
theorem l_L_110 : Cond.methodLink RL 110 M_X11_byTurns.1 ∈ mWd := mWd_at 747 (by decide +kernel) rfl
theorem n_X11_275 : (RX11, 275, M_X10_play.1, "DutyOnLeft") ∈ mNest := by decide +kernel
theorem l_X10_9 : Cond.methodLink RX10 9 M_X0_owed.1 ∈ mWd := mWd_at 754 (by decide +kernel) rfl
theorem l_X10_17 : Cond.methodLink RX10 17 M_X10_play.1 ∈ mWd := mWd_at 755 (by decide +kernel) rfl
theorem l_X10_21 : Cond.methodLink RX10 21 M_X10_swapped.1 ∈ mWd := mWd_at 756 (by decide +kernel) rfl
theorem l_X10_31 : Cond.methodLink RX10 31 M_X8_lies.1 ∈ mWd := mWd_at 759 (by decide +kernel) rfl
theorem l_X10_37 : Cond.methodLink RX10 37 M_X8_handOver.1 ∈ mWd := mWd_at 760 (by decide +kernel) rfl
theorem l_X10_41 : Cond.methodLink RX10 41 M_X10_movers.1 ∈ mWd := mWd_at 761 (by decide +kernel) rfl
theorem l_X10_44 : Cond.methodLink RX10 44 M_X7_put.1 ∈ mWd := mWd_at 764 (by decide +kernel) rfl
theorem l_X11_281 : Cond.methodLink RX11 281 M_X10_movers.1 ∈ mWd := mWd_at 765 (by decide +kernel) rfl
theorem l_X11_284 : Cond.methodLink RX11 284 M_X7_get.1 ∈ mWd := mWd_at 766 (by decide +kernel) rfl
theorem l_L_115 : Cond.methodLink RL 115 M_X11_chairs.1 ∈ mWd := mWd_at 767 (by decide +kernel) rfl
theorem l_X11_290 : Cond.methodLink RX11 290 M_J6_bitCount_0f7a4.1 ∈ mWd := mWd_at 771 (by decide +kernel) rfl
theorem c_J6_265 : Cond.constant RJ6 265 (1431655765) ∈ mWd := mWd_at 774 (by decide +kernel) rfl
theorem c_J6_266 : Cond.constant RJ6 266 (858993459) ∈ mWd := mWd_at 775 (by decide +kernel) rfl
theorem c_J6_267 : Cond.constant RJ6 267 (252645135) ∈ mWd := mWd_at 776 (by decide +kernel) rfl
theorem l_X11_295 : Cond.methodLink RX11 295 M_X0_worth.1 ∈ mWd := mWd_at 777 (by decide +kernel) rfl
theorem l_L_119 : Cond.methodLink RL 119 M_X11_year.1 ∈ mWd := mWd_at 778 (by decide +kernel) rfl
theorem l_X11_298 : Cond.methodLink RX11 298 M_X11_drawn.1 ∈ mWd := mWd_at 782 (by decide +kernel) rfl
theorem c_X11_314 : Cond.constantLong RX11 314 (7919) ∈ mWd := mWd_at 786 (by decide +kernel) rfl
theorem c_X11_316 : Cond.constantLong RX11 316 (6151) ∈ mWd := mWd_at 787 (by decide +kernel) rfl
theorem c_X11_318 : Cond.constantLong RX11 318 (65521) ∈ mWd := mWd_at 788 (by decide +kernel) rfl
theorem c_X11_320 : Cond.constantLong RX11 320 (8) ∈ mWd := mWd_at 789 (by decide +kernel) rfl
theorem l_X11_301 : Cond.methodLink RX11 301 M_X2_cross.1 ∈ mWd := mWd_at 790 (by decide +kernel) rfl
theorem l_X2_51 : Cond.methodLink RX2 51 M_X2_feeToLeave.1 ∈ mWd := mWd_at 793 (by decide +kernel) rfl
theorem l_X2_56 : Cond.methodLink RX2 56 M_X2_feeToReturn.1 ∈ mWd := mWd_at 794 (by decide +kernel) rfl
theorem l_X2_59 : Cond.methodLink RX2 59 M_X2_depart.1 ∈ mWd := mWd_at 795 (by decide +kernel) rfl
theorem l_X2_63 : Cond.methodLink RX2 63 M_X2_arrive.1 ∈ mWd := mWd_at 796 (by decide +kernel) rfl
theorem l_X11_304 : Cond.methodLink RX11 304 M_X11_gone.1 ∈ mWd := mWd_at 797 (by decide +kernel) rfl
theorem l_L_123 : Cond.methodLink RL 123 M_X11_keep.1 ∈ mWd := mWd_at 801 (by decide +kernel) rfl
theorem l_L_127 : Cond.methodLink RL 127 M_X11_back.1 ∈ mWd := mWd_at 805 (by decide +kernel) rfl
theorem l_L_131 : Cond.methodLink RL 131 M_X11_count.1 ∈ mWd := mWd_at 809 (by decide +kernel) rfl
theorem l_X11_308 : Cond.methodLink RX11 308 M_X11_paidInAll.1 ∈ mWd := mWd_at 813 (by decide +kernel) rfl
theorem cl_L_10 : Cond.classLink RL 10 RX12 ∈ mWd := mWd_at 817 (by decide +kernel) rfl
theorem in_8 : Cond.instantiable RX12 17 ∈ mWd := mWd_at 818 (by decide +kernel) rfl
theorem it_8 : Cond.initialized RX12 ∈ mWd := mWd_at 62 (by decide +kernel) rfl
theorem l_L_12 : Cond.methodLink RL 12 M_X12_init.1 ∈ mWd := mWd_at 819 (by decide +kernel) rfl
theorem l_X12_1 : Cond.methodLink RX12 1 Lib.objectInit ∈ mWd := mWd_at 822 (by decide +kernel) rfl
theorem l_X12_43 : Cond.methodLink RX12 43 M_X12_begins.1 ∈ mWd := mWd_at 823 (by decide +kernel) rfl
theorem l_X12_46 : Cond.methodLink RX12 46 M_X12_persons.1 ∈ mWd := mWd_at 827 (by decide +kernel) rfl
theorem l_X12_50 : Cond.methodLink RX12 50 M_X12_goods.1 ∈ mWd := mWd_at 831 (by decide +kernel) rfl
theorem c_X12_60 : Cond.constantLong RX12 60 (40) ∈ mWd := mWd_at 835 (by decide +kernel) rfl
theorem l_X12_62 : Cond.methodLink RX12 62 M_X12_in.1 ∈ mWd := mWd_at 836 (by decide +kernel) rfl
theorem l_X12_54 : Cond.methodLink RX12 54 M_X12_loves.1 ∈ mWd := mWd_at 839 (by decide +kernel) rfl
theorem l_X12_57 : Cond.methodLink RX12 57 M_X12_comes.1 ∈ mWd := mWd_at 843 (by decide +kernel) rfl
theorem f_X12_7 : mFL RX12 7 8 17 0 true := ⟨RX12, TX12, rfl, by decide, mWd_at 847 (by decide +kernel) rfl, rfl, rfl, u_TX12⟩
theorem f_X12_13 : mFL RX12 13 8 17 1 true := ⟨RX12, TX12, rfl, by decide, mWd_at 848 (by decide +kernel) rfl, rfl, rfl, u_TX12⟩
theorem f_X12_68 : mFL RX12 68 8 17 2 false := ⟨RX12, TX12, rfl, by decide, mWd_at 849 (by decide +kernel) rfl, rfl, rfl, u_TX12⟩
theorem f_X12_72 : mFL RX12 72 8 17 3 false := ⟨RX12, TX12, rfl, by decide, mWd_at 850 (by decide +kernel) rfl, rfl, rfl, u_TX12⟩
theorem f_X12_75 : mFL RX12 75 8 17 4 false := ⟨RX12, TX12, rfl, by decide, mWd_at 851 (by decide +kernel) rfl, rfl, rfl, u_TX12⟩
theorem f_X12_16 : mFL RX12 16 8 17 5 true := ⟨RX12, TX12, rfl, by decide, mWd_at 852 (by decide +kernel) rfl, rfl, rfl, u_TX12⟩
theorem f_X12_19 : mFL RX12 19 8 17 6 true := ⟨RX12, TX12, rfl, by decide, mWd_at 853 (by decide +kernel) rfl, rfl, rfl, u_TX12⟩
theorem f_X12_22 : mFL RX12 22 8 17 7 true := ⟨RX12, TX12, rfl, by decide, mWd_at 854 (by decide +kernel) rfl, rfl, rfl, u_TX12⟩
theorem f_X12_82 : mFL RX12 82 8 17 8 false := ⟨RX12, TX12, rfl, by decide, mWd_at 855 (by decide +kernel) rfl, rfl, rfl, u_TX12⟩
theorem f_X12_85 : mFL RX12 85 8 17 9 false := ⟨RX12, TX12, rfl, by decide, mWd_at 856 (by decide +kernel) rfl, rfl, rfl, u_TX12⟩
theorem f_X12_25 : mFL RX12 25 8 17 10 true := ⟨RX12, TX12, rfl, by decide, mWd_at 857 (by decide +kernel) rfl, rfl, rfl, u_TX12⟩
theorem f_X12_28 : mFL RX12 28 8 17 11 true := ⟨RX12, TX12, rfl, by decide, mWd_at 858 (by decide +kernel) rfl, rfl, rfl, u_TX12⟩
theorem f_X12_31 : mFL RX12 31 8 17 12 true := ⟨RX12, TX12, rfl, by decide, mWd_at 859 (by decide +kernel) rfl, rfl, rfl, u_TX12⟩
theorem f_X12_34 : mFL RX12 34 8 17 13 true := ⟨RX12, TX12, rfl, by decide, mWd_at 860 (by decide +kernel) rfl, rfl, rfl, u_TX12⟩
theorem f_X12_37 : mFL RX12 37 8 17 14 true := ⟨RX12, TX12, rfl, by decide, mWd_at 861 (by decide +kernel) rfl, rfl, rfl, u_TX12⟩
theorem f_X12_40 : mFL RX12 40 8 17 15 true := ⟨RX12, TX12, rfl, by decide, mWd_at 862 (by decide +kernel) rfl, rfl, rfl, u_TX12⟩
theorem f_X12_184 : mFL RX12 184 8 17 16 false := ⟨RX12, TX12, rfl, by decide, mWd_at 863 (by decide +kernel) rfl, rfl, rfl, u_TX12⟩
theorem l_L_17 : Cond.methodLink RL 17 M_X12_write.1 ∈ mWd := mWd_at 899 (by decide +kernel) rfl
theorem c_X12_78 : Cond.constantLong RX12 78 (32) ∈ mWd := mWd_at 903 (by decide +kernel) rfl
theorem c_X12_80 : Cond.constantLong RX12 80 (126) ∈ mWd := mWd_at 904 (by decide +kernel) rfl
theorem l_L_22 : Cond.methodLink RL 22 M_X12_wipe.1 ∈ mWd := mWd_at 905 (by decide +kernel) rfl
theorem l_L_26 : Cond.methodLink RL 26 M_X12_fault.1 ∈ mWd := mWd_at 909 (by decide +kernel) rfl
theorem l_X12_107 : Cond.methodLink RX12 107 M_X12_faultOf.1 ∈ mWd := mWd_at 913 (by decide +kernel) rfl
theorem l_X12_103 : Cond.methodLink RX12 103 M_X12_takesItem.1 ∈ mWd := mWd_at 917 (by decide +kernel) rfl
theorem l_X12_88 : Cond.methodLink RX12 88 M_X12_letterAt.1 ∈ mWd := mWd_at 921 (by decide +kernel) rfl
theorem l_X12_96 : Cond.methodLink RX12 96 M_X12_takesNumbers.1 ∈ mWd := mWd_at 925 (by decide +kernel) rfl
theorem c_X12_92 : Cond.constantLong RX12 92 (48) ∈ mWd := mWd_at 929 (by decide +kernel) rfl
theorem c_X12_94 : Cond.constantLong RX12 94 (57) ∈ mWd := mWd_at 930 (by decide +kernel) rfl
theorem l_X12_100 : Cond.methodLink RX12 100 M_X12_tenths.1 ∈ mWd := mWd_at 931 (by decide +kernel) rfl
theorem c_X12_66 : Cond.constantLong RX12 66 (20) ∈ mWd := mWd_at 935 (by decide +kernel) rfl
theorem l_L_30 : Cond.methodLink RL 30 M_X12_lay.1 ∈ mWd := mWd_at 936 (by decide +kernel) rfl
theorem l_L_35 : Cond.methodLink RL 35 M_X12_person.1 ∈ mWd := mWd_at 940 (by decide +kernel) rfl
theorem l_X12_111 : Cond.methodLink RX12 111 M_X12_isPerson.1 ∈ mWd := mWd_at 944 (by decide +kernel) rfl
theorem l_X12_118 : Cond.methodLink RX12 118 M_X12_isHere.1 ∈ mWd := mWd_at 948 (by decide +kernel) rfl
theorem l_X12_114 : Cond.methodLink RX12 114 M_X12_has.1 ∈ mWd := mWd_at 952 (by decide +kernel) rfl
theorem l_L_39 : Cond.methodLink RL 39 M_X12_good.1 ∈ mWd := mWd_at 955 (by decide +kernel) rfl
theorem l_X12_121 : Cond.methodLink RX12 121 M_X12_isGood.1 ∈ mWd := mWd_at 959 (by decide +kernel) rfl
theorem l_L_43 : Cond.methodLink RL 43 M_X12_love.1 ∈ mWd := mWd_at 963 (by decide +kernel) rfl
theorem l_X12_124 : Cond.methodLink RX12 124 M_X12_areTwo.1 ∈ mWd := mWd_at 967 (by decide +kernel) rfl
theorem l_L_72 : Cond.methodLink RL 72 M_X12_owes.1 ∈ mWd := mWd_at 971 (by decide +kernel) rfl
theorem l_X12_144 : Cond.methodLink RX12 144 M_X12_owesNow.1 ∈ mWd := mWd_at 975 (by decide +kernel) rfl
theorem l_X12_141 : Cond.methodLink RX12 141 M_X12_owesIn.1 ∈ mWd := mWd_at 979 (by decide +kernel) rfl
theorem l_X12_130 : Cond.methodLink RX12 130 M_X12_leftBy.1 ∈ mWd := mWd_at 983 (by decide +kernel) rfl
theorem l_X12_127 : Cond.methodLink RX12 127 M_X12_counts.1 ∈ mWd := mWd_at 987 (by decide +kernel) rfl
theorem l_X12_134 : Cond.methodLink RX12 134 M_X12_lovedBy.1 ∈ mWd := mWd_at 991 (by decide +kernel) rfl
theorem l_X12_137 : Cond.methodLink RX12 137 M_X12_dutyOf.1 ∈ mWd := mWd_at 995 (by decide +kernel) rfl
theorem l_L_76 : Cond.methodLink RL 76 M_X12_owesWith.1 ∈ mWd := mWd_at 999 (by decide +kernel) rfl
theorem l_L_48 : Cond.methodLink RL 48 M_X12_pack.1 ∈ mWd := mWd_at 1003 (by decide +kernel) rfl
theorem l_X12_151 : Cond.methodLink RX12 151 M_X12_isOurs.1 ∈ mWd := mWd_at 1007 (by decide +kernel) rfl
theorem l_X12_154 : Cond.methodLink RX12 154 M_X12_heavyOf.1 ∈ mWd := mWd_at 1011 (by decide +kernel) rfl
theorem l_X12_157 : Cond.methodLink RX12 157 M_X12_minds.1 ∈ mWd := mWd_at 1015 (by decide +kernel) rfl
theorem l_X12_147 : Cond.methodLink RX12 147 M_X12_copy.1 ∈ mWd := mWd_at 1019 (by decide +kernel) rfl
theorem l_L_52 : Cond.methodLink RL 52 M_X12_give.1 ∈ mWd := mWd_at 1023 (by decide +kernel) rfl
theorem l_L_56 : Cond.methodLink RL 56 M_X12_leave.1 ∈ mWd := mWd_at 1027 (by decide +kernel) rfl
theorem l_X12_163 : Cond.methodLink RX12 163 M_X12_canLeave.1 ∈ mWd := mWd_at 1031 (by decide +kernel) rfl
theorem l_X12_160 : Cond.methodLink RX12 160 M_X12_isAlone.1 ∈ mWd := mWd_at 1035 (by decide +kernel) rfl
theorem l_X12_166 : Cond.methodLink RX12 166 M_X12_goes.1 ∈ mWd := mWd_at 1039 (by decide +kernel) rfl
theorem l_L_60 : Cond.methodLink RL 60 M_X12_leaveBoth.1 ∈ mWd := mWd_at 1043 (by decide +kernel) rfl
theorem l_L_64 : Cond.methodLink RL 64 M_X12_comeBack.1 ∈ mWd := mWd_at 1047 (by decide +kernel) rfl
theorem l_X12_170 : Cond.methodLink RX12 170 M_X12_backFor.1 ∈ mWd := mWd_at 1051 (by decide +kernel) rfl
theorem l_X12_173 : Cond.methodLink RX12 173 M_X12_returns.1 ∈ mWd := mWd_at 1055 (by decide +kernel) rfl
theorem l_L_68 : Cond.methodLink RL 68 M_X12_undo.1 ∈ mWd := mWd_at 1059 (by decide +kernel) rfl
theorem l_L_80 : Cond.methodLink RL 80 M_X12_packing.1 ∈ mWd := mWd_at 1063 (by decide +kernel) rfl
theorem c_X12_176 : Cond.constant RX12 176 (1000000) ∈ mWd := mWd_at 1067 (by decide +kernel) rfl
theorem l_L_84 : Cond.methodLink RL 84 M_X12_giving.1 ∈ mWd := mWd_at 1068 (by decide +kernel) rfl
theorem l_L_88 : Cond.methodLink RL 88 M_X12_order.1 ∈ mWd := mWd_at 1072 (by decide +kernel) rfl
theorem c_X12_177 : Cond.constantLong RX12 177 (6) ∈ mWd := mWd_at 1076 (by decide +kernel) rfl
theorem l_X12_179 : Cond.methodLink RX12 179 M_X12_findOrder.1 ∈ mWd := mWd_at 1077 (by decide +kernel) rfl
theorem l_L_92 : Cond.methodLink RL 92 M_X12_stuck.1 ∈ mWd := mWd_at 1081 (by decide +kernel) rfl
theorem l_L_96 : Cond.methodLink RL 96 M_X12_swear.1 ∈ mWd := mWd_at 1085 (by decide +kernel) rfl
theorem c_X12_182 : Cond.constantLong RX12 182 (999) ∈ mWd := mWd_at 1089 (by decide +kernel) rfl
theorem l_L_100 : Cond.methodLink RL 100 M_X12_forget.1 ∈ mWd := mWd_at 1090 (by decide +kernel) rfl
theorem l_L_104 : Cond.methodLink RL 104 M_X12_isFalse.1 ∈ mWd := mWd_at 1094 (by decide +kernel) rfl
theorem l_L_109 : Cond.methodLink RL 109 M_X12_loved.1 ∈ mWd := mWd_at 1098 (by decide +kernel) rfl
theorem l_L_114 : Cond.methodLink RL 114 M_X12_byTurns.1 ∈ mWd := mWd_at 1102 (by decide +kernel) rfl
theorem c_X12_200 : Cond.constantLong RX12 200 (4) ∈ mWd := mWd_at 1106 (by decide +kernel) rfl
theorem l_X12_202 : Cond.methodLink RX12 202 M_X12_findTurns.1 ∈ mWd := mWd_at 1107 (by decide +kernel) rfl
theorem l_X12_187 : Cond.methodLink RX12 187 M_X12_opens.1 ∈ mWd := mWd_at 1111 (by decide +kernel) rfl
theorem l_X12_191 : Cond.methodLink RX12 191 M_X12_nextGift.1 ∈ mWd := mWd_at 1115 (by decide +kernel) rfl
theorem l_X12_194 : Cond.methodLink RX12 194 M_X12_gives.1 ∈ mWd := mWd_at 1119 (by decide +kernel) rfl
theorem l_X12_197 : Cond.methodLink RX12 197 M_X12_offers.1 ∈ mWd := mWd_at 1123 (by decide +kernel) rfl
theorem l_L_118 : Cond.methodLink RL 118 M_X12_chairs.1 ∈ mWd := mWd_at 1127 (by decide +kernel) rfl
theorem l_X12_205 : Cond.methodLink RX12 205 M_X12_ones.1 ∈ mWd := mWd_at 1131 (by decide +kernel) rfl
theorem l_L_122 : Cond.methodLink RL 122 M_X12_year.1 ∈ mWd := mWd_at 1134 (by decide +kernel) rfl
theorem c_X12_208 : Cond.constantLong RX12 208 (9999) ∈ mWd := mWd_at 1138 (by decide +kernel) rfl
theorem c_X12_210 : Cond.constantLong RX12 210 (7919) ∈ mWd := mWd_at 1139 (by decide +kernel) rfl
theorem c_X12_212 : Cond.constantLong RX12 212 (6151) ∈ mWd := mWd_at 1140 (by decide +kernel) rfl
theorem c_X12_214 : Cond.constantLong RX12 214 (65521) ∈ mWd := mWd_at 1141 (by decide +kernel) rfl
theorem c_X12_216 : Cond.constantLong RX12 216 (8) ∈ mWd := mWd_at 1142 (by decide +kernel) rfl
theorem l_L_126 : Cond.methodLink RL 126 M_X12_keep.1 ∈ mWd := mWd_at 1143 (by decide +kernel) rfl
theorem l_L_130 : Cond.methodLink RL 130 M_X12_back.1 ∈ mWd := mWd_at 1147 (by decide +kernel) rfl
theorem l_L_134 : Cond.methodLink RL 134 M_X12_count.1 ∈ mWd := mWd_at 1151 (by decide +kernel) rfl
theorem l_X12_218 : Cond.methodLink RX12 218 M_X12_goodsThat.1 ∈ mWd := mWd_at 1155 (by decide +kernel) rfl
theorem l_X12_222 : Cond.methodLink RX12 222 M_X12_paidInAll.1 ∈ mWd := mWd_at 1159 (by decide +kernel) rfl
theorem ob_i : Cond.instanceMethod Lib.objectInit ∈ mWd := mWd_at 73 (by decide +kernel) rfl
theorem ob_c : Cond.code Lib.objectInit ⟨#[0xb1]⟩ 1 none ∈ mWd := mWd_at 74 (by decide +kernel) rfl
theorem ar_char : Cond.arrayClass (newarray.typeOf .char) ∈ mWd := mWd_at 90 (by decide +kernel) rfl
theorem ar_int : Cond.arrayClass (newarray.typeOf .int) ∈ mWd := mWd_at 101 (by decide +kernel) rfl
end
section
/-! ===== rows over a heap (I, R); numbers as nI ===== -/
abbrev mI : Type := Nat → Nat → Int32
abbrev mR : Type := Nat → Nat → Nat
def sJ (I : mI) (o j : Nat) (v : Int32) : mI := fun a b => if a = o ∧ b = j then v else I a b
def sQ (R : mR) (o j v : Nat) : mR := fun a b => if a = o ∧ b = j then v else R a b
theorem sJ_eq (I : mI) (o j : Nat) (v : Int32) : sJ I o j v o j = v := by simp [sJ]
theorem sJ_ne {I : mI} {o j o1 j1 : Nat} {v : Int32} (h : o1 ≠ o ∨ j1 ≠ j) : sJ I o j v o1 j1 = I o1 j1 := by
  unfold sJ
  rw [if_neg]
  rintro ⟨rfl, rfl⟩
  rcases h with h | h <;> exact h rfl
theorem sJ_o {I : mI} {o j o1 : Nat} {v : Int32} (h : o1 ≠ o) : sJ I o j v o1 = I o1 := by funext b; exact sJ_ne (Or.inl h)
theorem sJ_same (I : mI) (o j : Nat) : sJ I o j (I o j) = I := by
  funext a b
  unfold sJ
  by_cases h : a = o ∧ b = j
  · obtain ⟨rfl, rfl⟩ := h; simp
  · rw [if_neg h]
def bI (b : Bool) : Int32 := if b = true then 1 else 0
theorem bI_t : bI true = 1 := rfl
theorem bI_f : bI false = 0 := rfl
theorem bI_0 {b : Bool} : bI b = 0 ↔ b = false := by cases b <;> decide
theorem bI_1 {b : Bool} : bI b = 1 ↔ b = true := by cases b <;> decide
theorem bI_ne0 {b : Bool} : ¬ bI b = 0 ↔ b = true := by cases b <;> decide
theorem bI_inj {a b : Bool} : bI a = bI b ↔ a = b := by cases a <;> cases b <;> decide
theorem bI_n {b : Bool} : bI b = nI (if b = true then 1 else 0) := by cases b <;> decide
theorem mRok_b (b : Bool) : mRok (some .boolean) (some (.int (bI b))) := by cases b <;> exact rfl
theorem mRok_i (x : Int32) : mRok (some .int) (some (.int x)) := rfl
theorem nI_mul (a b : Nat) : nI a * nI b = nI (a * b) := (Int32.ofNat_mul a b).symm
theorem nI_sub {a b : Nat} (h : b ≤ a) : nI a - nI b = nI (a - b) := (Int32.ofNat_sub a b h).symm
theorem nI_inc (j : Nat) : nI j + Int32.ofInt 1 = nI (j + 1) := nI_1 j
theorem nI_and (a b : Nat) : nI a &&& nI b = nI (a &&& b) := by
  apply Int32.toBitVec_inj.mp
  simp [nI, BitVec.ofNat_and]
theorem nI_or (a b : Nat) : nI a ||| nI b = nI (a ||| b) := by
  apply Int32.toBitVec_inj.mp
  simp [nI, BitVec.ofNat_or]
def nSum (n : Nat) (t : Nat → Int32) : Int32 := match n with
  | 0 => 0
  | n + 1 => nSum n t + t n
theorem nSum_congr {t u : Nat → Int32} : ∀ {n : Nat}, (∀ j, j < n → t j = u j) → nSum n t = nSum n u
  | 0, _ => rfl
  | n + 1, h => by
    unfold nSum
    rw [nSum_congr (n := n) (fun j hj => h j (by omega)), h n (by omega)]
def nFold {α : Type} (n : Nat) (f : Nat → α → α) (a : α) : α := match n with
  | 0 => a
  | n + 1 => f n (nFold n f a)
theorem nFold_congr {α : Type} {f g : Nat → α → α} {a : α} : ∀ {n : Nat}, (∀ j b, j < n → f j b = g j b) → nFold n f a = nFold n g a
  | 0, _ => rfl
  | n + 1, h => by
    unfold nFold
    rw [nFold_congr (n := n) (fun j b hj => h j b (by omega)), h n _ (by omega)]
theorem lp_in {b : Int32} {n k : Nat} (hb : b = nI n) (hk : k < n) (hn : n < 2 ^ 31) : ¬ b ≤ nI k := by rw [hb]; exact nI_ge hk hn
theorem lp_out {b : Int32} {n : Nat} (hb : b = nI n) : b ≤ nI n := by rw [hb]; exact Int32.le_refl _
theorem sw_out {x : Int32} (n : Nat) (hn : n < 2 ^ 31) (h : ∀ k, k ≤ n → x ≠ nI k) : x.toInt < 0 ∨ (n : Int) < x.toInt := by
  apply Decidable.byContradiction
  intro hc
  have h1 : 0 ≤ x.toInt ∧ x.toInt ≤ n := by omega
  refine h x.toInt.toNat (by omega) (Int32.toInt_inj.mp ?_)
  rw [nI_toInt (by omega)]
  omega
theorem CC.of2 {X : mCx} {d : Nat} {M : mMe} {as L : List Value} {S S' : mSh} {h h' : mHp} {r : Option Value} (hp : plainName M.1.cls = true) (hn : (mEn as).length ≤ M.2.2.1) (hE : mEnt as M.2.2.1 = L) (hr : mRok M.2.2.2 r) (hS : S <+: S') (J : JJ X M d 0 L [] S h r S' h') : CC X d M as S h r S' h' := CC.of hp hn hr hS (by rw [hE]; exact J)
theorem p_X0 : plainName RX0 = true := by decide +kernel
theorem p_X1 : plainName RX1 = true := by decide +kernel
theorem p_X2 : plainName RX2 = true := by decide +kernel
theorem p_X3 : plainName RX3 = true := by decide +kernel
theorem p_X4 : plainName RX4 = true := by decide +kernel
theorem p_X5 : plainName RX5 = true := by decide +kernel
theorem p_X6 : plainName RX6 = true := by decide +kernel
theorem p_X7 : plainName RX7 = true := by decide +kernel
theorem p_X8 : plainName RX8 = true := by decide +kernel
theorem p_X9 : plainName RX9 = true := by decide +kernel
theorem p_X10 : plainName RX10 = true := by decide +kernel
theorem p_X11 : plainName RX11 = true := by decide +kernel
theorem p_X12 : plainName RX12 = true := by decide +kernel
theorem p_J6 : plainName RJ6 = true := by decide +kernel
theorem p_J0 : plainName RJ0 = true := by decide +kernel
theorem p_J1 : plainName RJ1 = true := by decide +kernel
theorem p_J2 : plainName RJ2 = true := by decide +kernel
theorem p_J3 : plainName RJ3 = true := by decide +kernel
theorem ic_m1 : Int32.ofInt (-1) = -1 := by decide
theorem ic_0 : Int32.ofInt (0) = nI 0 := by decide
theorem ic_1 : Int32.ofInt (1) = nI 1 := by decide
theorem ic_2 : Int32.ofInt (2) = nI 2 := by decide
theorem ic_3 : Int32.ofInt (3) = nI 3 := by decide
theorem ic_4 : Int32.ofInt (4) = nI 4 := by decide
theorem ic_5 : Int32.ofInt (5) = nI 5 := by decide
theorem bp_m5 : (Int8.ofInt (-5)).toInt32 = -5 := by decide
theorem bp_m4 : (Int8.ofInt (-4)).toInt32 = -4 := by decide
theorem bp_m3 : (Int8.ofInt (-3)).toInt32 = -3 := by decide
theorem bp_m2 : (Int8.ofInt (-2)).toInt32 = -2 := by decide
theorem bp_6 : (Int8.ofInt (6)).toInt32 = nI 6 := by decide
theorem bp_7 : (Int8.ofInt (7)).toInt32 = nI 7 := by decide
theorem bp_8 : (Int8.ofInt (8)).toInt32 = nI 8 := by decide
theorem bp_9 : (Int8.ofInt (9)).toInt32 = nI 9 := by decide
theorem bp_10 : (Int8.ofInt (10)).toInt32 = nI 10 := by decide
theorem bp_12 : (Int8.ofInt (12)).toInt32 = nI 12 := by decide
theorem bp_13 : (Int8.ofInt (13)).toInt32 = nI 13 := by decide
theorem bp_15 : (Int8.ofInt (15)).toInt32 = nI 15 := by decide
theorem bp_16 : (Int8.ofInt (16)).toInt32 = nI 16 := by decide
theorem bp_19 : (Int8.ofInt (19)).toInt32 = nI 19 := by decide
theorem bp_20 : (Int8.ofInt (20)).toInt32 = nI 20 := by decide
theorem bp_21 : (Int8.ofInt (21)).toInt32 = nI 21 := by decide
theorem bp_27 : (Int8.ofInt (27)).toInt32 = nI 27 := by decide
theorem bp_29 : (Int8.ofInt (29)).toInt32 = nI 29 := by decide
theorem bp_30 : (Int8.ofInt (30)).toInt32 = nI 30 := by decide
theorem bp_31 : (Int8.ofInt (31)).toInt32 = nI 31 := by decide
theorem bp_32 : (Int8.ofInt (32)).toInt32 = nI 32 := by decide
theorem bp_35 : (Int8.ofInt (35)).toInt32 = nI 35 := by decide
theorem bp_36 : (Int8.ofInt (36)).toInt32 = nI 36 := by decide
theorem bp_37 : (Int8.ofInt (37)).toInt32 = nI 37 := by decide
theorem bp_40 : (Int8.ofInt (40)).toInt32 = nI 40 := by decide
theorem bp_44 : (Int8.ofInt (44)).toInt32 = nI 44 := by decide
theorem bp_45 : (Int8.ofInt (45)).toInt32 = nI 45 := by decide
theorem bp_48 : (Int8.ofInt (48)).toInt32 = nI 48 := by decide
theorem bp_53 : (Int8.ofInt (53)).toInt32 = nI 53 := by decide
theorem bp_57 : (Int8.ofInt (57)).toInt32 = nI 57 := by decide
theorem bp_59 : (Int8.ofInt (59)).toInt32 = nI 59 := by decide
theorem bp_60 : (Int8.ofInt (60)).toInt32 = nI 60 := by decide
theorem bp_63 : (Int8.ofInt (63)).toInt32 = nI 63 := by decide
theorem bp_64 : (Int8.ofInt (64)).toInt32 = nI 64 := by decide
theorem bp_89 : (Int8.ofInt (89)).toInt32 = nI 89 := by decide
theorem bp_90 : (Int8.ofInt (90)).toInt32 = nI 90 := by decide
theorem bp_91 : (Int8.ofInt (91)).toInt32 = nI 91 := by decide
theorem bp_92 : (Int8.ofInt (92)).toInt32 = nI 92 := by decide
theorem bp_98 : (Int8.ofInt (98)).toInt32 = nI 98 := by decide
theorem bp_99 : (Int8.ofInt (99)).toInt32 = nI 99 := by decide
theorem bp_104 : (Int8.ofInt (104)).toInt32 = nI 104 := by decide
theorem bp_105 : (Int8.ofInt (105)).toInt32 = nI 105 := by decide
theorem bp_110 : (Int8.ofInt (110)).toInt32 = nI 110 := by decide
theorem bp_118 : (Int8.ofInt (118)).toInt32 = nI 118 := by decide
theorem bp_126 : (Int8.ofInt (126)).toInt32 = nI 126 := by decide
theorem sp_134 : (Int16.ofInt (134)).toInt32 = nI 134 := by decide
theorem sp_142 : (Int16.ofInt (142)).toInt32 = nI 142 := by decide
theorem sp_178 : (Int16.ofInt (178)).toInt32 = nI 178 := by decide
theorem sp_200 : (Int16.ofInt (200)).toInt32 = nI 200 := by decide
theorem sp_245 : (Int16.ofInt (245)).toInt32 = nI 245 := by decide
theorem sp_255 : (Int16.ofInt (255)).toInt32 = nI 255 := by decide
theorem sp_256 : (Int16.ofInt (256)).toInt32 = nI 256 := by decide
theorem sp_385 : (Int16.ofInt (385)).toInt32 = nI 385 := by decide
theorem sp_386 : (Int16.ofInt (386)).toInt32 = nI 386 := by decide
theorem sp_404 : (Int16.ofInt (404)).toInt32 = nI 404 := by decide
theorem sp_412 : (Int16.ofInt (412)).toInt32 = nI 412 := by decide
theorem sp_420 : (Int16.ofInt (420)).toInt32 = nI 420 := by decide
theorem sp_999 : (Int16.ofInt (999)).toInt32 = nI 999 := by decide
theorem sp_4096 : (Int16.ofInt (4096)).toInt32 = nI 4096 := by decide
theorem sp_9999 : (Int16.ofInt (9999)).toInt32 = nI 9999 := by decide
section
variable {X : mCx} {M : mMe} {d pc : Nat} {L st : List Value} {S S' : mSh} {I : mI} {R : mR} {h h' : mHp} {r : Option Value}
theorem JJ.to {L1 st1 : List Value} {h1 : mHp} (K : JJ X M d pc L1 st1 S h1 r S' h') (eL : L = L1) (es : st = st1) (eh : h = h1) : JJ X M d pc L st S h r S' h' := by
  subst eL; subst es; subst eh; exact K
/-- a loop that counts: from L 0 to L n, its heap h 0 to h n, with what holds on the way -/
theorem JJ.loop (n : Nat) (Lf : Nat → List Value) (hf : Nat → mHp) (P : Nat → Prop) (eL : L = Lf 0) (eh : h = hf 0) (h0 : P 0) (hend : P n → JJ X M d pc (Lf n) st S (hf n) r S' h') (hstep : ∀ j, j < n → P j → (P (j + 1) → JJ X M d pc (Lf (j + 1)) st S (hf (j + 1)) r S' h') → JJ X M d pc (Lf j) st S (hf j) r S' h') : JJ X M d pc L st S h r S' h' := by
  subst eL; subst eh
  have key : ∀ k, k ≤ n → P (n - k) → JJ X M d pc (Lf (n - k)) st S (hf (n - k)) r S' h' := by
    intro k
    induction k with
    | zero => intro _ hp; exact hend hp
    | succ k ih =>
      intro hk hp
      refine hstep (n - (k + 1)) (by omega) hp (fun hp1 => ?_)
      have e : n - (k + 1) + 1 = n - k := by omega
      rw [e] at hp1 ⊢
      exact ih (by omega) hp1
  have := key n (Nat.le_refl n)
  rw [Nat.sub_self] at this
  exact this h0
theorem r_ifB_eq {b : Bool} {off : Int} {tgt : Nat} (hd : decode M.2.1 pc = .ok (.ifCond .eq off, 3)) (ht : (pc : Int) + off = (tgt : Int)) (Kt : b = false → JJ X M d tgt L st S h r S' h') (Kf : b = true → JJ X M d (pc + 3) L st S h r S' h') : JJ X M d pc L (.int (bI b) :: st) S h r S' h' := r_if_eq hd ht (fun z => Kt (bI_0.mp z)) (fun z => Kf (bI_ne0.mp z))
theorem r_ifB_ne {b : Bool} {off : Int} {tgt : Nat} (hd : decode M.2.1 pc = .ok (.ifCond .ne off, 3)) (ht : (pc : Int) + off = (tgt : Int)) (Kt : b = true → JJ X M d tgt L st S h r S' h') (Kf : b = false → JJ X M d (pc + 3) L st S h r S' h') : JJ X M d pc L (.int (bI b) :: st) S h r S' h' := r_if_ne hd ht (fun z => Kt (bI_ne0.mp z)) (fun z => Kf (bI_0.mp z))
theorem g_iret {v : Int32} (hd : decode M.2.1 pc = .ok (.ireturn, 1)) (hr : r = some (.int v)) (hh : h = h') : JJ X M d pc L [.int v] S h r S h' := by
  subst hr; subst hh; exact r_ireturn hd
theorem g_vret (hd : decode M.2.1 pc = .ok (.return_, 1)) (hr : r = none) (hh : h = h') : JJ X M d pc L [] S h r S h' := by
  subst hr; subst hh; exact r_return hd
theorem g_aret {k : Nat} (hd : decode M.2.1 pc = .ok (.areturn, 1)) (hr : r = some (.ref k)) (hh : h = h') : JJ X M d pc L [.ref k] S h r S h' := by
  subst hr; subst hh; exact r_areturn hd
theorem g_getI {idx t n j o : Nat} {fin : Bool} {v : Int32} (hd : decode M.2.1 pc = .ok (.getfield idx, 3)) (hf : mFL M.1.cls idx t n j fin) (hs : mSg S o = some (t, n)) (hr : mRf t j = false) (hv : I o j = v) (K : JJ X M d (pc + 3) L (.int v :: st) S (I, R) r S' h') : JJ X M d pc L (.ref o :: st) S (I, R) r S' h' := by
  subst hv; exact r_getI hd hf hs hr K
theorem g_getR {idx t n j o q : Nat} {fin : Bool} (hd : decode M.2.1 pc = .ok (.getfield idx, 3)) (hf : mFL M.1.cls idx t n j fin) (hs : mSg S o = some (t, n)) (hr : mRf t j = true) (hv : R o j = q) (K : JJ X M d (pc + 3) L (.ref q :: st) S (I, R) r S' h') : JJ X M d pc L (.ref o :: st) S (I, R) r S' h' := by
  subst hv; exact r_getR hd hf hs hr K
theorem g_putI {idx t n j o : Nat} {x : Int32} (hd : decode M.2.1 pc = .ok (.putfield idx, 3)) (hf : mFL M.1.cls idx t n j false) (hs : mSg S o = some (t, n)) (hr : mRf t j = false) (K : JJ X M d (pc + 3) L st S (sJ I o j x, R) r S' h') : JJ X M d pc L (.int x :: .ref o :: st) S (I, R) r S' h' := r_putI hd hf hs hr K
theorem g_putR {idx t n j o x : Nat} (hd : decode M.2.1 pc = .ok (.putfield idx, 3)) (hf : mFL M.1.cls idx t n j false) (hs : mSg S o = some (t, n)) (hr : mRf t j = true) (K : JJ X M d (pc + 3) L st S (I, sQ R o j x) r S' h') : JJ X M d pc L (.ref x :: .ref o :: st) S (I, R) r S' h' := r_putR hd hf hs hr K
theorem g_iald {n o k : Nat} {i v : Int32} (hd : decode M.2.1 pc = .ok (.iaload, 1)) (hs : mSg S o = some (20, n)) (hi : i = nI k) (hk : k < n) (hn : n < 2 ^ 31) (hv : I o k = v) (K : JJ X M d (pc + 1) L (.int v :: st) S (I, R) r S' h') : JJ X M d pc L (.int i :: .ref o :: st) S (I, R) r S' h' := by
  subst hi; subst hv
  refine r_iald hd hs (nI_in hk hn) ?_
  rw [nI_clamp (by omega)]
  exact K
theorem g_cald {n o k : Nat} {i v : Int32} (hd : decode M.2.1 pc = .ok (.caload, 1)) (hs : mSg S o = some (21, n)) (hi : i = nI k) (hk : k < n) (hn : n < 2 ^ 31) (hv : I o k = v) (K : JJ X M d (pc + 1) L (.int v :: st) S (I, R) r S' h') : JJ X M d pc L (.int i :: .ref o :: st) S (I, R) r S' h' := by
  subst hi; subst hv
  refine r_cald hd hs (nI_in hk hn) ?_
  rw [nI_clamp (by omega)]
  exact K
theorem g_aald {n o k q : Nat} {i : Int32} (hd : decode M.2.1 pc = .ok (.aaload, 1)) (hs : mSg S o = some (22, n)) (hi : i = nI k) (hk : k < n) (hn : n < 2 ^ 31) (hv : R o k = q) (K : JJ X M d (pc + 1) L (.ref q :: st) S (I, R) r S' h') : JJ X M d pc L (.int i :: .ref o :: st) S (I, R) r S' h' := by
  subst hi; subst hv
  refine r_aald hd hs (nI_in hk hn) ?_
  rw [nI_clamp (by omega)]
  exact K
theorem g_iast {n o k : Nat} {i x : Int32} (hd : decode M.2.1 pc = .ok (.iastore, 1)) (hs : mSg S o = some (20, n)) (hi : i = nI k) (hk : k < n) (hn : n < 2 ^ 31) (K : JJ X M d (pc + 1) L st S (sJ I o k x, R) r S' h') : JJ X M d pc L (.int x :: .int i :: .ref o :: st) S (I, R) r S' h' := by
  subst hi
  refine r_iast hd hs (nI_in hk hn) ?_
  rw [nI_clamp (by omega)]
  exact K
theorem g_cast {n o k : Nat} {i x v : Int32} (hd : decode M.2.1 pc = .ok (.castore, 1)) (hs : mSg S o = some (21, n)) (hi : i = nI k) (hk : k < n) (hn : n < 2 ^ 31) (hv : vp_nar .char x = v) (K : JJ X M d (pc + 1) L st S (sJ I o k v, R) r S' h') : JJ X M d pc L (.int x :: .int i :: .ref o :: st) S (I, R) r S' h' := by
  subst hi; subst hv
  refine r_cast hd hs (nI_in hk hn) ?_
  rw [nI_clamp (by omega)]
  exact K
theorem n_iadd {a b : Nat} (hd : decode M.2.1 pc = .ok (.iadd, 1)) (K : JJ X M d (pc + 1) L (.int (nI (a + b)) :: st) S h r S' h') : JJ X M d pc L (.int (nI b) :: .int (nI a) :: st) S h r S' h' := r_iadd hd (by rw [nI_add]; exact K)
theorem n_imul {a b : Nat} (hd : decode M.2.1 pc = .ok (.imul, 1)) (K : JJ X M d (pc + 1) L (.int (nI (a * b)) :: st) S h r S' h') : JJ X M d pc L (.int (nI b) :: .int (nI a) :: st) S h r S' h' := r_imul hd (by rw [nI_mul]; exact K)
theorem n_isub {a b : Nat} (hd : decode M.2.1 pc = .ok (.isub, 1)) (hab : b ≤ a) (K : JJ X M d (pc + 1) L (.int (nI (a - b)) :: st) S h r S' h') : JJ X M d pc L (.int (nI b) :: .int (nI a) :: st) S h r S' h' := r_isub hd (by rw [nI_sub hab]; exact K)
theorem n_icmp_eq {a b : Nat} {off : Int} {tgt : Nat} (hd : decode M.2.1 pc = .ok (.if_icmp .eq off, 3)) (ht : (pc : Int) + off = (tgt : Int)) (ha : a < 2 ^ 31) (hb : b < 2 ^ 31) (Kt : a = b → JJ X M d tgt L st S h r S' h') (Kf : ¬ a = b → JJ X M d (pc + 3) L st S h r S' h') : JJ X M d pc L (.int (nI b) :: .int (nI a) :: st) S h r S' h' := r_icmp_eq hd ht (fun z => Kt ((nI_eq ha hb).mp z)) (fun z => Kf (fun q => z ((nI_eq ha hb).mpr q)))
theorem n_icmp_ne {a b : Nat} {off : Int} {tgt : Nat} (hd : decode M.2.1 pc = .ok (.if_icmp .ne off, 3)) (ht : (pc : Int) + off = (tgt : Int)) (ha : a < 2 ^ 31) (hb : b < 2 ^ 31) (Kt : ¬ a = b → JJ X M d tgt L st S h r S' h') (Kf : a = b → JJ X M d (pc + 3) L st S h r S' h') : JJ X M d pc L (.int (nI b) :: .int (nI a) :: st) S h r S' h' := r_icmp_ne hd ht (fun z => Kt (fun q => z ((nI_eq ha hb).mpr q))) (fun z => Kf ((nI_eq ha hb).mp z))
theorem n_icmp_lt {a b : Nat} {off : Int} {tgt : Nat} (hd : decode M.2.1 pc = .ok (.if_icmp .lt off, 3)) (ht : (pc : Int) + off = (tgt : Int)) (ha : a < 2 ^ 31) (hb : b < 2 ^ 31) (Kt : a < b → JJ X M d tgt L st S h r S' h') (Kf : b ≤ a → JJ X M d (pc + 3) L st S h r S' h') : JJ X M d pc L (.int (nI b) :: .int (nI a) :: st) S h r S' h' := r_icmp_lt hd ht (fun z => Kt ((nI_ltI ha hb).mp z)) (fun z => Kf (Nat.not_lt.mp (fun q => z ((nI_ltI ha hb).mpr q))))
theorem n_icmp_ge {a b : Nat} {off : Int} {tgt : Nat} (hd : decode M.2.1 pc = .ok (.if_icmp .ge off, 3)) (ht : (pc : Int) + off = (tgt : Int)) (ha : a < 2 ^ 31) (hb : b < 2 ^ 31) (Kt : b ≤ a → JJ X M d tgt L st S h r S' h') (Kf : a < b → JJ X M d (pc + 3) L st S h r S' h') : JJ X M d pc L (.int (nI b) :: .int (nI a) :: st) S h r S' h' := r_icmp_ge hd ht (fun z => Kt ((nI_leI hb ha).mp z)) (fun z => Kf (Nat.not_le.mp (fun q => z ((nI_leI hb ha).mpr q))))
theorem n_icmp_gt {a b : Nat} {off : Int} {tgt : Nat} (hd : decode M.2.1 pc = .ok (.if_icmp .gt off, 3)) (ht : (pc : Int) + off = (tgt : Int)) (ha : a < 2 ^ 31) (hb : b < 2 ^ 31) (Kt : b < a → JJ X M d tgt L st S h r S' h') (Kf : a ≤ b → JJ X M d (pc + 3) L st S h r S' h') : JJ X M d pc L (.int (nI b) :: .int (nI a) :: st) S h r S' h' := r_icmp_gt hd ht (fun z => Kt ((nI_ltI hb ha).mp z)) (fun z => Kf (Nat.not_lt.mp (fun q => z ((nI_ltI hb ha).mpr q))))
theorem n_icmp_le {a b : Nat} {off : Int} {tgt : Nat} (hd : decode M.2.1 pc = .ok (.if_icmp .le off, 3)) (ht : (pc : Int) + off = (tgt : Int)) (ha : a < 2 ^ 31) (hb : b < 2 ^ 31) (Kt : a ≤ b → JJ X M d tgt L st S h r S' h') (Kf : b < a → JJ X M d (pc + 3) L st S h r S' h') : JJ X M d pc L (.int (nI b) :: .int (nI a) :: st) S h r S' h' := r_icmp_le hd ht (fun z => Kt ((nI_leI ha hb).mp z)) (fun z => Kf (Nat.not_le.mp (fun q => z ((nI_leI ha hb).mpr q))))
theorem n_if_eq {a : Nat} {off : Int} {tgt : Nat} (hd : decode M.2.1 pc = .ok (.ifCond .eq off, 3)) (ht : (pc : Int) + off = (tgt : Int)) (ha : a < 2 ^ 31) (Kt : a = 0 → JJ X M d tgt L st S h r S' h') (Kf : ¬ a = 0 → JJ X M d (pc + 3) L st S h r S' h') : JJ X M d pc L (.int (nI a) :: st) S h r S' h' := r_if_eq hd ht (fun z => Kt ((nI_eq ha (b := 0) (by decide)).mp z)) (fun z => Kf (fun q => z ((nI_eq ha (b := 0) (by decide)).mpr q)))
theorem n_if_ne {a : Nat} {off : Int} {tgt : Nat} (hd : decode M.2.1 pc = .ok (.ifCond .ne off, 3)) (ht : (pc : Int) + off = (tgt : Int)) (ha : a < 2 ^ 31) (Kt : ¬ a = 0 → JJ X M d tgt L st S h r S' h') (Kf : a = 0 → JJ X M d (pc + 3) L st S h r S' h') : JJ X M d pc L (.int (nI a) :: st) S h r S' h' := r_if_ne hd ht (fun z => Kt (fun q => z ((nI_eq ha (b := 0) (by decide)).mpr q))) (fun z => Kf ((nI_eq ha (b := 0) (by decide)).mp z))
theorem n_if_gt {a : Nat} {off : Int} {tgt : Nat} (hd : decode M.2.1 pc = .ok (.ifCond .gt off, 3)) (ht : (pc : Int) + off = (tgt : Int)) (ha : a < 2 ^ 31) (Kt : 0 < a → JJ X M d tgt L st S h r S' h') (Kf : a ≤ 0 → JJ X M d (pc + 3) L st S h r S' h') : JJ X M d pc L (.int (nI a) :: st) S h r S' h' := r_if_gt hd ht (fun z => Kt ((nI_ltI (a := 0) (by decide) ha).mp z)) (fun z => Kf (Nat.not_lt.mp (fun q => z ((nI_ltI (a := 0) (by decide) ha).mpr q))))
theorem n_if_le {a : Nat} {off : Int} {tgt : Nat} (hd : decode M.2.1 pc = .ok (.ifCond .le off, 3)) (ht : (pc : Int) + off = (tgt : Int)) (ha : a < 2 ^ 31) (Kt : a ≤ 0 → JJ X M d tgt L st S h r S' h') (Kf : 0 < a → JJ X M d (pc + 3) L st S h r S' h') : JJ X M d pc L (.int (nI a) :: st) S h r S' h' := r_if_le hd ht (fun z => Kt ((nI_leI ha (b := 0) (by decide)).mp z)) (fun z => Kf (Nat.not_le.mp (fun q => z ((nI_leI ha (b := 0) (by decide)).mpr q))))
theorem n_if_lt {a : Nat} {off : Int} {tgt : Nat} (hd : decode M.2.1 pc = .ok (.ifCond .lt off, 3)) (ht : (pc : Int) + off = (tgt : Int)) (ha : a < 2 ^ 31) (Kt : a < 0 → JJ X M d tgt L st S h r S' h') (Kf : 0 ≤ a → JJ X M d (pc + 3) L st S h r S' h') : JJ X M d pc L (.int (nI a) :: st) S h r S' h' := r_if_lt hd ht (fun z => Kt ((nI_ltI ha (b := 0) (by decide)).mp z)) (fun z => Kf (Nat.not_lt.mp (fun q => z ((nI_ltI ha (b := 0) (by decide)).mpr q))))
theorem n_if_ge {a : Nat} {off : Int} {tgt : Nat} (hd : decode M.2.1 pc = .ok (.ifCond .ge off, 3)) (ht : (pc : Int) + off = (tgt : Int)) (ha : a < 2 ^ 31) (Kt : 0 ≤ a → JJ X M d tgt L st S h r S' h') (Kf : a < 0 → JJ X M d (pc + 3) L st S h r S' h') : JJ X M d pc L (.int (nI a) :: st) S h r S' h' := r_if_ge hd ht (fun z => Kt ((nI_leI (a := 0) (by decide) ha).mp z)) (fun z => Kf (Nat.not_le.mp (fun q => z ((nI_leI (a := 0) (by decide) ha).mpr q))))
theorem mc_max : Cond.code Lib.Math.max.name Lib.Math.max.code 2 (some .int) ∈ mWd := mWd_at 143 (by decide +kernel) rfl
theorem r_mmax {i : Nat} {x y : Int32} (hd : decode M.2.1 pc = .ok (.invokestatic i, 3)) (hl : Cond.methodLink M.1.cls i M_J9_max_7cf53.1 ∈ mWd) (hst : (st.map Value.category).sum ≤ 8) (K : JJ X M (d + 1) (pc + 3) L (.int (if x < y then y else x) :: st) S h r S' h') : JJ X M (d + 1) pc L (.int y :: .int x :: st) S h r S' h' := by
  intro hpre p e s m args below meth c R S0 Q F ret H locs cells slots ls hA hL
  have hts := F.2.2.2.2.2.1
  have hf1 := F.2.2.2.2.2.2.1
  have hf2 := F.2.2.2.2.2.2.2.1
  have b := mPre_len hA.2.2.2.1 hpre
  have g1 := F.2.2.2.2.2.2.2.2.1
  have g2 := F.2.2.2.2.2.2.2.2.2.1
  have g3 := hA.2.2.2.2.1
  have g4 := hA.2.2.2.2.2
  have hcat : ((st.map (mEnc X)).map fun v => v.category).sum ≤ 8 := by
    rw [List.map_map]
    have : (fun v => v.category) ∘ mEnc X = (fun v : Value => v.category) := by funext v; exact mEnc_cat X v
    rw [this]; exact hst
  exact va_mmax F.1 F.2.1 (F.2.2.1.trans hL.2.1.symm) F.2.2.2.1 (hts _ hl) (hts _ s_J9_max_7cf53) (hts (.initialized "java/lang/Math") k_J9_max_7cf53.2.1) (hts _ mc_max) (by omega) (by omega) (by omega) (by omega) hd (K hpre p e s m args below meth c R S0 Q F ret H locs cells slots ls hA hL)
theorem mc_min : Cond.code Lib.Math.min.name Lib.Math.min.code 2 (some .int) ∈ mWd := mWd_at 528 (by decide +kernel) rfl
theorem r_mmin {i : Nat} {x y : Int32} (hd : decode M.2.1 pc = .ok (.invokestatic i, 3)) (hl : Cond.methodLink M.1.cls i M_J9_min_7cf53.1 ∈ mWd) (hst : (st.map Value.category).sum ≤ 8) (K : JJ X M (d + 1) (pc + 3) L (.int (if y < x then y else x) :: st) S h r S' h') : JJ X M (d + 1) pc L (.int y :: .int x :: st) S h r S' h' := by
  intro hpre p e s m args below meth c R S0 Q F ret H locs cells slots ls hA hL
  have hts := F.2.2.2.2.2.1
  have hf1 := F.2.2.2.2.2.2.1
  have hf2 := F.2.2.2.2.2.2.2.1
  have b := mPre_len hA.2.2.2.1 hpre
  have g1 := F.2.2.2.2.2.2.2.2.1
  have g2 := F.2.2.2.2.2.2.2.2.2.1
  have g3 := hA.2.2.2.2.1
  have g4 := hA.2.2.2.2.2
  have hcat : ((st.map (mEnc X)).map fun v => v.category).sum ≤ 8 := by
    rw [List.map_map]
    have : (fun v => v.category) ∘ mEnc X = (fun v : Value => v.category) := by funext v; exact mEnc_cat X v
    rw [this]; exact hst
  exact va_mmin F.1 F.2.1 (F.2.2.1.trans hL.2.1.symm) F.2.2.2.1 (hts _ hl) (hts _ s_J9_min_7cf53) (hts (.initialized "java/lang/Math") k_J9_min_7cf53.2.1) (hts _ mc_min) (by omega) (by omega) (by omega) (by omega) hd (K hpre p e s m args below meth c R S0 Q F ret H locs cells slots ls hA hL)
end
end
section
/-! ===== the state in numbers: a family w (0 N, 1 G, 2 T, 3 kinds, 9 purses, 15 strengths, 21 sorts, 29 owners, 37 worths, 45 weights, 53 loves), a standing s (0 here, 1 coins, 7 paid, 13 paid last, 19 owners, 27 packed) ===== -/
theorem rB1 {b : Bool} (h : b = true) : some (Value.int (bI b)) = some (.int (nI 1)) := by subst h; rfl
theorem rB0 {b : Bool} (h : b = false) : some (Value.int (bI b)) = some (.int (nI 0)) := by subst h; rfl
theorem nI_dec {n : Nat} (h : 1 ≤ n) : nI n + Int32.ofInt (-1) = nI (n - 1) := by
  obtain ⟨k, rfl⟩ : ∃ k, n = k + 1 := ⟨n - 1, by omega⟩
  have := nI_pred k
  rw [Nat.add_sub_cancel, ← this]
  rw [Int32.sub_eq_add_neg]; rfl
def nAny (n : Nat) (q : Nat → Bool) : Bool := match n with
  | 0 => false
  | n + 1 => nAny n q || q n
theorem nAny_t {q : Nat → Bool} : ∀ {n j : Nat}, j < n → q j = true → nAny n q = true
  | n + 1, j, h, hq => by
    unfold nAny
    rcases Nat.lt_succ_iff_lt_or_eq.mp h with h | rfl
    · rw [nAny_t h hq]; rfl
    · rw [hq, Bool.or_true]
theorem nAny_s {q : Nat → Bool} {n : Nat} (h : nAny n q = false) (hq : q n = false) : nAny (n + 1) q = false := by
  unfold nAny; rw [h, hq]; rfl
theorem nAny_congr {q u : Nat → Bool} : ∀ {n : Nat}, (∀ j, j < n → q j = u j) → nAny n q = nAny n u
  | 0, _ => rfl
  | n + 1, h => by
    unfold nAny
    rw [nAny_congr (n := n) (fun j hj => h j (by omega)), h n (by omega)]
theorem shl1 {j : Nat} (h : j < 31) : nI 1 <<< (nI j &&& 31) = nI (2 ^ j) := by
  have : ∀ j, j < 31 → nI 1 <<< (nI j &&& 31) = nI (2 ^ j) := by decide +kernel
  exact this j h
theorem p2_lt {j : Nat} (h : j < 31) : 2 ^ j < 2 ^ 31 := Nat.pow_lt_pow_right (by decide) h
theorem bitv {b j : Nat} (hb : b < 256) (hj : j < 8) : (nI b >>> (nI j &&& 31)) &&& nI 1 = bI (b.testBit j) := by
  have : ∀ b, b < 256 → ∀ j, j < 8 → (nI b >>> (nI j &&& 31)) &&& nI 1 = bI (b.testBit j) := by decide +kernel
  exact this b hb j hj
theorem p2_le {n m b : Nat} (h : n ≤ m) (hb : b < 2 ^ n) : b < 2 ^ m := Nat.lt_of_lt_of_le hb (Nat.pow_le_pow_right (by decide) h)
section
variable {X : mCx} {M : mMe} {d pc : Nat} {L st : List Value} {S S' : mSh} {h h' : mHp} {r : Option Value}
theorem g_top {x y : Int32} (e : x = y) (K : JJ X M d pc L (.int y :: st) S h r S' h') : JJ X M d pc L (.int x :: st) S h r S' h' := by subst e; exact K
end
/-- what a good counts that is left: by sort and worth -/
def cntv (t x : Int32) : Int32 := if t = nI 1 then -x else if t = nI 2 then nI 3 * x else if t = nI 3 then x / nI 2 else x
def cnt (w : Nat → Int32) (g : Nat) : Int32 := cntv (w (21 + g)) (w (37 + g))
def Fam (S : mSh) (I : mI) (R : mR) (f : Nat) (w : Nat → Int32) (N G : Nat) : Prop := (mSg S f = some (0, 12)) ∧ (mSg S (f + 1) = some (20, 6)) ∧ (mSg S (f + 2) = some (20, 6)) ∧ (mSg S (f + 3) = some (20, 6)) ∧ (mSg S (f + 4) = some (20, 36)) ∧ (mSg S (f + 5) = some (20, 8)) ∧ (mSg S (f + 6) = some (20, 8)) ∧ (mSg S (f + 7) = some (20, 8)) ∧ (mSg S (f + 8) = some (20, 8)) ∧ (mSg S (f + 9) = some (20, 8)) ∧ (R f 3 = f + 1) ∧ (R f 4 = f + 2) ∧ (R f 5 = f + 3) ∧ (R f 6 = f + 4) ∧ (R f 7 = f + 5) ∧ (R f 8 = f + 6) ∧ (R f 9 = f + 7) ∧ (R f 10 = f + 8) ∧ (R f 11 = f + 9) ∧ (N ≤ 6) ∧ (G ≤ 8) ∧ (I f 0 = nI N) ∧ (I f 1 = nI G) ∧ (I f 2 = w 2) ∧ (∀ i, i < N → I (f + 1) i = w (3 + i)) ∧ (∀ i, i < N → I (f + 2) i = w (9 + i)) ∧ (∀ i, i < N → I (f + 3) i = w (15 + i)) ∧ (∀ i j, i < N → j < N → I (f + 4) (6 * i + j) = w (53 + (6 * i + j))) ∧ (∀ g, g < G → I (f + 5) g = w (21 + g)) ∧ (∀ g, g < G → I (f + 6) g = w (29 + g)) ∧ (∀ g, g < G → I (f + 7) g = w (37 + g)) ∧ (∀ g, g < G → I (f + 8) g = w (45 + g)) ∧ (∀ g, g < G → I (f + 9) g = cnt w g)
theorem Fam.sg {S : mSh} {I : mI} {R : mR} {f : Nat} {w : Nat → Int32} {N G : Nat} (q : Fam S I R f w N G) : mSg S f = some (0, 12) := q.1
theorem Fam.s3 {S : mSh} {I : mI} {R : mR} {f : Nat} {w : Nat → Int32} {N G : Nat} (q : Fam S I R f w N G) : mSg S (f + 1) = some (20, 6) := q.2.1
theorem Fam.s4 {S : mSh} {I : mI} {R : mR} {f : Nat} {w : Nat → Int32} {N G : Nat} (q : Fam S I R f w N G) : mSg S (f + 2) = some (20, 6) := q.2.2.1
theorem Fam.s5 {S : mSh} {I : mI} {R : mR} {f : Nat} {w : Nat → Int32} {N G : Nat} (q : Fam S I R f w N G) : mSg S (f + 3) = some (20, 6) := q.2.2.2.1
theorem Fam.s6 {S : mSh} {I : mI} {R : mR} {f : Nat} {w : Nat → Int32} {N G : Nat} (q : Fam S I R f w N G) : mSg S (f + 4) = some (20, 36) := q.2.2.2.2.1
theorem Fam.s7 {S : mSh} {I : mI} {R : mR} {f : Nat} {w : Nat → Int32} {N G : Nat} (q : Fam S I R f w N G) : mSg S (f + 5) = some (20, 8) := q.2.2.2.2.2.1
theorem Fam.s8 {S : mSh} {I : mI} {R : mR} {f : Nat} {w : Nat → Int32} {N G : Nat} (q : Fam S I R f w N G) : mSg S (f + 6) = some (20, 8) := q.2.2.2.2.2.2.1
theorem Fam.s9 {S : mSh} {I : mI} {R : mR} {f : Nat} {w : Nat → Int32} {N G : Nat} (q : Fam S I R f w N G) : mSg S (f + 7) = some (20, 8) := q.2.2.2.2.2.2.2.1
theorem Fam.s10 {S : mSh} {I : mI} {R : mR} {f : Nat} {w : Nat → Int32} {N G : Nat} (q : Fam S I R f w N G) : mSg S (f + 8) = some (20, 8) := q.2.2.2.2.2.2.2.2.1
theorem Fam.s11 {S : mSh} {I : mI} {R : mR} {f : Nat} {w : Nat → Int32} {N G : Nat} (q : Fam S I R f w N G) : mSg S (f + 9) = some (20, 8) := q.2.2.2.2.2.2.2.2.2.1
theorem Fam.r3 {S : mSh} {I : mI} {R : mR} {f : Nat} {w : Nat → Int32} {N G : Nat} (q : Fam S I R f w N G) : R f 3 = f + 1 := q.2.2.2.2.2.2.2.2.2.2.1
theorem Fam.r4 {S : mSh} {I : mI} {R : mR} {f : Nat} {w : Nat → Int32} {N G : Nat} (q : Fam S I R f w N G) : R f 4 = f + 2 := q.2.2.2.2.2.2.2.2.2.2.2.1
theorem Fam.r5 {S : mSh} {I : mI} {R : mR} {f : Nat} {w : Nat → Int32} {N G : Nat} (q : Fam S I R f w N G) : R f 5 = f + 3 := q.2.2.2.2.2.2.2.2.2.2.2.2.1
theorem Fam.r6 {S : mSh} {I : mI} {R : mR} {f : Nat} {w : Nat → Int32} {N G : Nat} (q : Fam S I R f w N G) : R f 6 = f + 4 := q.2.2.2.2.2.2.2.2.2.2.2.2.2.1
theorem Fam.r7 {S : mSh} {I : mI} {R : mR} {f : Nat} {w : Nat → Int32} {N G : Nat} (q : Fam S I R f w N G) : R f 7 = f + 5 := q.2.2.2.2.2.2.2.2.2.2.2.2.2.2.1
theorem Fam.r8 {S : mSh} {I : mI} {R : mR} {f : Nat} {w : Nat → Int32} {N G : Nat} (q : Fam S I R f w N G) : R f 8 = f + 6 := q.2.2.2.2.2.2.2.2.2.2.2.2.2.2.2.1
theorem Fam.r9 {S : mSh} {I : mI} {R : mR} {f : Nat} {w : Nat → Int32} {N G : Nat} (q : Fam S I R f w N G) : R f 9 = f + 7 := q.2.2.2.2.2.2.2.2.2.2.2.2.2.2.2.2.1
theorem Fam.r10 {S : mSh} {I : mI} {R : mR} {f : Nat} {w : Nat → Int32} {N G : Nat} (q : Fam S I R f w N G) : R f 10 = f + 8 := q.2.2.2.2.2.2.2.2.2.2.2.2.2.2.2.2.2.1
theorem Fam.r11 {S : mSh} {I : mI} {R : mR} {f : Nat} {w : Nat → Int32} {N G : Nat} (q : Fam S I R f w N G) : R f 11 = f + 9 := q.2.2.2.2.2.2.2.2.2.2.2.2.2.2.2.2.2.2.1
theorem Fam.N6 {S : mSh} {I : mI} {R : mR} {f : Nat} {w : Nat → Int32} {N G : Nat} (q : Fam S I R f w N G) : N ≤ 6 := q.2.2.2.2.2.2.2.2.2.2.2.2.2.2.2.2.2.2.2.1
theorem Fam.G8 {S : mSh} {I : mI} {R : mR} {f : Nat} {w : Nat → Int32} {N G : Nat} (q : Fam S I R f w N G) : G ≤ 8 := q.2.2.2.2.2.2.2.2.2.2.2.2.2.2.2.2.2.2.2.2.1
theorem Fam.hN {S : mSh} {I : mI} {R : mR} {f : Nat} {w : Nat → Int32} {N G : Nat} (q : Fam S I R f w N G) : I f 0 = nI N := q.2.2.2.2.2.2.2.2.2.2.2.2.2.2.2.2.2.2.2.2.2.1
theorem Fam.hG {S : mSh} {I : mI} {R : mR} {f : Nat} {w : Nat → Int32} {N G : Nat} (q : Fam S I R f w N G) : I f 1 = nI G := q.2.2.2.2.2.2.2.2.2.2.2.2.2.2.2.2.2.2.2.2.2.2.1
theorem Fam.hT {S : mSh} {I : mI} {R : mR} {f : Nat} {w : Nat → Int32} {N G : Nat} (q : Fam S I R f w N G) : I f 2 = w 2 := q.2.2.2.2.2.2.2.2.2.2.2.2.2.2.2.2.2.2.2.2.2.2.2.1
theorem Fam.kind {S : mSh} {I : mI} {R : mR} {f : Nat} {w : Nat → Int32} {N G : Nat} (q : Fam S I R f w N G) : ∀ i, i < N → I (f + 1) i = w (3 + i) := q.2.2.2.2.2.2.2.2.2.2.2.2.2.2.2.2.2.2.2.2.2.2.2.2.1
theorem Fam.purse {S : mSh} {I : mI} {R : mR} {f : Nat} {w : Nat → Int32} {N G : Nat} (q : Fam S I R f w N G) : ∀ i, i < N → I (f + 2) i = w (9 + i) := q.2.2.2.2.2.2.2.2.2.2.2.2.2.2.2.2.2.2.2.2.2.2.2.2.2.1
theorem Fam.strength {S : mSh} {I : mI} {R : mR} {f : Nat} {w : Nat → Int32} {N G : Nat} (q : Fam S I R f w N G) : ∀ i, i < N → I (f + 3) i = w (15 + i) := q.2.2.2.2.2.2.2.2.2.2.2.2.2.2.2.2.2.2.2.2.2.2.2.2.2.2.1
theorem Fam.love {S : mSh} {I : mI} {R : mR} {f : Nat} {w : Nat → Int32} {N G : Nat} (q : Fam S I R f w N G) : ∀ i j, i < N → j < N → I (f + 4) (6 * i + j) = w (53 + (6 * i + j)) := q.2.2.2.2.2.2.2.2.2.2.2.2.2.2.2.2.2.2.2.2.2.2.2.2.2.2.2.1
theorem Fam.sort {S : mSh} {I : mI} {R : mR} {f : Nat} {w : Nat → Int32} {N G : Nat} (q : Fam S I R f w N G) : ∀ g, g < G → I (f + 5) g = w (21 + g) := q.2.2.2.2.2.2.2.2.2.2.2.2.2.2.2.2.2.2.2.2.2.2.2.2.2.2.2.2.1
theorem Fam.own {S : mSh} {I : mI} {R : mR} {f : Nat} {w : Nat → Int32} {N G : Nat} (q : Fam S I R f w N G) : ∀ g, g < G → I (f + 6) g = w (29 + g) := q.2.2.2.2.2.2.2.2.2.2.2.2.2.2.2.2.2.2.2.2.2.2.2.2.2.2.2.2.2.1
theorem Fam.worth {S : mSh} {I : mI} {R : mR} {f : Nat} {w : Nat → Int32} {N G : Nat} (q : Fam S I R f w N G) : ∀ g, g < G → I (f + 7) g = w (37 + g) := q.2.2.2.2.2.2.2.2.2.2.2.2.2.2.2.2.2.2.2.2.2.2.2.2.2.2.2.2.2.2.1
theorem Fam.heavy {S : mSh} {I : mI} {R : mR} {f : Nat} {w : Nat → Int32} {N G : Nat} (q : Fam S I R f w N G) : ∀ g, g < G → I (f + 8) g = w (45 + g) := q.2.2.2.2.2.2.2.2.2.2.2.2.2.2.2.2.2.2.2.2.2.2.2.2.2.2.2.2.2.2.2.1
theorem Fam.cnt {S : mSh} {I : mI} {R : mR} {f : Nat} {w : Nat → Int32} {N G : Nat} (q : Fam S I R f w N G) : ∀ g, g < G → I (f + 9) g = cnt w g := q.2.2.2.2.2.2.2.2.2.2.2.2.2.2.2.2.2.2.2.2.2.2.2.2.2.2.2.2.2.2.2.2
theorem Fam.fr {S : mSh} {I I1 : mI} {R : mR} {f : Nat} {w : Nat → Int32} {N G : Nat} (q : Fam S I R f w N G) (hi : ∀ o, f ≤ o → o ≤ f + 9 → I1 o = I o) : Fam S I1 R f w N G := by
  unfold Fam at q ⊢
  rw [hi f (by omega) (by omega), hi (f + 1) (by omega) (by omega), hi (f + 2) (by omega) (by omega), hi (f + 3) (by omega) (by omega), hi (f + 4) (by omega) (by omega), hi (f + 5) (by omega) (by omega), hi (f + 6) (by omega) (by omega), hi (f + 7) (by omega) (by omega), hi (f + 8) (by omega) (by omega), hi (f + 9) (by omega) (by omega)]
  exact q
def Sto (S : mSh) (R : mR) (a : Nat) : Prop := (mSg S a = some (5, 7)) ∧ (mSg S (a + 1) = some (20, 8)) ∧ (mSg S (a + 2) = some (20, 6)) ∧ (mSg S (a + 3) = some (20, 6)) ∧ (mSg S (a + 4) = some (20, 6)) ∧ (R a 2 = a + 1) ∧ (R a 3 = a + 2) ∧ (R a 4 = a + 3) ∧ (R a 5 = a + 4)
theorem Sto.sg {S : mSh} {R : mR} {a : Nat} (q : Sto S R a) : mSg S a = some (5, 7) := q.1
theorem Sto.s2 {S : mSh} {R : mR} {a : Nat} (q : Sto S R a) : mSg S (a + 1) = some (20, 8) := q.2.1
theorem Sto.s3 {S : mSh} {R : mR} {a : Nat} (q : Sto S R a) : mSg S (a + 2) = some (20, 6) := q.2.2.1
theorem Sto.s4 {S : mSh} {R : mR} {a : Nat} (q : Sto S R a) : mSg S (a + 3) = some (20, 6) := q.2.2.2.1
theorem Sto.s5 {S : mSh} {R : mR} {a : Nat} (q : Sto S R a) : mSg S (a + 4) = some (20, 6) := q.2.2.2.2.1
theorem Sto.r2 {S : mSh} {R : mR} {a : Nat} (q : Sto S R a) : R a 2 = a + 1 := q.2.2.2.2.2.1
theorem Sto.r3 {S : mSh} {R : mR} {a : Nat} (q : Sto S R a) : R a 3 = a + 2 := q.2.2.2.2.2.2.1
theorem Sto.r4 {S : mSh} {R : mR} {a : Nat} (q : Sto S R a) : R a 4 = a + 3 := q.2.2.2.2.2.2.2.1
theorem Sto.r5 {S : mSh} {R : mR} {a : Nat} (q : Sto S R a) : R a 5 = a + 4 := q.2.2.2.2.2.2.2.2
def Std (S : mSh) (I : mI) (R : mR) (a : Nat) (s : Nat → Int32) (N G hb pb : Nat) : Prop := (Sto S R a) ∧ (N ≤ 6) ∧ (G ≤ 8) ∧ (I a 6 = nI G) ∧ (hb < 2 ^ N) ∧ (I a 0 = nI hb) ∧ (s 0 = nI hb) ∧ (pb < 2 ^ G) ∧ (I a 1 = nI pb) ∧ (∀ g, g < G → s (27 + g) = bI (pb.testBit g)) ∧ (∀ g, g < G → I (a + 1) g = s (19 + g)) ∧ (∀ i, i < N → I (a + 2) i = s (1 + i)) ∧ (∀ i, i < N → I (a + 3) i = s (7 + i)) ∧ (∀ i, i < N → I (a + 4) i = s (13 + i))
theorem Std.o {S : mSh} {I : mI} {R : mR} {a : Nat} {s : Nat → Int32} {N G hb pb : Nat} (q : Std S I R a s N G hb pb) : Sto S R a := q.1
theorem Std.N6 {S : mSh} {I : mI} {R : mR} {a : Nat} {s : Nat → Int32} {N G hb pb : Nat} (q : Std S I R a s N G hb pb) : N ≤ 6 := q.2.1
theorem Std.G8 {S : mSh} {I : mI} {R : mR} {a : Nat} {s : Nat → Int32} {N G hb pb : Nat} (q : Std S I R a s N G hb pb) : G ≤ 8 := q.2.2.1
theorem Std.hG {S : mSh} {I : mI} {R : mR} {a : Nat} {s : Nat → Int32} {N G hb pb : Nat} (q : Std S I R a s N G hb pb) : I a 6 = nI G := q.2.2.2.1
theorem Std.hb2 {S : mSh} {I : mI} {R : mR} {a : Nat} {s : Nat → Int32} {N G hb pb : Nat} (q : Std S I R a s N G hb pb) : hb < 2 ^ N := q.2.2.2.2.1
theorem Std.here {S : mSh} {I : mI} {R : mR} {a : Nat} {s : Nat → Int32} {N G hb pb : Nat} (q : Std S I R a s N G hb pb) : I a 0 = nI hb := q.2.2.2.2.2.1
theorem Std.here0 {S : mSh} {I : mI} {R : mR} {a : Nat} {s : Nat → Int32} {N G hb pb : Nat} (q : Std S I R a s N G hb pb) : s 0 = nI hb := q.2.2.2.2.2.2.1
theorem Std.pb2 {S : mSh} {I : mI} {R : mR} {a : Nat} {s : Nat → Int32} {N G hb pb : Nat} (q : Std S I R a s N G hb pb) : pb < 2 ^ G := q.2.2.2.2.2.2.2.1
theorem Std.packed {S : mSh} {I : mI} {R : mR} {a : Nat} {s : Nat → Int32} {N G hb pb : Nat} (q : Std S I R a s N G hb pb) : I a 1 = nI pb := q.2.2.2.2.2.2.2.2.1
theorem Std.pk {S : mSh} {I : mI} {R : mR} {a : Nat} {s : Nat → Int32} {N G hb pb : Nat} (q : Std S I R a s N G hb pb) : ∀ g, g < G → s (27 + g) = bI (pb.testBit g) := q.2.2.2.2.2.2.2.2.2.1
theorem Std.own {S : mSh} {I : mI} {R : mR} {a : Nat} {s : Nat → Int32} {N G hb pb : Nat} (q : Std S I R a s N G hb pb) : ∀ g, g < G → I (a + 1) g = s (19 + g) := q.2.2.2.2.2.2.2.2.2.2.1
theorem Std.coins {S : mSh} {I : mI} {R : mR} {a : Nat} {s : Nat → Int32} {N G hb pb : Nat} (q : Std S I R a s N G hb pb) : ∀ i, i < N → I (a + 2) i = s (1 + i) := q.2.2.2.2.2.2.2.2.2.2.2.1
theorem Std.paid {S : mSh} {I : mI} {R : mR} {a : Nat} {s : Nat → Int32} {N G hb pb : Nat} (q : Std S I R a s N G hb pb) : ∀ i, i < N → I (a + 3) i = s (7 + i) := q.2.2.2.2.2.2.2.2.2.2.2.2.1
theorem Std.last {S : mSh} {I : mI} {R : mR} {a : Nat} {s : Nat → Int32} {N G hb pb : Nat} (q : Std S I R a s N G hb pb) : ∀ i, i < N → I (a + 4) i = s (13 + i) := q.2.2.2.2.2.2.2.2.2.2.2.2.2
theorem Std.sg {S : mSh} {I : mI} {R : mR} {a : Nat} {s : Nat → Int32} {N G hb pb : Nat} (q : Std S I R a s N G hb pb) : mSg S a = some (5, 7) := q.1.sg
theorem Std.s2 {S : mSh} {I : mI} {R : mR} {a : Nat} {s : Nat → Int32} {N G hb pb : Nat} (q : Std S I R a s N G hb pb) : mSg S (a + 1) = some (20, 8) := q.1.s2
theorem Std.s3 {S : mSh} {I : mI} {R : mR} {a : Nat} {s : Nat → Int32} {N G hb pb : Nat} (q : Std S I R a s N G hb pb) : mSg S (a + 2) = some (20, 6) := q.1.s3
theorem Std.s4 {S : mSh} {I : mI} {R : mR} {a : Nat} {s : Nat → Int32} {N G hb pb : Nat} (q : Std S I R a s N G hb pb) : mSg S (a + 3) = some (20, 6) := q.1.s4
theorem Std.s5 {S : mSh} {I : mI} {R : mR} {a : Nat} {s : Nat → Int32} {N G hb pb : Nat} (q : Std S I R a s N G hb pb) : mSg S (a + 4) = some (20, 6) := q.1.s5
theorem Std.r2 {S : mSh} {I : mI} {R : mR} {a : Nat} {s : Nat → Int32} {N G hb pb : Nat} (q : Std S I R a s N G hb pb) : R a 2 = a + 1 := q.1.r2
theorem Std.r3 {S : mSh} {I : mI} {R : mR} {a : Nat} {s : Nat → Int32} {N G hb pb : Nat} (q : Std S I R a s N G hb pb) : R a 3 = a + 2 := q.1.r3
theorem Std.r4 {S : mSh} {I : mI} {R : mR} {a : Nat} {s : Nat → Int32} {N G hb pb : Nat} (q : Std S I R a s N G hb pb) : R a 4 = a + 3 := q.1.r4
theorem Std.r5 {S : mSh} {I : mI} {R : mR} {a : Nat} {s : Nat → Int32} {N G hb pb : Nat} (q : Std S I R a s N G hb pb) : R a 5 = a + 4 := q.1.r5
theorem Std.fr {S : mSh} {I I1 : mI} {R : mR} {a : Nat} {s : Nat → Int32} {N G hb pb : Nat} (q : Std S I R a s N G hb pb) (hi : ∀ o, a ≤ o → o ≤ a + 4 → I1 o = I o) : Std S I1 R a s N G hb pb := by
  unfold Std at q ⊢
  rw [hi a (by omega) (by omega), hi (a + 1) (by omega) (by omega), hi (a + 2) (by omega) (by omega), hi (a + 3) (by omega) (by omega), hi (a + 4) (by omega) (by omega)]
  exact q
theorem Std.h256 {S : mSh} {I : mI} {R : mR} {a : Nat} {s : Nat → Int32} {N G hb pb : Nat} (q : Std S I R a s N G hb pb) : hb < 256 := p2_le (m := 8) (by have := q.N6; omega) q.hb2
theorem Std.p256 {S : mSh} {I : mI} {R : mR} {a : Nat} {s : Nat → Int32} {N G hb pb : Nat} (q : Std S I R a s N G hb pb) : pb < 256 := p2_le (m := 8) q.G8 q.pb2
end
