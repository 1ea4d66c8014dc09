section
-- ===== PART A: goes FIRST, ahead of the names: the tables' words, and 'selects' of the private methods out of them =====
/-- a private method of a class that the tables say can be made, by its rows of tables_1 -/
def lw_okq (q : MethodName × Nat) : Prop := (q.1.cls ≠ "java/lang/invoke/MethodHandle" ∧ q.1.cls ≠ "java/lang/invoke/VarHandle") ∧ Cond.instantiable q.1.cls q.2 ∈ tables_1 ∧ Cond.privateMethod q.1 ∈ tables_1 ∧ Cond.instanceMethod q.1 ∈ tables_1
theorem lw_p0 : lw_okq (⟨"WiredBeans", "typedBehind", "(II)I"⟩, 12) := ⟨⟨by decide +kernel, by decide +kernel⟩, List.mem_of_getElem? (i := 36) (by decide +kernel), List.mem_of_getElem? (i := 585) (by decide +kernel), List.mem_of_getElem? (i := 586) (by decide +kernel)⟩
theorem lw_p1 : lw_okq (⟨"WiredBeans$Maker", "forgetMade", "()V"⟩, 13) := ⟨⟨by decide +kernel, by decide +kernel⟩, List.mem_of_getElem? (i := 445) (by decide +kernel), List.mem_of_getElem? (i := 613) (by decide +kernel), List.mem_of_getElem? (i := 614) (by decide +kernel)⟩
theorem lw_p2 : lw_okq (⟨"WiredBeans$Maker", "isObject", "(I)Z"⟩, 13) := ⟨⟨by decide +kernel, by decide +kernel⟩, List.mem_of_getElem? (i := 445) (by decide +kernel), List.mem_of_getElem? (i := 649) (by decide +kernel), List.mem_of_getElem? (i := 650) (by decide +kernel)⟩
theorem lw_p3 : lw_okq (⟨"WiredBeans$Reader", "skipAround", "()V"⟩, 6) := ⟨⟨by decide +kernel, by decide +kernel⟩, List.mem_of_getElem? (i := 268) (by decide +kernel), List.mem_of_getElem? (i := 696) (by decide +kernel), List.mem_of_getElem? (i := 697) (by decide +kernel)⟩
theorem lw_p4 : lw_okq (⟨"WiredBeans$Reader", "skipsWhite", "()Z"⟩, 6) := ⟨⟨by decide +kernel, by decide +kernel⟩, List.mem_of_getElem? (i := 268) (by decide +kernel), List.mem_of_getElem? (i := 700) (by decide +kernel), List.mem_of_getElem? (i := 701) (by decide +kernel)⟩
theorem lw_p5 : lw_okq (⟨"WiredBeans$Reader", "charAt", "(I)C"⟩, 6) := ⟨⟨by decide +kernel, by decide +kernel⟩, List.mem_of_getElem? (i := 268) (by decide +kernel), List.mem_of_getElem? (i := 704) (by decide +kernel), List.mem_of_getElem? (i := 705) (by decide +kernel)⟩
theorem lw_p6 : lw_okq (⟨"WiredBeans$Reader", "skipComment", "()V"⟩, 6) := ⟨⟨by decide +kernel, by decide +kernel⟩, List.mem_of_getElem? (i := 268) (by decide +kernel), List.mem_of_getElem? (i := 708) (by decide +kernel), List.mem_of_getElem? (i := 709) (by decide +kernel)⟩
theorem lw_p7 : lw_okq (⟨"WiredBeans$Reader", "expect", "(C)V"⟩, 6) := ⟨⟨by decide +kernel, by decide +kernel⟩, List.mem_of_getElem? (i := 268) (by decide +kernel), List.mem_of_getElem? (i := 712) (by decide +kernel), List.mem_of_getElem? (i := 713) (by decide +kernel)⟩
theorem lw_p8 : lw_okq (⟨"java/lang/Throwable", "fillInStackTrace", "(I)Ljava/lang/Throwable;"⟩, 6) := ⟨⟨by decide +kernel, by decide +kernel⟩, List.mem_of_getElem? (i := 754) (by decide +kernel), List.mem_of_getElem? (i := 752) (by decide +kernel), List.mem_of_getElem? (i := 753) (by decide +kernel)⟩
theorem lw_p9 : lw_okq (⟨"WiredBeans$Reader", "openElement", "()V"⟩, 6) := ⟨⟨by decide +kernel, by decide +kernel⟩, List.mem_of_getElem? (i := 268) (by decide +kernel), List.mem_of_getElem? (i := 779) (by decide +kernel), List.mem_of_getElem? (i := 780) (by decide +kernel)⟩
theorem lw_p10 : lw_okq (⟨"WiredBeans$Reader", "readName", "()J"⟩, 6) := ⟨⟨by decide +kernel, by decide +kernel⟩, List.mem_of_getElem? (i := 268) (by decide +kernel), List.mem_of_getElem? (i := 790) (by decide +kernel), List.mem_of_getElem? (i := 791) (by decide +kernel)⟩
theorem lw_p11 : lw_okq (⟨"WiredBeans$Element", "forgetWiring", "()V"⟩, 21) := ⟨⟨by decide +kernel, by decide +kernel⟩, List.mem_of_getElem? (i := 123) (by decide +kernel), List.mem_of_getElem? (i := 802) (by decide +kernel), List.mem_of_getElem? (i := 803) (by decide +kernel)⟩
theorem lw_p12 : lw_okq (⟨"WiredBeans$Reader", "readAttribute", "()V"⟩, 6) := ⟨⟨by decide +kernel, by decide +kernel⟩, List.mem_of_getElem? (i := 268) (by decide +kernel), List.mem_of_getElem? (i := 816) (by decide +kernel), List.mem_of_getElem? (i := 817) (by decide +kernel)⟩
theorem lw_p13 : lw_okq (⟨"WiredBeans$Reader", "readCharacter", "()C"⟩, 6) := ⟨⟨by decide +kernel, by decide +kernel⟩, List.mem_of_getElem? (i := 268) (by decide +kernel), List.mem_of_getElem? (i := 828) (by decide +kernel), List.mem_of_getElem? (i := 829) (by decide +kernel)⟩
theorem lw_p14 : lw_okq (⟨"WiredBeans$Reader", "readEntity", "(Ljava/lang/String;C)C"⟩, 6) := ⟨⟨by decide +kernel, by decide +kernel⟩, List.mem_of_getElem? (i := 268) (by decide +kernel), List.mem_of_getElem? (i := 833) (by decide +kernel), List.mem_of_getElem? (i := 834) (by decide +kernel)⟩
theorem lw_p15 : lw_okq (⟨"WiredBeans$Reader", "readNumbered", "()C"⟩, 6) := ⟨⟨by decide +kernel, by decide +kernel⟩, List.mem_of_getElem? (i := 268) (by decide +kernel), List.mem_of_getElem? (i := 889) (by decide +kernel), List.mem_of_getElem? (i := 890) (by decide +kernel)⟩
def lw_privs_1 : List (MethodName × Nat) := [(⟨"WiredBeans", "typedBehind", "(II)I"⟩, 12), (⟨"WiredBeans$Maker", "forgetMade", "()V"⟩, 13), (⟨"WiredBeans$Maker", "isObject", "(I)Z"⟩, 13), (⟨"WiredBeans$Reader", "skipAround", "()V"⟩, 6), (⟨"WiredBeans$Reader", "skipsWhite", "()Z"⟩, 6), (⟨"WiredBeans$Reader", "charAt", "(I)C"⟩, 6), (⟨"WiredBeans$Reader", "skipComment", "()V"⟩, 6), (⟨"WiredBeans$Reader", "expect", "(C)V"⟩, 6), (⟨"java/lang/Throwable", "fillInStackTrace", "(I)Ljava/lang/Throwable;"⟩, 6), (⟨"WiredBeans$Reader", "openElement", "()V"⟩, 6), (⟨"WiredBeans$Reader", "readName", "()J"⟩, 6), (⟨"WiredBeans$Element", "forgetWiring", "()V"⟩, 21), (⟨"WiredBeans$Reader", "readAttribute", "()V"⟩, 6), (⟨"WiredBeans$Reader", "readCharacter", "()C"⟩, 6), (⟨"WiredBeans$Reader", "readEntity", "(Ljava/lang/String;C)C"⟩, 6), (⟨"WiredBeans$Reader", "readNumbered", "()C"⟩, 6)]
theorem lw_r1 : ∀ q ∈ lw_privs_1, lw_okq q := List.forall_mem_cons.mpr ⟨lw_p0, List.forall_mem_cons.mpr ⟨lw_p1, List.forall_mem_cons.mpr ⟨lw_p2, List.forall_mem_cons.mpr ⟨lw_p3, List.forall_mem_cons.mpr ⟨lw_p4, List.forall_mem_cons.mpr ⟨lw_p5, List.forall_mem_cons.mpr ⟨lw_p6, List.forall_mem_cons.mpr ⟨lw_p7, List.forall_mem_cons.mpr ⟨lw_p8, List.forall_mem_cons.mpr ⟨lw_p9, List.forall_mem_cons.mpr ⟨lw_p10, List.forall_mem_cons.mpr ⟨lw_p11, List.forall_mem_cons.mpr ⟨lw_p12, List.forall_mem_cons.mpr ⟨lw_p13, List.forall_mem_cons.mpr ⟨lw_p14, List.forall_mem_cons.mpr ⟨lw_p15, fun _ h => absurd h List.not_mem_nil⟩⟩⟩⟩⟩⟩⟩⟩⟩⟩⟩⟩⟩⟩⟩⟩
theorem lw_p16 : lw_okq (⟨"WiredBeans$Reader", "leaveElement", "()V"⟩, 6) := ⟨⟨by decide +kernel, by decide +kernel⟩, List.mem_of_getElem? (i := 268) (by decide +kernel), List.mem_of_getElem? (i := 897) (by decide +kernel), List.mem_of_getElem? (i := 898) (by decide +kernel)⟩
theorem lw_p17 : lw_okq (⟨"WiredBeans$Reader", "readContent", "()V"⟩, 6) := ⟨⟨by decide +kernel, by decide +kernel⟩, List.mem_of_getElem? (i := 268) (by decide +kernel), List.mem_of_getElem? (i := 901) (by decide +kernel), List.mem_of_getElem? (i := 902) (by decide +kernel)⟩
theorem lw_p18 : lw_okq (⟨"WiredBeans$Element", "takeWhite", "(C)V"⟩, 21) := ⟨⟨by decide +kernel, by decide +kernel⟩, List.mem_of_getElem? (i := 123) (by decide +kernel), List.mem_of_getElem? (i := 909) (by decide +kernel), List.mem_of_getElem? (i := 910) (by decide +kernel)⟩
theorem lw_p19 : lw_okq (⟨"WiredBeans$Reader", "closeElement", "()V"⟩, 6) := ⟨⟨by decide +kernel, by decide +kernel⟩, List.mem_of_getElem? (i := 268) (by decide +kernel), List.mem_of_getElem? (i := 913) (by decide +kernel), List.mem_of_getElem? (i := 914) (by decide +kernel)⟩
theorem lw_p20 : lw_okq (⟨"WiredBeans$Reader", "refuseMore", "()V"⟩, 6) := ⟨⟨by decide +kernel, by decide +kernel⟩, List.mem_of_getElem? (i := 268) (by decide +kernel), List.mem_of_getElem? (i := 917) (by decide +kernel), List.mem_of_getElem? (i := 918) (by decide +kernel)⟩
theorem lw_p21 : lw_okq (⟨"WiredBeans$Structure", "isRight", "(LWiredBeans$Element;)Z"⟩, 1) := ⟨⟨by decide +kernel, by decide +kernel⟩, List.mem_of_getElem? (i := 293) (by decide +kernel), List.mem_of_getElem? (i := 933) (by decide +kernel), List.mem_of_getElem? (i := 934) (by decide +kernel)⟩
theorem lw_p22 : lw_okq (⟨"WiredBeans$Structure", "standsRight", "(LWiredBeans$Element;)Z"⟩, 1) := ⟨⟨by decide +kernel, by decide +kernel⟩, List.mem_of_getElem? (i := 293) (by decide +kernel), List.mem_of_getElem? (i := 937) (by decide +kernel), List.mem_of_getElem? (i := 938) (by decide +kernel)⟩
theorem lw_p23 : lw_okq (⟨"WiredBeans$Structure", "isHeld", "(LWiredBeans$Element;)Z"⟩, 1) := ⟨⟨by decide +kernel, by decide +kernel⟩, List.mem_of_getElem? (i := 293) (by decide +kernel), List.mem_of_getElem? (i := 955) (by decide +kernel), List.mem_of_getElem? (i := 956) (by decide +kernel)⟩
theorem lw_p24 : lw_okq (⟨"WiredBeans$Structure", "likeBefore", "(LWiredBeans$Element;)I"⟩, 1) := ⟨⟨by decide +kernel, by decide +kernel⟩, List.mem_of_getElem? (i := 293) (by decide +kernel), List.mem_of_getElem? (i := 967) (by decide +kernel), List.mem_of_getElem? (i := 968) (by decide +kernel)⟩
theorem lw_p25 : lw_okq (⟨"WiredBeans$Structure", "isFirstOfName", "(LWiredBeans$Element;)Z"⟩, 1) := ⟨⟨by decide +kernel, by decide +kernel⟩, List.mem_of_getElem? (i := 293) (by decide +kernel), List.mem_of_getElem? (i := 971) (by decide +kernel), List.mem_of_getElem? (i := 972) (by decide +kernel)⟩
theorem lw_p26 : lw_okq (⟨"WiredBeans$Paper", "find", "(LWiredBeans$Element;LWiredBeans$Word;)I"⟩, 8) := ⟨⟨by decide +kernel, by decide +kernel⟩, List.mem_of_getElem? (i := 116) (by decide +kernel), List.mem_of_getElem? (i := 981) (by decide +kernel), List.mem_of_getElem? (i := 982) (by decide +kernel)⟩
theorem lw_p27 : lw_okq (⟨"WiredBeans$Paper", "valueLength", "(I)I"⟩, 8) := ⟨⟨by decide +kernel, by decide +kernel⟩, List.mem_of_getElem? (i := 116) (by decide +kernel), List.mem_of_getElem? (i := 985) (by decide +kernel), List.mem_of_getElem? (i := 986) (by decide +kernel)⟩
theorem lw_p28 : lw_okq (⟨"WiredBeans$Paper", "valueChar", "(II)C"⟩, 8) := ⟨⟨by decide +kernel, by decide +kernel⟩, List.mem_of_getElem? (i := 116) (by decide +kernel), List.mem_of_getElem? (i := 989) (by decide +kernel), List.mem_of_getElem? (i := 990) (by decide +kernel)⟩
theorem lw_p29 : lw_okq (⟨"WiredBeans$Structure", "hasRightAttributes", "(LWiredBeans$Element;)Z"⟩, 1) := ⟨⟨by decide +kernel, by decide +kernel⟩, List.mem_of_getElem? (i := 293) (by decide +kernel), List.mem_of_getElem? (i := 993) (by decide +kernel), List.mem_of_getElem? (i := 994) (by decide +kernel)⟩
theorem lw_p30 : lw_okq (⟨"WiredBeans$Structure", "mayHave", "(LWiredBeans$Element;LWiredBeans$Word;)Z"⟩, 1) := ⟨⟨by decide +kernel, by decide +kernel⟩, List.mem_of_getElem? (i := 293) (by decide +kernel), List.mem_of_getElem? (i := 1002) (by decide +kernel), List.mem_of_getElem? (i := 1003) (by decide +kernel)⟩
theorem lw_p31 : lw_okq (⟨"WiredBeans$Structure", "beanMayHave", "(LWiredBeans$Word;Z)Z"⟩, 1) := ⟨⟨by decide +kernel, by decide +kernel⟩, List.mem_of_getElem? (i := 293) (by decide +kernel), List.mem_of_getElem? (i := 1008) (by decide +kernel), List.mem_of_getElem? (i := 1009) (by decide +kernel)⟩
def lw_privs_2 : List (MethodName × Nat) := [(⟨"WiredBeans$Reader", "leaveElement", "()V"⟩, 6), (⟨"WiredBeans$Reader", "readContent", "()V"⟩, 6), (⟨"WiredBeans$Element", "takeWhite", "(C)V"⟩, 21), (⟨"WiredBeans$Reader", "closeElement", "()V"⟩, 6), (⟨"WiredBeans$Reader", "refuseMore", "()V"⟩, 6), (⟨"WiredBeans$Structure", "isRight", "(LWiredBeans$Element;)Z"⟩, 1), (⟨"WiredBeans$Structure", "standsRight", "(LWiredBeans$Element;)Z"⟩, 1), (⟨"WiredBeans$Structure", "isHeld", "(LWiredBeans$Element;)Z"⟩, 1), (⟨"WiredBeans$Structure", "likeBefore", "(LWiredBeans$Element;)I"⟩, 1), (⟨"WiredBeans$Structure", "isFirstOfName", "(LWiredBeans$Element;)Z"⟩, 1), (⟨"WiredBeans$Paper", "find", "(LWiredBeans$Element;LWiredBeans$Word;)I"⟩, 8), (⟨"WiredBeans$Paper", "valueLength", "(I)I"⟩, 8), (⟨"WiredBeans$Paper", "valueChar", "(II)C"⟩, 8), (⟨"WiredBeans$Structure", "hasRightAttributes", "(LWiredBeans$Element;)Z"⟩, 1), (⟨"WiredBeans$Structure", "mayHave", "(LWiredBeans$Element;LWiredBeans$Word;)Z"⟩, 1), (⟨"WiredBeans$Structure", "beanMayHave", "(LWiredBeans$Word;Z)Z"⟩, 1)]
theorem lw_r2 : ∀ q ∈ lw_privs_2, lw_okq q := List.forall_mem_cons.mpr ⟨lw_p16, List.forall_mem_cons.mpr ⟨lw_p17, List.forall_mem_cons.mpr ⟨lw_p18, List.forall_mem_cons.mpr ⟨lw_p19, List.forall_mem_cons.mpr ⟨lw_p20, List.forall_mem_cons.mpr ⟨lw_p21, List.forall_mem_cons.mpr ⟨lw_p22, List.forall_mem_cons.mpr ⟨lw_p23, List.forall_mem_cons.mpr ⟨lw_p24, List.forall_mem_cons.mpr ⟨lw_p25, List.forall_mem_cons.mpr ⟨lw_p26, List.forall_mem_cons.mpr ⟨lw_p27, List.forall_mem_cons.mpr ⟨lw_p28, List.forall_mem_cons.mpr ⟨lw_p29, List.forall_mem_cons.mpr ⟨lw_p30, List.forall_mem_cons.mpr ⟨lw_p31, fun _ h => absurd h List.not_mem_nil⟩⟩⟩⟩⟩⟩⟩⟩⟩⟩⟩⟩⟩⟩⟩⟩
theorem lw_p32 : lw_okq (⟨"WiredBeans$Structure", "hasRightValue", "(LWiredBeans$Element;LWiredBeans$Word;)Z"⟩, 1) := ⟨⟨by decide +kernel, by decide +kernel⟩, List.mem_of_getElem? (i := 293) (by decide +kernel), List.mem_of_getElem? (i := 1020) (by decide +kernel), List.mem_of_getElem? (i := 1021) (by decide +kernel)⟩
theorem lw_p33 : lw_okq (⟨"WiredBeans$Structure", "hasWhatItNeeds", "(LWiredBeans$Element;)Z"⟩, 1) := ⟨⟨by decide +kernel, by decide +kernel⟩, List.mem_of_getElem? (i := 293) (by decide +kernel), List.mem_of_getElem? (i := 1058) (by decide +kernel), List.mem_of_getElem? (i := 1059) (by decide +kernel)⟩
theorem lw_p34 : lw_okq (⟨"WiredBeans$Structure", "beanHasWhatItNeeds", "(LWiredBeans$Element;)Z"⟩, 1) := ⟨⟨by decide +kernel, by decide +kernel⟩, List.mem_of_getElem? (i := 293) (by decide +kernel), List.mem_of_getElem? (i := 1067) (by decide +kernel), List.mem_of_getElem? (i := 1068) (by decide +kernel)⟩
theorem lw_p35 : lw_okq (⟨"WiredBeans$Structure", "hasRightCount", "(LWiredBeans$Element;)Z"⟩, 1) := ⟨⟨by decide +kernel, by decide +kernel⟩, List.mem_of_getElem? (i := 293) (by decide +kernel), List.mem_of_getElem? (i := 1083) (by decide +kernel), List.mem_of_getElem? (i := 1084) (by decide +kernel)⟩
theorem lw_p36 : lw_okq (⟨"WiredBeans$Wiring", "settle", "(LWiredBeans$Element;)V"⟩, 4) := ⟨⟨by decide +kernel, by decide +kernel⟩, List.mem_of_getElem? (i := 303) (by decide +kernel), List.mem_of_getElem? (i := 1093) (by decide +kernel), List.mem_of_getElem? (i := 1094) (by decide +kernel)⟩
theorem lw_p37 : lw_okq (⟨"WiredBeans$Wiring", "settleContent", "(LWiredBeans$Element;)V"⟩, 4) := ⟨⟨by decide +kernel, by decide +kernel⟩, List.mem_of_getElem? (i := 303) (by decide +kernel), List.mem_of_getElem? (i := 1128) (by decide +kernel), List.mem_of_getElem? (i := 1129) (by decide +kernel)⟩
theorem lw_p38 : lw_okq (⟨"WiredBeans$Element", "textAsNumber", "()J"⟩, 21) := ⟨⟨by decide +kernel, by decide +kernel⟩, List.mem_of_getElem? (i := 123) (by decide +kernel), List.mem_of_getElem? (i := 1142) (by decide +kernel), List.mem_of_getElem? (i := 1143) (by decide +kernel)⟩
theorem lw_p39 : lw_okq (⟨"WiredBeans$Element", "textIs", "(Ljava/lang/String;)Z"⟩, 21) := ⟨⟨by decide +kernel, by decide +kernel⟩, List.mem_of_getElem? (i := 123) (by decide +kernel), List.mem_of_getElem? (i := 1148) (by decide +kernel), List.mem_of_getElem? (i := 1149) (by decide +kernel)⟩
theorem lw_p40 : lw_okq (⟨"WiredBeans$Wiring", "isRight", "(I)Z"⟩, 4) := ⟨⟨by decide +kernel, by decide +kernel⟩, List.mem_of_getElem? (i := 303) (by decide +kernel), List.mem_of_getElem? (i := 1158) (by decide +kernel), List.mem_of_getElem? (i := 1159) (by decide +kernel)⟩
theorem lw_p41 : lw_okq (⟨"WiredBeans$Wiring", "hasRightParent", "(LWiredBeans$Bean;)Z"⟩, 4) := ⟨⟨by decide +kernel, by decide +kernel⟩, List.mem_of_getElem? (i := 303) (by decide +kernel), List.mem_of_getElem? (i := 1162) (by decide +kernel), List.mem_of_getElem? (i := 1163) (by decide +kernel)⟩
theorem lw_p42 : lw_okq (⟨"WiredBeans$Wiring", "withId", "(J)LWiredBeans$Bean;"⟩, 4) := ⟨⟨by decide +kernel, by decide +kernel⟩, List.mem_of_getElem? (i := 303) (by decide +kernel), List.mem_of_getElem? (i := 1166) (by decide +kernel), List.mem_of_getElem? (i := 1167) (by decide +kernel)⟩
theorem lw_p43 : lw_okq (⟨"WiredBeans$Wiring", "comesToItself", "(LWiredBeans$Bean;)Z"⟩, 4) := ⟨⟨by decide +kernel, by decide +kernel⟩, List.mem_of_getElem? (i := 303) (by decide +kernel), List.mem_of_getElem? (i := 1170) (by decide +kernel), List.mem_of_getElem? (i := 1171) (by decide +kernel)⟩
theorem lw_p44 : lw_okq (⟨"WiredBeans$Wiring", "merge", "(LWiredBeans$Bean;)V"⟩, 4) := ⟨⟨by decide +kernel, by decide +kernel⟩, List.mem_of_getElem? (i := 303) (by decide +kernel), List.mem_of_getElem? (i := 1174) (by decide +kernel), List.mem_of_getElem? (i := 1175) (by decide +kernel)⟩
theorem lw_p45 : lw_okq (⟨"WiredBeans$Bean", "overlayInner", "(LWiredBeans$Element;)V"⟩, 19) := ⟨⟨by decide +kernel, by decide +kernel⟩, List.mem_of_getElem? (i := 310) (by decide +kernel), List.mem_of_getElem? (i := 1192) (by decide +kernel), List.mem_of_getElem? (i := 1193) (by decide +kernel)⟩
theorem lw_p46 : lw_okq (⟨"java/util/ArrayList", "add", "(Ljava/lang/Object;[Ljava/lang/Object;I)V"⟩, 3) := ⟨⟨by decide +kernel, by decide +kernel⟩, List.mem_of_getElem? (i := 316) (by decide +kernel), List.mem_of_getElem? (i := 1201) (by decide +kernel), List.mem_of_getElem? (i := 1202) (by decide +kernel)⟩
theorem lw_p47 : lw_okq (⟨"java/util/ArrayList", "grow", "()[Ljava/lang/Object;"⟩, 3) := ⟨⟨by decide +kernel, by decide +kernel⟩, List.mem_of_getElem? (i := 316) (by decide +kernel), List.mem_of_getElem? (i := 1205) (by decide +kernel), List.mem_of_getElem? (i := 1206) (by decide +kernel)⟩
def lw_privs_3 : List (MethodName × Nat) := [(⟨"WiredBeans$Structure", "hasRightValue", "(LWiredBeans$Element;LWiredBeans$Word;)Z"⟩, 1), (⟨"WiredBeans$Structure", "hasWhatItNeeds", "(LWiredBeans$Element;)Z"⟩, 1), (⟨"WiredBeans$Structure", "beanHasWhatItNeeds", "(LWiredBeans$Element;)Z"⟩, 1), (⟨"WiredBeans$Structure", "hasRightCount", "(LWiredBeans$Element;)Z"⟩, 1), (⟨"WiredBeans$Wiring", "settle", "(LWiredBeans$Element;)V"⟩, 4), (⟨"WiredBeans$Wiring", "settleContent", "(LWiredBeans$Element;)V"⟩, 4), (⟨"WiredBeans$Element", "textAsNumber", "()J"⟩, 21), (⟨"WiredBeans$Element", "textIs", "(Ljava/lang/String;)Z"⟩, 21), (⟨"WiredBeans$Wiring", "isRight", "(I)Z"⟩, 4), (⟨"WiredBeans$Wiring", "hasRightParent", "(LWiredBeans$Bean;)Z"⟩, 4), (⟨"WiredBeans$Wiring", "withId", "(J)LWiredBeans$Bean;"⟩, 4), (⟨"WiredBeans$Wiring", "comesToItself", "(LWiredBeans$Bean;)Z"⟩, 4), (⟨"WiredBeans$Wiring", "merge", "(LWiredBeans$Bean;)V"⟩, 4), (⟨"WiredBeans$Bean", "overlayInner", "(LWiredBeans$Element;)V"⟩, 19), (⟨"java/util/ArrayList", "add", "(Ljava/lang/Object;[Ljava/lang/Object;I)V"⟩, 3), (⟨"java/util/ArrayList", "grow", "()[Ljava/lang/Object;"⟩, 3)]
theorem lw_r3 : ∀ q ∈ lw_privs_3, lw_okq q := List.forall_mem_cons.mpr ⟨lw_p32, List.forall_mem_cons.mpr ⟨lw_p33, List.forall_mem_cons.mpr ⟨lw_p34, List.forall_mem_cons.mpr ⟨lw_p35, List.forall_mem_cons.mpr ⟨lw_p36, List.forall_mem_cons.mpr ⟨lw_p37, List.forall_mem_cons.mpr ⟨lw_p38, List.forall_mem_cons.mpr ⟨lw_p39, List.forall_mem_cons.mpr ⟨lw_p40, List.forall_mem_cons.mpr ⟨lw_p41, List.forall_mem_cons.mpr ⟨lw_p42, List.forall_mem_cons.mpr ⟨lw_p43, List.forall_mem_cons.mpr ⟨lw_p44, List.forall_mem_cons.mpr ⟨lw_p45, List.forall_mem_cons.mpr ⟨lw_p46, List.forall_mem_cons.mpr ⟨lw_p47, fun _ h => absurd h List.not_mem_nil⟩⟩⟩⟩⟩⟩⟩⟩⟩⟩⟩⟩⟩⟩⟩⟩
theorem lw_p48 : lw_okq (⟨"java/util/ArrayList", "grow", "(I)[Ljava/lang/Object;"⟩, 3) := ⟨⟨by decide +kernel, by decide +kernel⟩, List.mem_of_getElem? (i := 316) (by decide +kernel), List.mem_of_getElem? (i := 1209) (by decide +kernel), List.mem_of_getElem? (i := 1210) (by decide +kernel)⟩
theorem lw_p49 : lw_okq (⟨"WiredBeans$Maker", "obtain", "(JI)I"⟩, 13) := ⟨⟨by decide +kernel, by decide +kernel⟩, List.mem_of_getElem? (i := 445) (by decide +kernel), List.mem_of_getElem? (i := 1323) (by decide +kernel), List.mem_of_getElem? (i := 1324) (by decide +kernel)⟩
theorem lw_p50 : lw_okq (⟨"WiredBeans$Wiring", "nameBehindAlias", "(J)J"⟩, 4) := ⟨⟨by decide +kernel, by decide +kernel⟩, List.mem_of_getElem? (i := 303) (by decide +kernel), List.mem_of_getElem? (i := 1331) (by decide +kernel), List.mem_of_getElem? (i := 1332) (by decide +kernel)⟩
theorem lw_p51 : lw_okq (⟨"WiredBeans$Maker", "failWith", "(I)I"⟩, 13) := ⟨⟨by decide +kernel, by decide +kernel⟩, List.mem_of_getElem? (i := 445) (by decide +kernel), List.mem_of_getElem? (i := 1336) (by decide +kernel), List.mem_of_getElem? (i := 1337) (by decide +kernel)⟩
theorem lw_p52 : lw_okq (⟨"WiredBeans$Maker", "make", "(LWiredBeans$Bean;I)I"⟩, 13) := ⟨⟨by decide +kernel, by decide +kernel⟩, List.mem_of_getElem? (i := 445) (by decide +kernel), List.mem_of_getElem? (i := 1354) (by decide +kernel), List.mem_of_getElem? (i := 1355) (by decide +kernel)⟩
theorem lw_p53 : lw_okq (⟨"WiredBeans$Maker", "workOutArgs", "(LWiredBeans$Bean;I)V"⟩, 13) := ⟨⟨by decide +kernel, by decide +kernel⟩, List.mem_of_getElem? (i := 445) (by decide +kernel), List.mem_of_getElem? (i := 1358) (by decide +kernel), List.mem_of_getElem? (i := 1359) (by decide +kernel)⟩
theorem lw_p54 : lw_okq (⟨"WiredBeans$Maker", "workOut", "(LWiredBeans$Element;II)V"⟩, 13) := ⟨⟨by decide +kernel, by decide +kernel⟩, List.mem_of_getElem? (i := 445) (by decide +kernel), List.mem_of_getElem? (i := 1368) (by decide +kernel), List.mem_of_getElem? (i := 1369) (by decide +kernel)⟩
theorem lw_p55 : lw_okq (⟨"WiredBeans$Maker", "itemValue", "(LWiredBeans$Element;I)I"⟩, 13) := ⟨⟨by decide +kernel, by decide +kernel⟩, List.mem_of_getElem? (i := 445) (by decide +kernel), List.mem_of_getElem? (i := 1373) (by decide +kernel), List.mem_of_getElem? (i := 1374) (by decide +kernel)⟩
theorem lw_p56 : lw_okq (⟨"WiredBeans$Maker", "objectOf", "(LWiredBeans$Element;I)I"⟩, 13) := ⟨⟨by decide +kernel, by decide +kernel⟩, List.mem_of_getElem? (i := 445) (by decide +kernel), List.mem_of_getElem? (i := 1380) (by decide +kernel), List.mem_of_getElem? (i := 1381) (by decide +kernel)⟩
theorem lw_p57 : lw_okq (⟨"WiredBeans$Maker", "chooseFor", "(LWiredBeans$Bean;II)LWiredBeans$Signature;"⟩, 13) := ⟨⟨by decide +kernel, by decide +kernel⟩, List.mem_of_getElem? (i := 445) (by decide +kernel), List.mem_of_getElem? (i := 1386) (by decide +kernel), List.mem_of_getElem? (i := 1387) (by decide +kernel)⟩
theorem lw_p58 : lw_okq (⟨"WiredBeans$DeclaredClass", "ownsFactory", "(IZ)Z"⟩, 8) := ⟨⟨by decide +kernel, by decide +kernel⟩, List.mem_of_getElem? (i := 45) (by decide +kernel), List.mem_of_getElem? (i := 1394) (by decide +kernel), List.mem_of_getElem? (i := 1395) (by decide +kernel)⟩
theorem lw_p59 : lw_okq (⟨"WiredBeans$Maker", "placesArgs", "(LWiredBeans$Bean;)Z"⟩, 13) := ⟨⟨by decide +kernel, by decide +kernel⟩, List.mem_of_getElem? (i := 445) (by decide +kernel), List.mem_of_getElem? (i := 1402) (by decide +kernel), List.mem_of_getElem? (i := 1403) (by decide +kernel)⟩
theorem lw_p60 : lw_okq (⟨"WiredBeans$Maker", "placeOthers", "(LWiredBeans$Bean;I)V"⟩, 13) := ⟨⟨by decide +kernel, by decide +kernel⟩, List.mem_of_getElem? (i := 445) (by decide +kernel), List.mem_of_getElem? (i := 1406) (by decide +kernel), List.mem_of_getElem? (i := 1407) (by decide +kernel)⟩
theorem lw_p61 : lw_okq (⟨"WiredBeans$Maker", "sumFor", "(LWiredBeans$Bean;LWiredBeans$Signature;I)I"⟩, 13) := ⟨⟨by decide +kernel, by decide +kernel⟩, List.mem_of_getElem? (i := 445) (by decide +kernel), List.mem_of_getElem? (i := 1411) (by decide +kernel), List.mem_of_getElem? (i := 1412) (by decide +kernel)⟩
theorem lw_p62 : lw_okq (⟨"WiredBeans$Maker", "weightOf", "(LWiredBeans$Element;II)I"⟩, 13) := ⟨⟨by decide +kernel, by decide +kernel⟩, List.mem_of_getElem? (i := 445) (by decide +kernel), List.mem_of_getElem? (i := 1415) (by decide +kernel), List.mem_of_getElem? (i := 1416) (by decide +kernel)⟩
theorem lw_p63 : lw_okq (⟨"WiredBeans$Maker", "objectWeight", "(II)I"⟩, 13) := ⟨⟨by decide +kernel, by decide +kernel⟩, List.mem_of_getElem? (i := 445) (by decide +kernel), List.mem_of_getElem? (i := 1425) (by decide +kernel), List.mem_of_getElem? (i := 1426) (by decide +kernel)⟩
def lw_privs_4 : List (MethodName × Nat) := [(⟨"java/util/ArrayList", "grow", "(I)[Ljava/lang/Object;"⟩, 3), (⟨"WiredBeans$Maker", "obtain", "(JI)I"⟩, 13), (⟨"WiredBeans$Wiring", "nameBehindAlias", "(J)J"⟩, 4), (⟨"WiredBeans$Maker", "failWith", "(I)I"⟩, 13), (⟨"WiredBeans$Maker", "make", "(LWiredBeans$Bean;I)I"⟩, 13), (⟨"WiredBeans$Maker", "workOutArgs", "(LWiredBeans$Bean;I)V"⟩, 13), (⟨"WiredBeans$Maker", "workOut", "(LWiredBeans$Element;II)V"⟩, 13), (⟨"WiredBeans$Maker", "itemValue", "(LWiredBeans$Element;I)I"⟩, 13), (⟨"WiredBeans$Maker", "objectOf", "(LWiredBeans$Element;I)I"⟩, 13), (⟨"WiredBeans$Maker", "chooseFor", "(LWiredBeans$Bean;II)LWiredBeans$Signature;"⟩, 13), (⟨"WiredBeans$DeclaredClass", "ownsFactory", "(IZ)Z"⟩, 8), (⟨"WiredBeans$Maker", "placesArgs", "(LWiredBeans$Bean;)Z"⟩, 13), (⟨"WiredBeans$Maker", "placeOthers", "(LWiredBeans$Bean;I)V"⟩, 13), (⟨"WiredBeans$Maker", "sumFor", "(LWiredBeans$Bean;LWiredBeans$Signature;I)I"⟩, 13), (⟨"WiredBeans$Maker", "weightOf", "(LWiredBeans$Element;II)I"⟩, 13), (⟨"WiredBeans$Maker", "objectWeight", "(II)I"⟩, 13)]
theorem lw_r4 : ∀ q ∈ lw_privs_4, lw_okq q := List.forall_mem_cons.mpr ⟨lw_p48, List.forall_mem_cons.mpr ⟨lw_p49, List.forall_mem_cons.mpr ⟨lw_p50, List.forall_mem_cons.mpr ⟨lw_p51, List.forall_mem_cons.mpr ⟨lw_p52, List.forall_mem_cons.mpr ⟨lw_p53, List.forall_mem_cons.mpr ⟨lw_p54, List.forall_mem_cons.mpr ⟨lw_p55, List.forall_mem_cons.mpr ⟨lw_p56, List.forall_mem_cons.mpr ⟨lw_p57, List.forall_mem_cons.mpr ⟨lw_p58, List.forall_mem_cons.mpr ⟨lw_p59, List.forall_mem_cons.mpr ⟨lw_p60, List.forall_mem_cons.mpr ⟨lw_p61, List.forall_mem_cons.mpr ⟨lw_p62, List.forall_mem_cons.mpr ⟨lw_p63, fun _ h => absurd h List.not_mem_nil⟩⟩⟩⟩⟩⟩⟩⟩⟩⟩⟩⟩⟩⟩⟩⟩
theorem lw_p64 : lw_okq (⟨"WiredBeans$Maker", "bringToBe", "(LWiredBeans$Bean;LWiredBeans$Signature;I)V"⟩, 13) := ⟨⟨by decide +kernel, by decide +kernel⟩, List.mem_of_getElem? (i := 445) (by decide +kernel), List.mem_of_getElem? (i := 1433) (by decide +kernel), List.mem_of_getElem? (i := 1434) (by decide +kernel)⟩
theorem lw_p65 : lw_okq (⟨"WiredBeans$Maker", "tellValue", "(IIILWiredBeans$Element;II)V"⟩, 13) := ⟨⟨by decide +kernel, by decide +kernel⟩, List.mem_of_getElem? (i := 445) (by decide +kernel), List.mem_of_getElem? (i := 1437) (by decide +kernel), List.mem_of_getElem? (i := 1438) (by decide +kernel)⟩
theorem lw_p66 : lw_okq (⟨"WiredBeans$Maker", "valueOf", "(LWiredBeans$Element;II)I"⟩, 13) := ⟨⟨by decide +kernel, by decide +kernel⟩, List.mem_of_getElem? (i := 445) (by decide +kernel), List.mem_of_getElem? (i := 1441) (by decide +kernel), List.mem_of_getElem? (i := 1442) (by decide +kernel)⟩
theorem lw_p67 : lw_okq (⟨"WiredBeans$Maker", "applySets", "(LWiredBeans$Bean;I)V"⟩, 13) := ⟨⟨by decide +kernel, by decide +kernel⟩, List.mem_of_getElem? (i := 445) (by decide +kernel), List.mem_of_getElem? (i := 1448) (by decide +kernel), List.mem_of_getElem? (i := 1449) (by decide +kernel)⟩
theorem lw_p68 : lw_okq (⟨"WiredBeans$Maker", "finish", "(LWiredBeans$Bean;)V"⟩, 13) := ⟨⟨by decide +kernel, by decide +kernel⟩, List.mem_of_getElem? (i := 445) (by decide +kernel), List.mem_of_getElem? (i := 1456) (by decide +kernel), List.mem_of_getElem? (i := 1457) (by decide +kernel)⟩
theorem lw_p69 : lw_okq (⟨"WiredBeans$Maker", "stopMaking", "()V"⟩, 13) := ⟨⟨by decide +kernel, by decide +kernel⟩, List.mem_of_getElem? (i := 445) (by decide +kernel), List.mem_of_getElem? (i := 1460) (by decide +kernel), List.mem_of_getElem? (i := 1461) (by decide +kernel)⟩
theorem lw_p70 : lw_okq (⟨"WiredBeansModel", "clear", "()V"⟩, 77) := ⟨⟨by decide +kernel, by decide +kernel⟩, List.mem_of_getElem? (i := 1517) (by decide +kernel), List.mem_of_getElem? (i := 1822) (by decide +kernel), List.mem_of_getElem? (i := 1823) (by decide +kernel)⟩
theorem lw_p71 : lw_okq (⟨"WiredBeansModel", "readDocument", "()V"⟩, 77) := ⟨⟨by decide +kernel, by decide +kernel⟩, List.mem_of_getElem? (i := 1517) (by decide +kernel), List.mem_of_getElem? (i := 1826) (by decide +kernel), List.mem_of_getElem? (i := 1827) (by decide +kernel)⟩
theorem lw_p72 : lw_okq (⟨"WiredBeansModel", "between", "()V"⟩, 77) := ⟨⟨by decide +kernel, by decide +kernel⟩, List.mem_of_getElem? (i := 1517) (by decide +kernel), List.mem_of_getElem? (i := 1830) (by decide +kernel), List.mem_of_getElem? (i := 1831) (by decide +kernel)⟩
theorem lw_p73 : lw_okq (⟨"WiredBeansModel", "white", "()I"⟩, 77) := ⟨⟨by decide +kernel, by decide +kernel⟩, List.mem_of_getElem? (i := 1517) (by decide +kernel), List.mem_of_getElem? (i := 1834) (by decide +kernel), List.mem_of_getElem? (i := 1835) (by decide +kernel)⟩
theorem lw_p74 : lw_okq (⟨"WiredBeansModel", "here", "(I)I"⟩, 77) := ⟨⟨by decide +kernel, by decide +kernel⟩, List.mem_of_getElem? (i := 1517) (by decide +kernel), List.mem_of_getElem? (i := 1838) (by decide +kernel), List.mem_of_getElem? (i := 1839) (by decide +kernel)⟩
theorem lw_p75 : lw_okq (⟨"WiredBeansModel", "isWhite", "(I)Z"⟩, 77) := ⟨⟨by decide +kernel, by decide +kernel⟩, List.mem_of_getElem? (i := 1517) (by decide +kernel), List.mem_of_getElem? (i := 1842) (by decide +kernel), List.mem_of_getElem? (i := 1843) (by decide +kernel)⟩
theorem lw_p76 : lw_okq (⟨"WiredBeansModel", "comment", "()V"⟩, 77) := ⟨⟨by decide +kernel, by decide +kernel⟩, List.mem_of_getElem? (i := 1517) (by decide +kernel), List.mem_of_getElem? (i := 1846) (by decide +kernel), List.mem_of_getElem? (i := 1847) (by decide +kernel)⟩
theorem lw_p77 : lw_okq (⟨"WiredBeansModel", "must", "(I)V"⟩, 77) := ⟨⟨by decide +kernel, by decide +kernel⟩, List.mem_of_getElem? (i := 1517) (by decide +kernel), List.mem_of_getElem? (i := 1850) (by decide +kernel), List.mem_of_getElem? (i := 1851) (by decide +kernel)⟩
theorem lw_p78 : lw_okq (⟨"WiredBeansModel", "bad", "(I)V"⟩, 77) := ⟨⟨by decide +kernel, by decide +kernel⟩, List.mem_of_getElem? (i := 1517) (by decide +kernel), List.mem_of_getElem? (i := 1854) (by decide +kernel), List.mem_of_getElem? (i := 1855) (by decide +kernel)⟩
theorem lw_p79 : lw_okq (⟨"WiredBeansModel", "isSmall", "(I)Z"⟩, 77) := ⟨⟨by decide +kernel, by decide +kernel⟩, List.mem_of_getElem? (i := 1517) (by decide +kernel), List.mem_of_getElem? (i := 1858) (by decide +kernel), List.mem_of_getElem? (i := 1859) (by decide +kernel)⟩
def lw_privs_5 : List (MethodName × Nat) := [(⟨"WiredBeans$Maker", "bringToBe", "(LWiredBeans$Bean;LWiredBeans$Signature;I)V"⟩, 13), (⟨"WiredBeans$Maker", "tellValue", "(IIILWiredBeans$Element;II)V"⟩, 13), (⟨"WiredBeans$Maker", "valueOf", "(LWiredBeans$Element;II)I"⟩, 13), (⟨"WiredBeans$Maker", "applySets", "(LWiredBeans$Bean;I)V"⟩, 13), (⟨"WiredBeans$Maker", "finish", "(LWiredBeans$Bean;)V"⟩, 13), (⟨"WiredBeans$Maker", "stopMaking", "()V"⟩, 13), (⟨"WiredBeansModel", "clear", "()V"⟩, 77), (⟨"WiredBeansModel", "readDocument", "()V"⟩, 77), (⟨"WiredBeansModel", "between", "()V"⟩, 77), (⟨"WiredBeansModel", "white", "()I"⟩, 77), (⟨"WiredBeansModel", "here", "(I)I"⟩, 77), (⟨"WiredBeansModel", "isWhite", "(I)Z"⟩, 77), (⟨"WiredBeansModel", "comment", "()V"⟩, 77), (⟨"WiredBeansModel", "must", "(I)V"⟩, 77), (⟨"WiredBeansModel", "bad", "(I)V"⟩, 77), (⟨"WiredBeansModel", "isSmall", "(I)Z"⟩, 77)]
theorem lw_r5 : ∀ q ∈ lw_privs_5, lw_okq q := List.forall_mem_cons.mpr ⟨lw_p64, List.forall_mem_cons.mpr ⟨lw_p65, List.forall_mem_cons.mpr ⟨lw_p66, List.forall_mem_cons.mpr ⟨lw_p67, List.forall_mem_cons.mpr ⟨lw_p68, List.forall_mem_cons.mpr ⟨lw_p69, List.forall_mem_cons.mpr ⟨lw_p70, List.forall_mem_cons.mpr ⟨lw_p71, List.forall_mem_cons.mpr ⟨lw_p72, List.forall_mem_cons.mpr ⟨lw_p73, List.forall_mem_cons.mpr ⟨lw_p74, List.forall_mem_cons.mpr ⟨lw_p75, List.forall_mem_cons.mpr ⟨lw_p76, List.forall_mem_cons.mpr ⟨lw_p77, List.forall_mem_cons.mpr ⟨lw_p78, List.forall_mem_cons.mpr ⟨lw_p79, fun _ h => absurd h List.not_mem_nil⟩⟩⟩⟩⟩⟩⟩⟩⟩⟩⟩⟩⟩⟩⟩⟩
theorem lw_p80 : lw_okq (⟨"WiredBeansModel", "begin", "(II)I"⟩, 77) := ⟨⟨by decide +kernel, by decide +kernel⟩, List.mem_of_getElem? (i := 1517) (by decide +kernel), List.mem_of_getElem? (i := 1862) (by decide +kernel), List.mem_of_getElem? (i := 1863) (by decide +kernel)⟩
theorem lw_p81 : lw_okq (⟨"WiredBeansModel", "name", "()J"⟩, 77) := ⟨⟨by decide +kernel, by decide +kernel⟩, List.mem_of_getElem? (i := 1517) (by decide +kernel), List.mem_of_getElem? (i := 1866) (by decide +kernel), List.mem_of_getElem? (i := 1867) (by decide +kernel)⟩
theorem lw_p82 : lw_okq (⟨"WiredBeansModel", "attribute", "(I)V"⟩, 77) := ⟨⟨by decide +kernel, by decide +kernel⟩, List.mem_of_getElem? (i := 1517) (by decide +kernel), List.mem_of_getElem? (i := 1870) (by decide +kernel), List.mem_of_getElem? (i := 1871) (by decide +kernel)⟩
theorem lw_p83 : lw_okq (⟨"WiredBeansModel", "find", "(IJ)I"⟩, 77) := ⟨⟨by decide +kernel, by decide +kernel⟩, List.mem_of_getElem? (i := 1517) (by decide +kernel), List.mem_of_getElem? (i := 1874) (by decide +kernel), List.mem_of_getElem? (i := 1875) (by decide +kernel)⟩
theorem lw_p84 : lw_okq (⟨"WiredBeansModel", "entity", "()I"⟩, 77) := ⟨⟨by decide +kernel, by decide +kernel⟩, List.mem_of_getElem? (i := 1517) (by decide +kernel), List.mem_of_getElem? (i := 1878) (by decide +kernel), List.mem_of_getElem? (i := 1879) (by decide +kernel)⟩
theorem lw_p85 : lw_okq (⟨"WiredBeansModel", "numberedEntity", "()I"⟩, 77) := ⟨⟨by decide +kernel, by decide +kernel⟩, List.mem_of_getElem? (i := 1517) (by decide +kernel), List.mem_of_getElem? (i := 1882) (by decide +kernel), List.mem_of_getElem? (i := 1883) (by decide +kernel)⟩
theorem lw_p86 : lw_okq (⟨"WiredBeansModel", "agrees", "(II)Z"⟩, 77) := ⟨⟨by decide +kernel, by decide +kernel⟩, List.mem_of_getElem? (i := 1517) (by decide +kernel), List.mem_of_getElem? (i := 1886) (by decide +kernel), List.mem_of_getElem? (i := 1887) (by decide +kernel)⟩
theorem lw_p87 : lw_okq (⟨"WiredBeansModel", "add", "(II)V"⟩, 77) := ⟨⟨by decide +kernel, by decide +kernel⟩, List.mem_of_getElem? (i := 1517) (by decide +kernel), List.mem_of_getElem? (i := 1891) (by decide +kernel), List.mem_of_getElem? (i := 1892) (by decide +kernel)⟩
theorem lw_p88 : lw_okq (⟨"WiredBeansModel", "end", "(I)V"⟩, 77) := ⟨⟨by decide +kernel, by decide +kernel⟩, List.mem_of_getElem? (i := 1517) (by decide +kernel), List.mem_of_getElem? (i := 1895) (by decide +kernel), List.mem_of_getElem? (i := 1896) (by decide +kernel)⟩
theorem lw_p89 : lw_okq (⟨"WiredBeansModel", "badStructure", "()I"⟩, 77) := ⟨⟨by decide +kernel, by decide +kernel⟩, List.mem_of_getElem? (i := 1517) (by decide +kernel), List.mem_of_getElem? (i := 1899) (by decide +kernel), List.mem_of_getElem? (i := 1900) (by decide +kernel)⟩
theorem lw_p90 : lw_okq (⟨"WiredBeansModel", "isGood", "(I)Z"⟩, 77) := ⟨⟨by decide +kernel, by decide +kernel⟩, List.mem_of_getElem? (i := 1517) (by decide +kernel), List.mem_of_getElem? (i := 1903) (by decide +kernel), List.mem_of_getElem? (i := 1904) (by decide +kernel)⟩
theorem lw_p91 : lw_okq (⟨"WiredBeansModel", "isInPlace", "(I)Z"⟩, 77) := ⟨⟨by decide +kernel, by decide +kernel⟩, List.mem_of_getElem? (i := 1517) (by decide +kernel), List.mem_of_getElem? (i := 1907) (by decide +kernel), List.mem_of_getElem? (i := 1908) (by decide +kernel)⟩
theorem lw_p92 : lw_okq (⟨"WiredBeansModel", "isAllowed", "(IJ)Z"⟩, 77) := ⟨⟨by decide +kernel, by decide +kernel⟩, List.mem_of_getElem? (i := 1517) (by decide +kernel), List.mem_of_getElem? (i := 1911) (by decide +kernel), List.mem_of_getElem? (i := 1912) (by decide +kernel)⟩
theorem lw_p93 : lw_okq (⟨"WiredBeansModel", "isWord", "(IJ)Z"⟩, 77) := ⟨⟨by decide +kernel, by decide +kernel⟩, List.mem_of_getElem? (i := 1517) (by decide +kernel), List.mem_of_getElem? (i := 1930) (by decide +kernel), List.mem_of_getElem? (i := 1931) (by decide +kernel)⟩
theorem lw_p94 : lw_okq (⟨"WiredBeansModel", "isGoodBean", "(I)Z"⟩, 77) := ⟨⟨by decide +kernel, by decide +kernel⟩, List.mem_of_getElem? (i := 1517) (by decide +kernel), List.mem_of_getElem? (i := 1934) (by decide +kernel), List.mem_of_getElem? (i := 1935) (by decide +kernel)⟩
theorem lw_p95 : lw_okq (⟨"WiredBeansModel", "has", "(IJ)Z"⟩, 77) := ⟨⟨by decide +kernel, by decide +kernel⟩, List.mem_of_getElem? (i := 1517) (by decide +kernel), List.mem_of_getElem? (i := 1938) (by decide +kernel), List.mem_of_getElem? (i := 1939) (by decide +kernel)⟩
def lw_privs_6 : List (MethodName × Nat) := [(⟨"WiredBeansModel", "begin", "(II)I"⟩, 77), (⟨"WiredBeansModel", "name", "()J"⟩, 77), (⟨"WiredBeansModel", "attribute", "(I)V"⟩, 77), (⟨"WiredBeansModel", "find", "(IJ)I"⟩, 77), (⟨"WiredBeansModel", "entity", "()I"⟩, 77), (⟨"WiredBeansModel", "numberedEntity", "()I"⟩, 77), (⟨"WiredBeansModel", "agrees", "(II)Z"⟩, 77), (⟨"WiredBeansModel", "add", "(II)V"⟩, 77), (⟨"WiredBeansModel", "end", "(I)V"⟩, 77), (⟨"WiredBeansModel", "badStructure", "()I"⟩, 77), (⟨"WiredBeansModel", "isGood", "(I)Z"⟩, 77), (⟨"WiredBeansModel", "isInPlace", "(I)Z"⟩, 77), (⟨"WiredBeansModel", "isAllowed", "(IJ)Z"⟩, 77), (⟨"WiredBeansModel", "isWord", "(IJ)Z"⟩, 77), (⟨"WiredBeansModel", "isGoodBean", "(I)Z"⟩, 77), (⟨"WiredBeansModel", "has", "(IJ)Z"⟩, 77)]
theorem lw_r6 : ∀ q ∈ lw_privs_6, lw_okq q := List.forall_mem_cons.mpr ⟨lw_p80, List.forall_mem_cons.mpr ⟨lw_p81, List.forall_mem_cons.mpr ⟨lw_p82, List.forall_mem_cons.mpr ⟨lw_p83, List.forall_mem_cons.mpr ⟨lw_p84, List.forall_mem_cons.mpr ⟨lw_p85, List.forall_mem_cons.mpr ⟨lw_p86, List.forall_mem_cons.mpr ⟨lw_p87, List.forall_mem_cons.mpr ⟨lw_p88, List.forall_mem_cons.mpr ⟨lw_p89, List.forall_mem_cons.mpr ⟨lw_p90, List.forall_mem_cons.mpr ⟨lw_p91, List.forall_mem_cons.mpr ⟨lw_p92, List.forall_mem_cons.mpr ⟨lw_p93, List.forall_mem_cons.mpr ⟨lw_p94, List.forall_mem_cons.mpr ⟨lw_p95, fun _ h => absurd h List.not_mem_nil⟩⟩⟩⟩⟩⟩⟩⟩⟩⟩⟩⟩⟩⟩⟩⟩
theorem lw_p96 : lw_okq (⟨"WiredBeansModel", "isOneLetter", "(IJ)Z"⟩, 77) := ⟨⟨by decide +kernel, by decide +kernel⟩, List.mem_of_getElem? (i := 1517) (by decide +kernel), List.mem_of_getElem? (i := 1942) (by decide +kernel), List.mem_of_getElem? (i := 1943) (by decide +kernel)⟩
theorem lw_p97 : lw_okq (⟨"WiredBeansModel", "word", "(IJ)J"⟩, 77) := ⟨⟨by decide +kernel, by decide +kernel⟩, List.mem_of_getElem? (i := 1517) (by decide +kernel), List.mem_of_getElem? (i := 1946) (by decide +kernel), List.mem_of_getElem? (i := 1947) (by decide +kernel)⟩
theorem lw_p98 : lw_okq (⟨"WiredBeansModel", "isOneOf", "(IJII)Z"⟩, 77) := ⟨⟨by decide +kernel, by decide +kernel⟩, List.mem_of_getElem? (i := 1517) (by decide +kernel), List.mem_of_getElem? (i := 1958) (by decide +kernel), List.mem_of_getElem? (i := 1959) (by decide +kernel)⟩
theorem lw_p99 : lw_okq (⟨"WiredBeansModel", "isGoodHolder", "(I)Z"⟩, 77) := ⟨⟨by decide +kernel, by decide +kernel⟩, List.mem_of_getElem? (i := 1517) (by decide +kernel), List.mem_of_getElem? (i := 1962) (by decide +kernel), List.mem_of_getElem? (i := 1963) (by decide +kernel)⟩
theorem lw_p100 : lw_okq (⟨"WiredBeansModel", "ahead", "(IZ)I"⟩, 77) := ⟨⟨by decide +kernel, by decide +kernel⟩, List.mem_of_getElem? (i := 1517) (by decide +kernel), List.mem_of_getElem? (i := 1966) (by decide +kernel), List.mem_of_getElem? (i := 1967) (by decide +kernel)⟩
theorem lw_p101 : lw_okq (⟨"WiredBeansModel", "typeIn", "(I)I"⟩, 77) := ⟨⟨by decide +kernel, by decide +kernel⟩, List.mem_of_getElem? (i := 1517) (by decide +kernel), List.mem_of_getElem? (i := 1971) (by decide +kernel), List.mem_of_getElem? (i := 1972) (by decide +kernel)⟩
theorem lw_p102 : lw_okq (⟨"WiredBeansModel", "badBeans", "()I"⟩, 77) := ⟨⟨by decide +kernel, by decide +kernel⟩, List.mem_of_getElem? (i := 1517) (by decide +kernel), List.mem_of_getElem? (i := 1975) (by decide +kernel), List.mem_of_getElem? (i := 1976) (by decide +kernel)⟩
theorem lw_p103 : lw_okq (⟨"WiredBeansModel", "isUsed", "(IJ)Z"⟩, 77) := ⟨⟨by decide +kernel, by decide +kernel⟩, List.mem_of_getElem? (i := 1517) (by decide +kernel), List.mem_of_getElem? (i := 1979) (by decide +kernel), List.mem_of_getElem? (i := 1980) (by decide +kernel)⟩
theorem lw_p104 : lw_okq (⟨"WiredBeansModel", "parentOf", "(I)I"⟩, 77) := ⟨⟨by decide +kernel, by decide +kernel⟩, List.mem_of_getElem? (i := 1517) (by decide +kernel), List.mem_of_getElem? (i := 1983) (by decide +kernel), List.mem_of_getElem? (i := 1984) (by decide +kernel)⟩
theorem lw_p105 : lw_okq (⟨"WiredBeansModel", "withId", "(J)I"⟩, 77) := ⟨⟨by decide +kernel, by decide +kernel⟩, List.mem_of_getElem? (i := 1517) (by decide +kernel), List.mem_of_getElem? (i := 1987) (by decide +kernel), List.mem_of_getElem? (i := 1988) (by decide +kernel)⟩
theorem lw_p106 : lw_okq (⟨"WiredBeansModel", "comesToItself", "(I)Z"⟩, 77) := ⟨⟨by decide +kernel, by decide +kernel⟩, List.mem_of_getElem? (i := 1517) (by decide +kernel), List.mem_of_getElem? (i := 1991) (by decide +kernel), List.mem_of_getElem? (i := 1992) (by decide +kernel)⟩
theorem lw_p107 : lw_okq (⟨"WiredBeansModel", "mergeBean", "(I)V"⟩, 77) := ⟨⟨by decide +kernel, by decide +kernel⟩, List.mem_of_getElem? (i := 1517) (by decide +kernel), List.mem_of_getElem? (i := 1995) (by decide +kernel), List.mem_of_getElem? (i := 1996) (by decide +kernel)⟩
theorem lw_p108 : lw_okq (⟨"WiredBeansModel", "inner", "(III)I"⟩, 77) := ⟨⟨by decide +kernel, by decide +kernel⟩, List.mem_of_getElem? (i := 1517) (by decide +kernel), List.mem_of_getElem? (i := 1999) (by decide +kernel), List.mem_of_getElem? (i := 2000) (by decide +kernel)⟩
theorem lw_p109 : lw_okq (⟨"WiredBeansModel", "merge", "([IIII)I"⟩, 77) := ⟨⟨by decide +kernel, by decide +kernel⟩, List.mem_of_getElem? (i := 1517) (by decide +kernel), List.mem_of_getElem? (i := 2003) (by decide +kernel), List.mem_of_getElem? (i := 2004) (by decide +kernel)⟩
theorem lw_p110 : lw_okq (⟨"WiredBeansModel", "isAbstract", "(I)Z"⟩, 77) := ⟨⟨by decide +kernel, by decide +kernel⟩, List.mem_of_getElem? (i := 1517) (by decide +kernel), List.mem_of_getElem? (i := 2015) (by decide +kernel), List.mem_of_getElem? (i := 2016) (by decide +kernel)⟩
theorem lw_p111 : lw_okq (⟨"WiredBeansModel", "isMany", "(I)Z"⟩, 77) := ⟨⟨by decide +kernel, by decide +kernel⟩, List.mem_of_getElem? (i := 1517) (by decide +kernel), List.mem_of_getElem? (i := 2019) (by decide +kernel), List.mem_of_getElem? (i := 2020) (by decide +kernel)⟩
def lw_privs_7 : List (MethodName × Nat) := [(⟨"WiredBeansModel", "isOneLetter", "(IJ)Z"⟩, 77), (⟨"WiredBeansModel", "word", "(IJ)J"⟩, 77), (⟨"WiredBeansModel", "isOneOf", "(IJII)Z"⟩, 77), (⟨"WiredBeansModel", "isGoodHolder", "(I)Z"⟩, 77), (⟨"WiredBeansModel", "ahead", "(IZ)I"⟩, 77), (⟨"WiredBeansModel", "typeIn", "(I)I"⟩, 77), (⟨"WiredBeansModel", "badBeans", "()I"⟩, 77), (⟨"WiredBeansModel", "isUsed", "(IJ)Z"⟩, 77), (⟨"WiredBeansModel", "parentOf", "(I)I"⟩, 77), (⟨"WiredBeansModel", "withId", "(J)I"⟩, 77), (⟨"WiredBeansModel", "comesToItself", "(I)Z"⟩, 77), (⟨"WiredBeansModel", "mergeBean", "(I)V"⟩, 77), (⟨"WiredBeansModel", "inner", "(III)I"⟩, 77), (⟨"WiredBeansModel", "merge", "([IIII)I"⟩, 77), (⟨"WiredBeansModel", "isAbstract", "(I)Z"⟩, 77), (⟨"WiredBeansModel", "isMany", "(I)Z"⟩, 77)]
theorem lw_r7 : ∀ q ∈ lw_privs_7, lw_okq q := List.forall_mem_cons.mpr ⟨lw_p96, List.forall_mem_cons.mpr ⟨lw_p97, List.forall_mem_cons.mpr ⟨lw_p98, List.forall_mem_cons.mpr ⟨lw_p99, List.forall_mem_cons.mpr ⟨lw_p100, List.forall_mem_cons.mpr ⟨lw_p101, List.forall_mem_cons.mpr ⟨lw_p102, List.forall_mem_cons.mpr ⟨lw_p103, List.forall_mem_cons.mpr ⟨lw_p104, List.forall_mem_cons.mpr ⟨lw_p105, List.forall_mem_cons.mpr ⟨lw_p106, List.forall_mem_cons.mpr ⟨lw_p107, List.forall_mem_cons.mpr ⟨lw_p108, List.forall_mem_cons.mpr ⟨lw_p109, List.forall_mem_cons.mpr ⟨lw_p110, List.forall_mem_cons.mpr ⟨lw_p111, fun _ h => absurd h List.not_mem_nil⟩⟩⟩⟩⟩⟩⟩⟩⟩⟩⟩⟩⟩⟩⟩⟩
theorem lw_p112 : lw_okq (⟨"WiredBeansModel", "run", "(I)Z"⟩, 77) := ⟨⟨by decide +kernel, by decide +kernel⟩, List.mem_of_getElem? (i := 1517) (by decide +kernel), List.mem_of_getElem? (i := 2023) (by decide +kernel), List.mem_of_getElem? (i := 2024) (by decide +kernel)⟩
theorem lw_p113 : lw_okq (⟨"WiredBeansModel", "gets", "(I)Z"⟩, 77) := ⟨⟨by decide +kernel, by decide +kernel⟩, List.mem_of_getElem? (i := 1517) (by decide +kernel), List.mem_of_getElem? (i := 2027) (by decide +kernel), List.mem_of_getElem? (i := 2028) (by decide +kernel)⟩
theorem lw_p114 : lw_okq (⟨"WiredBeansModel", "fails", "(I)V"⟩, 77) := ⟨⟨by decide +kernel, by decide +kernel⟩, List.mem_of_getElem? (i := 1517) (by decide +kernel), List.mem_of_getElem? (i := 2031) (by decide +kernel), List.mem_of_getElem? (i := 2032) (by decide +kernel)⟩
theorem lw_p115 : lw_okq (⟨"WiredBeansModel", "step", "()V"⟩, 77) := ⟨⟨by decide +kernel, by decide +kernel⟩, List.mem_of_getElem? (i := 1517) (by decide +kernel), List.mem_of_getElem? (i := 2035) (by decide +kernel), List.mem_of_getElem? (i := 2036) (by decide +kernel)⟩
theorem lw_p116 : lw_okq (⟨"WiredBeansModel", "called", "(J)I"⟩, 77) := ⟨⟨by decide +kernel, by decide +kernel⟩, List.mem_of_getElem? (i := 1517) (by decide +kernel), List.mem_of_getElem? (i := 2039) (by decide +kernel), List.mem_of_getElem? (i := 2040) (by decide +kernel)⟩
theorem lw_p117 : lw_okq (⟨"WiredBeansModel", "deliver", "()V"⟩, 77) := ⟨⟨by decide +kernel, by decide +kernel⟩, List.mem_of_getElem? (i := 1517) (by decide +kernel), List.mem_of_getElem? (i := 2043) (by decide +kernel), List.mem_of_getElem? (i := 2044) (by decide +kernel)⟩
theorem lw_p118 : lw_okq (⟨"WiredBeansModel", "arg", "(II)I"⟩, 77) := ⟨⟨by decide +kernel, by decide +kernel⟩, List.mem_of_getElem? (i := 1517) (by decide +kernel), List.mem_of_getElem? (i := 2047) (by decide +kernel), List.mem_of_getElem? (i := 2048) (by decide +kernel)⟩
theorem lw_p119 : lw_okq (⟨"WiredBeansModel", "argsOf", "(I)I"⟩, 77) := ⟨⟨by decide +kernel, by decide +kernel⟩, List.mem_of_getElem? (i := 1517) (by decide +kernel), List.mem_of_getElem? (i := 2051) (by decide +kernel), List.mem_of_getElem? (i := 2052) (by decide +kernel)⟩
theorem lw_p120 : lw_okq (⟨"WiredBeansModel", "keep", "(IIII)V"⟩, 77) := ⟨⟨by decide +kernel, by decide +kernel⟩, List.mem_of_getElem? (i := 1517) (by decide +kernel), List.mem_of_getElem? (i := 2055) (by decide +kernel), List.mem_of_getElem? (i := 2056) (by decide +kernel)⟩
theorem lw_p121 : lw_okq (⟨"WiredBeansModel", "tells", "(IJ)I"⟩, 77) := ⟨⟨by decide +kernel, by decide +kernel⟩, List.mem_of_getElem? (i := 1517) (by decide +kernel), List.mem_of_getElem? (i := 2059) (by decide +kernel), List.mem_of_getElem? (i := 2060) (by decide +kernel)⟩
theorem lw_p122 : lw_okq (⟨"WiredBeansModel", "args", "(I)I"⟩, 77) := ⟨⟨by decide +kernel, by decide +kernel⟩, List.mem_of_getElem? (i := 1517) (by decide +kernel), List.mem_of_getElem? (i := 2063) (by decide +kernel), List.mem_of_getElem? (i := 2064) (by decide +kernel)⟩
theorem lw_p123 : lw_okq (⟨"WiredBeansModel", "workedOut", "(II)Z"⟩, 77) := ⟨⟨by decide +kernel, by decide +kernel⟩, List.mem_of_getElem? (i := 1517) (by decide +kernel), List.mem_of_getElem? (i := 2067) (by decide +kernel), List.mem_of_getElem? (i := 2068) (by decide +kernel)⟩
theorem lw_p124 : lw_okq (⟨"WiredBeansModel", "worked", "(III)Z"⟩, 77) := ⟨⟨by decide +kernel, by decide +kernel⟩, List.mem_of_getElem? (i := 1517) (by decide +kernel), List.mem_of_getElem? (i := 2071) (by decide +kernel), List.mem_of_getElem? (i := 2072) (by decide +kernel)⟩
theorem lw_p125 : lw_okq (⟨"WiredBeansModel", "next", "(ZI)V"⟩, 77) := ⟨⟨by decide +kernel, by decide +kernel⟩, List.mem_of_getElem? (i := 1517) (by decide +kernel), List.mem_of_getElem? (i := 2075) (by decide +kernel), List.mem_of_getElem? (i := 2076) (by decide +kernel)⟩
theorem lw_p126 : lw_okq (⟨"WiredBeansModel", "makeObject", "(I)V"⟩, 77) := ⟨⟨by decide +kernel, by decide +kernel⟩, List.mem_of_getElem? (i := 1517) (by decide +kernel), List.mem_of_getElem? (i := 2079) (by decide +kernel), List.mem_of_getElem? (i := 2080) (by decide +kernel)⟩
theorem lw_p127 : lw_okq (⟨"WiredBeansModel", "letter", "(IJ)I"⟩, 77) := ⟨⟨by decide +kernel, by decide +kernel⟩, List.mem_of_getElem? (i := 1517) (by decide +kernel), List.mem_of_getElem? (i := 2083) (by decide +kernel), List.mem_of_getElem? (i := 2084) (by decide +kernel)⟩
def lw_privs_8 : List (MethodName × Nat) := [(⟨"WiredBeansModel", "run", "(I)Z"⟩, 77), (⟨"WiredBeansModel", "gets", "(I)Z"⟩, 77), (⟨"WiredBeansModel", "fails", "(I)V"⟩, 77), (⟨"WiredBeansModel", "step", "()V"⟩, 77), (⟨"WiredBeansModel", "called", "(J)I"⟩, 77), (⟨"WiredBeansModel", "deliver", "()V"⟩, 77), (⟨"WiredBeansModel", "arg", "(II)I"⟩, 77), (⟨"WiredBeansModel", "argsOf", "(I)I"⟩, 77), (⟨"WiredBeansModel", "keep", "(IIII)V"⟩, 77), (⟨"WiredBeansModel", "tells", "(IJ)I"⟩, 77), (⟨"WiredBeansModel", "args", "(I)I"⟩, 77), (⟨"WiredBeansModel", "workedOut", "(II)Z"⟩, 77), (⟨"WiredBeansModel", "worked", "(III)Z"⟩, 77), (⟨"WiredBeansModel", "next", "(ZI)V"⟩, 77), (⟨"WiredBeansModel", "makeObject", "(I)V"⟩, 77), (⟨"WiredBeansModel", "letter", "(IJ)I"⟩, 77)]
theorem lw_r8 : ∀ q ∈ lw_privs_8, lw_okq q := List.forall_mem_cons.mpr ⟨lw_p112, List.forall_mem_cons.mpr ⟨lw_p113, List.forall_mem_cons.mpr ⟨lw_p114, List.forall_mem_cons.mpr ⟨lw_p115, List.forall_mem_cons.mpr ⟨lw_p116, List.forall_mem_cons.mpr ⟨lw_p117, List.forall_mem_cons.mpr ⟨lw_p118, List.forall_mem_cons.mpr ⟨lw_p119, List.forall_mem_cons.mpr ⟨lw_p120, List.forall_mem_cons.mpr ⟨lw_p121, List.forall_mem_cons.mpr ⟨lw_p122, List.forall_mem_cons.mpr ⟨lw_p123, List.forall_mem_cons.mpr ⟨lw_p124, List.forall_mem_cons.mpr ⟨lw_p125, List.forall_mem_cons.mpr ⟨lw_p126, List.forall_mem_cons.mpr ⟨lw_p127, fun _ h => absurd h List.not_mem_nil⟩⟩⟩⟩⟩⟩⟩⟩⟩⟩⟩⟩⟩⟩⟩⟩
theorem lw_p128 : lw_okq (⟨"WiredBeansModel", "classOf", "(I)I"⟩, 77) := ⟨⟨by decide +kernel, by decide +kernel⟩, List.mem_of_getElem? (i := 1517) (by decide +kernel), List.mem_of_getElem? (i := 2087) (by decide +kernel), List.mem_of_getElem? (i := 2088) (by decide +kernel)⟩
theorem lw_p129 : lw_okq (⟨"WiredBeansModel", "classWithFactory", "(IIZ)I"⟩, 77) := ⟨⟨by decide +kernel, by decide +kernel⟩, List.mem_of_getElem? (i := 1517) (by decide +kernel), List.mem_of_getElem? (i := 2091) (by decide +kernel), List.mem_of_getElem? (i := 2092) (by decide +kernel)⟩
theorem lw_p130 : lw_okq (⟨"WiredBeansModel", "isFactory", "(IIZ)Z"⟩, 77) := ⟨⟨by decide +kernel, by decide +kernel⟩, List.mem_of_getElem? (i := 1517) (by decide +kernel), List.mem_of_getElem? (i := 2095) (by decide +kernel), List.mem_of_getElem? (i := 2096) (by decide +kernel)⟩
theorem lw_p131 : lw_okq (⟨"WiredBeansModel", "chosen", "(IZI)I"⟩, 77) := ⟨⟨by decide +kernel, by decide +kernel⟩, List.mem_of_getElem? (i := 1517) (by decide +kernel), List.mem_of_getElem? (i := 2099) (by decide +kernel), List.mem_of_getElem? (i := 2100) (by decide +kernel)⟩
theorem lw_p132 : lw_okq (⟨"WiredBeansModel", "sum", "(II[II)I"⟩, 77) := ⟨⟨by decide +kernel, by decide +kernel⟩, List.mem_of_getElem? (i := 1517) (by decide +kernel), List.mem_of_getElem? (i := 2104) (by decide +kernel), List.mem_of_getElem? (i := 2105) (by decide +kernel)⟩
theorem lw_p133 : lw_okq (⟨"WiredBeansModel", "placed", "(II)Z"⟩, 77) := ⟨⟨by decide +kernel, by decide +kernel⟩, List.mem_of_getElem? (i := 1517) (by decide +kernel), List.mem_of_getElem? (i := 2108) (by decide +kernel), List.mem_of_getElem? (i := 2109) (by decide +kernel)⟩
theorem lw_p134 : lw_okq (⟨"WiredBeansModel", "weight", "(III)I"⟩, 77) := ⟨⟨by decide +kernel, by decide +kernel⟩, List.mem_of_getElem? (i := 1517) (by decide +kernel), List.mem_of_getElem? (i := 2112) (by decide +kernel), List.mem_of_getElem? (i := 2113) (by decide +kernel)⟩
theorem lw_p135 : lw_okq (⟨"WiredBeansModel", "numberIn", "(I)J"⟩, 77) := ⟨⟨by decide +kernel, by decide +kernel⟩, List.mem_of_getElem? (i := 1517) (by decide +kernel), List.mem_of_getElem? (i := 2116) (by decide +kernel), List.mem_of_getElem? (i := 2117) (by decide +kernel)⟩
theorem lw_p136 : lw_okq (⟨"WiredBeansModel", "length", "(I)I"⟩, 77) := ⟨⟨by decide +kernel, by decide +kernel⟩, List.mem_of_getElem? (i := 1517) (by decide +kernel), List.mem_of_getElem? (i := 2120) (by decide +kernel), List.mem_of_getElem? (i := 2121) (by decide +kernel)⟩
theorem lw_p137 : lw_okq (⟨"WiredBeansModel", "sign", "(II)I"⟩, 77) := ⟨⟨by decide +kernel, by decide +kernel⟩, List.mem_of_getElem? (i := 1517) (by decide +kernel), List.mem_of_getElem? (i := 2124) (by decide +kernel), List.mem_of_getElem? (i := 2125) (by decide +kernel)⟩
theorem lw_p138 : lw_okq (⟨"WiredBeansModel", "is", "(II)Z"⟩, 77) := ⟨⟨by decide +kernel, by decide +kernel⟩, List.mem_of_getElem? (i := 1517) (by decide +kernel), List.mem_of_getElem? (i := 2132) (by decide +kernel), List.mem_of_getElem? (i := 2133) (by decide +kernel)⟩
theorem lw_p139 : lw_okq (⟨"WiredBeansModel", "happens", "(IIII)V"⟩, 77) := ⟨⟨by decide +kernel, by decide +kernel⟩, List.mem_of_getElem? (i := 1517) (by decide +kernel), List.mem_of_getElem? (i := 2136) (by decide +kernel), List.mem_of_getElem? (i := 2137) (by decide +kernel)⟩
theorem lw_p140 : lw_okq (⟨"WiredBeansModel", "tell", "(IIIII)V"⟩, 77) := ⟨⟨by decide +kernel, by decide +kernel⟩, List.mem_of_getElem? (i := 1517) (by decide +kernel), List.mem_of_getElem? (i := 2140) (by decide +kernel), List.mem_of_getElem? (i := 2141) (by decide +kernel)⟩
theorem lw_p141 : lw_okq (⟨"WiredBeansModel", "told", "(III)I"⟩, 77) := ⟨⟨by decide +kernel, by decide +kernel⟩, List.mem_of_getElem? (i := 1517) (by decide +kernel), List.mem_of_getElem? (i := 2144) (by decide +kernel), List.mem_of_getElem? (i := 2145) (by decide +kernel)⟩
theorem lw_p142 : lw_okq (⟨"WiredBeansModel", "finish", "(I)V"⟩, 77) := ⟨⟨by decide +kernel, by decide +kernel⟩, List.mem_of_getElem? (i := 1517) (by decide +kernel), List.mem_of_getElem? (i := 2148) (by decide +kernel), List.mem_of_getElem? (i := 2149) (by decide +kernel)⟩
theorem lw_p143 : lw_okq (⟨"WiredBeansModel", "setOne", "(I)V"⟩, 77) := ⟨⟨by decide +kernel, by decide +kernel⟩, List.mem_of_getElem? (i := 1517) (by decide +kernel), List.mem_of_getElem? (i := 2152) (by decide +kernel), List.mem_of_getElem? (i := 2153) (by decide +kernel)⟩
def lw_privs_9 : List (MethodName × Nat) := [(⟨"WiredBeansModel", "classOf", "(I)I"⟩, 77), (⟨"WiredBeansModel", "classWithFactory", "(IIZ)I"⟩, 77), (⟨"WiredBeansModel", "isFactory", "(IIZ)Z"⟩, 77), (⟨"WiredBeansModel", "chosen", "(IZI)I"⟩, 77), (⟨"WiredBeansModel", "sum", "(II[II)I"⟩, 77), (⟨"WiredBeansModel", "placed", "(II)Z"⟩, 77), (⟨"WiredBeansModel", "weight", "(III)I"⟩, 77), (⟨"WiredBeansModel", "numberIn", "(I)J"⟩, 77), (⟨"WiredBeansModel", "length", "(I)I"⟩, 77), (⟨"WiredBeansModel", "sign", "(II)I"⟩, 77), (⟨"WiredBeansModel", "is", "(II)Z"⟩, 77), (⟨"WiredBeansModel", "happens", "(IIII)V"⟩, 77), (⟨"WiredBeansModel", "tell", "(IIIII)V"⟩, 77), (⟨"WiredBeansModel", "told", "(III)I"⟩, 77), (⟨"WiredBeansModel", "finish", "(I)V"⟩, 77), (⟨"WiredBeansModel", "setOne", "(I)V"⟩, 77)]
theorem lw_r9 : ∀ q ∈ lw_privs_9, lw_okq q := List.forall_mem_cons.mpr ⟨lw_p128, List.forall_mem_cons.mpr ⟨lw_p129, List.forall_mem_cons.mpr ⟨lw_p130, List.forall_mem_cons.mpr ⟨lw_p131, List.forall_mem_cons.mpr ⟨lw_p132, List.forall_mem_cons.mpr ⟨lw_p133, List.forall_mem_cons.mpr ⟨lw_p134, List.forall_mem_cons.mpr ⟨lw_p135, List.forall_mem_cons.mpr ⟨lw_p136, List.forall_mem_cons.mpr ⟨lw_p137, List.forall_mem_cons.mpr ⟨lw_p138, List.forall_mem_cons.mpr ⟨lw_p139, List.forall_mem_cons.mpr ⟨lw_p140, List.forall_mem_cons.mpr ⟨lw_p141, List.forall_mem_cons.mpr ⟨lw_p142, List.forall_mem_cons.mpr ⟨lw_p143, fun _ h => absurd h List.not_mem_nil⟩⟩⟩⟩⟩⟩⟩⟩⟩⟩⟩⟩⟩⟩⟩⟩
theorem lw_p144 : lw_okq (⟨"WiredBeansModel", "typeOfSetter", "(II)I"⟩, 77) := ⟨⟨by decide +kernel, by decide +kernel⟩, List.mem_of_getElem? (i := 1517) (by decide +kernel), List.mem_of_getElem? (i := 2156) (by decide +kernel), List.mem_of_getElem? (i := 2157) (by decide +kernel)⟩
theorem lw_p145 : lw_okq (⟨"WiredBeansModel", "shut", "()V"⟩, 77) := ⟨⟨by decide +kernel, by decide +kernel⟩, List.mem_of_getElem? (i := 1517) (by decide +kernel), List.mem_of_getElem? (i := 2160) (by decide +kernel), List.mem_of_getElem? (i := 2161) (by decide +kernel)⟩
def lw_privs_10 : List (MethodName × Nat) := [(⟨"WiredBeansModel", "typeOfSetter", "(II)I"⟩, 77), (⟨"WiredBeansModel", "shut", "()V"⟩, 77)]
theorem lw_r10 : ∀ q ∈ lw_privs_10, lw_okq q := List.forall_mem_cons.mpr ⟨lw_p144, List.forall_mem_cons.mpr ⟨lw_p145, fun _ h => absurd h List.not_mem_nil⟩⟩
def lw_privs : List (MethodName × Nat) := lw_privs_1 ++ (lw_privs_2 ++ (lw_privs_3 ++ (lw_privs_4 ++ (lw_privs_5 ++ (lw_privs_6 ++ (lw_privs_7 ++ (lw_privs_8 ++ (lw_privs_9 ++ (lw_privs_10)))))))))
def lw_tbl : List Cond := k2_sels lw_privs ++ tables_1
theorem lw_privs_ok : ∀ q ∈ lw_privs, lw_okq q := by
  show ∀ q ∈ lw_privs_1 ++ (lw_privs_2 ++ (lw_privs_3 ++ (lw_privs_4 ++ (lw_privs_5 ++ (lw_privs_6 ++ (lw_privs_7 ++ (lw_privs_8 ++ (lw_privs_9 ++ (lw_privs_10))))))))), lw_okq q
  exact List.forall_mem_append.mpr ⟨lw_r1, List.forall_mem_append.mpr ⟨lw_r2, List.forall_mem_append.mpr ⟨lw_r3, List.forall_mem_append.mpr ⟨lw_r4, List.forall_mem_append.mpr ⟨lw_r5, List.forall_mem_append.mpr ⟨lw_r6, List.forall_mem_append.mpr ⟨lw_r7, List.forall_mem_append.mpr ⟨lw_r8, List.forall_mem_append.mpr ⟨lw_r9, lw_r10⟩⟩⟩⟩⟩⟩⟩⟩⟩
end
section
/-! ===== BEGIN words of one list among another's, by their places ===== -/
theorem goodIn_r {big : List Cond} (ws : List Cond) (ps : List Nat) (hp : ws = ps.filterMap (fun i => big[i]?)) (h : ws.all goodWord = true) : GoodIn big ws := by
  intro w hw
  have h1 := List.all_eq_true.mp h w hw
  rw [hp] at hw
  obtain ⟨i, -, hi⟩ := List.mem_filterMap.mp hw
  have hm : w ∈ big := by first | exact List.mem_of_getElem? hi | exact List.getElem?_mem hi
  exact ⟨hm, good_of_word h1⟩
theorem goodIn_app {big a b : List Cond} (ha : GoodIn big a) (hb : GoodIn big b) : GoodIn big (a ++ b) := fun w h => (List.mem_append.mp h).elim (ha w) (hb w)
theorem goodIn_ca {big a b : List Cond} {c : Cond} (ha : GoodIn big (c :: a)) (hb : GoodIn big b) : GoodIn big (c :: (a ++ b)) := fun w h => (List.mem_cons.mp h).elim (fun e => ha w (List.mem_cons.mpr (Or.inl e))) (fun h => (List.mem_append.mp h).elim (fun h => ha w (List.mem_cons.mpr (Or.inr h))) (hb w))
theorem goodIn_sub {big ws : List Cond} (hm : ∀ w ∈ ws, w ∈ big) (h : ws.all goodWord = true) : GoodIn big ws := fun w hw => ⟨hm w hw, good_of_word (List.all_eq_true.mp h w hw)⟩
/-! ===== END ===== -/

/-! ===== BEGIN exceptions that leave a method, and their catching by the caller (launches without stack traces) ===== -/
section VXA
/-! The laws vx_back, vx_callV, vx_callS, vx_callSW, vx_throw0, vx_throwS follow proofs of the library, with one case more: JvmDerived/Free/Laws.lean (Back.of_free), Shelf42/LK1.lean (callV, callS), Shelf/KitTraced.lean (throwNew0V, throwNewS). -/
/-- where a method has thrown q: the class by its name, the cell, what was written, the world -/
def vx_T (XC : String → State → State → Prop) (st : State) (q : Addr) (t : State) (mc ms : Nat) (free : Addr → Prop) : Prop :=
  ∃ (E : String) (ce : Cell) (L : List Loc), XC E st t ∧ t.heap[q]? = some ce ∧ ce.vm = .none ∧ st.vm.findClass E = some ce.cls ∧ st.WarmedH t.vm ∧ st.sameButNew ({ t with vm := st.vm } : State) L mc ms ∧ ∀ z ∈ L, free z.base
def vx_Q (Qc : Array Value → State → Outcome → State → Prop) (XC : String → State → State → Prop) (mc ms : Nat) (free : Addr → Prop) : Array Value → State → Outcome → State → Prop := fun a st o t =>
  (Qc a st o t ∧ ∃ L, FrameEnd st o t L mc ms ∧ ∀ q ∈ L, free q.base) ∨ ∃ q, o = .threw q ∧ vx_T XC st q t mc ms free
/-- a callee that returns or throws -/
def vx_Met (l : Launch) (y : MethodName) (ws : List Cond) (rm : Room) (Pc : Array Value → State → Prop) (Qc : Array Value → State → Outcome → State → Prop) (XC : String → State → State → Prop) (mc ms : Nat) (free : Addr → Prop) : Prop :=
  MetFree l y (headSpec ws rm) Pc (fun _ _ _ _ _ => True) (vx_Q Qc XC mc ms free)
def vx_Post (XC : String → State → State → Prop) (mc ms : Nat) (free : Addr → Prop) : Pt → Array Value → Addr → Pt → Prop := fun A a q B =>
  ∃ (g : JFrame) (mk : MethodId) (t : State) (L : List Loc) (E : String) (ce : Cell), B.U.heap = t.heap ∧ B.U.vm = t.vm ∧ XC E (A.U.calling g mk a) t ∧ t.heap[q]? = some ce ∧ ce.vm = .none ∧ A.U.vm.findClass E = some ce.cls ∧ B.locs = A.locs ++ L ∧ (∀ z ∈ L, free z.base) ∧ B.cells = A.cells + mc ∧ B.slots = A.slots + ms
def vx_Back (l : Launch) (R : Room) (p : Program) (e : Env) (below : List Frame) (s : State) (sargs : Array Value) (y : MethodName) (len W9 : Nat)
    (Pre : Pt → Array Value → Prop) (Post : Pt → Array Value → Option Value → Pt → Prop) (PostX : Pt → Array Value → Addr → Pt → Prop) : Prop :=
  ∀ (m : MethodId) (meth : Method) (c : Code) (A : Pt) (g : JFrame) (ig : Instr) (mk : MethodId) (a : Array Value),
    Stand p l e R s m sargs below meth c A.U A.locs A.cells A.slots → g.method = m → g.locals.size = c.maxLocals → decode c.code g.pc = .ok (ig, len) →
    2 * g.monitorRoom + (g.stack.map fun v => v.category).sum ≤ W9 → A.U.methodNamed? y = some mk → Pre A a →
    (∃ (v : Option Value) (B : Pt), Stand p l e R s m sargs below meth c B.U B.locs B.cells B.slots ∧ Post A a v B ∧
      Steps p.tables e below (doInvoke e (A.U.setTop g) [] mk a).1 (B.U.setTop { g with pc := g.pc + len, stack := v.toList ++ g.stack })) ∨
    (∃ (q : Addr) (B : Pt), Stand p l e R s m sargs below meth c B.U B.locs B.cells B.slots ∧ PostX A a q B ∧
      Steps p.tables e below (doInvoke e (A.U.setTop g) [] mk a).1 ((B.U.setTop g).pushFrame (.throwing q)))
section Payer
variable {l : Launch} {R : Room} {p : Program} {e : Env} {below : List Frame} {s : State} {sargs : Array Value} {y : MethodName} {len W9 : Nat}
theorem vx_back {ws : List Cond} {rm : Room} {Pc : Array Value → State → Prop} {Qc : Array Value → State → Outcome → State → Prop} {XC : String → State → State → Prop} {mc ms : Nat} {free : Addr → Prop} {bytes : ByteArray} {maxL : Nat} {ret : Option FieldType}
    (hM : vx_Met l y ws rm Pc Qc XC mc ms free) (hblind : FrameBlind Pc) (hrc : rm.cells = mc) (hrs : rm.slots = ms)
    (hframes : rm.frames + 1 ≤ R.frames) (hlocals : W9 + (maxL + 11) + rm.locals ≤ R.locals)
    (hws : ∀ w ∈ ws, ∀ a' U, s.WarmedH U.vm → w.before a' U = true) (hcode : Cond.code y bytes maxL ret ∈ ws) (hinit : ∀ a' U, s.WarmedH U.vm → (Cond.initialized y.cls).before a' U = true) :
    vx_Back l R p e below s sargs y len W9 (PreOf R mc ms Pc) (PostOf Qc mc ms free) (vx_Post XC mc ms free) := by
  intro m meth c A g ig mk a X hg hsize hdg hW hn hp
  have h1 : (headSpec ws rm).pre.before a A.U = true := atoms_intro fun w hw => hws w hw _ _ X.warmed
  have h2 : (Cond.code y bytes maxL ret).before a A.U = true := hws _ hcode _ _ X.warmed
  have h3 : (Cond.initialized y.cls).before a A.U = true := hinit _ _ X.warmed
  have h4 : A.cells + (headSpec ws rm).room.cells ≤ R.cells := by rw [show (headSpec ws rm).room.cells = mc from hrc]; exact hp.1
  have h5 : A.slots + (headSpec ws rm).room.slots ≤ R.slots := by rw [show (headSpec ws rm).room.slots = ms from hrs]; exact hp.2.1
  have hPc : Pc a (A.U.calling g mk a) := hblind _ _ _ _ hp.2.2
  obtain ⟨U, Ls, c0, s0⟩ := A
  dsimp only [Pt.U, Pt.locs, Pt.cells, Pt.slots] at h1 h2 h3 h4 h5 X hn hPc ⊢
  obtain ⟨methY, cY, hmY, hcY, -, hlY, -, -, -, -⟩ := Cond.code_spec hn h2
  obtain ⟨kY, hkY, -⟩ := className_of_methodNamed hn
  have hinitY : kY.init = .initialized := Cond.initialized_spec (findClass_of_methodNamed hn) hkY h3
  have h : At U g.method c below := by rw [hg]; exact X.here
  have hlocals9 : W9 + (maxL + 11) + (headSpec ws rm).room.locals ≤ R.locals := hlocals
  have happ : (headSpec ws rm).appliesLoose y e.platform (U.calling g mk a) = true :=
    Spec.appliesLoose_calling (g := g) h hdg hn hkY hinitY
      (X.room_calling (g := g) (R' := (headSpec ws rm).room) hsize hmY hcY hframes (by rw [hlY]; omega) h4 h5) h1
  obtain ⟨mid, hmid⟩ := h.above
  have hfr : (U.setTop g).frames = (.java g :: mid) ++ below := by rw [State.frames_setTop' g h.top, hmid]; rfl
  obtain ⟨o, s₂, hsteps, -, hend, hq⟩ := Steps.callFree hM p X.admits X.cas X.clock (acts := []) hfr happ hPc trivial
  have hq' : vx_Q Qc XC mc ms free a (U.calling g mk a) o s₂ := hq
  rw [State.frames_setTop' g h.top] at hend
  obtain ⟨g₀, hg0⟩ := Option.isSome_iff_exists.mp h.top
  obtain ⟨r, hr⟩ := State.topJava?_eq_some.mp hg0
  have hr' : (({ U with heap := s₂.heap, slotsUsed := s₂.slotsUsed } : State).setVm s₂.vm).frames = .java g₀ :: r := hr
  rcases hq' with ⟨hqc, L, hfe, hL⟩ | ⟨q, rfl, E, ce, L, hx, hce, hcv, hcl, hW₂, hsm, hL⟩
  · obtain ⟨⟨v, rfl⟩, hW₂, e2, q2, q3, q4, q5, q6⟩ := id hfe
    have e3 : s₂ = ({ (U.calling g mk a).setFrames s₂.frames with heap := s₂.heap, slotsUsed := s₂.slotsUsed } : State).setVm s₂.vm := by
      have : s₂ = ({ s₂ with vm := (U.calling g mk a).vm } : State).setVm s₂.vm := rfl
      rw [e2] at this
      exact this
    obtain ⟨c₂, i₂, len₂, hc₂, hd₂, hf₂⟩ := hend
    have hW' : U.WarmedH s₂.vm := hW₂
    have hcc : c₂ = c := by
      have h1 : s₂.code? g.method = U.code? g.method := by
        rw [State.code?_eq, State.code?_eq, hW'.alike.method?]
      exact Option.some.inj (hc₂.symm.trans (h1.trans h.code))
    subst hcc
    have hlen : len₂ = len := by rw [hdg] at hd₂; cases hd₂; rfl
    subst hlen
    have hs₂ : s₂ = (({ U with heap := s₂.heap, slotsUsed := s₂.slotsUsed } : State).setVm s₂.vm).setTop { g with pc := g.pc + len₂, stack := v.toList ++ g.stack } := by
      refine e3.trans ?_
      rw [hf₂, State.calling_eq h.top, State.setFrames_setFrames, State.setTop_of_frames _ hr', hr]
      rfl
    have hsame : U.sameButNew ({ U with heap := s₂.heap, slotsUsed := s₂.slotsUsed } : State) L mc ms := by
      refine ⟨?_, q2, q3, q4, q5, q6⟩
      obtain ⟨t, ht, -⟩ := State.frames_cons hr
      show ({ U with heap := s₂.heap, slotsUsed := s₂.slotsUsed } : State) = { U.setFrames U.frames with heap := s₂.heap, slotsUsed := s₂.slotsUsed }
      rw [State.setFrames_self ht]
    subst hg
    refine Or.inl ⟨v, ⟨(({ U with heap := s₂.heap, slotsUsed := s₂.slotsUsed } : State).setVm s₂.vm), Ls ++ L, c0 + mc, s0 + ms⟩,
      ⟨X.admits, X.cas, X.clock, X.frames, X.room, X.hears, X.method, X.code, (X.here.setHeapUsed s₂.heap s₂.slotsUsed).setVm hW'.alike, X.tail, State.WarmedH.trans X.warmed hW', X.limits, X.bytes, X.same.trans (hsame.setVm s.vm)⟩,
      ⟨g, mk, s₂, L, rfl, rfl, hqc, rfl, hL, rfl, rfl⟩, ?_⟩
    show Steps p.tables e below _ ((({ U with heap := s₂.heap, slotsUsed := s₂.slotsUsed } : State).setVm s₂.vm).setTop { g with pc := g.pc + len₂, stack := v.toList ++ g.stack })
    rw [← hs₂]
    exact hsteps
  · obtain ⟨e2, q2, q3, q4, q5, q6⟩ := id hsm
    have e3 : s₂ = ({ (U.calling g mk a).setFrames s₂.frames with heap := s₂.heap, slotsUsed := s₂.slotsUsed } : State).setVm s₂.vm := by
      have : s₂ = ({ s₂ with vm := (U.calling g mk a).vm } : State).setVm s₂.vm := rfl
      rw [e2] at this
      exact this
    have hf₂ : s₂.frames = .throwing q :: .java g :: U.frames.tail := hend
    have hW' : U.WarmedH s₂.vm := hW₂
    have hs₂ : s₂ = ((({ U with heap := s₂.heap, slotsUsed := s₂.slotsUsed } : State).setVm s₂.vm).setTop g).pushFrame (.throwing q) := by
      refine e3.trans ?_
      rw [hf₂, State.calling_eq h.top, State.setFrames_setFrames, State.pushFrame, State.frames_setTop _ hr', State.setTop_of_frames _ hr', State.setFrames_setFrames, hr]
      rfl
    have hsame : U.sameButNew ({ U with heap := s₂.heap, slotsUsed := s₂.slotsUsed } : State) L mc ms := by
      refine ⟨?_, q2, q3, q4, q5, q6⟩
      obtain ⟨t, ht, -⟩ := State.frames_cons hr
      show ({ U with heap := s₂.heap, slotsUsed := s₂.slotsUsed } : State) = { U.setFrames U.frames with heap := s₂.heap, slotsUsed := s₂.slotsUsed }
      rw [State.setFrames_self ht]
    subst hg
    refine Or.inr ⟨q, ⟨(({ U with heap := s₂.heap, slotsUsed := s₂.slotsUsed } : State).setVm s₂.vm), Ls ++ L, c0 + mc, s0 + ms⟩,
      ⟨X.admits, X.cas, X.clock, X.frames, X.room, X.hears, X.method, X.code, (X.here.setHeapUsed s₂.heap s₂.slotsUsed).setVm hW'.alike, X.tail, State.WarmedH.trans X.warmed hW', X.limits, X.bytes, X.same.trans (hsame.setVm s.vm)⟩,
      ⟨g, mk, s₂, L, E, ce, rfl, rfl, hx, hce, hcv, hcl, rfl, hL, rfl, rfl⟩, ?_⟩
    show Steps p.tables e below _ (((({ U with heap := s₂.heap, slotsUsed := s₂.slotsUsed } : State).setVm s₂.vm).setTop g).pushFrame (.throwing q))
    rw [← hs₂]
    exact hsteps
end Payer
section Calls
variable {p : Program} {l : Launch} {e : Env} {R : Room} {s : State} {m : MethodId} {args : Array Value} {below : List Frame} {meth : Method} {c : Code} {T : State} {locs : List Loc} {cells slots : Nat}
theorem vx_callV (X : Stand p l e R s m args below meth c T locs cells slots) (hexec : p.tables.exec = Jvm.exec) {own C : String} {index : Nat} {y : MethodName} {bytes : ByteArray} {maxL : Nat} {ret : Option FieldType}
    (hown : s.vm.findClass own = some m.cls) (hlink : (Cond.methodLink own index y).before args s = true) (hinst : (Cond.instanceMethod y).before args s = true) (hsel : (Cond.selects C y y).before args s = true)
    (hcode : (Cond.code y bytes maxL ret).before args s = true) (hy : y.cls ≠ "java/lang/invoke/MethodHandle" ∧ y.cls ≠ "java/lang/invoke/VarHandle")
    {W9 : Nat} {Pre : Pt → Array Value → Prop} {Post : Pt → Array Value → Option Value → Pt → Prop} {PostX : Pt → Array Value → Addr → Pt → Prop} (hK : vx_Back l R p e below s args y 3 W9 Pre Post PostX)
    {b : Addr} {cellB : Cell} (hcell : T.heap[b]? = some cellB) (hobj : cellB.vm.isStatics = false) (hcls : s.vm.findClass C = some cellB.cls)
    {g : JFrame} (hg : g.method = m) (hsize : g.locals.size = c.maxLocals) {argsL rest : List Value} (hlen : ∀ sig, parseMethodDescriptor y.desc = some sig → argsL.length = sig.parameters.length)
    (hstack : g.stack = argsL.reverse ++ .ref b :: rest) (hW : 2 * g.monitorRoom + (rest.map fun v => v.category).sum ≤ W9) (hdg : decode c.code g.pc = .ok (.invokevirtual index, 3))
    (hpre : ∀ vm₁, s.WarmedH vm₁ → Pre ⟨T.setVm vm₁, locs, cells, slots⟩ (Value.ref b :: argsL).toArray) :
    (∃ (v : Option Value) (vm₁ : Vm) (B : Pt), s.WarmedH vm₁ ∧ Stand p l e R s m args below meth c B.U B.locs B.cells B.slots ∧ Post ⟨T.setVm vm₁, locs, cells, slots⟩ (Value.ref b :: argsL).toArray v B ∧
      ∀ target, Steps p.tables e below (B.U.setTop { g with pc := g.pc + 3, stack := v.toList ++ rest }) target → Steps p.tables e below (T.setTop g) target) ∨
    (∃ (q : Addr) (vm₁ : Vm) (B : Pt), s.WarmedH vm₁ ∧ Stand p l e R s m args below meth c B.U B.locs B.cells B.slots ∧ PostX ⟨T.setVm vm₁, locs, cells, slots⟩ (Value.ref b :: argsL).toArray q B ∧
      Steps p.tables e below (T.setTop g) ((B.U.setTop { g with stack := rest }).pushFrame (.throwing q))) := by
  obtain ⟨mk, methM, hnamed, hmethM, hstM, habM⟩ := Cond.instanceMethod_spec hinst
  obtain ⟨methM', cM, hmethM', -, -, -, -, -, -, hsigM⟩ := Cond.code_spec hnamed hcode
  cases hmethM.symm.trans hmethM'
  obtain ⟨c2, r2, m2, q1, q2, q3, q4, kP, hkP, hkPi⟩ := Cond.selects_spec hsel
  cases hcls.symm.trans q1
  cases (State.methodFound?_of_named hnamed hy).symm.trans q2
  cases hnamed.symm.trans q3
  have hselP : selectMethod e.platform s.vm cellB.cls mk = .method mk := by rw [Launch.admits_selectMethod X.admits]; exact q4
  obtain ⟨vm₁, X₁, hstep₁⟩ := X.invokevirtual hexec hown hlink hnamed hmethM hstM hkP hkPi hy (a := b) (cell := cellB) hcell
    (fun z h => by rw [h] at hobj; cases hobj) hselP hmethM habM hkP hkPi (g := g) hg (argsL := argsL) (rest := rest) (hlen _ hsigM) hstack hdg
  rcases hK m meth c ⟨T.setVm vm₁, locs, cells, slots⟩ { g with stack := rest } (.invokevirtual index) mk (Value.ref b :: argsL).toArray X₁ hg hsize hdg hW (X₁.named hnamed) (hpre vm₁ X₁.warmed) with ⟨v, B, X', hpost, hsteps⟩ | ⟨q, B, X', hpost, hsteps⟩
  · exact Or.inl ⟨v, vm₁, B, X₁.warmed, X', hpost, fun target h => hstep₁ _ fun acts => by rw [doInvoke_state]; exact hsteps.trans h⟩
  · exact Or.inr ⟨q, vm₁, B, X₁.warmed, X', hpost, hstep₁ _ fun acts => by rw [doInvoke_state]; exact hsteps⟩
theorem vx_callS (X : Stand p l e R s m args below meth c T locs cells slots) (hexec : p.tables.exec = Jvm.exec) {own : String} {index : Nat} {y : MethodName} {bytes : ByteArray} {maxL : Nat} {ret : Option FieldType}
    (hown : s.vm.findClass own = some m.cls) (hlink : (Cond.methodLink own index y).before args s = true) (hstat : (Cond.static y).before args s = true) (hinit : (Cond.initialized y.cls).before args s = true)
    (hcode : (Cond.code y bytes maxL ret).before args s = true) (hy : y.cls ≠ "java/lang/invoke/MethodHandle" ∧ y.cls ≠ "java/lang/invoke/VarHandle")
    {W9 : Nat} {Pre : Pt → Array Value → Prop} {Post : Pt → Array Value → Option Value → Pt → Prop} {PostX : Pt → Array Value → Addr → Pt → Prop} (hK : vx_Back l R p e below s args y 3 W9 Pre Post PostX)
    {g : JFrame} (hg : g.method = m) (hsize : g.locals.size = c.maxLocals) {argsL rest : List Value} (hlen : ∀ sig, parseMethodDescriptor y.desc = some sig → argsL.length = sig.parameters.length)
    (hstack : g.stack = argsL.reverse ++ rest) (hW : 2 * g.monitorRoom + (rest.map fun v => v.category).sum ≤ W9) (hdg : decode c.code g.pc = .ok (.invokestatic index, 3))
    (hpre : ∀ vm₁, s.WarmedH vm₁ → Pre ⟨T.setVm vm₁, locs, cells, slots⟩ argsL.toArray) :
    (∃ (v : Option Value) (vm₁ : Vm) (B : Pt), s.WarmedH vm₁ ∧ Stand p l e R s m args below meth c B.U B.locs B.cells B.slots ∧ Post ⟨T.setVm vm₁, locs, cells, slots⟩ argsL.toArray v B ∧
      ∀ target, Steps p.tables e below (B.U.setTop { g with pc := g.pc + 3, stack := v.toList ++ rest }) target → Steps p.tables e below (T.setTop g) target) ∨
    (∃ (q : Addr) (vm₁ : Vm) (B : Pt), s.WarmedH vm₁ ∧ Stand p l e R s m args below meth c B.U B.locs B.cells B.slots ∧ PostX ⟨T.setVm vm₁, locs, cells, slots⟩ argsL.toArray q B ∧
      Steps p.tables e below (T.setTop g) ((B.U.setTop { g with stack := rest }).pushFrame (.throwing q))) := by
  obtain ⟨mk, hnamed⟩ := Cond.code_named hcode
  obtain ⟨methM, cM, hmethM, -, -, -, -, -, -, hsigM⟩ := Cond.code_spec hnamed hcode
  have hstatic : methM.isStatic = true := Cond.static_spec hnamed hmethM hstat
  obtain ⟨kP, hkP, -⟩ := className_of_methodNamed hnamed
  have hinitP : kP.init = .initialized := Cond.initialized_spec (findClass_of_methodNamed hnamed) hkP hinit
  obtain ⟨vm₁, X₁, hstep₁⟩ := X.invokestatic hexec hown hlink hnamed hmethM hstatic hkP hinitP hy (g := g) hg (argsL := argsL) (rest := rest) (hlen _ hsigM) hstack hdg
  rcases hK m meth c ⟨T.setVm vm₁, locs, cells, slots⟩ { g with stack := rest } (.invokestatic index) mk argsL.toArray X₁ hg hsize hdg hW (X₁.named hnamed) (hpre vm₁ X₁.warmed) with ⟨v, B, X', hpost, hsteps⟩ | ⟨q, B, X', hpost, hsteps⟩
  · exact Or.inl ⟨v, vm₁, B, X₁.warmed, X', hpost, fun target h => hstep₁ _ fun acts => by rw [doInvoke_state]; exact hsteps.trans h⟩
  · exact Or.inr ⟨q, vm₁, B, X₁.warmed, X', hpost, hstep₁ _ fun acts => by rw [doInvoke_state]; exact hsteps⟩
end Calls
theorem vx_cls {s : State} {T : State} {vm₁ : Vm} {E : String} {k : ClassId} (hW : s.WarmedH vm₁) (h : (T.setVm vm₁).vm.findClass E = some k) : s.vm.findClass E = some k := by
  have h1 : vm₁.findClass E = some k := h
  rw [hW.alike.findClass] at h1
  exact h1
/-- the method's frame g, with q thrown over it -/
def vx_W (p : Program) (l : Launch) (e : Env) (R : Room) (s : State) (m : MethodId) (args : Array Value) (below : List Frame) (meth : Method) (c : Code) (H : Heap) (locs : List Loc) (cells slots : Nat) (Q : State → Prop) (g : JFrame) (q : Addr) : Prop :=
  ∀ T : State, T.heap = H → Stand p l e R s m args below meth c T locs cells slots → ∃ t, Steps p.tables e below ((T.setTop g).pushFrame (.throwing q)) t ∧ Q t
def vx_Run (p : Program) (l : Launch) (e : Env) (R : Room) (s : State) (m : MethodId) (args : Array Value) (below : List Frame) (meth : Method) (c : Code) (H : Heap) (locs : List Loc) (cells slots mc ms : Nat) (g : JFrame) (rest : List Value) (Qa : State → Outcome → State → Prop) (XC : String → State → State → Prop) (free : Addr → Prop) : Prop :=
  ∀ T : State, T.heap = H → Stand p l e R s m args below meth c T locs cells slots →
    (∃ (v : Option Value) (st₀ t T' : State) (L : List Loc), st₀.heap = H ∧ Stand p l e R s m args below meth c T' (locs ++ L) (cells + mc) (slots + ms) ∧ (∀ q ∈ L, free q.base) ∧ T'.heap = t.heap ∧ T'.vm = t.vm ∧ Qa st₀ (.returned v) t ∧
      Goes p e below T g T' { g with pc := g.pc + 3, stack := v.toList ++ rest }) ∨
    (∃ (q : Addr) (st₀ t T' : State) (L : List Loc) (E : String) (ce : Cell), st₀.heap = H ∧ Stand p l e R s m args below meth c T' (locs ++ L) (cells + mc) (slots + ms) ∧ (∀ z ∈ L, free z.base) ∧ T'.heap = t.heap ∧ T'.vm = t.vm ∧ XC E st₀ t ∧ t.heap[q]? = some ce ∧ ce.vm = .none ∧ s.vm.findClass E = some ce.cls ∧
      Steps p.tables e below (T.setTop g) ((T'.setTop { g with stack := rest }).pushFrame (.throwing q)))
def vx_X {S : Type} (px : S → Prop) (B : String → S → State → Prop) (A : Nat → Prop) : String → State → State → Prop := fun E st t => ∃ u : S, px u ∧ B E u t ∧ va_F A st t
section Runs
variable {p : Program} {l : Launch} {e : Env} {R : Room} {s : State} {m : MethodId} {args : Array Value} {below : List Frame} {meth : Method} {c : Code} {H : Heap} {locs : List Loc} {cells slots : Nat}
variable {y : MethodName} {bytes cc : ByteArray} {maxL nL mc ms n index : Nat} {ret : Option FieldType} {ws : List Cond} {rm : Room} {Pc : Array Value → State → Prop} {Qc : Array Value → State → Outcome → State → Prop} {XC : String → State → State → Prop} {free : Addr → Prop} {Ts : List Cond} {own C : String} {b : Addr} {As rest : List Value} {g : JFrame}
theorem vx_callBack (cb : CallB R s args own index y bytes maxL ret ws rm mc ms n) (hM : vx_Met l y ws rm Pc Qc XC mc ms free) (hbl : FrameBlind Pc) : vx_Back l R p e below s args y 3 8 (PreOf R mc ms Pc) (PostOf Qc mc ms free) (vx_Post XC mc ms free) := by
  obtain ⟨hrc, hrs, hfr, hlo, hws, hcw, -, hini, -⟩ := cb
  exact vx_back (bytes := bytes) (maxL := maxL) (ret := ret) hM hbl hrc hrs hfr hlo hws hcw (fun a' U hW => word_at hW (Or.inl (by first | rfl | simp [Cond.onTables, Cond.keeps, Cond.steady])) hini)
theorem vx_runV (S : CallFix p m c cc nL s args Ts own) (hM : vx_Met l y ws rm Pc Qc XC mc ms free) (cw : CallW R s args own C index y bytes maxL ret ws rm mc ms n) (hp : PreV s H C b Pc As)
    (hg : g.method = m) (hn : As.length = n) (hsize : g.locals.size = nL) (hstack : g.stack = As.reverse ++ .ref b :: rest) (hW : 2 * g.monitorRoom + (rest.map fun v => v.category).sum ≤ 8) (hdg : decode cc g.pc = .ok (.invokevirtual index, 3)) (hf : cells + mc ≤ R.cells ∧ slots + ms ≤ R.slots) :
    vx_Run p l e R s m args below meth c H locs cells slots mc ms g rest (Qc (Value.ref b :: As).toArray) XC free := by
  have hK : vx_Back l R p e below s args y 3 8 (PreOf R mc ms Pc) (PostOf Qc mc ms free) (vx_Post XC mc ms free) := vx_callBack cw.1 hM hp.1
  obtain ⟨⟨-, -, -, -, -, -, hcode, -, hy, hlen, hl⟩, hin, hse⟩ := cw
  obtain ⟨hx, hb, hml, ho, -⟩ := S
  obtain ⟨-, ⟨cellB, hcB, hoB, hclB⟩, hPc⟩ := hp
  intro T hT X
  rcases vx_callV X hx (C := C) (bytes := bytes) (maxL := maxL) (ret := ret) ho hl hin hse hcode hy hK (by rw [hT]; exact hcB) hoB hclB hg (hsize.trans hml.symm) (argsL := As) (rest := rest) (fun sig h => hn.trans (hlen sig h)) hstack hW (by rw [hb]; exact hdg)
    (fun vm₁ hW₁ => ⟨hf.1, hf.2, hPc (T.setVm vm₁) hT hW₁⟩) with ⟨v, vm₁, ⟨U', l2, c2, s2⟩, hW₁, X', ⟨g', mk, t, L, e1, e2, hq, h1, hL, h2, h3⟩, st⟩ | ⟨q, vm₁, ⟨U', l2, c2, s2⟩, hW₁, X', ⟨g', mk, t, L, E, ce, e1, e2, hq, hce, hcv, hcl, h1, hL, h2, h3⟩, st⟩
  · dsimp only [Pt.U, Pt.locs, Pt.cells, Pt.slots] at X' e1 e2 h1 h2 h3 st
    subst h1; subst h2; subst h3
    exact Or.inl ⟨v, (T.setVm vm₁).calling g' mk (Value.ref b :: As).toArray, t, U', L, hT, X', hL, e1, e2, hq, st⟩
  · dsimp only [Pt.U, Pt.locs, Pt.cells, Pt.slots] at X' e1 e2 h1 h2 h3 st hcl
    subst h1; subst h2; subst h3
    exact Or.inr ⟨q, (T.setVm vm₁).calling g' mk (Value.ref b :: As).toArray, t, U', L, E, ce, hT, X', hL, e1, e2, hq, hce, hcv, vx_cls hW₁ hcl, st⟩
theorem vx_runS (S : CallFix p m c cc nL s args Ts own) (hM : vx_Met l y ws rm Pc Qc XC mc ms free) (cw : CallB R s args own index y bytes maxL ret ws rm mc ms n ∧ (Cond.static y).before args s = true) (hp : PreS s H Pc As)
    (hg : g.method = m) (hn : As.length = n) (hsize : g.locals.size = nL) (hstack : g.stack = As.reverse ++ rest) (hW : 2 * g.monitorRoom + (rest.map fun v => v.category).sum ≤ 8) (hdg : decode cc g.pc = .ok (.invokestatic index, 3)) (hf : cells + mc ≤ R.cells ∧ slots + ms ≤ R.slots) :
    vx_Run p l e R s m args below meth c H locs cells slots mc ms g rest (Qc As.toArray) XC free := by
  have hK : vx_Back l R p e below s args y 3 8 (PreOf R mc ms Pc) (PostOf Qc mc ms free) (vx_Post XC mc ms free) := vx_callBack cw.1 hM hp.1
  obtain ⟨⟨-, -, -, -, -, -, hcode, hini, hy, hlen, hl⟩, hstt⟩ := cw
  obtain ⟨hx, hb, hml, ho, -⟩ := S
  intro T hT X
  rcases vx_callS X hx (bytes := bytes) (maxL := maxL) (ret := ret) ho hl hstt hini hcode hy hK hg (hsize.trans hml.symm) (argsL := As) (rest := rest) (fun sig h => hn.trans (hlen sig h)) hstack hW (by rw [hb]; exact hdg)
    (fun vm₁ hW₁ => ⟨hf.1, hf.2, hp.2 (T.setVm vm₁) hT hW₁⟩) with ⟨v, vm₁, ⟨U', l2, c2, s2⟩, hW₁, X', ⟨g', mk, t, L, e1, e2, hq, h1, hL, h2, h3⟩, st⟩ | ⟨q, vm₁, ⟨U', l2, c2, s2⟩, hW₁, X', ⟨g', mk, t, L, E, ce, e1, e2, hq, hce, hcv, hcl, h1, hL, h2, h3⟩, st⟩
  · dsimp only [Pt.U, Pt.locs, Pt.cells, Pt.slots] at X' e1 e2 h1 h2 h3 st
    subst h1; subst h2; subst h3
    exact Or.inl ⟨v, (T.setVm vm₁).calling g' mk As.toArray, t, U', L, hT, X', hL, e1, e2, hq, st⟩
  · dsimp only [Pt.U, Pt.locs, Pt.cells, Pt.slots] at X' e1 e2 h1 h2 h3 st hcl
    subst h1; subst h2; subst h3
    exact Or.inr ⟨q, (T.setVm vm₁).calling g' mk As.toArray, t, U', L, E, ce, hT, X', hL, e1, e2, hq, hce, hcv, vx_cls hW₁ hcl, st⟩
end Runs
section Rows
variable {p : Program} {l : Launch} {e : Env} {R : Room} {s : State} {m : MethodId} {args : Array Value} {below : List Frame} {meth : Method} {c : Code} {H : Heap} {locs : List Loc} {cells slots : Nat} {Q : State → Prop}
variable {mc ms : Nat} {free : Addr → Prop} {A0 A1 : Nat → Prop} {H0 : Heap} {a : Array Value} {pc : Nat} {ls : Array Slot} {st0 rest : List Value}
theorem vx_keep {st₀ t T' : State} {L : List Loc} (h0 : st₀.heap = H) (e1 : T'.heap = t.heap) (hS : va_S A0 H0 H locs) (hA : ∀ q, q < H.size → A1 q → A0 q) (hf : ∀ q, free q → A0 q) (hL : ∀ q ∈ L, free q.base) (hF : va_F A1 st₀ t) :
    H.size ≤ T'.heap.size ∧ (∀ q : Nat, q < H.size → ¬ A1 q → T'.heap[q]? = H[q]?) ∧ va_S A0 H0 T'.heap (locs ++ L) := by
  obtain ⟨hz, hk⟩ := hF
  rw [h0] at hz hk
  exact ⟨by rw [e1]; exact hz, fun q h1 h2 => by rw [e1]; exact hk q h1 h2,
    ⟨Nat.le_trans hS.1 (by rw [e1]; exact hz), fun q h1 h2 => by rw [e1, hk q (Nat.lt_of_lt_of_le h1 hS.1) (fun z => h2 (hA q (Nat.lt_of_lt_of_le h1 hS.1) z))]; exact hS.2.1 q h1 h2, fun q hq => by
      rcases List.mem_append.mp hq with h | h
      · exact hS.2.2 q h
      · exact hf _ (hL q h)⟩⟩
theorem vx_calli {S SX : Type} {post : Int32 → S → Prop} {px : SX → Prop} {B : S → State → Prop} {BX : String → SX → State → Prop} {AX : Nat → Prop} (hr : vx_Run p l e R s m args below meth c H locs cells slots mc ms (F0 m pc ls st0) rest (va_Qi post B A1 a) (vx_X px BX AX) free) (hS : va_S A0 H0 H locs) (hA : ∀ q, q < H.size → A1 q → A0 q) (hf : ∀ q, free q → A0 q) (hAX : ∀ q, q < H.size → AX q → A0 q)
    (kx : ∀ (E : String) (ce : Cell) (q9 : Addr) (u : SX) (t : State) (H1 : Heap) (locs1 : List Loc), t.heap = H1 → s.vm.Alike t.vm → px u → BX E u t → H.size ≤ H1.size → (∀ q : Nat, q < H.size → ¬ AX q → H1[q]? = H[q]?) → va_S A0 H0 H1 locs1 → H1[q9]? = some ce → ce.vm = .none → s.vm.findClass E = some ce.cls → vx_W p l e R s m args below meth c H1 locs1 (cells + mc) (slots + ms) Q (F0 m pc ls rest) q9)
    (kk : ∀ (r : Int32) (u : S) (t : State) (H1 : Heap) (locs1 : List Loc), t.heap = H1 → s.vm.Alike t.vm → post r u → B u t → H.size ≤ H1.size → (∀ q : Nat, q < H.size → ¬ A1 q → H1[q]? = H[q]?) → va_S A0 H0 H1 locs1 → W p l e R s m args below meth c H1 locs1 (cells + mc) (slots + ms) Q (F0 m (pc + 3) ls (.int r :: rest))) : W p l e R s m args below meth c H locs cells slots Q (F0 m pc ls st0) := by
  intro T hT X
  rcases hr T hT X with ⟨v, st₀, t, T', L, h0, X', hL, e1, e2, ⟨⟨r, u, hv, hp, hb⟩, hF⟩, st⟩ | ⟨q, st₀, t, T', L, E, ce, h0, X', hL, e1, e2, ⟨u, hp, hb, hF⟩, hce, hcv, hcl, st⟩
  · cases hv
    obtain ⟨k1, k2, k3⟩ := vx_keep h0 e1 hS hA hf hL hF
    obtain ⟨t2, a1, b1⟩ := kk r u t T'.heap (locs ++ L) e1.symm (by rw [← e2]; exact X'.warmed.alike) hp hb k1 k2 k3 T' rfl X'
    exact ⟨t2, st t2 a1, b1⟩
  · obtain ⟨k1, k2, k3⟩ := vx_keep h0 e1 hS hAX hf hL hF
    obtain ⟨t2, a1, b1⟩ := kx E ce q u t T'.heap (locs ++ L) e1.symm (by rw [← e2]; exact X'.warmed.alike) hp hb k1 k2 k3 (by rw [e1]; exact hce) hcv hcl T' rfl X'
    exact ⟨t2, st.trans a1, b1⟩
theorem vx_calll {S SX : Type} {post : Int64 → S → Prop} {px : SX → Prop} {B : S → State → Prop} {BX : String → SX → State → Prop} {AX : Nat → Prop} (hr : vx_Run p l e R s m args below meth c H locs cells slots mc ms (F0 m pc ls st0) rest (va_Ql post B A1 a) (vx_X px BX AX) free) (hS : va_S A0 H0 H locs) (hA : ∀ q, q < H.size → A1 q → A0 q) (hf : ∀ q, free q → A0 q) (hAX : ∀ q, q < H.size → AX q → A0 q)
    (kx : ∀ (E : String) (ce : Cell) (q9 : Addr) (u : SX) (t : State) (H1 : Heap) (locs1 : List Loc), t.heap = H1 → s.vm.Alike t.vm → px u → BX E u t → H.size ≤ H1.size → (∀ q : Nat, q < H.size → ¬ AX q → H1[q]? = H[q]?) → va_S A0 H0 H1 locs1 → H1[q9]? = some ce → ce.vm = .none → s.vm.findClass E = some ce.cls → vx_W p l e R s m args below meth c H1 locs1 (cells + mc) (slots + ms) Q (F0 m pc ls rest) q9)
    (kk : ∀ (r : Int64) (u : S) (t : State) (H1 : Heap) (locs1 : List Loc), t.heap = H1 → s.vm.Alike t.vm → post r u → B u t → H.size ≤ H1.size → (∀ q : Nat, q < H.size → ¬ A1 q → H1[q]? = H[q]?) → va_S A0 H0 H1 locs1 → W p l e R s m args below meth c H1 locs1 (cells + mc) (slots + ms) Q (F0 m (pc + 3) ls (.long r :: rest))) : W p l e R s m args below meth c H locs cells slots Q (F0 m pc ls st0) := by
  intro T hT X
  rcases hr T hT X with ⟨v, st₀, t, T', L, h0, X', hL, e1, e2, ⟨⟨r, u, hv, hp, hb⟩, hF⟩, st⟩ | ⟨q, st₀, t, T', L, E, ce, h0, X', hL, e1, e2, ⟨u, hp, hb, hF⟩, hce, hcv, hcl, st⟩
  · cases hv
    obtain ⟨k1, k2, k3⟩ := vx_keep h0 e1 hS hA hf hL hF
    obtain ⟨t2, a1, b1⟩ := kk r u t T'.heap (locs ++ L) e1.symm (by rw [← e2]; exact X'.warmed.alike) hp hb k1 k2 k3 T' rfl X'
    exact ⟨t2, st t2 a1, b1⟩
  · obtain ⟨k1, k2, k3⟩ := vx_keep h0 e1 hS hAX hf hL hF
    obtain ⟨t2, a1, b1⟩ := kx E ce q u t T'.heap (locs ++ L) e1.symm (by rw [← e2]; exact X'.warmed.alike) hp hb k1 k2 k3 (by rw [e1]; exact hce) hcv hcl T' rfl X'
    exact ⟨t2, st.trans a1, b1⟩
theorem vx_callf {S SX : Type} {post : UInt32 → S → Prop} {px : SX → Prop} {B : S → State → Prop} {BX : String → SX → State → Prop} {AX : Nat → Prop} (hr : vx_Run p l e R s m args below meth c H locs cells slots mc ms (F0 m pc ls st0) rest (va_Qf post B A1 a) (vx_X px BX AX) free) (hS : va_S A0 H0 H locs) (hA : ∀ q, q < H.size → A1 q → A0 q) (hf : ∀ q, free q → A0 q) (hAX : ∀ q, q < H.size → AX q → A0 q)
    (kx : ∀ (E : String) (ce : Cell) (q9 : Addr) (u : SX) (t : State) (H1 : Heap) (locs1 : List Loc), t.heap = H1 → s.vm.Alike t.vm → px u → BX E u t → H.size ≤ H1.size → (∀ q : Nat, q < H.size → ¬ AX q → H1[q]? = H[q]?) → va_S A0 H0 H1 locs1 → H1[q9]? = some ce → ce.vm = .none → s.vm.findClass E = some ce.cls → vx_W p l e R s m args below meth c H1 locs1 (cells + mc) (slots + ms) Q (F0 m pc ls rest) q9)
    (kk : ∀ (r : UInt32) (u : S) (t : State) (H1 : Heap) (locs1 : List Loc), t.heap = H1 → s.vm.Alike t.vm → post r u → B u t → H.size ≤ H1.size → (∀ q : Nat, q < H.size → ¬ A1 q → H1[q]? = H[q]?) → va_S A0 H0 H1 locs1 → W p l e R s m args below meth c H1 locs1 (cells + mc) (slots + ms) Q (F0 m (pc + 3) ls (.float r :: rest))) : W p l e R s m args below meth c H locs cells slots Q (F0 m pc ls st0) := by
  intro T hT X
  rcases hr T hT X with ⟨v, st₀, t, T', L, h0, X', hL, e1, e2, ⟨⟨r, u, hv, hp, hb⟩, hF⟩, st⟩ | ⟨q, st₀, t, T', L, E, ce, h0, X', hL, e1, e2, ⟨u, hp, hb, hF⟩, hce, hcv, hcl, st⟩
  · cases hv
    obtain ⟨k1, k2, k3⟩ := vx_keep h0 e1 hS hA hf hL hF
    obtain ⟨t2, a1, b1⟩ := kk r u t T'.heap (locs ++ L) e1.symm (by rw [← e2]; exact X'.warmed.alike) hp hb k1 k2 k3 T' rfl X'
    exact ⟨t2, st t2 a1, b1⟩
  · obtain ⟨k1, k2, k3⟩ := vx_keep h0 e1 hS hAX hf hL hF
    obtain ⟨t2, a1, b1⟩ := kx E ce q u t T'.heap (locs ++ L) e1.symm (by rw [← e2]; exact X'.warmed.alike) hp hb k1 k2 k3 (by rw [e1]; exact hce) hcv hcl T' rfl X'
    exact ⟨t2, st.trans a1, b1⟩
theorem vx_calld {S SX : Type} {post : UInt64 → S → Prop} {px : SX → Prop} {B : S → State → Prop} {BX : String → SX → State → Prop} {AX : Nat → Prop} (hr : vx_Run p l e R s m args below meth c H locs cells slots mc ms (F0 m pc ls st0) rest (va_Qd post B A1 a) (vx_X px BX AX) free) (hS : va_S A0 H0 H locs) (hA : ∀ q, q < H.size → A1 q → A0 q) (hf : ∀ q, free q → A0 q) (hAX : ∀ q, q < H.size → AX q → A0 q)
    (kx : ∀ (E : String) (ce : Cell) (q9 : Addr) (u : SX) (t : State) (H1 : Heap) (locs1 : List Loc), t.heap = H1 → s.vm.Alike t.vm → px u → BX E u t → H.size ≤ H1.size → (∀ q : Nat, q < H.size → ¬ AX q → H1[q]? = H[q]?) → va_S A0 H0 H1 locs1 → H1[q9]? = some ce → ce.vm = .none → s.vm.findClass E = some ce.cls → vx_W p l e R s m args below meth c H1 locs1 (cells + mc) (slots + ms) Q (F0 m pc ls rest) q9)
    (kk : ∀ (r : UInt64) (u : S) (t : State) (H1 : Heap) (locs1 : List Loc), t.heap = H1 → s.vm.Alike t.vm → post r u → B u t → H.size ≤ H1.size → (∀ q : Nat, q < H.size → ¬ A1 q → H1[q]? = H[q]?) → va_S A0 H0 H1 locs1 → W p l e R s m args below meth c H1 locs1 (cells + mc) (slots + ms) Q (F0 m (pc + 3) ls (.double r :: rest))) : W p l e R s m args below meth c H locs cells slots Q (F0 m pc ls st0) := by
  intro T hT X
  rcases hr T hT X with ⟨v, st₀, t, T', L, h0, X', hL, e1, e2, ⟨⟨r, u, hv, hp, hb⟩, hF⟩, st⟩ | ⟨q, st₀, t, T', L, E, ce, h0, X', hL, e1, e2, ⟨u, hp, hb, hF⟩, hce, hcv, hcl, st⟩
  · cases hv
    obtain ⟨k1, k2, k3⟩ := vx_keep h0 e1 hS hA hf hL hF
    obtain ⟨t2, a1, b1⟩ := kk r u t T'.heap (locs ++ L) e1.symm (by rw [← e2]; exact X'.warmed.alike) hp hb k1 k2 k3 T' rfl X'
    exact ⟨t2, st t2 a1, b1⟩
  · obtain ⟨k1, k2, k3⟩ := vx_keep h0 e1 hS hAX hf hL hF
    obtain ⟨t2, a1, b1⟩ := kx E ce q u t T'.heap (locs ++ L) e1.symm (by rw [← e2]; exact X'.warmed.alike) hp hb k1 k2 k3 (by rw [e1]; exact hce) hcv hcl T' rfl X'
    exact ⟨t2, st.trans a1, b1⟩
theorem vx_callv {S SX : Type} {post : S → Prop} {px : SX → Prop} {B : S → State → Prop} {BX : String → SX → State → Prop} {AX : Nat → Prop} (hr : vx_Run p l e R s m args below meth c H locs cells slots mc ms (F0 m pc ls st0) rest (va_Qv post B A1 a) (vx_X px BX AX) free) (hS : va_S A0 H0 H locs) (hA : ∀ q, q < H.size → A1 q → A0 q) (hf : ∀ q, free q → A0 q) (hAX : ∀ q, q < H.size → AX q → A0 q)
    (kx : ∀ (E : String) (ce : Cell) (q9 : Addr) (u : SX) (t : State) (H1 : Heap) (locs1 : List Loc), t.heap = H1 → s.vm.Alike t.vm → px u → BX E u t → H.size ≤ H1.size → (∀ q : Nat, q < H.size → ¬ AX q → H1[q]? = H[q]?) → va_S A0 H0 H1 locs1 → H1[q9]? = some ce → ce.vm = .none → s.vm.findClass E = some ce.cls → vx_W p l e R s m args below meth c H1 locs1 (cells + mc) (slots + ms) Q (F0 m pc ls rest) q9)
    (kk : ∀ (u : S) (t : State) (H1 : Heap) (locs1 : List Loc), t.heap = H1 → s.vm.Alike t.vm → post u → B u t → H.size ≤ H1.size → (∀ q : Nat, q < H.size → ¬ A1 q → H1[q]? = H[q]?) → va_S A0 H0 H1 locs1 → W p l e R s m args below meth c H1 locs1 (cells + mc) (slots + ms) Q (F0 m (pc + 3) ls (rest))) : W p l e R s m args below meth c H locs cells slots Q (F0 m pc ls st0) := by
  intro T hT X
  rcases hr T hT X with ⟨v, st₀, t, T', L, h0, X', hL, e1, e2, ⟨⟨u, hv, hp, hb⟩, hF⟩, st⟩ | ⟨q, st₀, t, T', L, E, ce, h0, X', hL, e1, e2, ⟨u, hp, hb, hF⟩, hce, hcv, hcl, st⟩
  · cases hv
    obtain ⟨k1, k2, k3⟩ := vx_keep h0 e1 hS hA hf hL hF
    obtain ⟨t2, a1, b1⟩ := kk u t T'.heap (locs ++ L) e1.symm (by rw [← e2]; exact X'.warmed.alike) hp hb k1 k2 k3 T' rfl X'
    exact ⟨t2, st t2 a1, b1⟩
  · obtain ⟨k1, k2, k3⟩ := vx_keep h0 e1 hS hAX hf hL hF
    obtain ⟨t2, a1, b1⟩ := kx E ce q u t T'.heap (locs ++ L) e1.symm (by rw [← e2]; exact X'.warmed.alike) hp hb k1 k2 k3 (by rw [e1]; exact hce) hcv hcl T' rfl X'
    exact ⟨t2, st.trans a1, b1⟩
/-- caught by the first row of this method's table -/
theorem mc_catch {own name : String} {E : String} {ce : Cell} {q : Addr} (hown : s.vm.findClass own = some m.cls) (x : ExceptionTableEntry) (suf : List ExceptionTableEntry) (hsplit : c.exceptionTable.toList = x :: suf)
    (hx : covers x pc = true) (h0 : x.catchType ≠ 0) (hlink : (Cond.classLink own x.catchType name).before args s = true) (hcast : (Cond.castable E name).before args s = true) (hcell : H[q]? = some ce) (hv : ce.vm = .none) (hcl : s.vm.findClass E = some ce.cls)
    (kk : W p l e R s m args below meth c H locs cells slots Q (F0 m x.handlerPc ls [.ref q])) : vx_W p l e R s m args below meth c H locs cells slots Q (F0 m pc ls rest) q := by
  intro T hT X
  have hpl : e.platform.magicAccessors = ({} : Platform).magicAccessors := by rw [X.admits.platform]
  obtain ⟨c3, cT, hc3, hcT, hasg⟩ := Cond.castable_spec hcast
  cases Option.some.inj (hc3.symm.trans hcl)
  obtain ⟨c5, hc5, hln⟩ := Cond.classLink_spec hown hlink e.platform hpl
  cases Option.some.inj (hcT.symm.trans hc5)
  obtain ⟨dk, _, _, kt, hd, _, _, _, _, hkt, _, hopen⟩ := hln.here
  have hlT := X.warmed.classLinks hln
  have hWn : s.WarmedH (T.vm.noted m.cls x.catchType (.cls cT)) := X.warmed.noted hd hopen (State.rightAt_cls hln)
  have hal := X.warmed.alike
  obtain ⟨k9, h9, -⟩ := Vm.findClass_spec hcl
  obtain ⟨kc, hkc, -⟩ := hal.2.2 _ _ h9
  obtain ⟨kt2, hkt2, -⟩ := hal.2.2 _ _ hkt
  have hfit : T.vm.assignable ce.cls cT = true := by rw [hal.assignable]; exact hasg
  have hcT2 : T.heap[q]? = some ce := by rw [hT]; exact hcell
  have hst : ∀ k, ce.vm ≠ .statics k := VmData.ne_statics_of (by rw [hv]; rfl)
  have hal2 : T.vm.Alike (T.vm.noted m.cls x.catchType (.cls cT)) := (Vm.Alike.refl T.vm).noted _ _ _
  obtain ⟨kc3, hkc3, -⟩ := hal2.2.2 _ _ hkc
  obtain ⟨kt3, hkt3, -⟩ := hal2.2.2 _ _ hkt2
  have hfit3 : (T.vm.noted m.cls x.catchType (.cls cT)).assignable ce.cls cT = true := by rw [hal2.assignable]; exact hfit
  obtain ⟨ha, ht⟩ := (resolveClass_links e.toSetting hlT).op (op := VmOp.resolveClass m.cls x.catchType) rfl
  have hm9 : T.vm.method? m = some meth := X.method'
  obtain ⟨S, hSe⟩ : ∃ z, z = (T.setTop (F0 m pc ls rest)).pushFrame (.throwing q) := ⟨_, rfl⟩
  have hSv : S.vm = T.vm := by rw [hSe]; exact Stand.throwing_vm T _ q
  have hSh : S.heap = T.heap := by rw [hSe]; exact Stand.throwing_heap T _ q
  have hfind : ∀ (Q : Handler → Pre) (E : CtlPost) (d : Bool) (acts : List Action), wp (findHandler (F0 m pc ls rest) q) Q E e d acts S ↔ Q (.found x.handlerPc) d acts (S.setVm (T.vm.noted m.cls x.catchType (.cls cT))) := by
    intro Q E d acts
    rw [W.findHandler_eq (meth := meth) (code := c) (by rw [hSv]; exact hm9) X.code, hsplit]
    simp only [covers] at hx
    rw [← hSv] at ha ht hkc3 hkt3 hfit3 ⊢
    rw [← hSh] at hcT2
    simp [findHandler.go, F0, hx, h0, ha, ht, hcT2, hst, hkc3, hkt3, hfit3, VmOp.dirties, VmOp.acts]
  obtain ⟨t, a1, b1⟩ := kk (T.setVm (T.vm.noted m.cls x.catchType (.cls cT))) hT (X.noted hWn)
  refine ⟨t, ?_, b1⟩
  obtain ⟨hgo, hw⟩ := X.here.throwing (g := F0 m pc ls rest) q
  refine Steps.head hgo hw ?_
  obtain ⟨g0, hg0⟩ := Option.isSome_iff_exists.mp X.here.top
  obtain ⟨r, hr⟩ := State.topJava?_eq_some.mp hg0
  have hstep : (stepThrowing e S q (.java (F0 m pc ls rest) :: r)).1 = (S.setVm (T.vm.noted m.cls x.catchType (.cls cT))).setFrames (.java { (F0 m pc ls rest) with pc := x.handlerPc, stack := [.ref q] } :: r) := by
    simp only [stepThrowing, searchFrame, vmDo]
    generalize hres : Sem.go _ e false [] S = res
    obtain ⟨as, rfl, ha9⟩ := Sem.eq_ok_of hres (a := Handler.found x.handlerPc) (s' := S.setVm (T.vm.noted m.cls x.catchType (.cls cT))) (acts' := []) (by simp [hfind _ _ _ _])
    rfl
  rw [stepThread_throwing (frames_entered X.here.top _), hr, List.tail_cons, ← hSe, hstep, hSe]
  have hr2 : (T.setVm (T.vm.noted m.cls x.catchType (.cls cT))).frames = .java g0 :: r := hr
  rw [State.setTop_of_frames _ hr2] at a1
  have hfr : ∀ (u : State) (v : Vm) (F G : List Frame), ((u.setFrames F).setVm v).setFrames G = (u.setVm v).setFrames G := fun u v F G => by
    have h1 : (u.setFrames F).setVm v = (u.setVm v).setFrames F := rfl
    rw [h1, State.setFrames_setFrames]
  rw [State.pushFrame, hfr, State.setTop_of_frames _ hr, hfr]
  exact a1
end Rows
section Ends
variable {p : Program} {l : Launch} {e : Env} {R : Room} {s : State} {m : MethodId} {args : Array Value} {below : List Frame} {meth : Method} {c : Code} {H : Heap} {locs : List Loc} {cells slots : Nat} {Q : State → Prop}
variable {mc ms : Nat} {free : Addr → Prop} {A0 A1 : Nat → Prop} {H0 : Heap} {a : Array Value} {ls : Array Slot} {st0 rest : List Value}
variable {Qc : Array Value → State → Outcome → State → Prop} {XC : String → State → State → Prop}
/-- what a body that may throw owes at its end -/
def vx_MQ (below : List Frame) (Qc : Array Value → State → Outcome → State → Prop) (XC : String → State → State → Prop) (a : Array Value) (s : State) (mc ms : Nat) (free : Addr → Prop) : State → Prop := fun t =>
  ∃ o, t.status = .running ∧ Ended t below o ∧ vx_Q Qc XC mc ms free a s o t
theorem vx_ret {g : JFrame} {mc ms : Nat} (k : W p l e R s m args below meth c H locs cells slots (MQ below Qc args s mc ms free) g) : W p l e R s m args below meth c H locs cells slots (vx_MQ below Qc XC args s mc ms free) g := by
  intro T hT X
  obtain ⟨t, a1, o, b1, b2, b3, b4⟩ := k T hT X
  exact ⟨t, a1, o, b1, b2, Or.inl ⟨b3, b4⟩⟩
/-- not caught here: it goes on to the caller -/
theorem vx_widen {g : JFrame} {q : Addr} {k n : Nat} (h1 : cells ≤ k) (h2 : slots ≤ n) (kk : vx_W p l e R s m args below meth c H locs k n Q g q) : vx_W p l e R s m args below meth c H locs cells slots Q g q := fun T hT X => kk T hT (stand_widen X h1 h2)
theorem vx_out {pc : Nat} {E : String} {ce : Cell} {q : Addr} {mc ms : Nat} (hout : ∀ x ∈ c.exceptionTable.toList, covers x pc = false) (hlocks : meth.locks = false) (hcell : H[q]? = some ce) (hv : ce.vm = .none) (hcl : s.vm.findClass E = some ce.cls)
    (hx : ∀ t : State, t.heap = H → s.vm.Alike t.vm → XC E s t) (hf : ∀ z ∈ locs, free z.base) (hc : cells ≤ mc) (hs : slots ≤ ms) :
    vx_W p l e R s m args below meth c H locs cells slots (vx_MQ below Qc XC args s mc ms free) (F0 m pc ls rest) q := by
  intro T hT X
  obtain ⟨st1, hrun, hend, hW, hsm⟩ := X.leaveThrown q (g := F0 m pc ls rest) rfl rfl rfl hout hlocks
  have hcell9 : (T.setFrames (.throwing q :: below)).heap[q]? = some ce := by
    show T.heap[q]? = some ce
    rw [hT]; exact hcell
  exact ⟨_, st1, .threw q, hrun, hend, Or.inr ⟨q, rfl, E, ce, locs, hx _ hT hW.alike, hcell9, hv, hcl, hW, hsm.mono hc hs, hf⟩⟩
theorem vx_frame {U : State} {k n : Nat} (h : s.sameButNew ({ U with vm := s.vm } : State) locs k n) : s.heap.size ≤ U.heap.size ∧ ∀ q : Nat, q < s.heap.size → (∀ z ∈ locs, z.base ≠ q) → U.heap[q]? = s.heap[q]? := by
  obtain ⟨-, h2, -, -, -, h6⟩ := h
  refine ⟨h2, fun q hq hz => ?_⟩
  obtain ⟨c9, e1, e2, e3, e4⟩ := h6 q _ (Array.getElem?_eq_getElem hq)
  have hs : c9.slots = (s.heap[q]).slots := Array.ext_getElem? fun i => e4 i fun hm => hz _ hm rfl
  have h9 : c9 = s.heap[q] := by
    rw [hs] at e2
    exact e2
  have e5 : U.heap[q]? = some c9 := e1
  rw [e5, h9, Array.getElem?_eq_getElem hq]
/-- the words of a throw but the four that speak of the heap -/
def vx_no (w : Cond) : Bool := decide (w ≠ .isRef (.static Bundle.tN "UNASSIGNED_STACK" Bundle.steD)) && decide (w ≠ .isRef (.static Bundle.tN "SUPPRESSED_SENTINEL" Bundle.listD)) && decide (w ≠ .laysStatic Bundle.tN "UNASSIGNED_STACK" Bundle.steD) && decide (w ≠ .laysStatic Bundle.tN "SUPPRESSED_SENTINEL" Bundle.listD)
def vx_at0 (own : String) (ic : Nat) (X : String) (names : List String) : List Cond := (Bundle.ownAtoms0 own ic X names).filter vx_no
def vx_atS (own : String) (ic : Nat) (X : String) (names : List String) : List Cond := (Bundle.ownAtoms own ic X names).filter vx_no
/-- a word that the tables alone decide, or a good one -/
def vx_ot (w : Cond) : Bool := w.onTables || goodWord w
theorem vx_ot_at {args a' : Array Value} {s U : State} {w : Cond} (hW : s.WarmedH U.vm) (hvm : s.vm = U.vm) (hg : vx_ot w = true) (h : w.before args s = true) : w.before a' U = true := by
  simp only [vx_ot, Bool.or_eq_true] at hg
  rcases hg with hg | hg
  · exact va_tabs hg hvm h
  · exact word_at hW (good_of_word hg) h
/-- a list's words: the good ones out of the method's own list, the others by premises of their own -/
theorem vx_hat {args : Array Value} {s : State} {L B : List Cond} (h1 : ∀ w ∈ L.filter goodWord, w.before args s = true) (h2 : ∀ w ∈ L.filter (fun w => !goodWord w), w ∈ B) (h3 : ∀ w ∈ B, w.before args s = true) : ∀ w ∈ L, w.before args s = true := by
  intro w hw
  by_cases g : goodWord w = true
  · exact h1 w (List.mem_filter.mpr ⟨hw, g⟩)
  · refine h3 w (h2 w (List.mem_filter.mpr ⟨hw, ?_⟩))
    show (!goodWord w) = true
    cases hgw : goodWord w
    · rfl
    · exact absurd hgw g
theorem vx_c {args : Array Value} {s : State} {w : Cond} {B : List Cond} (h : w.before args s = true) (t : ∀ w ∈ B, w.before args s = true) : ∀ w' ∈ w :: B, w'.before args s = true := fun w' h' => (List.mem_cons.mp h').elim (fun e => by rw [e]; exact h) (t w')
theorem vx_n {args : Array Value} {s : State} : ∀ w ∈ ([] : List Cond), w.before args s = true := fun _ h => nomatch h
theorem vx_own {args : Array Value} {s : State} {L : List Cond} (h1 : ∀ w ∈ L.filter vx_no, w.before args s = true)
    (hU : (Cond.isRef (.static Bundle.tN "UNASSIGNED_STACK" Bundle.steD)).before args s = true) (hN : (Cond.isRef (.static Bundle.tN "SUPPRESSED_SENTINEL" Bundle.listD)).before args s = true)
    (lU : (Cond.laysStatic Bundle.tN "UNASSIGNED_STACK" Bundle.steD).before args s = true) (lN : (Cond.laysStatic Bundle.tN "SUPPRESSED_SENTINEL" Bundle.listD).before args s = true) : ∀ w ∈ L, w.before args s = true := by
  intro w hw
  by_cases e1 : w = .isRef (.static Bundle.tN "UNASSIGNED_STACK" Bundle.steD)
  · rw [e1]; exact hU
  · by_cases e2 : w = .isRef (.static Bundle.tN "SUPPRESSED_SENTINEL" Bundle.listD)
    · rw [e2]; exact hN
    · by_cases e3 : w = .laysStatic Bundle.tN "UNASSIGNED_STACK" Bundle.steD
      · rw [e3]; exact lU
      · by_cases e4 : w = .laysStatic Bundle.tN "SUPPRESSED_SENTINEL" Bundle.listD
        · rw [e4]; exact lN
        · exact h1 w (List.mem_filter.mpr ⟨hw, by unfold vx_no; rw [decide_eq_true e1, decide_eq_true e2, decide_eq_true e3, decide_eq_true e4]; rfl⟩)
/-- where a static field lies, its class's statics cell in H -/
def vx_L (C n d : String) (A : Nat → Prop) (U : State) (H : Heap) : Prop := ∃ (c : ClassId) (k : Class) (i : Nat) (f : Field) (a : Nat) (cell : Cell), U.vm.findClass C = some c ∧ U.fieldFound? C n d = some (c, k, i, f) ∧ f.isStatic = true ∧ k.statics = some a ∧ H[a]? = some cell ∧ cell.vm.isStatics = true ∧ cell.cls = c ∧ f.slot < cell.slots.size ∧ k.staticTypes[f.slot]? = some f.type ∧ ¬ A a
theorem vx_L.moved {C n d : String} {A : Nat → Prop} {u U : State} {H : Heap} (hvm : u.vm.Alike U.vm) (h : vx_L C n d A u H) : vx_L C n d A U H := by
  obtain ⟨c, k, i, f, a, cell, h1, h2, h3, h4, h5, h6, h7, h8, h9, h10⟩ := h
  obtain ⟨k', hi', he⟩ := State.fieldFound?_setVm hvm h2
  exact ⟨c, k', i, f, a, cell, by rw [hvm.findClass]; exact h1, hi', h3, by rw [he]; exact h4, h5, h6, h7, h8, by rw [he]; exact h9, h10⟩
theorem vx_L.kept {C n d : String} {A : Nat → Prop} {U : State} {H H1 : Heap} (h : vx_L C n d A U H) (hq : ∀ a : Nat, a < H.size → ¬ A a → H1[a]? = H[a]?) : vx_L C n d A U H1 := by
  obtain ⟨c, k, i, f, a, cell, h1, h2, h3, h4, h5, h6, h7, h8, h9, h10⟩ := h
  exact ⟨c, k, i, f, a, cell, h1, h2, h3, h4, by rw [hq a (Array.getElem?_eq_some_iff.mp h5).1 h10]; exact h5, h6, h7, h8, h9, h10⟩
theorem vx_L.narrow {C n d : String} {A B : Nat → Prop} {U : State} {H : Heap} (h : vx_L C n d A U H) (hAB : ∀ q, B q → A q) : vx_L C n d B U H := by
  obtain ⟨c, k, i, f, a, cell, h1, h2, h3, h4, h5, h6, h7, h8, h9, h10⟩ := h
  exact ⟨c, k, i, f, a, cell, h1, h2, h3, h4, h5, h6, h7, h8, h9, fun z => h10 (hAB _ z)⟩
theorem vx_L.word {C n d : String} {A : Nat → Prop} {s : State} {args : Array Value} (h : vx_L C n d A s s.heap) : (Cond.laysStatic C n d).before args s = true := by
  obtain ⟨c, k, i, f, a, cell, h1, h2, h3, h4, h5, h6, h7, h8, h9, -⟩ := h
  show (Cond.laysStatic C n d).holds args s none s [] = true
  exact Cond.laysStatic_of h1 h2 h3 h4 h5 h6 h7 h8 h9
/-- .. and what it holds: null or some reference -/
def vx_Zq (C n d : String) (A : Nat → Prop) (U : State) (H : Heap) : Prop := va_Zq C n d A U H ∧ vx_L C n d A U H
theorem vx_Zq.moved {C n d : String} {A : Nat → Prop} {u U : State} {H : Heap} (hvm : u.vm.Alike U.vm) (h : vx_Zq C n d A u H) : vx_Zq C n d A U H := ⟨va_Zq.moved hvm h.1, vx_L.moved hvm h.2⟩
theorem vx_Zq.kept {C n d : String} {A : Nat → Prop} {U : State} {H H1 : Heap} (h : vx_Zq C n d A U H) (hq : ∀ a : Nat, a < H.size → ¬ A a → H1[a]? = H[a]?) : vx_Zq C n d A U H1 := ⟨va_Zq.kept h.1 hq, vx_L.kept h.2 hq⟩
theorem vx_Zq.narrow {C n d : String} {A B : Nat → Prop} {U : State} {H : Heap} (h : vx_Zq C n d A U H) (hAB : ∀ q, B q → A q) : vx_Zq C n d B U H := ⟨va_Zq.narrow h.1 hAB, vx_L.narrow h.2 hAB⟩
theorem vx_Zqof {args : Array Value} {s : State} {C n d : String} {A : Nat → Prop} (hl : (Cond.laysStatic C n d).before args s = true) (hini : (Cond.initialized C).before args s = true) (h : (Cond.isRef (.static C n d)).before args s = true) (hA : ∀ a : Nat, a < s.heap.size → ¬ A a) : vx_Zq C n d A s s.heap := by
  refine ⟨va_Zqof hl hini h hA, ?_⟩
  obtain ⟨c, k, i, f, a, cell, h1, h2, h3, h4, h5, h6, h7, h8, h9⟩ := Cond.laysStatic_spec hl
  exact ⟨c, k, i, f, a, cell, h1, h2, h3, h4, h5, h6, h7, h8, h9, hA a (Array.getElem?_eq_some_iff.mp h5).1⟩
theorem vx_isRef {C n d : String} {v : Value} {A : Nat → Prop} {s : State} {args : Array Value} (h : va_Z C n d v A s s.heap) (hv : v.isRef = true) : (Cond.isRef (.static C n d)).before args s = true := by
  obtain ⟨cf, kf, fi, f, a, cell, h1, h2, h3, h4, h5, h6, h7, -⟩ := h
  have he : (Term.static C n d).eval args s none [] s = some v := by
    simp [Term.eval, State.fieldNamed?, h1, h2, h4, h5, h6, h7]
  simp only [Cond.before, Cond.holds, Cond.value, he]
  cases v <;> simp_all [Value.isRef]
theorem vx_isRefq {C n d : String} {A : Nat → Prop} {s : State} {args : Array Value} (h : va_Zq C n d A s s.heap) : (Cond.isRef (.static C n d)).before args s = true := by
  rcases h with h | ⟨t, h⟩
  · exact vx_isRef h rfl
  · exact vx_isRef h rfl
/-- the same frame, seen from here: as if the method were called anew in this heap -/
theorem vx_rebase {T : State} (X : Stand p l e R s m args below meth c T locs cells slots) {R' : Room} (hf : R'.frames ≤ R.frames) (hl : R'.locals ≤ R.locals) (hc : cells + R'.cells ≤ R.cells) (hs : slots + R'.slots ≤ R.slots) :
    Stand p l e R' ((T.setVm s.vm).setFrames (.invoking m args :: below)) m args below meth c T [] 0 0 := by
  have htop : (T.setVm s.vm).topJava?.isSome := X.here.top
  have hF : ((T.setVm s.vm).setFrames (.invoking m args :: below)).frames = .invoking m args :: below := State.frames_setFrames _ (State.cur_lt_of_top htop)
  obtain ⟨g₀, hg0⟩ := Option.isSome_iff_exists.mp htop
  obtain ⟨r, hr⟩ := State.topJava?_eq_some.mp hg0
  have hl9 : e.platform.stackLimits (T.setVm s.vm).me = e.platform.stackLimits s.me := X.limits
  have hb9 : (T.setVm s.vm).me.stackBytes = s.me.stackBytes := X.bytes
  refine ⟨X.admits, X.cas, X.clock, hF, ?_, X.hears, X.method, X.code, X.here, X.tail, X.warmed, ?_, ?_, ?_⟩
  · have h := X.room
    have hU : ((T.setVm s.vm).setFrames (.invoking m args :: below)).localsInUse = s.localsInUse := by
      rw [State.localsInUse_invoking hF (meth := meth) (c := c) X.method X.code, State.localsInUse_invoking X.frames X.method X.code]
    simp only [State.hasRoom, Bool.and_eq_true, decide_eq_true_eq] at h ⊢
    obtain ⟨⟨⟨⟨h1, h2, h3, h4, h5, h6⟩, h7⟩, h8⟩, h9⟩ := h
    rw [X.frames, List.length_cons] at h2 h3
    have q1 := X.heapSize
    have q2 := X.used
    simp only [hF, hU, List.length_cons, State.stackLimits_setFrames, State.stackBytes_setFrames, hl9, hb9]
    refine ⟨⟨⟨⟨by omega, by omega, by omega, by omega, by omega, h6⟩, ?_⟩, ?_⟩, X.book⟩
    · show T.heap.size + R'.cells ≤ e.platform.maxCells
      omega
    · show T.slotsUsed + R'.slots ≤ e.platform.maxSlots
      omega
  · rw [State.stackLimits_setFrames]; rfl
  · rw [State.stackBytes_setFrames]; rfl
  · refine ⟨?_, Nat.le_refl _, Nat.le_refl _, ?_, ?_, fun a c9 h9 => ⟨c9, h9, rfl, rfl, fun _ _ => rfl⟩⟩
    · obtain ⟨t, ht, -⟩ := State.frames_cons hr
      show T.setVm s.vm = { ((T.setVm s.vm).setFrames (.invoking m args :: below)).setFrames (T.setVm s.vm).frames with heap := T.heap, slotsUsed := T.slotsUsed }
      rw [State.setFrames_setFrames, State.setFrames_self ht]
      rfl
    · show T.slotsUsed = T.slotsUsed + ((T.heap.toList.drop T.heap.size).map (·.slots.size)).sum
      rw [List.drop_eq_nil_of_le (Nat.le_of_eq Array.length_toList)]
      rfl
    · show ((T.heap.toList.drop T.heap.size).map (·.slots.size)).sum ≤ 0
      rw [List.drop_eq_nil_of_le (Nat.le_of_eq Array.length_toList)]
      exact Nat.le_refl _
/-- 'throw new E()': new; dup; invokespecial; athrow -/
theorem vx_throw0 {cc : ByteArray} {pc : Nat} (hexec : p.tables.exec = Jvm.exec) (hb : c.code = cc) (hl : l.stackTraces = false) {own cls : String} {names : List String} {ik ic mc ms : Nat} {A : Nat → Prop}
    (hown : s.vm.findClass own = some m.cls) (hcls : Bundle.fit cls = true) (hnames : ∀ n ∈ names, Bundle.fit n = true)
    (hk : (Cond.classLink own ik cls).before args s = true) (hini : (Cond.initialized cls).before args s = true) (hat : ∀ w ∈ vx_at0 own ic cls names, w.before args s = true)
    (hgood : ∀ w ∈ Cond.classLink own ik cls :: Cond.initialized cls :: vx_at0 own ic cls names, vx_ot w = true)
    (hU : vx_Zq Bundle.tN "UNASSIGNED_STACK" Bundle.steD A s s.heap) (hN : vx_Zq Bundle.tN "SUPPRESSED_SENTINEL" Bundle.listD A s s.heap) (hS : va_S A s.heap H locs) (hsize : ls.size = c.maxLocals)
    (d0 : decode cc pc = .ok (.new ik, 3)) (d3 : decode cc (pc + 3) = .ok (.dup, 1)) (d4 : decode cc (pc + 4) = .ok (.invokespecial ic, 3)) (d7 : decode cc (pc + 7) = .ok (.athrow, 1))
    (hout : ∀ x ∈ c.exceptionTable.toList, covers x (pc + 7) = false)
    (hRframes : names.length + 3 < R.frames) (hRlocals : (rest.map fun v => v.category).sum + (13 * (names.length + 1) + 42) ≤ R.locals) (hRcells : cells + 1 ≤ R.cells) (hRslots : slots + 6 ≤ R.slots) (hlocks : meth.locks = false)
    (hx : ∀ t : State, s.vm.Alike t.vm → H.size ≤ t.heap.size → (∀ q : Nat, q < H.size → t.heap[q]? = H[q]?) → XC cls s t)
    (hf : ∀ z ∈ locs, free z.base) (hc : cells + 1 ≤ mc) (hs : slots + 6 ≤ ms) :
    W p l e R s m args below meth c H locs cells slots (vx_MQ below Qc XC args s mc ms free) (F0 m pc ls rest) := by
  intro T hT X
  have htr : e.platform.stackTraces = false := (show e.platform.stackTraces = l.stackTraces by rw [X.admits.platform]).trans hl
  have Y := vx_rebase X (R' := { frames := R.frames, locals := R.locals, cells := 1, slots := 6 }) (Nat.le_refl _) (Nat.le_refl _) hRcells hRslots
  obtain ⟨s', hA⟩ : ∃ z, z = (T.setVm s.vm).setFrames (.invoking m args :: below) := ⟨_, rfl⟩
  rw [← hA] at Y
  have hvm : s'.vm = s.vm := by rw [hA]; rfl
  have hhp : s'.heap = H := by rw [hA]; exact hT
  have hW0 : s.WarmedH s'.vm := by rw [hvm]; exact State.WarmedH.refl s
  have hat' : ∀ w ∈ vx_at0 own ic cls names, w.before args s' = true := fun w hw => vx_ot_at hW0 hvm.symm (hgood w (List.mem_cons_of_mem _ (List.mem_cons_of_mem _ hw))) (hat w hw)
  have hk' : (Cond.classLink own ik cls).before args s' = true := vx_ot_at hW0 hvm.symm (hgood _ List.mem_cons_self) hk
  have hini' : (Cond.initialized cls).before args s' = true := vx_ot_at hW0 hvm.symm (hgood _ (List.mem_cons_of_mem _ List.mem_cons_self)) hini
  have hU' : vx_Zq Bundle.tN "UNASSIGNED_STACK" Bundle.steD A s' s'.heap := by rw [hhp]; exact vx_Zq.moved hW0.alike (hU.kept hS.2.1)
  have hN' : vx_Zq Bundle.tN "SUPPRESSED_SENTINEL" Bundle.listD A s' s'.heap := by rw [hhp]; exact vx_Zq.moved hW0.alike (hN.kept hS.2.1)
  have h : ∀ w ∈ Bundle.ownAtoms0 own ic cls names, w.before args s' = true := vx_own hat' (vx_isRefq hU'.1) (vx_isRefq hN'.1) hU'.2.word hN'.2.word
  have hown' : s'.vm.findClass own = some m.cls := by rw [hvm]; exact hown
  have hins : (Cond.instantiable cls 6).before args s' = true := h _ (by simp [Bundle.ownAtoms0])
  obtain ⟨vm₁, cX, kX, hfX, hkX, -, -, X₁, st1⟩ := Y.newCold hexec (own := own) (C := cls) (index := ik) (n := 6) hown' hk' hins hini'
    (g := F0 m pc ls rest) rfl (by rw [hb]; exact d0) (Nat.le_refl _) (Nat.le_refl _)
  generalize hT1 : (T.setVm vm₁).pushCell { cls := cX, slots := kX.instanceTypes.map defaultValue, vm := .none } = T1 at X₁ st1
  have hcat : (Value.ref T.heap.size).category = 1 := rfl
  have hcellA : T1.heap[T.heap.size]? = some (freshCell cX kX) := by rw [← hT1]; exact State.heap_pushCell_size _ _
  have d3' : decode c.code (pc + 3) = .ok (.dup, 1) := by rw [hb]; exact d3
  obtain ⟨U, hsteps, hrun, hend, hW, hsame, ce, hce, hO⟩ := X₁.ctorThrow0 hexec htr (own := own) (cls := cls) (names := names) (ic := ic) hown' hcls hnames h (fun x hx => nomatch hx) hfX hkX hcellA (by rw [hhp, hT]; exact Nat.le_refl _)
    (g := { method := m, pc := pc + 4, locals := ls, stack := .ref T.heap.size :: .ref T.heap.size :: rest, locked := none }) rfl hsize rfl rfl (rest := rest) rfl
    (by rw [hb]; exact d4) (by rw [hb]; exact d7) hout hRframes (by simp only [List.map_cons, List.sum_cons, hcat]; omega) hlocks
  obtain ⟨f1, f2⟩ := vx_frame hsame
  rw [hhp] at f1 f2
  have hWs : s.WarmedH U.vm := State.WarmedH.trans hW0 hW
  have hcl : s.vm.findClass cls = some ce.cls := by
    have h9 := hO.cls
    rw [hvm] at h9
    exact h9
  have hall : s.sameButNew ({ U with vm := s.vm } : State) locs mc ms := by
    subst hA
    obtain ⟨e1, e2⟩ := hsame
    rw [State.setFrames_setFrames] at e1
    have h2 : (T.setVm s.vm).sameButNew ({ U with vm := s.vm } : State) [] (0 + 1) (0 + 6) := ⟨e1, e2⟩
    have h3 := X.same.trans h2
    rw [List.append_nil] at h3
    exact h3.mono hc hs
  refine ⟨U, ?_, .threw T.heap.size, hrun, hend, Or.inr ⟨T.heap.size, rfl, cls, ce, locs, hx U hWs.alike f1 (fun q hq => f2 q hq (fun z hz => nomatch hz)), hce, hO.vm, hcl, hWs, hall, hf⟩⟩
  refine st1 _ ?_
  show Steps p.tables e below (T1.setTop { method := m, pc := pc + 3, locals := ls, stack := .ref T.heap.size :: rest, locked := none }) _
  jvm_step X₁.here [X₁.here.top, hexec, d3', Value.category]
  exact hsteps
/-- 'throw new E("text")': new; dup; ldc; invokespecial; athrow -/
theorem vx_throwS {cc : ByteArray} {pc : Nat} (hexec : p.tables.exec = Jvm.exec) (hb : c.code = cc) (hl : l.stackTraces = false) {own cls text : String} {names : List String} {ik is ic mc ms sa : Nat} {A : Nat → Prop}
    (hown : s.vm.findClass own = some m.cls) (hcls : Bundle.fit cls = true) (hnames : ∀ n ∈ names, Bundle.fit n = true)
    (hk : (Cond.classLink own ik cls).before args s = true) (hini : (Cond.initialized cls).before args s = true) (hstr : vk_R own is text sa s) (hat : ∀ w ∈ vx_atS own ic cls names, w.before args s = true)
    (hgood : ∀ w ∈ Cond.classLink own ik cls :: Cond.initialized cls :: vx_atS own ic cls names, vx_ot w = true)
    (hU : vx_Zq Bundle.tN "UNASSIGNED_STACK" Bundle.steD A s s.heap) (hN : vx_Zq Bundle.tN "SUPPRESSED_SENTINEL" Bundle.listD A s s.heap) (hS : va_S A s.heap H locs) (hsize : ls.size = c.maxLocals)
    (d0 : decode cc pc = .ok (.new ik, 3)) (d3 : decode cc (pc + 3) = .ok (.dup, 1)) (d4 : decode cc (pc + 4) = .ok (.ldc is, 2)) (d6 : decode cc (pc + 6) = .ok (.invokespecial ic, 3)) (d9 : decode cc (pc + 9) = .ok (.athrow, 1))
    (hout : ∀ x ∈ c.exceptionTable.toList, covers x (pc + 9) = false)
    (hRframes : names.length + 3 < R.frames) (hRlocals : (rest.map fun v => v.category).sum + (13 * (names.length + 1) + 43) ≤ R.locals) (hRcells : cells + 1 ≤ R.cells) (hRslots : slots + 6 ≤ R.slots) (hlocks : meth.locks = false)
    (hx : ∀ t : State, s.vm.Alike t.vm → H.size ≤ t.heap.size → (∀ q : Nat, q < H.size → t.heap[q]? = H[q]?) → XC cls s t)
    (hf : ∀ z ∈ locs, free z.base) (hc : cells + 1 ≤ mc) (hs : slots + 6 ≤ ms) :
    W p l e R s m args below meth c H locs cells slots (vx_MQ below Qc XC args s mc ms free) (F0 m pc ls rest) := by
  intro T hT X
  have htr : e.platform.stackTraces = false := (show e.platform.stackTraces = l.stackTraces by rw [X.admits.platform]).trans hl
  have Y := vx_rebase X (R' := { frames := R.frames, locals := R.locals, cells := 1, slots := 6 }) (Nat.le_refl _) (Nat.le_refl _) hRcells hRslots
  obtain ⟨s', hA⟩ : ∃ z, z = (T.setVm s.vm).setFrames (.invoking m args :: below) := ⟨_, rfl⟩
  rw [← hA] at Y
  have hvm : s'.vm = s.vm := by rw [hA]; rfl
  have hhp : s'.heap = H := by rw [hA]; exact hT
  have hW0 : s.WarmedH s'.vm := by rw [hvm]; exact State.WarmedH.refl s
  have hat' : ∀ w ∈ vx_atS own ic cls names, w.before args s' = true := fun w hw => vx_ot_at hW0 hvm.symm (hgood w (List.mem_cons_of_mem _ (List.mem_cons_of_mem _ hw))) (hat w hw)
  have hk' : (Cond.classLink own ik cls).before args s' = true := vx_ot_at hW0 hvm.symm (hgood _ List.mem_cons_self) hk
  have hini' : (Cond.initialized cls).before args s' = true := vx_ot_at hW0 hvm.symm (hgood _ (List.mem_cons_of_mem _ List.mem_cons_self)) hini
  have hU' : vx_Zq Bundle.tN "UNASSIGNED_STACK" Bundle.steD A s' s'.heap := by rw [hhp]; exact vx_Zq.moved hW0.alike (hU.kept hS.2.1)
  have hN' : vx_Zq Bundle.tN "SUPPRESSED_SENTINEL" Bundle.listD A s' s'.heap := by rw [hhp]; exact vx_Zq.moved hW0.alike (hN.kept hS.2.1)
  have h : ∀ w ∈ Bundle.ownAtoms own ic cls names, w.before args s' = true := vx_own hat' (vx_isRefq hU'.1) (vx_isRefq hN'.1) hU'.2.word hN'.2.word
  have hown' : s'.vm.findClass own = some m.cls := by rw [hvm]; exact hown
  have hins : (Cond.instantiable cls 6).before args s' = true := h _ (by simp [Bundle.ownAtoms])
  obtain ⟨vm₁, cX, kX, hfX, hkX, -, -, X₁, st1⟩ := Y.newCold hexec (own := own) (C := cls) (index := ik) (n := 6) hown' hk' hins hini'
    (g := F0 m pc ls rest) rfl (by rw [hb]; exact d0) (Nat.le_refl _) (Nat.le_refl _)
  generalize hT1 : (T.setVm vm₁).pushCell { cls := cX, slots := kX.instanceTypes.map defaultValue, vm := .none } = T1 at X₁ st1
  have hcat : (Value.ref T.heap.size).category = 1 := rfl
  have hcellA : T1.heap[T.heap.size]? = some (freshCell cX kX) := by rw [← hT1]; exact State.heap_pushCell_size _ _
  have d3' : decode c.code (pc + 3) = .ok (.dup, 1) := by rw [hb]; exact d3
  have d4' : decode c.code (pc + 4) = .ok (.ldc is, 2) := by rw [hb]; exact d4
  have hstr' : vk_R own is text sa s' := vk_R.warm hW0 hstr
  obtain ⟨U, hsteps, hrun, hend, hW, hsame, ce, hce, hO⟩ := X₁.ctorThrowS hexec htr (own := own) (cls := cls) (names := names) (ic := ic) hown' hcls hnames h (fun x hx => nomatch hx) hfX hkX hcellA (by rw [hhp, hT]; exact Nat.le_refl _) (msg := .ref sa) rfl
    (g := { method := m, pc := pc + 6, locals := ls, stack := .ref sa :: .ref T.heap.size :: .ref T.heap.size :: rest, locked := none }) rfl hsize rfl rfl (rest := rest) rfl
    (by rw [hb]; exact d6) (by rw [hb]; exact d9) hout hRframes (by simp only [List.map_cons, List.sum_cons, hcat]; omega) hlocks
  obtain ⟨f1, f2⟩ := vx_frame hsame
  rw [hhp] at f1 f2
  have hWs : s.WarmedH U.vm := State.WarmedH.trans hW0 hW
  have hcl : s.vm.findClass cls = some ce.cls := by
    have h9 := hO.cls
    rw [hvm] at h9
    exact h9
  have hall : s.sameButNew ({ U with vm := s.vm } : State) locs mc ms := by
    subst hA
    obtain ⟨e1, e2⟩ := hsame
    rw [State.setFrames_setFrames] at e1
    have h2 : (T.setVm s.vm).sameButNew ({ U with vm := s.vm } : State) [] (0 + 1) (0 + 6) := ⟨e1, e2⟩
    have h3 := X.same.trans h2
    rw [List.append_nil] at h3
    exact h3.mono hc hs
  refine ⟨U, ?_, .threw T.heap.size, hrun, hend, Or.inr ⟨T.heap.size, rfl, cls, ce, locs, hx U hWs.alike f1 (fun q hq => f2 q hq (fun z hz => nomatch hz)), hce, hO.vm, hcl, hWs, hall, hf⟩⟩
  refine st1 _ ?_
  show Steps p.tables e below (T1.setTop { method := m, pc := pc + 3, locals := ls, stack := .ref T.heap.size :: rest, locked := none }) _
  jvm_step X₁.here [X₁.here.top, hexec, d3', Value.category]
  exact X₁.ldcString hexec (own := own) (text := text) (index := is) (a := sa) hown' hstr'.1 hstr'.2
    (g := { method := m, pc := pc + 4, locals := ls, stack := .ref T.heap.size :: .ref T.heap.size :: rest, locked := none }) rfl d4' _ hsteps
/-- 'throw new E("text")', the text by a wide index -/
theorem vx_throwSW {cc : ByteArray} {pc : Nat} (hexec : p.tables.exec = Jvm.exec) (hb : c.code = cc) (hl : l.stackTraces = false) {own cls text : String} {names : List String} {ik is ic mc ms sa : Nat} {A : Nat → Prop}
    (hown : s.vm.findClass own = some m.cls) (hcls : Bundle.fit cls = true) (hnames : ∀ n ∈ names, Bundle.fit n = true)
    (hk : (Cond.classLink own ik cls).before args s = true) (hini : (Cond.initialized cls).before args s = true) (hstr : vk_R own is text sa s) (hat : ∀ w ∈ vx_atS own ic cls names, w.before args s = true)
    (hgood : ∀ w ∈ Cond.classLink own ik cls :: Cond.initialized cls :: vx_atS own ic cls names, vx_ot w = true)
    (hU : vx_Zq Bundle.tN "UNASSIGNED_STACK" Bundle.steD A s s.heap) (hN : vx_Zq Bundle.tN "SUPPRESSED_SENTINEL" Bundle.listD A s s.heap) (hS : va_S A s.heap H locs) (hsize : ls.size = c.maxLocals)
    (d0 : decode cc pc = .ok (.new ik, 3)) (d3 : decode cc (pc + 3) = .ok (.dup, 1)) (d4 : decode cc (pc + 4) = .ok (.ldc_w is, 3)) (d7 : decode cc (pc + 7) = .ok (.invokespecial ic, 3)) (d10 : decode cc (pc + 10) = .ok (.athrow, 1))
    (hout : ∀ x ∈ c.exceptionTable.toList, covers x (pc + 10) = false)
    (hRframes : names.length + 3 < R.frames) (hRlocals : (rest.map fun v => v.category).sum + (13 * (names.length + 1) + 43) ≤ R.locals) (hRcells : cells + 1 ≤ R.cells) (hRslots : slots + 6 ≤ R.slots) (hlocks : meth.locks = false)
    (hx : ∀ t : State, s.vm.Alike t.vm → H.size ≤ t.heap.size → (∀ q : Nat, q < H.size → t.heap[q]? = H[q]?) → XC cls s t)
    (hf : ∀ z ∈ locs, free z.base) (hc : cells + 1 ≤ mc) (hs : slots + 6 ≤ ms) :
    W p l e R s m args below meth c H locs cells slots (vx_MQ below Qc XC args s mc ms free) (F0 m pc ls rest) := by
  intro T hT X
  have htr : e.platform.stackTraces = false := (show e.platform.stackTraces = l.stackTraces by rw [X.admits.platform]).trans hl
  have Y := vx_rebase X (R' := { frames := R.frames, locals := R.locals, cells := 1, slots := 6 }) (Nat.le_refl _) (Nat.le_refl _) hRcells hRslots
  obtain ⟨s', hA⟩ : ∃ z, z = (T.setVm s.vm).setFrames (.invoking m args :: below) := ⟨_, rfl⟩
  rw [← hA] at Y
  have hvm : s'.vm = s.vm := by rw [hA]; rfl
  have hhp : s'.heap = H := by rw [hA]; exact hT
  have hW0 : s.WarmedH s'.vm := by rw [hvm]; exact State.WarmedH.refl s
  have hat' : ∀ w ∈ vx_atS own ic cls names, w.before args s' = true := fun w hw => vx_ot_at hW0 hvm.symm (hgood w (List.mem_cons_of_mem _ (List.mem_cons_of_mem _ hw))) (hat w hw)
  have hk' : (Cond.classLink own ik cls).before args s' = true := vx_ot_at hW0 hvm.symm (hgood _ List.mem_cons_self) hk
  have hini' : (Cond.initialized cls).before args s' = true := vx_ot_at hW0 hvm.symm (hgood _ (List.mem_cons_of_mem _ List.mem_cons_self)) hini
  have hU' : vx_Zq Bundle.tN "UNASSIGNED_STACK" Bundle.steD A s' s'.heap := by rw [hhp]; exact vx_Zq.moved hW0.alike (hU.kept hS.2.1)
  have hN' : vx_Zq Bundle.tN "SUPPRESSED_SENTINEL" Bundle.listD A s' s'.heap := by rw [hhp]; exact vx_Zq.moved hW0.alike (hN.kept hS.2.1)
  have h : ∀ w ∈ Bundle.ownAtoms own ic cls names, w.before args s' = true := vx_own hat' (vx_isRefq hU'.1) (vx_isRefq hN'.1) hU'.2.word hN'.2.word
  have hown' : s'.vm.findClass own = some m.cls := by rw [hvm]; exact hown
  have hins : (Cond.instantiable cls 6).before args s' = true := h _ (by simp [Bundle.ownAtoms])
  obtain ⟨vm₁, cX, kX, hfX, hkX, -, -, X₁, st1⟩ := Y.newCold hexec (own := own) (C := cls) (index := ik) (n := 6) hown' hk' hins hini'
    (g := F0 m pc ls rest) rfl (by rw [hb]; exact d0) (Nat.le_refl _) (Nat.le_refl _)
  generalize hT1 : (T.setVm vm₁).pushCell { cls := cX, slots := kX.instanceTypes.map defaultValue, vm := .none } = T1 at X₁ st1
  have hcat : (Value.ref T.heap.size).category = 1 := rfl
  have hcellA : T1.heap[T.heap.size]? = some (freshCell cX kX) := by rw [← hT1]; exact State.heap_pushCell_size _ _
  have d3' : decode c.code (pc + 3) = .ok (.dup, 1) := by rw [hb]; exact d3
  have d4' : decode c.code (pc + 4) = .ok (.ldc_w is, 3) := by rw [hb]; exact d4
  have hstr' : vk_R own is text sa s' := vk_R.warm hW0 hstr
  obtain ⟨U, hsteps, hrun, hend, hW, hsame, ce, hce, hO⟩ := X₁.ctorThrowS hexec htr (own := own) (cls := cls) (names := names) (ic := ic) hown' hcls hnames h (fun x hx => nomatch hx) hfX hkX hcellA (by rw [hhp, hT]; exact Nat.le_refl _) (msg := .ref sa) rfl
    (g := { method := m, pc := pc + 7, locals := ls, stack := .ref sa :: .ref T.heap.size :: .ref T.heap.size :: rest, locked := none }) rfl hsize rfl rfl (rest := rest) rfl
    (by rw [hb]; exact d7) (by rw [hb]; exact d10) hout hRframes (by simp only [List.map_cons, List.sum_cons, hcat]; omega) hlocks
  obtain ⟨f1, f2⟩ := vx_frame hsame
  rw [hhp] at f1 f2
  have hWs : s.WarmedH U.vm := State.WarmedH.trans hW0 hW
  have hcl : s.vm.findClass cls = some ce.cls := by
    have h9 := hO.cls
    rw [hvm] at h9
    exact h9
  have hall : s.sameButNew ({ U with vm := s.vm } : State) locs mc ms := by
    subst hA
    obtain ⟨e1, e2⟩ := hsame
    rw [State.setFrames_setFrames] at e1
    have h2 : (T.setVm s.vm).sameButNew ({ U with vm := s.vm } : State) [] (0 + 1) (0 + 6) := ⟨e1, e2⟩
    have h3 := X.same.trans h2
    rw [List.append_nil] at h3
    exact h3.mono hc hs
  refine ⟨U, ?_, .threw T.heap.size, hrun, hend, Or.inr ⟨T.heap.size, rfl, cls, ce, locs, hx U hWs.alike f1 (fun q hq => f2 q hq (fun z hz => nomatch hz)), hce, hO.vm, hcl, hWs, hall, hf⟩⟩
  refine st1 _ ?_
  show Steps p.tables e below (T1.setTop { method := m, pc := pc + 3, locals := ls, stack := .ref T.heap.size :: rest, locked := none }) _
  jvm_step X₁.here [X₁.here.top, hexec, d3', Value.category]
  exact X₁.ldcStringW hexec (own := own) (text := text) (index := is) (a := sa) hown' hstr'.1 hstr'.2
    (g := { method := m, pc := pc + 4, locals := ls, stack := .ref T.heap.size :: .ref T.heap.size :: rest, locked := none }) rfl d4' _ hsteps
end Ends
section Bodies
variable {l : Launch}
theorem vx_ofW {y : MethodName} {ws ws' : List Cond} {rm : Room} {Pc : Array Value → State → Prop} {Qc : Array Value → State → Outcome → State → Prop} {XC : String → State → State → Prop} {mc ms : Nat} {free : Addr → Prop} {cc : ByteArray} {maxL : Nat} {ret : Option FieldType}
    (hy : plainName y.cls = true) (hw : ws = Cond.code y cc maxL ret :: ws')
    (body : ∀ p e s m args below meth c s₁, BodyLoose p l y (headSpec ws rm) cc maxL ret e s m args below meth c s₁ → c.maxLocals = maxL → (∀ x ∈ c.exceptionTable.toList, False) → Pc args s →
      W p l e (headSpec ws rm).room s m args below meth c s.heap [] 0 0 (vx_MQ below Qc XC args s mc ms free) (entryFrame m args maxL)) : vx_Met l y ws rm Pc Qc XC mc ms free := by
  refine MetFree.of_bodyS (code := cc) (maxLocals := maxL) (ret := ret) hy ?_ ?_
  · intro args s m h hn
    obtain ⟨meth, c, h1, h2, h3, h4, h5, h6, -, -⟩ := Cond.code_spec hn (atoms_spec (ws := ws) h _ (by rw [hw]; exact List.mem_cons_self))
    exact ⟨meth, c, h1, h2, h3, h4, h5, h6⟩
  · intro p e s m args below meth c s₁ B hml hP _
    have hh0 : s₁.heap = s.heap := by rw [B.state]; rfl
    have ht : ∀ x ∈ c.exceptionTable.toList, False := by
      obtain ⟨meth9, c9, h1, h2, -, -, -, -, h7, -⟩ := Cond.code_spec B.named (atoms_spec (ws := ws) B.pre _ (by rw [hw]; exact List.mem_cons_self))
      cases Option.some.inj (h1.symm.trans B.method)
      cases Option.some.inj (h2.symm.trans (Stand.of_body B).code)
      intro x hx
      rw [Array.isEmpty_iff.mp h7] at hx
      cases hx
    obtain ⟨t, a1, o, b1, b2, b3⟩ := body p e s m args below meth c s₁ B hml ht hP s₁ hh0 (Stand.of_body B)
    exact ⟨t, o, a1, b1, b2, b3⟩
/-- the table of a body with handlers -/
theorem vx_table {p : Program} {x y : MethodName} {S : Spec} {cc bytes : ByteArray} {maxL maxL' : Nat} {ret ret' : Option FieldType} {e : Env} {s s₁ : State} {m : MethodId} {args : Array Value} {below : List Frame} {meth : Method} {c : Code} {hh : List (Nat × Nat × Nat × Nat)}
    (B : BodyLoose p l y S cc maxL ret e s m args below meth c s₁) (h : (Cond.codeWith y bytes maxL' ret' hh).before args s = true) : c.exceptionTable.toList = tableOf hh := by
  obtain ⟨m9, meth9, c9, hn9, h1, h2, -, -, h6, -⟩ := Cond.codeWith_spec h
  cases Option.some.inj (hn9.symm.trans B.named)
  cases Option.some.inj (h1.symm.trans B.method)
  cases Option.some.inj (h2.symm.trans (Stand.of_body B).code)
  rw [← h6, table_eq]
end Bodies
end VXA
/-! ===== END ===== -/
/-! ===== BEGIN a static call of a method with an exception table ===== -/
section VXS
variable {p : Program} {l : Launch} {e : Env} {R : Room} {s : State} {m : MethodId} {args : Array Value} {below : List Frame} {meth : Method} {c : Code} {T : State} {H : Heap} {locs : List Loc} {cells slots : Nat}
abbrev vx_CSW (R : Room) (s : State) (args : Array Value) (own : String) (index : Nat) (y : MethodName) (bytes : ByteArray) (maxL : Nat) (ret : Option FieldType) (hh : List (Nat × Nat × Nat × Nat)) (ws : List Cond) (rm : Room) (mc ms n : Nat) : Prop :=
  (rm.cells = mc ∧ rm.slots = ms ∧ rm.frames + 1 ≤ R.frames ∧ 8 + (maxL + 11) + rm.locals ≤ R.locals ∧ (∀ w ∈ ws, ∀ (a' : Array Value) (U : State), s.WarmedH U.vm → w.before a' U = true) ∧ Cond.codeWith y bytes maxL ret hh ∈ ws) ∧
  (Cond.codeWith y bytes maxL ret hh).before args s = true ∧ (Cond.initialized y.cls).before args s = true ∧ (y.cls ≠ "java/lang/invoke/MethodHandle" ∧ y.cls ≠ "java/lang/invoke/VarHandle") ∧
  (∀ sig, parseMethodDescriptor y.desc = some sig → n = sig.parameters.length) ∧ (Cond.methodLink own index y).before args s = true ∧ (Cond.static y).before args s = true
theorem vx_cwSW {own : String} {index maxL mc ms : Nat} {y : MethodName} {bytes : ByteArray} {ret : Option FieldType} {hh : List (Nat × Nat × Nat × Nat)} {Ts ws ws' : List Cond} {rm : Room} (n : Nat) (ht : ∀ w ∈ Ts, w.before args s = true) (hT : GoodIn Ts (va_wsS own index y ws)) (hw : ws = Cond.codeWith y bytes maxL ret hh :: ws') (hrc : rm.cells = mc) (hrs : rm.slots = ms)
    (hd : y.cls ≠ "java/lang/invoke/MethodHandle" ∧ y.cls ≠ "java/lang/invoke/VarHandle" ∧ (parseMethodDescriptor y.desc).map (fun d => d.parameters.length) = some n) (hR : rm.frames + 1 ≤ R.frames ∧ 8 + (maxL + 11) + rm.locals ≤ R.locals) :
    vx_CSW R s args own index y bytes maxL ret hh ws rm mc ms n := by
  have ok : ∀ w ∈ va_wsS own index y ws, w.before args s = true := fun w h => ht w (hT w h).1
  have hG : GoodIn Ts ws := fun w h => hT w (by unfold va_wsS; exact List.mem_append_right _ h)
  have hc : Cond.codeWith y bytes maxL ret hh ∈ ws := by rw [hw]; exact List.mem_cons_self
  refine ⟨⟨hrc, hrs, hR.1, hR.2, pay_in ht hG, hc⟩, ht _ (hG _ hc).1, ok _ (by simp [va_wsS]), ⟨hd.1, hd.2.1⟩, fun sig h => ?_, ok _ (by simp [va_wsS]), ok _ (by simp [va_wsS])⟩
  have h2 := hd.2.2
  rw [h] at h2
  exact (Option.some.inj h2).symm
theorem vx_callSW (X : Stand p l e R s m args below meth c T locs cells slots) (hexec : p.tables.exec = Jvm.exec) {own : String} {index : Nat} {y : MethodName} {bytes : ByteArray} {maxL : Nat} {ret : Option FieldType} {hh : List (Nat × Nat × Nat × Nat)}
    (hown : s.vm.findClass own = some m.cls) (hlink : (Cond.methodLink own index y).before args s = true) (hstat : (Cond.static y).before args s = true) (hinit : (Cond.initialized y.cls).before args s = true)
    (hcode : (Cond.codeWith y bytes maxL ret hh).before args s = true) (hy : y.cls ≠ "java/lang/invoke/MethodHandle" ∧ y.cls ≠ "java/lang/invoke/VarHandle")
    {W9 : Nat} {Pre : Pt → Array Value → Prop} {Post : Pt → Array Value → Option Value → Pt → Prop} (hK : Back l R p e below s args y 3 W9 Pre Post)
    {g : JFrame} (hg : g.method = m) (hsize : g.locals.size = c.maxLocals) {argsL rest : List Value} (hlen : ∀ sig, parseMethodDescriptor y.desc = some sig → argsL.length = sig.parameters.length)
    (hstack : g.stack = argsL.reverse ++ rest) (hW : 2 * g.monitorRoom + (rest.map fun v => v.category).sum ≤ W9) (hdg : decode c.code g.pc = .ok (.invokestatic index, 3))
    (hpre : ∀ vm₁, s.WarmedH vm₁ → Pre ⟨T.setVm vm₁, locs, cells, slots⟩ argsL.toArray) :
    ∃ (v : Option Value) (vm₁ : Vm) (B : Pt), s.WarmedH vm₁ ∧ Stand p l e R s m args below meth c B.U B.locs B.cells B.slots ∧ Post ⟨T.setVm vm₁, locs, cells, slots⟩ argsL.toArray v B ∧
      ∀ target, Steps p.tables e below (B.U.setTop { g with pc := g.pc + 3, stack := v.toList ++ rest }) target → Steps p.tables e below (T.setTop g) target := by
  obtain ⟨mk, methM, cM, hnamed, hmethM, -, -, -, -, -, -, hsigM⟩ := Cond.codeWith_spec hcode
  have hstatic : methM.isStatic = true := Cond.static_spec hnamed hmethM hstat
  obtain ⟨kP, hkP, -⟩ := className_of_methodNamed hnamed
  have hinitP : kP.init = .initialized := Cond.initialized_spec (findClass_of_methodNamed hnamed) hkP hinit
  obtain ⟨vm₁, X₁, hstep₁⟩ := X.invokestatic hexec hown hlink hnamed hmethM hstatic hkP hinitP hy (g := g) hg (argsL := argsL) (rest := rest) (hlen _ hsigM) hstack hdg
  obtain ⟨v, B, X', hpost, hsteps⟩ := hK m meth c ⟨T.setVm vm₁, locs, cells, slots⟩ { g with stack := rest } (.invokestatic index) mk argsL.toArray X₁ hg hsize hdg hW (X₁.named hnamed) (hpre vm₁ X₁.warmed)
  exact ⟨v, vm₁, B, X₁.warmed, X', hpost, fun target h => hstep₁ _ fun acts => by rw [doInvoke_state]; exact hsteps.trans h⟩
theorem vx_runSW {y : MethodName} {bytes cc : ByteArray} {maxL nL mc ms n index : Nat} {ret : Option FieldType} {hh : List (Nat × Nat × Nat × Nat)} {ws : List Cond} {rm : Room} {Pc : Array Value → State → Prop} {Qc : Array Value → State → Outcome → State → Prop} {free : Addr → Prop} {Ts : List Cond} {own : String} {As rest : List Value} {g : JFrame}
    (S : CallFix p m c cc nL s args Ts own) (hM : Met l y ws rm Pc Qc mc ms free) (cw : vx_CSW R s args own index y bytes maxL ret hh ws rm mc ms n) (hp : PreS s H Pc As)
    (hg : g.method = m) (hn : As.length = n) (hsize : g.locals.size = nL) (hstack : g.stack = As.reverse ++ rest) (hW : 2 * g.monitorRoom + (rest.map fun v => v.category).sum ≤ 8) (hdg : decode cc g.pc = .ok (.invokestatic index, 3)) (hf : cells + mc ≤ R.cells ∧ slots + ms ≤ R.slots) :
    va_Run p l e R s m args below meth c H locs cells slots mc ms g rest (Qc As.toArray) (free) := by
  obtain ⟨⟨hrc, hrs, hfr, hlo, hws, hcw⟩, hcode, hini, hy, hlen, hl, hstt⟩ := cw
  have hK : Back l R p e below s args y 3 8 (PreOf R mc ms Pc) (PostOf Qc mc ms free) := va_backW (hh := hh) (bytes := bytes) (maxL := maxL) (ret := ret) hM hp.1 hrc hrs hfr hlo hws hcw (fun a' U hW => word_at hW (Or.inl (by first | rfl | simp [Cond.onTables, Cond.keeps, Cond.steady])) hini)
  obtain ⟨hx, hb, hml, ho, -⟩ := S
  intro T hT X
  obtain ⟨v, vm₁, ⟨U', l2, c2, s2⟩, hW₁, X', ⟨g', mk, t, L, e1, e2, hq, h1, hL, h2, h3⟩, st⟩ := vx_callSW X hx (hh := hh) (bytes := bytes) (maxL := maxL) (ret := ret) ho hl hstt hini hcode hy hK hg (hsize.trans hml.symm) (argsL := As) (rest := rest) (fun sig h => hn.trans (hlen sig h)) hstack hW (by rw [hb]; exact hdg)
    (fun vm₁ hW₁ => ⟨hf.1, hf.2, hp.2 (T.setVm vm₁) hT hW₁⟩)
  dsimp only [Pt.U, Pt.locs, Pt.cells, Pt.slots] at X' e1 e2 h1 h2 h3 st
  subst h1; subst h2; subst h3
  exact ⟨v, (T.setVm vm₁).calling g' mk As.toArray, t, U', L, hT, X', hL, e1, e2, hq, st⟩
/-- a thing of a world lies in the heap -/
theorem vx_lt {D : va_G} {cl : List vw_C} {ws : va_W} {H1 : Heap} (h : va_P D cl ws H1) {k : Nat} {q : Nat × va_E} (hk : ws[k]? = some q) : q.1 < H1.size := (h k q hk).lt
end VXS
/-! ===== END ===== -/
/-! ===== BEGIN methods with a table of their own: called by a name, returning or throwing ===== -/
section VXH
/-! vx_backW, vx_callVX, vx_callSX, vx_callVW, vx_runVW, vx_runVX, vx_runSX, vx_ofWH follow the same proofs as their sisters above (Free/Laws.lean, Shelf42/LK1.lean); vx_outP calls Shelf42/NT130.lean (outThrough). -/
section
variable {l : Launch} {R : Room} {p : Program} {e : Env} {below : List Frame} {s : State} {sargs : Array Value} {y : MethodName} {len W9 : Nat}
theorem vx_backW {ws : List Cond} {rm : Room} {Pc : Array Value → State → Prop} {Qc : Array Value → State → Outcome → State → Prop} {XC : String → State → State → Prop} {mc ms : Nat} {free : Addr → Prop} {bytes : ByteArray} {maxL : Nat} {ret : Option FieldType} {hh : List (Nat × Nat × Nat × Nat)}
    (hM : vx_Met l y ws rm Pc Qc XC mc ms free) (hblind : FrameBlind Pc) (hrc : rm.cells = mc) (hrs : rm.slots = ms)
    (hframes : rm.frames + 1 ≤ R.frames) (hlocals : W9 + (maxL + 11) + rm.locals ≤ R.locals)
    (hws : ∀ w ∈ ws, ∀ a' U, s.WarmedH U.vm → w.before a' U = true) (hcode : Cond.codeWith y bytes maxL ret hh ∈ ws) (hinit : ∀ a' U, s.WarmedH U.vm → (Cond.initialized y.cls).before a' U = true) :
    vx_Back l R p e below s sargs y len W9 (PreOf R mc ms Pc) (PostOf Qc mc ms free) (vx_Post XC mc ms free) := by
  intro m meth c A g ig mk a X hg hsize hdg hW hn hp
  have h1 : (headSpec ws rm).pre.before a A.U = true := atoms_intro fun w hw => hws w hw _ _ X.warmed
  have h2 : (Cond.codeWith y bytes maxL ret hh).before a A.U = true := hws _ hcode _ _ X.warmed
  have h3 : (Cond.initialized y.cls).before a A.U = true := hinit _ _ X.warmed
  have h4 : A.cells + (headSpec ws rm).room.cells ≤ R.cells := by rw [show (headSpec ws rm).room.cells = mc from hrc]; exact hp.1
  have h5 : A.slots + (headSpec ws rm).room.slots ≤ R.slots := by rw [show (headSpec ws rm).room.slots = ms from hrs]; exact hp.2.1
  have hPc : Pc a (A.U.calling g mk a) := hblind _ _ _ _ hp.2.2
  obtain ⟨U, Ls, c0, s0⟩ := A
  dsimp only [Pt.U, Pt.locs, Pt.cells, Pt.slots] at h1 h2 h3 h4 h5 X hn hPc ⊢
  obtain ⟨m9, methY, cY, hn9, hmY, hcY, -, hlY, -⟩ := Cond.codeWith_spec h2
  cases Option.some.inj (hn9.symm.trans hn)
  obtain ⟨kY, hkY, -⟩ := className_of_methodNamed hn
  have hinitY : kY.init = .initialized := Cond.initialized_spec (findClass_of_methodNamed hn) hkY h3
  have h : At U g.method c below := by rw [hg]; exact X.here
  have hlocals9 : W9 + (maxL + 11) + (headSpec ws rm).room.locals ≤ R.locals := hlocals
  have happ : (headSpec ws rm).appliesLoose y e.platform (U.calling g mk a) = true :=
    Spec.appliesLoose_calling (g := g) h hdg hn hkY hinitY
      (X.room_calling (g := g) (R' := (headSpec ws rm).room) hsize hmY hcY hframes (by rw [hlY]; omega) h4 h5) h1
  obtain ⟨mid, hmid⟩ := h.above
  have hfr : (U.setTop g).frames = (.java g :: mid) ++ below := by rw [State.frames_setTop' g h.top, hmid]; rfl
  obtain ⟨o, s₂, hsteps, -, hend, hq⟩ := Steps.callFree hM p X.admits X.cas X.clock (acts := []) hfr happ hPc trivial
  have hq' : vx_Q Qc XC mc ms free a (U.calling g mk a) o s₂ := hq
  rw [State.frames_setTop' g h.top] at hend
  obtain ⟨g₀, hg0⟩ := Option.isSome_iff_exists.mp h.top
  obtain ⟨r, hr⟩ := State.topJava?_eq_some.mp hg0
  have hr' : (({ U with heap := s₂.heap, slotsUsed := s₂.slotsUsed } : State).setVm s₂.vm).frames = .java g₀ :: r := hr
  rcases hq' with ⟨hqc, L, hfe, hL⟩ | ⟨q, rfl, E, ce, L, hx, hce, hcv, hcl, hW₂, hsm, hL⟩
  · obtain ⟨⟨v, rfl⟩, hW₂, e2, q2, q3, q4, q5, q6⟩ := id hfe
    have e3 : s₂ = ({ (U.calling g mk a).setFrames s₂.frames with heap := s₂.heap, slotsUsed := s₂.slotsUsed } : State).setVm s₂.vm := by
      have : s₂ = ({ s₂ with vm := (U.calling g mk a).vm } : State).setVm s₂.vm := rfl
      rw [e2] at this
      exact this
    obtain ⟨c₂, i₂, len₂, hc₂, hd₂, hf₂⟩ := hend
    have hW' : U.WarmedH s₂.vm := hW₂
    have hcc : c₂ = c := by
      have h1 : s₂.code? g.method = U.code? g.method := by
        rw [State.code?_eq, State.code?_eq, hW'.alike.method?]
      exact Option.some.inj (hc₂.symm.trans (h1.trans h.code))
    subst hcc
    have hlen : len₂ = len := by rw [hdg] at hd₂; cases hd₂; rfl
    subst hlen
    have hs₂ : s₂ = (({ U with heap := s₂.heap, slotsUsed := s₂.slotsUsed } : State).setVm s₂.vm).setTop { g with pc := g.pc + len₂, stack := v.toList ++ g.stack } := by
      refine e3.trans ?_
      rw [hf₂, State.calling_eq h.top, State.setFrames_setFrames, State.setTop_of_frames _ hr', hr]
      rfl
    have hsame : U.sameButNew ({ U with heap := s₂.heap, slotsUsed := s₂.slotsUsed } : State) L mc ms := by
      refine ⟨?_, q2, q3, q4, q5, q6⟩
      obtain ⟨t, ht, -⟩ := State.frames_cons hr
      show ({ U with heap := s₂.heap, slotsUsed := s₂.slotsUsed } : State) = { U.setFrames U.frames with heap := s₂.heap, slotsUsed := s₂.slotsUsed }
      rw [State.setFrames_self ht]
    subst hg
    refine Or.inl ⟨v, ⟨(({ U with heap := s₂.heap, slotsUsed := s₂.slotsUsed } : State).setVm s₂.vm), Ls ++ L, c0 + mc, s0 + ms⟩,
      ⟨X.admits, X.cas, X.clock, X.frames, X.room, X.hears, X.method, X.code, (X.here.setHeapUsed s₂.heap s₂.slotsUsed).setVm hW'.alike, X.tail, State.WarmedH.trans X.warmed hW', X.limits, X.bytes, X.same.trans (hsame.setVm s.vm)⟩,
      ⟨g, mk, s₂, L, rfl, rfl, hqc, rfl, hL, rfl, rfl⟩, ?_⟩
    show Steps p.tables e below _ ((({ U with heap := s₂.heap, slotsUsed := s₂.slotsUsed } : State).setVm s₂.vm).setTop { g with pc := g.pc + len₂, stack := v.toList ++ g.stack })
    rw [← hs₂]
    exact hsteps
  · obtain ⟨e2, q2, q3, q4, q5, q6⟩ := id hsm
    have e3 : s₂ = ({ (U.calling g mk a).setFrames s₂.frames with heap := s₂.heap, slotsUsed := s₂.slotsUsed } : State).setVm s₂.vm := by
      have : s₂ = ({ s₂ with vm := (U.calling g mk a).vm } : State).setVm s₂.vm := rfl
      rw [e2] at this
      exact this
    have hf₂ : s₂.frames = .throwing q :: .java g :: U.frames.tail := hend
    have hW' : U.WarmedH s₂.vm := hW₂
    have hs₂ : s₂ = ((({ U with heap := s₂.heap, slotsUsed := s₂.slotsUsed } : State).setVm s₂.vm).setTop g).pushFrame (.throwing q) := by
      refine e3.trans ?_
      rw [hf₂, State.calling_eq h.top, State.setFrames_setFrames, State.pushFrame, State.frames_setTop _ hr', State.setTop_of_frames _ hr', State.setFrames_setFrames, hr]
      rfl
    have hsame : U.sameButNew ({ U with heap := s₂.heap, slotsUsed := s₂.slotsUsed } : State) L mc ms := by
      refine ⟨?_, q2, q3, q4, q5, q6⟩
      obtain ⟨t, ht, -⟩ := State.frames_cons hr
      show ({ U with heap := s₂.heap, slotsUsed := s₂.slotsUsed } : State) = { U.setFrames U.frames with heap := s₂.heap, slotsUsed := s₂.slotsUsed }
      rw [State.setFrames_self ht]
    subst hg
    refine Or.inr ⟨q, ⟨(({ U with heap := s₂.heap, slotsUsed := s₂.slotsUsed } : State).setVm s₂.vm), Ls ++ L, c0 + mc, s0 + ms⟩,
      ⟨X.admits, X.cas, X.clock, X.frames, X.room, X.hears, X.method, X.code, (X.here.setHeapUsed s₂.heap s₂.slotsUsed).setVm hW'.alike, X.tail, State.WarmedH.trans X.warmed hW', X.limits, X.bytes, X.same.trans (hsame.setVm s.vm)⟩,
      ⟨g, mk, s₂, L, E, ce, rfl, rfl, hx, hce, hcv, hcl, rfl, hL, rfl, rfl⟩, ?_⟩
    show Steps p.tables e below _ (((({ U with heap := s₂.heap, slotsUsed := s₂.slotsUsed } : State).setVm s₂.vm).setTop g).pushFrame (.throwing q))
    rw [← hs₂]
    exact hsteps
end
variable {p : Program} {l : Launch} {e : Env} {R : Room} {s : State} {m : MethodId} {args : Array Value} {below : List Frame} {meth : Method} {c : Code} {T : State} {H : Heap} {locs : List Loc} {cells slots : Nat}
theorem vx_callVX (X : Stand p l e R s m args below meth c T locs cells slots) (hexec : p.tables.exec = Jvm.exec) {own C : String} {index : Nat} {y : MethodName} {bytes : ByteArray} {maxL : Nat} {ret : Option FieldType} {hh : List (Nat × Nat × Nat × Nat)}
    (hown : s.vm.findClass own = some m.cls) (hlink : (Cond.methodLink own index y).before args s = true) (hinst : (Cond.instanceMethod y).before args s = true) (hsel : (Cond.selects C y y).before args s = true)
    (hcode : (Cond.codeWith y bytes maxL ret hh).before args s = true) (hy : y.cls ≠ "java/lang/invoke/MethodHandle" ∧ y.cls ≠ "java/lang/invoke/VarHandle")
    {W9 : Nat} {Pre : Pt → Array Value → Prop} {Post : Pt → Array Value → Option Value → Pt → Prop} {PostX : Pt → Array Value → Addr → Pt → Prop} (hK : vx_Back l R p e below s args y 3 W9 Pre Post PostX)
    {b : Addr} {cellB : Cell} (hcell : T.heap[b]? = some cellB) (hobj : cellB.vm.isStatics = false) (hcls : s.vm.findClass C = some cellB.cls)
    {g : JFrame} (hg : g.method = m) (hsize : g.locals.size = c.maxLocals) {argsL rest : List Value} (hlen : ∀ sig, parseMethodDescriptor y.desc = some sig → argsL.length = sig.parameters.length)
    (hstack : g.stack = argsL.reverse ++ .ref b :: rest) (hW : 2 * g.monitorRoom + (rest.map fun v => v.category).sum ≤ W9) (hdg : decode c.code g.pc = .ok (.invokevirtual index, 3))
    (hpre : ∀ vm₁, s.WarmedH vm₁ → Pre ⟨T.setVm vm₁, locs, cells, slots⟩ (Value.ref b :: argsL).toArray) :
    (∃ (v : Option Value) (vm₁ : Vm) (B : Pt), s.WarmedH vm₁ ∧ Stand p l e R s m args below meth c B.U B.locs B.cells B.slots ∧ Post ⟨T.setVm vm₁, locs, cells, slots⟩ (Value.ref b :: argsL).toArray v B ∧
      ∀ target, Steps p.tables e below (B.U.setTop { g with pc := g.pc + 3, stack := v.toList ++ rest }) target → Steps p.tables e below (T.setTop g) target) ∨
    (∃ (q : Addr) (vm₁ : Vm) (B : Pt), s.WarmedH vm₁ ∧ Stand p l e R s m args below meth c B.U B.locs B.cells B.slots ∧ PostX ⟨T.setVm vm₁, locs, cells, slots⟩ (Value.ref b :: argsL).toArray q B ∧
      Steps p.tables e below (T.setTop g) ((B.U.setTop { g with stack := rest }).pushFrame (.throwing q))) := by
  obtain ⟨mk, methM, hnamed, hmethM, hstM, habM⟩ := Cond.instanceMethod_spec hinst
  obtain ⟨m8, methM', cM, hn8, hmethM', -, -, -, -, -, -, hsigM⟩ := Cond.codeWith_spec hcode
  cases Option.some.inj (hn8.symm.trans hnamed)
  cases hmethM.symm.trans hmethM'
  obtain ⟨c2, r2, m2, q1, q2, q3, q4, kP, hkP, hkPi⟩ := Cond.selects_spec hsel
  cases hcls.symm.trans q1
  cases (State.methodFound?_of_named hnamed hy).symm.trans q2
  cases hnamed.symm.trans q3
  have hselP : selectMethod e.platform s.vm cellB.cls mk = .method mk := by rw [Launch.admits_selectMethod X.admits]; exact q4
  obtain ⟨vm₁, X₁, hstep₁⟩ := X.invokevirtual hexec hown hlink hnamed hmethM hstM hkP hkPi hy (a := b) (cell := cellB) hcell
    (fun z h => by rw [h] at hobj; cases hobj) hselP hmethM habM hkP hkPi (g := g) hg (argsL := argsL) (rest := rest) (hlen _ hsigM) hstack hdg
  rcases hK m meth c ⟨T.setVm vm₁, locs, cells, slots⟩ { g with stack := rest } (.invokevirtual index) mk (Value.ref b :: argsL).toArray X₁ hg hsize hdg hW (X₁.named hnamed) (hpre vm₁ X₁.warmed) with ⟨v, B, X', hpost, hsteps⟩ | ⟨q, B, X', hpost, hsteps⟩
  · exact Or.inl ⟨v, vm₁, B, X₁.warmed, X', hpost, fun target h => hstep₁ _ fun acts => by rw [doInvoke_state]; exact hsteps.trans h⟩
  · exact Or.inr ⟨q, vm₁, B, X₁.warmed, X', hpost, hstep₁ _ fun acts => by rw [doInvoke_state]; exact hsteps⟩
theorem vx_callSX (X : Stand p l e R s m args below meth c T locs cells slots) (hexec : p.tables.exec = Jvm.exec) {own : String} {index : Nat} {y : MethodName} {bytes : ByteArray} {maxL : Nat} {ret : Option FieldType} {hh : List (Nat × Nat × Nat × Nat)}
    (hown : s.vm.findClass own = some m.cls) (hlink : (Cond.methodLink own index y).before args s = true) (hstat : (Cond.static y).before args s = true) (hinit : (Cond.initialized y.cls).before args s = true)
    (hcode : (Cond.codeWith y bytes maxL ret hh).before args s = true) (hy : y.cls ≠ "java/lang/invoke/MethodHandle" ∧ y.cls ≠ "java/lang/invoke/VarHandle")
    {W9 : Nat} {Pre : Pt → Array Value → Prop} {Post : Pt → Array Value → Option Value → Pt → Prop} {PostX : Pt → Array Value → Addr → Pt → Prop} (hK : vx_Back l R p e below s args y 3 W9 Pre Post PostX)
    {g : JFrame} (hg : g.method = m) (hsize : g.locals.size = c.maxLocals) {argsL rest : List Value} (hlen : ∀ sig, parseMethodDescriptor y.desc = some sig → argsL.length = sig.parameters.length)
    (hstack : g.stack = argsL.reverse ++ rest) (hW : 2 * g.monitorRoom + (rest.map fun v => v.category).sum ≤ W9) (hdg : decode c.code g.pc = .ok (.invokestatic index, 3))
    (hpre : ∀ vm₁, s.WarmedH vm₁ → Pre ⟨T.setVm vm₁, locs, cells, slots⟩ argsL.toArray) :
    (∃ (v : Option Value) (vm₁ : Vm) (B : Pt), s.WarmedH vm₁ ∧ Stand p l e R s m args below meth c B.U B.locs B.cells B.slots ∧ Post ⟨T.setVm vm₁, locs, cells, slots⟩ argsL.toArray v B ∧
      ∀ target, Steps p.tables e below (B.U.setTop { g with pc := g.pc + 3, stack := v.toList ++ rest }) target → Steps p.tables e below (T.setTop g) target) ∨
    (∃ (q : Addr) (vm₁ : Vm) (B : Pt), s.WarmedH vm₁ ∧ Stand p l e R s m args below meth c B.U B.locs B.cells B.slots ∧ PostX ⟨T.setVm vm₁, locs, cells, slots⟩ argsL.toArray q B ∧
      Steps p.tables e below (T.setTop g) ((B.U.setTop { g with stack := rest }).pushFrame (.throwing q))) := by
  obtain ⟨mk, methM, cM, hnamed, hmethM, -, -, -, -, -, -, hsigM⟩ := Cond.codeWith_spec hcode
  have hstatic : methM.isStatic = true := Cond.static_spec hnamed hmethM hstat
  obtain ⟨kP, hkP, -⟩ := className_of_methodNamed hnamed
  have hinitP : kP.init = .initialized := Cond.initialized_spec (findClass_of_methodNamed hnamed) hkP hinit
  obtain ⟨vm₁, X₁, hstep₁⟩ := X.invokestatic hexec hown hlink hnamed hmethM hstatic hkP hinitP hy (g := g) hg (argsL := argsL) (rest := rest) (hlen _ hsigM) hstack hdg
  rcases hK m meth c ⟨T.setVm vm₁, locs, cells, slots⟩ { g with stack := rest } (.invokestatic index) mk argsL.toArray X₁ hg hsize hdg hW (X₁.named hnamed) (hpre vm₁ X₁.warmed) with ⟨v, B, X', hpost, hsteps⟩ | ⟨q, B, X', hpost, hsteps⟩
  · exact Or.inl ⟨v, vm₁, B, X₁.warmed, X', hpost, fun target h => hstep₁ _ fun acts => by rw [doInvoke_state]; exact hsteps.trans h⟩
  · exact Or.inr ⟨q, vm₁, B, X₁.warmed, X', hpost, hstep₁ _ fun acts => by rw [doInvoke_state]; exact hsteps⟩
theorem vx_callVW (X : Stand p l e R s m args below meth c T locs cells slots) (hexec : p.tables.exec = Jvm.exec) {own C : String} {index : Nat} {y : MethodName} {bytes : ByteArray} {maxL : Nat} {ret : Option FieldType} {hh : List (Nat × Nat × Nat × Nat)}
    (hown : s.vm.findClass own = some m.cls) (hlink : (Cond.methodLink own index y).before args s = true) (hinst : (Cond.instanceMethod y).before args s = true) (hsel : (Cond.selects C y y).before args s = true)
    (hcode : (Cond.codeWith y bytes maxL ret hh).before args s = true) (hy : y.cls ≠ "java/lang/invoke/MethodHandle" ∧ y.cls ≠ "java/lang/invoke/VarHandle")
    {W9 : Nat} {Pre : Pt → Array Value → Prop} {Post : Pt → Array Value → Option Value → Pt → Prop} (hK : Back l R p e below s args y 3 W9 Pre Post)
    {b : Addr} {cellB : Cell} (hcell : T.heap[b]? = some cellB) (hobj : cellB.vm.isStatics = false) (hcls : s.vm.findClass C = some cellB.cls)
    {g : JFrame} (hg : g.method = m) (hsize : g.locals.size = c.maxLocals) {argsL rest : List Value} (hlen : ∀ sig, parseMethodDescriptor y.desc = some sig → argsL.length = sig.parameters.length)
    (hstack : g.stack = argsL.reverse ++ .ref b :: rest) (hW : 2 * g.monitorRoom + (rest.map fun v => v.category).sum ≤ W9) (hdg : decode c.code g.pc = .ok (.invokevirtual index, 3))
    (hpre : ∀ vm₁, s.WarmedH vm₁ → Pre ⟨T.setVm vm₁, locs, cells, slots⟩ (Value.ref b :: argsL).toArray) :
    ∃ (v : Option Value) (vm₁ : Vm) (B : Pt), s.WarmedH vm₁ ∧ Stand p l e R s m args below meth c B.U B.locs B.cells B.slots ∧ Post ⟨T.setVm vm₁, locs, cells, slots⟩ (Value.ref b :: argsL).toArray v B ∧
      ∀ target, Steps p.tables e below (B.U.setTop { g with pc := g.pc + 3, stack := v.toList ++ rest }) target → Steps p.tables e below (T.setTop g) target := by
  obtain ⟨mk, methM, hnamed, hmethM, hstM, habM⟩ := Cond.instanceMethod_spec hinst
  obtain ⟨m8, methM', cM, hn8, hmethM', -, -, -, -, -, -, hsigM⟩ := Cond.codeWith_spec hcode
  cases Option.some.inj (hn8.symm.trans hnamed)
  cases hmethM.symm.trans hmethM'
  obtain ⟨c2, r2, m2, q1, q2, q3, q4, kP, hkP, hkPi⟩ := Cond.selects_spec hsel
  cases hcls.symm.trans q1
  cases (State.methodFound?_of_named hnamed hy).symm.trans q2
  cases hnamed.symm.trans q3
  have hselP : selectMethod e.platform s.vm cellB.cls mk = .method mk := by rw [Launch.admits_selectMethod X.admits]; exact q4
  obtain ⟨vm₁, X₁, hstep₁⟩ := X.invokevirtual hexec hown hlink hnamed hmethM hstM hkP hkPi hy (a := b) (cell := cellB) hcell
    (fun z h => by rw [h] at hobj; cases hobj) hselP hmethM habM hkP hkPi (g := g) hg (argsL := argsL) (rest := rest) (hlen _ hsigM) hstack hdg
  obtain ⟨v, B, X', hpost, hsteps⟩ := hK m meth c ⟨T.setVm vm₁, locs, cells, slots⟩ { g with stack := rest } (.invokevirtual index) mk (Value.ref b :: argsL).toArray X₁ hg hsize hdg hW (X₁.named hnamed) (hpre vm₁ X₁.warmed)
  exact ⟨v, vm₁, B, X₁.warmed, X', hpost, fun target h => hstep₁ _ fun acts => by rw [doInvoke_state]; exact hsteps.trans h⟩
abbrev vx_CVW (R : Room) (s : State) (args : Array Value) (own C : String) (index : Nat) (y : MethodName) (bytes : ByteArray) (maxL : Nat) (ret : Option FieldType) (hh : List (Nat × Nat × Nat × Nat)) (ws : List Cond) (rm : Room) (mc ms n : Nat) : Prop :=
  (rm.cells = mc ∧ rm.slots = ms ∧ rm.frames + 1 ≤ R.frames ∧ 8 + (maxL + 11) + rm.locals ≤ R.locals ∧ (∀ w ∈ ws, ∀ (a' : Array Value) (U : State), s.WarmedH U.vm → w.before a' U = true) ∧ Cond.codeWith y bytes maxL ret hh ∈ ws) ∧
  (Cond.codeWith y bytes maxL ret hh).before args s = true ∧ (Cond.initialized y.cls).before args s = true ∧ (y.cls ≠ "java/lang/invoke/MethodHandle" ∧ y.cls ≠ "java/lang/invoke/VarHandle") ∧
  (∀ sig, parseMethodDescriptor y.desc = some sig → n = sig.parameters.length) ∧ (Cond.methodLink own index y).before args s = true ∧ (Cond.instanceMethod y).before args s = true ∧ (Cond.selects C y y).before args s = true
theorem vx_cwVW {own C : String} {index maxL mc ms : Nat} {y : MethodName} {bytes : ByteArray} {ret : Option FieldType} {hh : List (Nat × Nat × Nat × Nat)} {Ts ws ws' : List Cond} {rm : Room} (n : Nat) (ht : ∀ w ∈ Ts, w.before args s = true) (hT : GoodIn Ts (wsV own index C y ws)) (hw : ws = Cond.codeWith y bytes maxL ret hh :: ws') (hrc : rm.cells = mc) (hrs : rm.slots = ms)
    (hd : y.cls = C ∧ y.cls ≠ "java/lang/invoke/MethodHandle" ∧ y.cls ≠ "java/lang/invoke/VarHandle" ∧ (parseMethodDescriptor y.desc).map (fun d => d.parameters.length) = some n) (hR : rm.frames + 1 ≤ R.frames ∧ 8 + (maxL + 11) + rm.locals ≤ R.locals) :
    vx_CVW R s args own C index y bytes maxL ret hh ws rm mc ms n := by
  obtain ⟨hC, hd⟩ := hd
  subst hC
  have ok : ∀ w ∈ wsV own index y.cls y ws, w.before args s = true := fun w h => ht w (hT w h).1
  have hG : GoodIn Ts ws := fun w h => hT w (by unfold wsV; exact List.mem_append_right _ h)
  have hc : Cond.codeWith y bytes maxL ret hh ∈ ws := by rw [hw]; exact List.mem_cons_self
  refine ⟨⟨hrc, hrs, hR.1, hR.2, pay_in ht hG, hc⟩, ht _ (hG _ hc).1, ok _ (by simp [wsV]), ⟨hd.1, hd.2.1⟩, fun sig h => ?_, ok _ (by simp [wsV]), ok _ (by simp [wsV]), ok _ (by simp [wsV])⟩
  have h2 := hd.2.2
  rw [h] at h2
  exact (Option.some.inj h2).symm
theorem vx_runVW {y : MethodName} {bytes cc : ByteArray} {maxL nL mc ms n index : Nat} {ret : Option FieldType} {hh : List (Nat × Nat × Nat × Nat)} {ws : List Cond} {rm : Room} {Pc : Array Value → State → Prop} {Qc : Array Value → State → Outcome → State → Prop} {free : Addr → Prop} {Ts : List Cond} {own C : String} {b : Addr} {As rest : List Value} {g : JFrame}
    (S : CallFix p m c cc nL s args Ts own) (hM : Met l y ws rm Pc Qc mc ms free) (cw : vx_CVW R s args own C index y bytes maxL ret hh ws rm mc ms n) (hp : PreV s H C b Pc As)
    (hg : g.method = m) (hn : As.length = n) (hsize : g.locals.size = nL) (hstack : g.stack = As.reverse ++ .ref b :: rest) (hW : 2 * g.monitorRoom + (rest.map fun v => v.category).sum ≤ 8) (hdg : decode cc g.pc = .ok (.invokevirtual index, 3)) (hf : cells + mc ≤ R.cells ∧ slots + ms ≤ R.slots) :
    va_Run p l e R s m args below meth c H locs cells slots mc ms g rest (Qc (Value.ref b :: As).toArray) free := by
  obtain ⟨⟨hrc, hrs, hfr, hlo, hws, hcw⟩, hcode, hini, hy, hlen, hl, hin, hse⟩ := cw
  have hK : Back l R p e below s args y 3 8 (PreOf R mc ms Pc) (PostOf Qc mc ms free) := va_backW (hh := hh) (bytes := bytes) (maxL := maxL) (ret := ret) hM hp.1 hrc hrs hfr hlo hws hcw (fun a' U hW => word_at hW (Or.inl (by first | rfl | simp [Cond.onTables, Cond.keeps, Cond.steady])) hini)
  obtain ⟨hx, hb, hml, ho, -⟩ := S
  obtain ⟨-, ⟨cellB, hcB, hoB, hclB⟩, hPc⟩ := hp
  intro T hT X
  obtain ⟨v, vm₁, ⟨U', l2, c2, s2⟩, hW₁, X', ⟨g', mk, t, L, e1, e2, hq, h1, hL, h2, h3⟩, st⟩ := vx_callVW X hx (C := C) (hh := hh) (bytes := bytes) (maxL := maxL) (ret := ret) ho hl hin hse hcode hy hK (by rw [hT]; exact hcB) hoB hclB hg (hsize.trans hml.symm) (argsL := As) (rest := rest) (fun sig h => hn.trans (hlen sig h)) hstack hW (by rw [hb]; exact hdg)
    (fun vm₁ hW₁ => ⟨hf.1, hf.2, hPc (T.setVm vm₁) hT hW₁⟩)
  dsimp only [Pt.U, Pt.locs, Pt.cells, Pt.slots] at X' e1 e2 h1 h2 h3 st
  subst h1; subst h2; subst h3
  exact ⟨v, (T.setVm vm₁).calling g' mk (Value.ref b :: As).toArray, t, U', L, hT, X', hL, e1, e2, hq, st⟩
section
variable {y : MethodName} {bytes cc : ByteArray} {maxL nL mc ms n index : Nat} {ret : Option FieldType} {ws : List Cond} {rm : Room} {Pc : Array Value → State → Prop} {Qc : Array Value → State → Outcome → State → Prop} {XC : String → State → State → Prop} {free : Addr → Prop} {Ts : List Cond} {own C : String} {b : Addr} {As rest : List Value} {g : JFrame}
theorem vx_runVX {hh : List (Nat × Nat × Nat × Nat)} (S : CallFix p m c cc nL s args Ts own) (hM : vx_Met l y ws rm Pc Qc XC mc ms free) (cw : vx_CVW R s args own C index y bytes maxL ret hh ws rm mc ms n) (hp : PreV s H C b Pc As)
    (hg : g.method = m) (hn : As.length = n) (hsize : g.locals.size = nL) (hstack : g.stack = As.reverse ++ .ref b :: rest) (hW : 2 * g.monitorRoom + (rest.map fun v => v.category).sum ≤ 8) (hdg : decode cc g.pc = .ok (.invokevirtual index, 3)) (hf : cells + mc ≤ R.cells ∧ slots + ms ≤ R.slots) :
    vx_Run p l e R s m args below meth c H locs cells slots mc ms g rest (Qc (Value.ref b :: As).toArray) XC free := by
  obtain ⟨⟨hrc, hrs, hfr, hlo, hws, hcw⟩, hcode, hini, hy, hlen, hl, hin, hse⟩ := cw
  have hK : vx_Back l R p e below s args y 3 8 (PreOf R mc ms Pc) (PostOf Qc mc ms free) (vx_Post XC mc ms free) := vx_backW (hh := hh) (bytes := bytes) (maxL := maxL) (ret := ret) hM hp.1 hrc hrs hfr hlo hws hcw (fun a' U hW => word_at hW (Or.inl (by first | rfl | simp [Cond.onTables, Cond.keeps, Cond.steady])) hini)
  obtain ⟨hx, hb, hml, ho, -⟩ := S
  obtain ⟨-, ⟨cellB, hcB, hoB, hclB⟩, hPc⟩ := hp
  intro T hT X
  rcases vx_callVX X hx (C := C) (hh := hh) (bytes := bytes) (maxL := maxL) (ret := ret) ho hl hin hse hcode hy hK (by rw [hT]; exact hcB) hoB hclB hg (hsize.trans hml.symm) (argsL := As) (rest := rest) (fun sig h => hn.trans (hlen sig h)) hstack hW (by rw [hb]; exact hdg)
    (fun vm₁ hW₁ => ⟨hf.1, hf.2, hPc (T.setVm vm₁) hT hW₁⟩) with ⟨v, vm₁, ⟨U', l2, c2, s2⟩, hW₁, X', ⟨g', mk, t, L, e1, e2, hq, h1, hL, h2, h3⟩, st⟩ | ⟨q, vm₁, ⟨U', l2, c2, s2⟩, hW₁, X', ⟨g', mk, t, L, E, ce, e1, e2, hq, hce, hcv, hcl, h1, hL, h2, h3⟩, st⟩
  · dsimp only [Pt.U, Pt.locs, Pt.cells, Pt.slots] at X' e1 e2 h1 h2 h3 st
    subst h1; subst h2; subst h3
    exact Or.inl ⟨v, (T.setVm vm₁).calling g' mk (Value.ref b :: As).toArray, t, U', L, hT, X', hL, e1, e2, hq, st⟩
  · dsimp only [Pt.U, Pt.locs, Pt.cells, Pt.slots] at X' e1 e2 h1 h2 h3 st hcl
    subst h1; subst h2; subst h3
    exact Or.inr ⟨q, (T.setVm vm₁).calling g' mk (Value.ref b :: As).toArray, t, U', L, E, ce, hT, X', hL, e1, e2, hq, hce, hcv, vx_cls hW₁ hcl, st⟩
theorem vx_runSX {hh : List (Nat × Nat × Nat × Nat)} (S : CallFix p m c cc nL s args Ts own) (hM : vx_Met l y ws rm Pc Qc XC mc ms free) (cw : vx_CSW R s args own index y bytes maxL ret hh ws rm mc ms n) (hp : PreS s H Pc As)
    (hg : g.method = m) (hn : As.length = n) (hsize : g.locals.size = nL) (hstack : g.stack = As.reverse ++ rest) (hW : 2 * g.monitorRoom + (rest.map fun v => v.category).sum ≤ 8) (hdg : decode cc g.pc = .ok (.invokestatic index, 3)) (hf : cells + mc ≤ R.cells ∧ slots + ms ≤ R.slots) :
    vx_Run p l e R s m args below meth c H locs cells slots mc ms g rest (Qc As.toArray) XC free := by
  obtain ⟨⟨hrc, hrs, hfr, hlo, hws, hcw⟩, hcode, hini, hy, hlen, hl, hstt⟩ := cw
  have hK : vx_Back l R p e below s args y 3 8 (PreOf R mc ms Pc) (PostOf Qc mc ms free) (vx_Post XC mc ms free) := vx_backW (hh := hh) (bytes := bytes) (maxL := maxL) (ret := ret) hM hp.1 hrc hrs hfr hlo hws hcw (fun a' U hW => word_at hW (Or.inl (by first | rfl | simp [Cond.onTables, Cond.keeps, Cond.steady])) hini)
  obtain ⟨hx, hb, hml, ho, -⟩ := S
  intro T hT X
  rcases vx_callSX X hx (hh := hh) (bytes := bytes) (maxL := maxL) (ret := ret) ho hl hstt hini hcode hy hK hg (hsize.trans hml.symm) (argsL := As) (rest := rest) (fun sig h => hn.trans (hlen sig h)) hstack hW (by rw [hb]; exact hdg)
    (fun vm₁ hW₁ => ⟨hf.1, hf.2, hp.2 (T.setVm vm₁) hT hW₁⟩) with ⟨v, vm₁, ⟨U', l2, c2, s2⟩, hW₁, X', ⟨g', mk, t, L, e1, e2, hq, h1, hL, h2, h3⟩, st⟩ | ⟨q, vm₁, ⟨U', l2, c2, s2⟩, hW₁, X', ⟨g', mk, t, L, E, ce, e1, e2, hq, hce, hcv, hcl, h1, hL, h2, h3⟩, st⟩
  · dsimp only [Pt.U, Pt.locs, Pt.cells, Pt.slots] at X' e1 e2 h1 h2 h3 st
    subst h1; subst h2; subst h3
    exact Or.inl ⟨v, (T.setVm vm₁).calling g' mk As.toArray, t, U', L, hT, X', hL, e1, e2, hq, st⟩
  · dsimp only [Pt.U, Pt.locs, Pt.cells, Pt.slots] at X' e1 e2 h1 h2 h3 st hcl
    subst h1; subst h2; subst h3
    exact Or.inr ⟨q, (T.setVm vm₁).calling g' mk As.toArray, t, U', L, E, ce, hT, X', hL, e1, e2, hq, hce, hcv, vx_cls hW₁ hcl, st⟩
end
end VXH
theorem vx_ofWH {l : Launch} {y : MethodName} {ws ws' : List Cond} {rm : Room} {Pc : Array Value → State → Prop} {Qc : Array Value → State → Outcome → State → Prop} {XC : String → State → State → Prop} {mc ms : Nat} {free : Addr → Prop} {cc : ByteArray} {maxL : Nat} {ret : Option FieldType} {hh : List (Nat × Nat × Nat × Nat)}
    (hy : plainName y.cls = true) (hw : ws = Cond.codeWith y cc maxL ret hh :: ws')
    (body : ∀ p e s m args below meth c s₁, BodyLoose p l y (headSpec ws rm) cc maxL ret e s m args below meth c s₁ → c.maxLocals = maxL → Pc args s →
      W p l e (headSpec ws rm).room s m args below meth c s.heap [] 0 0 (vx_MQ below Qc XC args s mc ms free) (entryFrame m args maxL)) : vx_Met l y ws rm Pc Qc XC mc ms free := by
  refine MetFree.of_bodyS (code := cc) (maxLocals := maxL) (ret := ret) hy ?_ ?_
  · intro args s m h hn
    obtain ⟨m9, meth, c, hn9, h1, h2, h3, h4, -, h5, h6, -⟩ := Cond.codeWith_spec (atoms_spec (ws := ws) h _ (by rw [hw]; exact List.mem_cons_self))
    cases hn.symm.trans hn9
    exact ⟨meth, c, h1, h2, h3, h4, h5, h6⟩
  · intro p e s m args below meth c s₁ B hml hP _
    have hh0 : s₁.heap = s.heap := by rw [B.state]; rfl
    obtain ⟨t, a1, o, b1, b2, b3⟩ := body p e s m args below meth c s₁ B hml hP s₁ hh0 (Stand.of_body B)
    exact ⟨t, o, a1, b1, b2, b3⟩
/-! ===== END ===== -/
end
section
def RX12 : String := "WiredBeans"
def TX12 : u_T := fun k => match k with
  | 0 => ("WiredBeans", "classes", "[LWiredBeans$DeclaredClass;", true)
  | 1 => ("WiredBeans", "typed", "[C", true)
  | 2 => ("WiredBeans", "paper", "LWiredBeans$Paper;", true)
  | 3 => ("WiredBeans", "reader", "LWiredBeans$Reader;", true)
  | 4 => ("WiredBeans", "structure", "LWiredBeans$Structure;", true)
  | 5 => ("WiredBeans", "wiring", "LWiredBeans$Wiring;", true)
  | 6 => ("WiredBeans", "row", "LWiredBeans$EventRow;", true)
  | 7 => ("WiredBeans", "maker", "LWiredBeans$Maker;", true)
  | 8 => ("WiredBeans", "typedLength", "I", false)
  | 9 => ("WiredBeans", "hasDocument", "Z", false)
  | 10 => ("WiredBeans", "faultNumber", "I", false)
  | _ => ("WiredBeans", "faultPlace", "I", false)
def tyX12 : Nat → FieldType := fun k => match k with
  | 0 => .array (.object "WiredBeans$DeclaredClass")
  | 1 => .array .char
  | 2 => .object "WiredBeans$Paper"
  | 3 => .object "WiredBeans$Reader"
  | 4 => .object "WiredBeans$Structure"
  | 5 => .object "WiredBeans$Wiring"
  | 6 => .object "WiredBeans$EventRow"
  | 7 => .object "WiredBeans$Maker"
  | 8 => .int
  | 9 => .boolean
  | 10 => .int
  | _ => .int
abbrev wsX120 : List Cond := u_ws RX12 TX12 12
theorem nmX12 : ∀ a, a < 12 → ∀ b, b < 12 → a ≠ b → (TX12 a).2.1 ≠ (TX12 b).2.1 := by decide +kernel
theorem tyX12_ok : ∀ k, k < 12 → parseFieldDescriptor (TX12 k).2.2.1 = some (tyX12 k) := by decide +kernel
def RX8 : String := "WiredBeans$Signature"
def TX8 : u_T := fun k => match k with
  | 0 => ("WiredBeans$Signature", "owner", "I", true)
  | 1 => ("WiredBeans$Signature", "number", "I", true)
  | 2 => ("WiredBeans$Signature", "types", "[I", true)
  | 3 => ("WiredBeans$Signature", "count", "I", false)
  | 4 => ("WiredBeans$Signature", "name", "I", false)
  | 5 => ("WiredBeans$Signature", "isStatic", "Z", false)
  | _ => ("WiredBeans$Signature", "result", "I", false)
def tyX8 : Nat → FieldType := fun k => match k with
  | 0 => .int
  | 1 => .int
  | 2 => .array .int
  | 3 => .int
  | 4 => .int
  | 5 => .boolean
  | _ => .int
abbrev wsX80 : List Cond := u_ws RX8 TX8 7
theorem nmX8 : ∀ a, a < 7 → ∀ b, b < 7 → a ≠ b → (TX8 a).2.1 ≠ (TX8 b).2.1 := by decide +kernel
theorem tyX8_ok : ∀ k, k < 7 → parseFieldDescriptor (TX8 k).2.2.1 = some (tyX8 k) := by decide +kernel
def RX2 : String := "WiredBeans$DeclaredClass"
def TX2 : u_T := fun k => match k with
  | 0 => ("WiredBeans$DeclaredClass", "constructors", "[LWiredBeans$Signature;", true)
  | 1 => ("WiredBeans$DeclaredClass", "factories", "[LWiredBeans$Signature;", true)
  | 2 => ("WiredBeans$DeclaredClass", "constructorCount", "I", false)
  | 3 => ("WiredBeans$DeclaredClass", "factoryCount", "I", false)
  | 4 => ("WiredBeans$DeclaredClass", "number", "I", true)
  | 5 => ("WiredBeans$DeclaredClass", "setterTypes", "[I", true)
  | 6 => ("WiredBeans$DeclaredClass", "setterCount", "I", false)
  | _ => ("WiredBeans$DeclaredClass", "parent", "LWiredBeans$DeclaredClass;", false)
def tyX2 : Nat → FieldType := fun k => match k with
  | 0 => .array (.object "WiredBeans$Signature")
  | 1 => .array (.object "WiredBeans$Signature")
  | 2 => .int
  | 3 => .int
  | 4 => .int
  | 5 => .array .int
  | 6 => .int
  | _ => .object "WiredBeans$DeclaredClass"
abbrev wsX20 : List Cond := u_ws RX2 TX2 8
theorem nmX2 : ∀ a, a < 8 → ∀ b, b < 8 → a ≠ b → (TX2 a).2.1 ≠ (TX2 b).2.1 := by decide +kernel
theorem tyX2_ok : ∀ k, k < 8 → parseFieldDescriptor (TX2 k).2.2.1 = some (tyX2 k) := by decide +kernel
def RX3 : String := "WiredBeans$Element"
def TX3 : u_T := fun k => match k with
  | 0 => ("WiredBeans$Element", "text", "[C", true)
  | 1 => ("WiredBeans$Element", "textLength", "I", false)
  | 2 => ("WiredBeans$Element", "textEnd", "I", false)
  | 3 => ("WiredBeans$Element", "place", "I", false)
  | 4 => ("WiredBeans$Element", "word", "LWiredBeans$Word;", false)
  | 5 => ("WiredBeans$Element", "outer", "LWiredBeans$Element;", false)
  | 6 => ("WiredBeans$Element", "firstInner", "LWiredBeans$Element;", false)
  | 7 => ("WiredBeans$Element", "next", "LWiredBeans$Element;", false)
  | 8 => ("WiredBeans$Element", "innerCount", "I", false)
  | 9 => ("WiredBeans$Element", "firstAttribute", "I", false)
  | 10 => ("WiredBeans$Element", "attributeCount", "I", false)
  | 11 => ("WiredBeans$Element", "name", "J", false)
  | 12 => ("WiredBeans$Element", "target", "J", false)
  | 13 => ("WiredBeans$Element", "number", "J", false)
  | 14 => ("WiredBeans$Element", "truth", "I", false)
  | 15 => ("WiredBeans$Element", "letter", "I", false)
  | 16 => ("WiredBeans$Element", "at", "I", false)
  | 17 => ("WiredBeans$Element", "type", "I", false)
  | 18 => ("WiredBeans$Element", "kind", "LWiredBeans$Word;", false)
  | 19 => ("WiredBeans$Element", "content", "LWiredBeans$Element;", false)
  | _ => ("WiredBeans$Element", "bean", "LWiredBeans$Bean;", false)
def tyX3 : Nat → FieldType := fun k => match k with
  | 0 => .array .char
  | 1 => .int
  | 2 => .int
  | 3 => .int
  | 4 => .object "WiredBeans$Word"
  | 5 => .object "WiredBeans$Element"
  | 6 => .object "WiredBeans$Element"
  | 7 => .object "WiredBeans$Element"
  | 8 => .int
  | 9 => .int
  | 10 => .int
  | 11 => .long
  | 12 => .long
  | 13 => .long
  | 14 => .int
  | 15 => .int
  | 16 => .int
  | 17 => .int
  | 18 => .object "WiredBeans$Word"
  | 19 => .object "WiredBeans$Element"
  | _ => .object "WiredBeans$Bean"
abbrev wsX30 : List Cond := u_ws RX3 TX3 21
theorem nmX3 : ∀ a, a < 21 → ∀ b, b < 21 → a ≠ b → (TX3 a).2.1 ≠ (TX3 b).2.1 := by decide +kernel
theorem tyX3_ok : ∀ k, k < 21 → parseFieldDescriptor (TX3 k).2.2.1 = some (tyX3 k) := by decide +kernel
def RX6 : String := "WiredBeans$Paper"
def TX6 : u_T := fun k => match k with
  | 0 => ("WiredBeans$Paper", "elements", "[LWiredBeans$Element;", true)
  | 1 => ("WiredBeans$Paper", "attributeKeys", "[J", true)
  | 2 => ("WiredBeans$Paper", "valueStarts", "[I", true)
  | 3 => ("WiredBeans$Paper", "valueLengths", "[I", true)
  | 4 => ("WiredBeans$Paper", "values", "[C", true)
  | 5 => ("WiredBeans$Paper", "count", "I", false)
  | 6 => ("WiredBeans$Paper", "attributes", "I", false)
  | _ => ("WiredBeans$Paper", "valuesEnd", "I", false)
def tyX6 : Nat → FieldType := fun k => match k with
  | 0 => .array (.object "WiredBeans$Element")
  | 1 => .array .long
  | 2 => .array .int
  | 3 => .array .int
  | 4 => .array .char
  | 5 => .int
  | 6 => .int
  | _ => .int
abbrev wsX60 : List Cond := u_ws RX6 TX6 8
theorem nmX6 : ∀ a, a < 8 → ∀ b, b < 8 → a ≠ b → (TX6 a).2.1 ≠ (TX6 b).2.1 := by decide +kernel
theorem tyX6_ok : ∀ k, k < 8 → parseFieldDescriptor (TX6 k).2.2.1 = some (tyX6 k) := by decide +kernel
def RX7 : String := "WiredBeans$Reader"
def TX7 : u_T := fun k => match k with
  | 0 => ("WiredBeans$Reader", "paper", "LWiredBeans$Paper;", true)
  | 1 => ("WiredBeans$Reader", "text", "[C", false)
  | 2 => ("WiredBeans$Reader", "length", "I", false)
  | 3 => ("WiredBeans$Reader", "at", "I", false)
  | 4 => ("WiredBeans$Reader", "depth", "I", false)
  | _ => ("WiredBeans$Reader", "open", "LWiredBeans$Element;", false)
def tyX7 : Nat → FieldType := fun k => match k with
  | 0 => .object "WiredBeans$Paper"
  | 1 => .array .char
  | 2 => .int
  | 3 => .int
  | 4 => .int
  | _ => .object "WiredBeans$Element"
abbrev wsX70 : List Cond := u_ws RX7 TX7 6
theorem nmX7 : ∀ a, a < 6 → ∀ b, b < 6 → a ≠ b → (TX7 a).2.1 ≠ (TX7 b).2.1 := by decide +kernel
theorem tyX7_ok : ∀ k, k < 6 → parseFieldDescriptor (TX7 k).2.2.1 = some (tyX7 k) := by decide +kernel
def RX9 : String := "WiredBeans$Structure"
def TX9 : u_T := fun k => match k with
  | _ => ("WiredBeans$Structure", "paper", "LWiredBeans$Paper;", true)
def tyX9 : Nat → FieldType := fun k => match k with
  | _ => .object "WiredBeans$Paper"
abbrev wsX90 : List Cond := u_ws RX9 TX9 1
theorem nmX9 : ∀ a, a < 1 → ∀ b, b < 1 → a ≠ b → (TX9 a).2.1 ≠ (TX9 b).2.1 := by decide +kernel
theorem tyX9_ok : ∀ k, k < 1 → parseFieldDescriptor (TX9 k).2.2.1 = some (tyX9 k) := by decide +kernel
def RX1 : String := "WiredBeans$Bean"
def TX1 : u_T := fun k => match k with
  | 0 => ("WiredBeans$Bean", "number", "I", true)
  | 1 => ("WiredBeans$Bean", "args", "Ljava/util/ArrayList;", true)
  | 2 => ("WiredBeans$Bean", "sets", "Ljava/util/ArrayList;", true)
  | 3 => ("WiredBeans$Bean", "lookups", "Ljava/util/ArrayList;", true)
  | 4 => ("WiredBeans$Bean", "element", "LWiredBeans$Element;", false)
  | 5 => ("WiredBeans$Bean", "id", "J", false)
  | 6 => ("WiredBeans$Bean", "parent", "J", false)
  | 7 => ("WiredBeans$Bean", "depends", "J", false)
  | 8 => ("WiredBeans$Bean", "factory", "J", false)
  | 9 => ("WiredBeans$Bean", "classNumber", "I", false)
  | 10 => ("WiredBeans$Bean", "method", "I", false)
  | 11 => ("WiredBeans$Bean", "init", "I", false)
  | 12 => ("WiredBeans$Bean", "destroy", "I", false)
  | 13 => ("WiredBeans$Bean", "isAbstract", "Z", false)
  | 14 => ("WiredBeans$Bean", "isMany", "Z", false)
  | 15 => ("WiredBeans$Bean", "isLazy", "Z", false)
  | 16 => ("WiredBeans$Bean", "isBeingMade", "Z", false)
  | 17 => ("WiredBeans$Bean", "isMade", "Z", false)
  | _ => ("WiredBeans$Bean", "madeObject", "I", false)
def tyX1 : Nat → FieldType := fun k => match k with
  | 0 => .int
  | 1 => .object "java/util/ArrayList"
  | 2 => .object "java/util/ArrayList"
  | 3 => .object "java/util/ArrayList"
  | 4 => .object "WiredBeans$Element"
  | 5 => .long
  | 6 => .long
  | 7 => .long
  | 8 => .long
  | 9 => .int
  | 10 => .int
  | 11 => .int
  | 12 => .int
  | 13 => .boolean
  | 14 => .boolean
  | 15 => .boolean
  | 16 => .boolean
  | 17 => .boolean
  | _ => .int
abbrev wsX10 : List Cond := u_ws RX1 TX1 19
theorem nmX1 : ∀ a, a < 19 → ∀ b, b < 19 → a ≠ b → (TX1 a).2.1 ≠ (TX1 b).2.1 := by decide +kernel
theorem tyX1_ok : ∀ k, k < 19 → parseFieldDescriptor (TX1 k).2.2.1 = some (tyX1 k) := by decide +kernel
def RX10 : String := "WiredBeans$Wiring"
def TX10 : u_T := fun k => match k with
  | 0 => ("WiredBeans$Wiring", "paper", "LWiredBeans$Paper;", true)
  | 1 => ("WiredBeans$Wiring", "beans", "[LWiredBeans$Bean;", true)
  | 2 => ("WiredBeans$Wiring", "chain", "[LWiredBeans$Bean;", true)
  | _ => ("WiredBeans$Wiring", "count", "I", false)
def tyX10 : Nat → FieldType := fun k => match k with
  | 0 => .object "WiredBeans$Paper"
  | 1 => .array (.object "WiredBeans$Bean")
  | 2 => .array (.object "WiredBeans$Bean")
  | _ => .int
abbrev wsX100 : List Cond := u_ws RX10 TX10 4
theorem nmX10 : ∀ a, a < 4 → ∀ b, b < 4 → a ≠ b → (TX10 a).2.1 ≠ (TX10 b).2.1 := by decide +kernel
theorem tyX10_ok : ∀ k, k < 4 → parseFieldDescriptor (TX10 k).2.2.1 = some (tyX10 k) := by decide +kernel
def RX4 : String := "WiredBeans$EventRow"
def TX4 : u_T := fun k => match k with
  | 0 => ("WiredBeans$EventRow", "numbers", "[I", true)
  | _ => ("WiredBeans$EventRow", "count", "I", false)
def tyX4 : Nat → FieldType := fun k => match k with
  | 0 => .array .int
  | _ => .int
abbrev wsX40 : List Cond := u_ws RX4 TX4 2
theorem nmX4 : ∀ a, a < 2 → ∀ b, b < 2 → a ≠ b → (TX4 a).2.1 ≠ (TX4 b).2.1 := by decide +kernel
theorem tyX4_ok : ∀ k, k < 2 → parseFieldDescriptor (TX4 k).2.2.1 = some (tyX4 k) := by decide +kernel
def RX5 : String := "WiredBeans$Maker"
def TX5 : u_T := fun k => match k with
  | 0 => ("WiredBeans$Maker", "wiring", "LWiredBeans$Wiring;", true)
  | 1 => ("WiredBeans$Maker", "classes", "[LWiredBeans$DeclaredClass;", true)
  | 2 => ("WiredBeans$Maker", "row", "LWiredBeans$EventRow;", true)
  | 3 => ("WiredBeans$Maker", "objectClasses", "[I", true)
  | 4 => ("WiredBeans$Maker", "objectBeans", "[I", true)
  | 5 => ("WiredBeans$Maker", "objectCount", "I", false)
  | 6 => ("WiredBeans$Maker", "finished", "[LWiredBeans$Bean;", true)
  | 7 => ("WiredBeans$Maker", "finishedCount", "I", false)
  | 8 => ("WiredBeans$Maker", "worked", "[I", true)
  | 9 => ("WiredBeans$Maker", "argAtPlace", "[I", true)
  | 10 => ("WiredBeans$Maker", "innermost", "LWiredBeans$Bean;", false)
  | 11 => ("WiredBeans$Maker", "failure", "I", false)
  | _ => ("WiredBeans$Maker", "failureBean", "I", false)
def tyX5 : Nat → FieldType := fun k => match k with
  | 0 => .object "WiredBeans$Wiring"
  | 1 => .array (.object "WiredBeans$DeclaredClass")
  | 2 => .object "WiredBeans$EventRow"
  | 3 => .array .int
  | 4 => .array .int
  | 5 => .int
  | 6 => .array (.object "WiredBeans$Bean")
  | 7 => .int
  | 8 => .array .int
  | 9 => .array .int
  | 10 => .object "WiredBeans$Bean"
  | 11 => .int
  | _ => .int
abbrev wsX50 : List Cond := u_ws RX5 TX5 13
theorem nmX5 : ∀ a, a < 13 → ∀ b, b < 13 → a ≠ b → (TX5 a).2.1 ≠ (TX5 b).2.1 := by decide +kernel
theorem tyX5_ok : ∀ k, k < 13 → parseFieldDescriptor (TX5 k).2.2.1 = some (tyX5 k) := by decide +kernel
def RJx4a65c : String := "java/util/ArrayList"
def TJx4a65c : u_T := fun k => match k with
  | 0 => ("java/util/AbstractList", "modCount", "I", false)
  | 1 => ("java/util/ArrayList", "elementData", "[Ljava/lang/Object;", false)
  | _ => ("java/util/ArrayList", "size", "I", false)
def tyJx4a65c : Nat → FieldType := fun k => match k with
  | 0 => .int
  | 1 => .array (.object "java/lang/Object")
  | _ => .int
abbrev wsJx4a65c0 : List Cond := u_ws RJx4a65c TJx4a65c 3
theorem nmJx4a65c : ∀ a, a < 3 → ∀ b, b < 3 → a ≠ b → (TJx4a65c a).2.1 ≠ (TJx4a65c b).2.1 := by decide +kernel
theorem tyJx4a65c_ok : ∀ k, k < 3 → parseFieldDescriptor (TJx4a65c k).2.2.1 = some (tyJx4a65c k) := by decide +kernel
def RJxc12de : String := "java/util/AbstractList"
def RJxa1e45 : String := "java/util/AbstractCollection"
def RX13 : String := "WiredBeansModel"
def TX13 : u_T := fun k => match k with
  | 0 => ("WiredBeansModel", "elementNames", "[J", true)
  | 1 => ("WiredBeansModel", "words", "[J", true)
  | 2 => ("WiredBeansModel", "entities", "[J", true)
  | 3 => ("WiredBeansModel", "entityLengths", "[I", true)
  | 4 => ("WiredBeansModel", "entitySigns", "[I", true)
  | 5 => ("WiredBeansModel", "thrown", "I", false)
  | 6 => ("WiredBeansModel", "parents", "[I", true)
  | 7 => ("WiredBeansModel", "makers", "[I", true)
  | 8 => ("WiredBeansModel", "makerSize", "[I", true)
  | 9 => ("WiredBeansModel", "makerType", "[I", true)
  | 10 => ("WiredBeansModel", "setters", "[I", true)
  | 11 => ("WiredBeansModel", "setterName", "[I", true)
  | 12 => ("WiredBeansModel", "setterType", "[I", true)
  | 13 => ("WiredBeansModel", "factories", "[I", true)
  | 14 => ("WiredBeansModel", "factoryName", "[I", true)
  | 15 => ("WiredBeansModel", "factoryResult", "[I", true)
  | 16 => ("WiredBeansModel", "factorySize", "[I", true)
  | 17 => ("WiredBeansModel", "factoryType", "[I", true)
  | 18 => ("WiredBeansModel", "factoryStatic", "[Z", true)
  | 19 => ("WiredBeansModel", "text", "[B", true)
  | 20 => ("WiredBeansModel", "size", "I", false)
  | 21 => ("WiredBeansModel", "at", "I", false)
  | 22 => ("WiredBeansModel", "fault", "I", false)
  | 23 => ("WiredBeansModel", "faultPlace", "I", false)
  | 24 => ("WiredBeansModel", "elements", "I", false)
  | 25 => ("WiredBeansModel", "pool", "I", false)
  | 26 => ("WiredBeansModel", "kinds", "[I", true)
  | 27 => ("WiredBeansModel", "places", "[I", true)
  | 28 => ("WiredBeansModel", "above", "[I", true)
  | 29 => ("WiredBeansModel", "within", "[I", true)
  | 30 => ("WiredBeansModel", "attributes", "[I", true)
  | 31 => ("WiredBeansModel", "textSize", "[I", true)
  | 32 => ("WiredBeansModel", "pending", "[I", true)
  | 33 => ("WiredBeansModel", "textAt", "[I", true)
  | 34 => ("WiredBeansModel", "names", "[J", true)
  | 35 => ("WiredBeansModel", "attributeName", "[J", true)
  | 36 => ("WiredBeansModel", "attributeAt", "[I", true)
  | 37 => ("WiredBeansModel", "attributeSize", "[I", true)
  | 38 => ("WiredBeansModel", "characters", "[B", true)
  | 39 => ("WiredBeansModel", "texts", "[B", true)
  | 40 => ("WiredBeansModel", "document", "Z", false)
  | 41 => ("WiredBeansModel", "beans", "I", false)
  | 42 => ("WiredBeansModel", "beanElement", "[I", true)
  | 43 => ("WiredBeansModel", "beanOf", "[I", true)
  | 44 => ("WiredBeansModel", "setMany", "[I", true)
  | 45 => ("WiredBeansModel", "setElement", "[I", true)
  | 46 => ("WiredBeansModel", "lookupMany", "[I", true)
  | 47 => ("WiredBeansModel", "lookupElement", "[I", true)
  | 48 => ("WiredBeansModel", "objects", "I", false)
  | 49 => ("WiredBeansModel", "events", "I", false)
  | 50 => ("WiredBeansModel", "made", "I", false)
  | 51 => ("WiredBeansModel", "failure", "I", false)
  | 52 => ("WiredBeansModel", "failureBean", "I", false)
  | 53 => ("WiredBeansModel", "objectClass", "[I", true)
  | 54 => ("WiredBeansModel", "objectBean", "[I", true)
  | 55 => ("WiredBeansModel", "eventKind", "[I", true)
  | 56 => ("WiredBeansModel", "eventObject", "[I", true)
  | 57 => ("WiredBeansModel", "eventSecond", "[I", true)
  | 58 => ("WiredBeansModel", "eventThird", "[I", true)
  | 59 => ("WiredBeansModel", "madeOrder", "[I", true)
  | 60 => ("WiredBeansModel", "own", "[I", true)
  | 61 => ("WiredBeansModel", "isMade", "[Z", true)
  | 62 => ("WiredBeansModel", "making", "[Z", true)
  | 63 => ("WiredBeansModel", "high", "I", false)
  | 64 => ("WiredBeansModel", "pileBean", "[I", true)
  | 65 => ("WiredBeansModel", "pilePhase", "[I", true)
  | 66 => ("WiredBeansModel", "pileIndex", "[I", true)
  | 67 => ("WiredBeansModel", "pileItem", "[I", true)
  | 68 => ("WiredBeansModel", "pileFactory", "[I", true)
  | 69 => ("WiredBeansModel", "pileObject", "[I", true)
  | 70 => ("WiredBeansModel", "valueKind", "[I", true)
  | 71 => ("WiredBeansModel", "value", "[I", true)
  | 72 => ("WiredBeansModel", "itemKind", "[I", true)
  | 73 => ("WiredBeansModel", "item", "[I", true)
  | 74 => ("WiredBeansModel", "got", "I", false)
  | 75 => ("WiredBeansModel", "spot", "[I", true)
  | _ => ("WiredBeansModel", "closed", "Z", false)
def tyX13 : Nat → FieldType := fun k => match k with
  | 0 => .array .long
  | 1 => .array .long
  | 2 => .array .long
  | 3 => .array .int
  | 4 => .array .int
  | 5 => .int
  | 6 => .array .int
  | 7 => .array .int
  | 8 => .array .int
  | 9 => .array .int
  | 10 => .array .int
  | 11 => .array .int
  | 12 => .array .int
  | 13 => .array .int
  | 14 => .array .int
  | 15 => .array .int
  | 16 => .array .int
  | 17 => .array .int
  | 18 => .array .boolean
  | 19 => .array .byte
  | 20 => .int
  | 21 => .int
  | 22 => .int
  | 23 => .int
  | 24 => .int
  | 25 => .int
  | 26 => .array .int
  | 27 => .array .int
  | 28 => .array .int
  | 29 => .array .int
  | 30 => .array .int
  | 31 => .array .int
  | 32 => .array .int
  | 33 => .array .int
  | 34 => .array .long
  | 35 => .array .long
  | 36 => .array .int
  | 37 => .array .int
  | 38 => .array .byte
  | 39 => .array .byte
  | 40 => .boolean
  | 41 => .int
  | 42 => .array .int
  | 43 => .array .int
  | 44 => .array .int
  | 45 => .array .int
  | 46 => .array .int
  | 47 => .array .int
  | 48 => .int
  | 49 => .int
  | 50 => .int
  | 51 => .int
  | 52 => .int
  | 53 => .array .int
  | 54 => .array .int
  | 55 => .array .int
  | 56 => .array .int
  | 57 => .array .int
  | 58 => .array .int
  | 59 => .array .int
  | 60 => .array .int
  | 61 => .array .boolean
  | 62 => .array .boolean
  | 63 => .int
  | 64 => .array .int
  | 65 => .array .int
  | 66 => .array .int
  | 67 => .array .int
  | 68 => .array .int
  | 69 => .array .int
  | 70 => .array .int
  | 71 => .array .int
  | 72 => .array .int
  | 73 => .array .int
  | 74 => .int
  | 75 => .array .int
  | _ => .boolean
abbrev wsX130 : List Cond := u_ws RX13 TX13 77
theorem nmX13 : ∀ a, a < 77 → ∀ b, b < 77 → a ≠ b → (TX13 a).2.1 ≠ (TX13 b).2.1 := by decide +kernel
theorem tyX13_ok : ∀ k, k < 77 → parseFieldDescriptor (TX13 k).2.2.1 = some (tyX13 k) := by decide +kernel
def RL : String := "WiredBeansLaw"
abbrev cX12_init : ByteArray := prog_1_method_1_code
def yX12_init : MethodName := ⟨RX12, "<init>", "()V"⟩
abbrev cX12_declare : ByteArray := prog_1_method_2_code
def yX12_declare : MethodName := ⟨RX12, "declare", "(II)Z"⟩
abbrev cX12_constructor : ByteArray := prog_1_method_3_code
def yX12_constructor : MethodName := ⟨RX12, "constructor", "(IIIII)Z"⟩
abbrev cX12_setter : ByteArray := prog_1_method_4_code
def yX12_setter : MethodName := ⟨RX12, "setter", "(III)Z"⟩
abbrev cX12_factory : ByteArray := prog_1_method_5_code
def yX12_factory : MethodName := ⟨RX12, "factory", "(IIZIIIII)Z"⟩
abbrev cX12_type : ByteArray := prog_1_method_6_code
def yX12_type : MethodName := ⟨RX12, "type", "(IIIII)I"⟩
abbrev cX12_read : ByteArray := prog_1_method_7_code
def yX12_read : MethodName := ⟨RX12, "read", "()I"⟩
abbrev cX12_fault : ByteArray := prog_1_method_8_code
def yX12_fault : MethodName := ⟨RX12, "fault", "(I)I"⟩
abbrev cX12_refresh : ByteArray := prog_1_method_9_code
def yX12_refresh : MethodName := ⟨RX12, "refresh", "()I"⟩
abbrev cX12_get : ByteArray := prog_1_method_10_code
def yX12_get : MethodName := ⟨RX12, "get", "(J)I"⟩
abbrev cX12_call : ByteArray := prog_1_method_11_code
def yX12_call : MethodName := ⟨RX12, "call", "(II)I"⟩
abbrev cX12_close : ByteArray := prog_1_method_12_code
def yX12_close : MethodName := ⟨RX12, "close", "()I"⟩
abbrev cX12_events : ByteArray := prog_1_method_13_code
def yX12_events : MethodName := ⟨RX12, "events", "()I"⟩
abbrev cX12_event : ByteArray := prog_1_method_14_code
def yX12_event : MethodName := ⟨RX12, "event", "(II)I"⟩
abbrev cX12_object : ByteArray := prog_1_method_15_code
def yX12_object : MethodName := ⟨RX12, "object", "(II)I"⟩
abbrev cX12_bean : ByteArray := prog_1_method_16_code
def yX12_bean : MethodName := ⟨RX12, "bean", "(II)I"⟩
abbrev cX12_isClass : ByteArray := prog_1_method_17_code
def yX12_isClass : MethodName := ⟨RX12, "isClass", "(I)Z"⟩
abbrev cX12_isLetter : ByteArray := prog_1_method_18_code
def yX12_isLetter : MethodName := ⟨RX12, "isLetter", "(I)Z"⟩
abbrev cX12_isType : ByteArray := prog_1_method_19_code
def yX12_isType : MethodName := ⟨RX12, "isType", "(I)Z"⟩
abbrev cX12_areTypes : ByteArray := prog_1_method_20_code
def yX12_areTypes : MethodName := ⟨RX12, "areTypes", "(IIII)Z"⟩
abbrev cX12_typedBehind : ByteArray := prog_1_method_21_code
def yX12_typedBehind : MethodName := ⟨RX12, "typedBehind", "(II)I"⟩
abbrev cX8_init : ByteArray := prog_10_method_1_code
def yX8_init : MethodName := ⟨RX8, "<init>", "(II)V"⟩
abbrev cX8_describe : ByteArray := prog_10_method_2_code
def yX8_describe : MethodName := ⟨RX8, "describe", "(IZI)V"⟩
abbrev cX8_setTypes : ByteArray := prog_10_method_3_code
def yX8_setTypes : MethodName := ⟨RX8, "setTypes", "(IIII)V"⟩
abbrev cX2_init : ByteArray := prog_4_method_1_code
def yX2_init : MethodName := ⟨RX2, "<init>", "(I)V"⟩
abbrev cX2_begin : ByteArray := prog_4_method_2_code
def yX2_begin : MethodName := ⟨RX2, "begin", "(LWiredBeans$DeclaredClass;)V"⟩
abbrev cX2_addConstructor : ByteArray := prog_4_method_3_code
def yX2_addConstructor : MethodName := ⟨RX2, "addConstructor", "(IIII)Z"⟩
abbrev cX2_addFactory : ByteArray := prog_4_method_4_code
def yX2_addFactory : MethodName := ⟨RX2, "addFactory", "(IZIIIII)Z"⟩
abbrev cX2_addSetter : ByteArray := prog_4_method_5_code
def yX2_addSetter : MethodName := ⟨RX2, "addSetter", "(II)Z"⟩
abbrev cX3_init : ByteArray := prog_5_method_1_code
def yX3_init : MethodName := ⟨RX3, "<init>", "()V"⟩
abbrev cX6_init : ByteArray := prog_8_method_1_code
def yX6_init : MethodName := ⟨RX6, "<init>", "(I)V"⟩
abbrev cX6_clear : ByteArray := prog_8_method_2_code
def yX6_clear : MethodName := ⟨RX6, "clear", "()V"⟩
abbrev cX7_init : ByteArray := prog_9_method_1_code
def yX7_init : MethodName := ⟨RX7, "<init>", "(LWiredBeans$Paper;)V"⟩
abbrev cX7_firstWrongPlace : ByteArray := prog_9_method_2_code
def yX7_firstWrongPlace : MethodName := ⟨RX7, "firstWrongPlace", "([CI)I"⟩
abbrev cX7_skipAround : ByteArray := prog_9_method_8_code
def yX7_skipAround : MethodName := ⟨RX7, "skipAround", "()V"⟩
abbrev cX7_skipsWhite : ByteArray := prog_9_method_7_code
def yX7_skipsWhite : MethodName := ⟨RX7, "skipsWhite", "()Z"⟩
abbrev cX7_openElement : ByteArray := prog_9_method_11_code
def yX7_openElement : MethodName := ⟨RX7, "openElement", "()V"⟩
abbrev cX7_expect : ByteArray := prog_9_method_5_code
def yX7_expect : MethodName := ⟨RX7, "expect", "(C)V"⟩
abbrev cX9_init : ByteArray := prog_11_method_1_code
def yX9_init : MethodName := ⟨RX9, "<init>", "(LWiredBeans$Paper;)V"⟩
abbrev cX1_init : ByteArray := prog_3_method_1_code
def yX1_init : MethodName := ⟨RX1, "<init>", "(I)V"⟩
abbrev cX10_init : ByteArray := prog_12_method_1_code
def yX10_init : MethodName := ⟨RX10, "<init>", "(LWiredBeans$Paper;)V"⟩
abbrev cX10_count : ByteArray := prog_12_method_3_code
def yX10_count : MethodName := ⟨RX10, "count", "()I"⟩
abbrev cX10_forgetBeans : ByteArray := prog_12_method_2_code
def yX10_forgetBeans : MethodName := ⟨RX10, "forgetBeans", "()V"⟩
abbrev cX4_init : ByteArray := prog_6_method_1_code
def yX4_init : MethodName := ⟨RX4, "<init>", "()V"⟩
abbrev cX4_clear : ByteArray := prog_6_method_2_code
def yX4_clear : MethodName := ⟨RX4, "clear", "()V"⟩
abbrev cX4_count : ByteArray := prog_6_method_3_code
def yX4_count : MethodName := ⟨RX4, "count", "()I"⟩
abbrev cX4_number : ByteArray := prog_6_method_5_code
def yX4_number : MethodName := ⟨RX4, "number", "(II)I"⟩
abbrev cX5_init : ByteArray := prog_7_method_1_code
def yX5_init : MethodName := ⟨RX5, "<init>", "(LWiredBeans$Wiring;[LWiredBeans$DeclaredClass;LWiredBeans$EventRow;)V"⟩
abbrev cX5_startAfresh : ByteArray := prog_7_method_2_code
def yX5_startAfresh : MethodName := ⟨RX5, "startAfresh", "()V"⟩
abbrev cX5_forgetMade : ByteArray := prog_7_method_11_code
def yX5_forgetMade : MethodName := ⟨RX5, "forgetMade", "()V"⟩
abbrev cX5_forgetFailure : ByteArray := prog_7_method_3_code
def yX5_forgetFailure : MethodName := ⟨RX5, "forgetFailure", "()V"⟩
abbrev cX5_failure : ByteArray := prog_7_method_4_code
def yX5_failure : MethodName := ⟨RX5, "failure", "()I"⟩
abbrev cX5_failureBean : ByteArray := prog_7_method_5_code
def yX5_failureBean : MethodName := ⟨RX5, "failureBean", "()I"⟩
abbrev cX5_destroyAll : ByteArray := prog_7_method_12_code
def yX5_destroyAll : MethodName := ⟨RX5, "destroyAll", "()V"⟩
abbrev cX5_classOfObject : ByteArray := prog_7_method_8_code
def yX5_classOfObject : MethodName := ⟨RX5, "classOfObject", "(I)I"⟩
abbrev cX5_beanOfObject : ByteArray := prog_7_method_9_code
def yX5_beanOfObject : MethodName := ⟨RX5, "beanOfObject", "(I)I"⟩
abbrev cX5_isObject : ByteArray := prog_7_method_7_code
def yX5_isObject : MethodName := ⟨RX5, "isObject", "(I)Z"⟩
abbrev cJx4a65c_init_da8c8 : ByteArray := prog_34_method_2_code
def yJx4a65c_init_da8c8 : MethodName := ⟨RJx4a65c, "<init>", "()V"⟩
abbrev cJxc12de_init_da8c8 : ByteArray := prog_33_method_1_code
def yJxc12de_init_da8c8 : MethodName := ⟨RJxc12de, "<init>", "()V"⟩
abbrev cJxa1e45_init_da8c8 : ByteArray := prog_32_method_1_code
def yJxa1e45_init_da8c8 : MethodName := ⟨RJxa1e45, "<init>", "()V"⟩
abbrev cX13_init : ByteArray := prog_15_method_1_code
def yX13_init : MethodName := ⟨RX13, "<init>", "()V"⟩
abbrev cX13_thrown : ByteArray := prog_15_method_2_code
def yX13_thrown : MethodName := ⟨RX13, "thrown", "()I"⟩
abbrev cX13_isClass : ByteArray := prog_15_method_3_code
def yX13_isClass : MethodName := ⟨RX13, "isClass", "(I)Z"⟩
abbrev cX13_isType : ByteArray := prog_15_method_4_code
def yX13_isType : MethodName := ⟨RX13, "isType", "(I)Z"⟩
abbrev cX13_areTypes : ByteArray := prog_15_method_5_code
def yX13_areTypes : MethodName := ⟨RX13, "areTypes", "(IIII)Z"⟩
abbrev cX13_isLetter : ByteArray := prog_15_method_6_code
def yX13_isLetter : MethodName := ⟨RX13, "isLetter", "(I)Z"⟩
abbrev cX13_declare : ByteArray := prog_15_method_7_code
def yX13_declare : MethodName := ⟨RX13, "declare", "(II)Z"⟩
abbrev cX13_constructor : ByteArray := prog_15_method_8_code
def yX13_constructor : MethodName := ⟨RX13, "constructor", "(IIIII)Z"⟩
abbrev cX13_setter : ByteArray := prog_15_method_9_code
def yX13_setter : MethodName := ⟨RX13, "setter", "(III)Z"⟩
abbrev cX13_factory : ByteArray := prog_15_method_10_code
def yX13_factory : MethodName := ⟨RX13, "factory", "(IIZIIIII)Z"⟩
abbrev cX13_type : ByteArray := prog_15_method_14_code
def yX13_type : MethodName := ⟨RX13, "type", "(IIIII)I"⟩
abbrev cX13_bad : ByteArray := prog_15_method_15_code
def yX13_bad : MethodName := ⟨RX13, "bad", "(I)V"⟩
abbrev cX13_here : ByteArray := prog_15_method_16_code
def yX13_here : MethodName := ⟨RX13, "here", "(I)I"⟩
abbrev cX13_isWhite : ByteArray := prog_15_method_18_code
def yX13_isWhite : MethodName := ⟨RX13, "isWhite", "(I)Z"⟩
abbrev cX13_white : ByteArray := prog_15_method_19_code
def yX13_white : MethodName := ⟨RX13, "white", "()I"⟩
abbrev cX13_between : ByteArray := prog_15_method_22_code
def yX13_between : MethodName := ⟨RX13, "between", "()V"⟩
abbrev cX13_begin : ByteArray := prog_15_method_30_code
def yX13_begin : MethodName := ⟨RX13, "begin", "(II)I"⟩
abbrev cX13_readDocument : ByteArray := prog_15_method_32_code
def yX13_readDocument : MethodName := ⟨RX13, "readDocument", "()V"⟩
abbrev cX13_clear : ByteArray := prog_15_method_61_code
def yX13_clear : MethodName := ⟨RX13, "clear", "()V"⟩
abbrev cX13_read : ByteArray := prog_15_method_62_code
def yX13_read : MethodName := ⟨RX13, "read", "()I"⟩
abbrev cX13_fault : ByteArray := prog_15_method_63_code
def yX13_fault : MethodName := ⟨RX13, "fault", "(I)I"⟩
abbrev cX13_refresh : ByteArray := prog_15_method_90_code
def yX13_refresh : MethodName := ⟨RX13, "refresh", "()I"⟩
abbrev cX13_get : ByteArray := prog_15_method_92_code
def yX13_get : MethodName := ⟨RX13, "get", "(J)I"⟩
abbrev cX13_call : ByteArray := prog_15_method_93_code
def yX13_call : MethodName := ⟨RX13, "call", "(II)I"⟩
abbrev cX13_close : ByteArray := prog_15_method_95_code
def yX13_close : MethodName := ⟨RX13, "close", "()I"⟩
abbrev cX13_events : ByteArray := prog_15_method_96_code
def yX13_events : MethodName := ⟨RX13, "events", "()I"⟩
abbrev cX13_event : ByteArray := prog_15_method_97_code
def yX13_event : MethodName := ⟨RX13, "event", "(II)I"⟩
abbrev cX13_object : ByteArray := prog_15_method_98_code
def yX13_object : MethodName := ⟨RX13, "object", "(II)I"⟩
abbrev cX13_bean : ByteArray := prog_15_method_99_code
def yX13_bean : MethodName := ⟨RX13, "bean", "(II)I"⟩
abbrev cL_law : ByteArray := code
def yL_law : MethodName := ⟨RL, "law", "([I)Z"⟩
abbrev cL_read : ByteArray := method_3_code
def yL_read : MethodName := ⟨RL, "read", "(LWiredBeans;[J)I"⟩
abbrev cL_refresh : ByteArray := method_4_code
def yL_refresh : MethodName := ⟨RL, "refresh", "(LWiredBeans;[J)I"⟩
abbrev cL_get : ByteArray := method_5_code
def yL_get : MethodName := ⟨RL, "get", "(LWiredBeans;J[J)I"⟩
abbrev cL_call : ByteArray := method_6_code
def yL_call : MethodName := ⟨RL, "call", "(LWiredBeans;II[J)I"⟩
abbrev vwCl : List vw_C := [(RJx4a65c, TJx4a65c, 3), (RX1, TX1, 19), (RX2, TX2, 8), (RX3, TX3, 21), (RX4, TX4, 2), (RX5, TX5, 13), (RX6, TX6, 8), (RX7, TX7, 6), (RX8, TX8, 7), (RX9, TX9, 1), (RX10, TX10, 4), (RX12, TX12, 12), (RX13, TX13, 77)]
abbrev nvJx4a65c : List Value := [.int 0, .null, .int 0]
theorem nwJx4a65c : ∀ j, j < 3 → defaultValue (tyJx4a65c j) = vp_V nvJx4a65c j := by
  intro j hj
  match j, hj with
  | 0, _ => rfl
  | 1, _ => rfl
  | 2, _ => rfl
  | n + 3, h => exact absurd h (by omega)
abbrev nvX1 : List Value := [.int 0, .null, .null, .null, .null, .long 0, .long 0, .long 0, .long 0, .int 0, .int 0, .int 0, .int 0, .int 0, .int 0, .int 0, .int 0, .int 0, .int 0]
theorem nwX1 : ∀ j, j < 19 → defaultValue (tyX1 j) = vp_V nvX1 j := by
  intro j hj
  match j, hj with
  | 0, _ => rfl
  | 1, _ => rfl
  | 2, _ => rfl
  | 3, _ => rfl
  | 4, _ => rfl
  | 5, _ => rfl
  | 6, _ => rfl
  | 7, _ => rfl
  | 8, _ => rfl
  | 9, _ => rfl
  | 10, _ => rfl
  | 11, _ => rfl
  | 12, _ => rfl
  | 13, _ => rfl
  | 14, _ => rfl
  | 15, _ => rfl
  | 16, _ => rfl
  | 17, _ => rfl
  | 18, _ => rfl
  | n + 19, h => exact absurd h (by omega)
abbrev nvX2 : List Value := [.null, .null, .int 0, .int 0, .int 0, .null, .int 0, .null]
theorem nwX2 : ∀ j, j < 8 → defaultValue (tyX2 j) = vp_V nvX2 j := by
  intro j hj
  match j, hj with
  | 0, _ => rfl
  | 1, _ => rfl
  | 2, _ => rfl
  | 3, _ => rfl
  | 4, _ => rfl
  | 5, _ => rfl
  | 6, _ => rfl
  | 7, _ => rfl
  | n + 8, h => exact absurd h (by omega)
abbrev nvX3 : List Value := [.null, .int 0, .int 0, .int 0, .null, .null, .null, .null, .int 0, .int 0, .int 0, .long 0, .long 0, .long 0, .int 0, .int 0, .int 0, .int 0, .null, .null, .null]
theorem nwX3 : ∀ j, j < 21 → defaultValue (tyX3 j) = vp_V nvX3 j := by
  intro j hj
  match j, hj with
  | 0, _ => rfl
  | 1, _ => rfl
  | 2, _ => rfl
  | 3, _ => rfl
  | 4, _ => rfl
  | 5, _ => rfl
  | 6, _ => rfl
  | 7, _ => rfl
  | 8, _ => rfl
  | 9, _ => rfl
  | 10, _ => rfl
  | 11, _ => rfl
  | 12, _ => rfl
  | 13, _ => rfl
  | 14, _ => rfl
  | 15, _ => rfl
  | 16, _ => rfl
  | 17, _ => rfl
  | 18, _ => rfl
  | 19, _ => rfl
  | 20, _ => rfl
  | n + 21, h => exact absurd h (by omega)
abbrev nvX4 : List Value := [.null, .int 0]
theorem nwX4 : ∀ j, j < 2 → defaultValue (tyX4 j) = vp_V nvX4 j := by
  intro j hj
  match j, hj with
  | 0, _ => rfl
  | 1, _ => rfl
  | n + 2, h => exact absurd h (by omega)
abbrev nvX5 : List Value := [.null, .null, .null, .null, .null, .int 0, .null, .int 0, .null, .null, .null, .int 0, .int 0]
theorem nwX5 : ∀ j, j < 13 → defaultValue (tyX5 j) = vp_V nvX5 j := by
  intro j hj
  match j, hj with
  | 0, _ => rfl
  | 1, _ => rfl
  | 2, _ => rfl
  | 3, _ => rfl
  | 4, _ => rfl
  | 5, _ => rfl
  | 6, _ => rfl
  | 7, _ => rfl
  | 8, _ => rfl
  | 9, _ => rfl
  | 10, _ => rfl
  | 11, _ => rfl
  | 12, _ => rfl
  | n + 13, h => exact absurd h (by omega)
abbrev nvX6 : List Value := [.null, .null, .null, .null, .null, .int 0, .int 0, .int 0]
theorem nwX6 : ∀ j, j < 8 → defaultValue (tyX6 j) = vp_V nvX6 j := by
  intro j hj
  match j, hj with
  | 0, _ => rfl
  | 1, _ => rfl
  | 2, _ => rfl
  | 3, _ => rfl
  | 4, _ => rfl
  | 5, _ => rfl
  | 6, _ => rfl
  | 7, _ => rfl
  | n + 8, h => exact absurd h (by omega)
abbrev nvX7 : List Value := [.null, .null, .int 0, .int 0, .int 0, .null]
theorem nwX7 : ∀ j, j < 6 → defaultValue (tyX7 j) = vp_V nvX7 j := by
  intro j hj
  match j, hj with
  | 0, _ => rfl
  | 1, _ => rfl
  | 2, _ => rfl
  | 3, _ => rfl
  | 4, _ => rfl
  | 5, _ => rfl
  | n + 6, h => exact absurd h (by omega)
abbrev nvX8 : List Value := [.int 0, .int 0, .null, .int 0, .int 0, .int 0, .int 0]
theorem nwX8 : ∀ j, j < 7 → defaultValue (tyX8 j) = vp_V nvX8 j := by
  intro j hj
  match j, hj with
  | 0, _ => rfl
  | 1, _ => rfl
  | 2, _ => rfl
  | 3, _ => rfl
  | 4, _ => rfl
  | 5, _ => rfl
  | 6, _ => rfl
  | n + 7, h => exact absurd h (by omega)
abbrev nvX9 : List Value := [.null]
theorem nwX9 : ∀ j, j < 1 → defaultValue (tyX9 j) = vp_V nvX9 j := by
  intro j hj
  match j, hj with
  | 0, _ => rfl
  | n + 1, h => exact absurd h (by omega)
abbrev nvX10 : List Value := [.null, .null, .null, .int 0]
theorem nwX10 : ∀ j, j < 4 → defaultValue (tyX10 j) = vp_V nvX10 j := by
  intro j hj
  match j, hj with
  | 0, _ => rfl
  | 1, _ => rfl
  | 2, _ => rfl
  | 3, _ => rfl
  | n + 4, h => exact absurd h (by omega)
abbrev nvX12 : List Value := [.null, .null, .null, .null, .null, .null, .null, .null, .int 0, .int 0, .int 0, .int 0]
theorem nwX12 : ∀ j, j < 12 → defaultValue (tyX12 j) = vp_V nvX12 j := by
  intro j hj
  match j, hj with
  | 0, _ => rfl
  | 1, _ => rfl
  | 2, _ => rfl
  | 3, _ => rfl
  | 4, _ => rfl
  | 5, _ => rfl
  | 6, _ => rfl
  | 7, _ => rfl
  | 8, _ => rfl
  | 9, _ => rfl
  | 10, _ => rfl
  | 11, _ => rfl
  | n + 12, h => exact absurd h (by omega)
abbrev nvX13 : List Value := [.null, .null, .null, .null, .null, .int 0, .null, .null, .null, .null, .null, .null, .null, .null, .null, .null, .null, .null, .null, .null, .int 0, .int 0, .int 0, .int 0, .int 0, .int 0, .null, .null, .null, .null, .null, .null, .null, .null, .null, .null, .null, .null, .null, .null, .int 0, .int 0, .null, .null, .null, .null, .null, .null, .int 0, .int 0, .int 0, .int 0, .int 0, .null, .null, .null, .null, .null, .null, .null, .null, .null, .null, .int 0, .null, .null, .null, .null, .null, .null, .null, .null, .null, .null, .int 0, .null, .int 0]
theorem nwX13 : ∀ j, j < 77 → defaultValue (tyX13 j) = vp_V nvX13 j := by
  intro j hj
  match j, hj with
  | 0, _ => rfl
  | 1, _ => rfl
  | 2, _ => rfl
  | 3, _ => rfl
  | 4, _ => rfl
  | 5, _ => rfl
  | 6, _ => rfl
  | 7, _ => rfl
  | 8, _ => rfl
  | 9, _ => rfl
  | 10, _ => rfl
  | 11, _ => rfl
  | 12, _ => rfl
  | 13, _ => rfl
  | 14, _ => rfl
  | 15, _ => rfl
  | 16, _ => rfl
  | 17, _ => rfl
  | 18, _ => rfl
  | 19, _ => rfl
  | 20, _ => rfl
  | 21, _ => rfl
  | 22, _ => rfl
  | 23, _ => rfl
  | 24, _ => rfl
  | 25, _ => rfl
  | 26, _ => rfl
  | 27, _ => rfl
  | 28, _ => rfl
  | 29, _ => rfl
  | 30, _ => rfl
  | 31, _ => rfl
  | 32, _ => rfl
  | 33, _ => rfl
  | 34, _ => rfl
  | 35, _ => rfl
  | 36, _ => rfl
  | 37, _ => rfl
  | 38, _ => rfl
  | 39, _ => rfl
  | 40, _ => rfl
  | 41, _ => rfl
  | 42, _ => rfl
  | 43, _ => rfl
  | 44, _ => rfl
  | 45, _ => rfl
  | 46, _ => rfl
  | 47, _ => rfl
  | 48, _ => rfl
  | 49, _ => rfl
  | 50, _ => rfl
  | 51, _ => rfl
  | 52, _ => rfl
  | 53, _ => rfl
  | 54, _ => rfl
  | 55, _ => rfl
  | 56, _ => rfl
  | 57, _ => rfl
  | 58, _ => rfl
  | 59, _ => rfl
  | 60, _ => rfl
  | 61, _ => rfl
  | 62, _ => rfl
  | 63, _ => rfl
  | 64, _ => rfl
  | 65, _ => rfl
  | 66, _ => rfl
  | 67, _ => rfl
  | 68, _ => rfl
  | 69, _ => rfl
  | 70, _ => rfl
  | 71, _ => rfl
  | 72, _ => rfl
  | 73, _ => rfl
  | 74, _ => rfl
  | 75, _ => rfl
  | 76, _ => rfl
  | n + 77, h => exact absurd h (by omega)
def tbA_0 : List Cond := [.methodLink RX12 1 objectInit, .instanceMethod objectInit, .classLink RX12 9 RX2, .fieldLink RX12 11 "WiredBeans" "classes" "[LWiredBeans$DeclaredClass;", .initialized RX2, .instantiable RX2 8, .methodLink RX12 15 yX2_init, .instanceMethod yX2_init, .arrayClass .char, .fieldLink RX12 18 "WiredBeans" "typed" "[C", .classLink RX12 22 RX6, .initialized RX6, .instantiable RX6 8, .methodLink RX12 24 yX6_init, .instanceMethod yX6_init, .fieldLink RX12 25 "WiredBeans" "paper" "LWiredBeans$Paper;", .classLink RX12 29 RX7, .initialized RX7, .instantiable RX7 6, .methodLink RX12 31 yX7_init, .instanceMethod yX7_init, .fieldLink RX12 34 "WiredBeans" "reader" "LWiredBeans$Reader;", .classLink RX12 38 RX9, .initialized RX9]
def tbA_1 : List Cond := [.instantiable RX9 1, .methodLink RX12 40 yX9_init, .instanceMethod yX9_init, .fieldLink RX12 41 "WiredBeans" "structure" "LWiredBeans$Structure;", .classLink RX12 45 RX10, .initialized RX10, .instantiable RX10 4, .methodLink RX12 47 yX10_init, .instanceMethod yX10_init, .fieldLink RX12 48 "WiredBeans" "wiring" "LWiredBeans$Wiring;", .classLink RX12 52 RX4, .initialized RX4, .instantiable RX4 2, .methodLink RX12 54 yX4_init, .instanceMethod yX4_init, .fieldLink RX12 55 "WiredBeans" "row" "LWiredBeans$EventRow;", .classLink RX12 59 RX5, .initialized RX5, .instantiable RX5 13, .methodLink RX12 61 yX5_init, .instanceMethod yX5_init, .fieldLink RX12 64 "WiredBeans" "maker" "LWiredBeans$Maker;", .fieldLink RX12 68 "WiredBeans" "faultPlace" "I", .methodLink RX12 72 yX12_isClass]
def tbA_2 : List Cond := [.static yX12_isClass, .initialized RX12, .methodLink RX12 76 yX2_begin, .instanceMethod yX2_begin, .selects RX2 yX2_begin yX2_begin, .methodLink RX12 80 yX12_areTypes, .static yX12_areTypes, .methodLink RX12 84 yX2_addConstructor, .instanceMethod yX2_addConstructor, .selects RX2 yX2_addConstructor yX2_addConstructor, .methodLink RX12 87 yX12_isLetter, .static yX12_isLetter, .methodLink RX12 90 yX12_isType, .static yX12_isType, .methodLink RX12 93 yX2_addSetter, .instanceMethod yX2_addSetter, .selects RX2 yX2_addSetter yX2_addSetter, .methodLink RX12 97 yX2_addFactory, .instanceMethod yX2_addFactory, .selects RX2 yX2_addFactory yX2_addFactory, .fieldLink RX12 101 "WiredBeans" "typedLength" "I", .methodLink RX12 104 yX12_typedBehind, .instanceMethod yX12_typedBehind, .selects RX12 yX12_typedBehind yX12_typedBehind]
def tbA_3 : List Cond := [.methodLink RX12 108 yX5_startAfresh, .instanceMethod yX5_startAfresh, .selects RX5 yX5_startAfresh yX5_startAfresh, .fieldLink RX12 111 "WiredBeans" "faultNumber" "I", .methodLink RX12 114 yX7_firstWrongPlace, .instanceMethod yX7_firstWrongPlace, .selects RX7 yX7_firstWrongPlace yX7_firstWrongPlace, .fieldLink RX12 122 "WiredBeans" "hasDocument" "Z", .methodLink RX12 126 yX10_forgetBeans, .instanceMethod yX10_forgetBeans, .selects RX10 yX10_forgetBeans yX10_forgetBeans, .classLink RX12 129 "java/lang/IllegalArgumentException", .initialized "java/lang/IllegalArgumentException", .methodLink RX12 132 yX10_count, .instanceMethod yX10_count, .selects RX10 yX10_count yX10_count, .methodLink RX12 135 yX5_failure, .instanceMethod yX5_failure, .selects RX5 yX5_failure yX5_failure, .methodLink RX12 138 yX5_failureBean, .instanceMethod yX5_failureBean, .selects RX5 yX5_failureBean yX5_failureBean, .methodLink RX12 141 yX5_forgetFailure, .instanceMethod yX5_forgetFailure]
def tbA_4 : List Cond := [.selects RX5 yX5_forgetFailure yX5_forgetFailure, .classLink RX12 144 "java/lang/IllegalStateException", .initialized "java/lang/IllegalStateException", .classLink RX12 151 "java/lang/UnsupportedOperationException", .initialized "java/lang/UnsupportedOperationException", .classLink RX12 169 "java/lang/IndexOutOfBoundsException", .initialized "java/lang/IndexOutOfBoundsException", .fieldLink RX12 172 "WiredBeans$Element" "target" "J", .methodLink RX12 178 yX5_destroyAll, .instanceMethod yX5_destroyAll, .selects RX5 yX5_destroyAll yX5_destroyAll, .methodLink RX12 181 yX4_count, .instanceMethod yX4_count, .selects RX4 yX4_count yX4_count, .methodLink RX12 182 yX4_number, .instanceMethod yX4_number, .selects RX4 yX4_number yX4_number, .methodLink RX12 185 yX5_classOfObject, .instanceMethod yX5_classOfObject, .selects RX5 yX5_classOfObject yX5_classOfObject, .methodLink RX12 189 yX5_beanOfObject, .instanceMethod yX5_beanOfObject, .selects RX5 yX5_beanOfObject yX5_beanOfObject, .methodLink RX8 3 objectInit]
def tbA_5 : List Cond := [.fieldLink RX8 9 "WiredBeans$Signature" "owner" "I", .fieldLink RX8 15 "WiredBeans$Signature" "number" "I", .arrayClass .int, .fieldLink RX8 18 "WiredBeans$Signature" "types" "[I", .fieldLink RX8 22 "WiredBeans$Signature" "name" "I", .fieldLink RX8 25 "WiredBeans$Signature" "isStatic" "Z", .fieldLink RX8 29 "WiredBeans$Signature" "result" "I", .fieldLink RX8 32 "WiredBeans$Signature" "count" "I", .methodLink RX2 3 objectInit, .fieldLink RX2 9 "WiredBeans$DeclaredClass" "number" "I", .classLink RX2 15 RX8, .fieldLink RX2 17 "WiredBeans$DeclaredClass" "constructors" "[LWiredBeans$Signature;", .fieldLink RX2 21 "WiredBeans$DeclaredClass" "factories" "[LWiredBeans$Signature;", .initialized RX8, .instantiable RX8 7, .methodLink RX2 24 yX8_init, .instanceMethod yX8_init, .fieldLink RX2 27 "WiredBeans$DeclaredClass" "setterTypes" "[I", .fieldLink RX2 31 "WiredBeans$DeclaredClass" "parent" "LWiredBeans$DeclaredClass;", .fieldLink RX2 35 "WiredBeans$DeclaredClass" "constructorCount" "I", .fieldLink RX2 38 "WiredBeans$DeclaredClass" "factoryCount" "I", .fieldLink RX2 41 "WiredBeans$DeclaredClass" "setterCount" "I", .methodLink RX2 44 yX8_describe, .instanceMethod yX8_describe]
def tbA_6 : List Cond := [.selects RX8 yX8_describe yX8_describe, .methodLink RX2 48 yX8_setTypes, .instanceMethod yX8_setTypes, .selects RX8 yX8_setTypes yX8_setTypes, .methodLink RX3 3 objectInit, .fieldLink RX3 11 "WiredBeans$Element" "text" "[C", .methodLink RX6 3 objectInit, .classLink RX6 11 RX3, .fieldLink RX6 13 "WiredBeans$Paper" "elements" "[LWiredBeans$Element;", .initialized RX3, .instantiable RX3 21, .methodLink RX6 17 yX3_init, .instanceMethod yX3_init, .arrayClass .long, .fieldLink RX6 18 "WiredBeans$Paper" "attributeKeys" "[J", .fieldLink RX6 22 "WiredBeans$Paper" "valueStarts" "[I", .fieldLink RX6 26 "WiredBeans$Paper" "valueLengths" "[I", .fieldLink RX6 29 "WiredBeans$Paper" "values" "[C", .fieldLink RX6 33 "WiredBeans$Paper" "count" "I", .fieldLink RX6 37 "WiredBeans$Paper" "attributes" "I", .fieldLink RX6 40 "WiredBeans$Paper" "valuesEnd" "I", .methodLink RX7 3 objectInit, .fieldLink RX7 9 "WiredBeans$Reader" "paper" "LWiredBeans$Paper;", .fieldLink RX7 15 "WiredBeans$Reader" "text" "[C"]
def tbA_7 : List Cond := [.fieldLink RX7 19 "WiredBeans$Reader" "length" "I", .fieldLink RX7 23 "WiredBeans$Reader" "at" "I", .fieldLink RX7 26 "WiredBeans$Reader" "depth" "I", .fieldLink RX7 29 "WiredBeans$Reader" "open" "LWiredBeans$Element;", .methodLink RX7 33 yX6_clear, .instanceMethod yX6_clear, .selects RX6 yX6_clear yX6_clear, .methodLink RX7 38 yX7_skipAround, .instanceMethod yX7_skipAround, .selects RX7 yX7_skipAround yX7_skipAround, .methodLink RX7 41 yX7_openElement, .instanceMethod yX7_openElement, .selects RX7 yX7_openElement yX7_openElement, .classLink RX7 50 "java/lang/IllegalArgumentException", .methodLink RX7 53 yX7_skipsWhite, .instanceMethod yX7_skipsWhite, .selects RX7 yX7_skipsWhite yX7_skipsWhite, .methodLink RX7 64 yX7_expect, .instanceMethod yX7_expect, .selects RX7 yX7_expect yX7_expect, .fieldLink RX7 101 "WiredBeans$Element" "word" "LWiredBeans$Word;", .methodLink RX9 3 objectInit, .fieldLink RX9 9 "WiredBeans$Structure" "paper" "LWiredBeans$Paper;", .methodLink RX1 3 objectInit]
def tbA_8 : List Cond := [.fieldLink RX1 9 "WiredBeans$Bean" "number" "I", .classLink RX1 15 RJx4a65c, .initialized RJx4a65c, .instantiable RJx4a65c 3, .methodLink RX1 17 yJx4a65c_init_da8c8, .instanceMethod yJx4a65c_init_da8c8, .fieldLink RX1 18 "WiredBeans$Bean" "args" "Ljava/util/ArrayList;", .fieldLink RX1 22 "WiredBeans$Bean" "sets" "Ljava/util/ArrayList;", .fieldLink RX1 25 "WiredBeans$Bean" "lookups" "Ljava/util/ArrayList;", .methodLink RX10 3 objectInit, .fieldLink RX10 9 "WiredBeans$Wiring" "paper" "LWiredBeans$Paper;", .classLink RX10 17 RX1, .fieldLink RX10 19 "WiredBeans$Wiring" "beans" "[LWiredBeans$Bean;", .initialized RX1, .instantiable RX1 19, .methodLink RX10 23 yX1_init, .instanceMethod yX1_init, .fieldLink RX10 26 "WiredBeans$Wiring" "chain" "[LWiredBeans$Bean;", .fieldLink RX10 29 "WiredBeans$Wiring" "count" "I", .methodLink RX4 3 objectInit, .fieldLink RX4 11 "WiredBeans$EventRow" "numbers" "[I", .fieldLink RX4 15 "WiredBeans$EventRow" "count" "I", .methodLink RX5 7 objectInit, .fieldLink RX5 13 "WiredBeans$Maker" "wiring" "LWiredBeans$Wiring;"]
def tbA_9 : List Cond := [.fieldLink RX5 17 "WiredBeans$Maker" "classes" "[LWiredBeans$DeclaredClass;", .fieldLink RX5 21 "WiredBeans$Maker" "row" "LWiredBeans$EventRow;", .fieldLink RX5 25 "WiredBeans$Maker" "objectClasses" "[I", .fieldLink RX5 29 "WiredBeans$Maker" "objectBeans" "[I", .classLink RX5 34 RX1, .fieldLink RX5 36 "WiredBeans$Maker" "finished" "[LWiredBeans$Bean;", .fieldLink RX5 40 "WiredBeans$Maker" "worked" "[I", .fieldLink RX5 43 "WiredBeans$Maker" "argAtPlace" "[I", .fieldLink RX5 46 "WiredBeans$Maker" "failureBean" "I", .fieldLink RX5 50 "WiredBeans$Maker" "objectCount" "I", .methodLink RX5 53 yX5_forgetMade, .instanceMethod yX5_forgetMade, .selects RX5 yX5_forgetMade yX5_forgetMade, .methodLink RX5 56 yX4_clear, .instanceMethod yX4_clear, .selects RX4 yX4_clear yX4_clear, .methodLink RX5 78 yX10_count, .fieldLink RX5 82 "WiredBeans$Bean" "isMade" "Z", .fieldLink RX5 86 "WiredBeans$Maker" "finishedCount" "I", .fieldLink RX5 61 "WiredBeans$Maker" "failure" "I", .fieldLink RX5 89 "WiredBeans$Bean" "destroy" "I", .fieldLink RX5 92 "WiredBeans$Bean" "madeObject" "I", .methodLink RX5 64 yX5_isObject, .instanceMethod yX5_isObject]
def tbA_10 : List Cond := [.selects RX5 yX5_isObject yX5_isObject, .methodLink RJx4a65c 1 yJxc12de_init_da8c8, .instanceMethod yJxc12de_init_da8c8, .initialized RJxc12de, .fieldLink RJx4a65c 39 "java/util/ArrayList" "DEFAULTCAPACITY_EMPTY_ELEMENTDATA" "[Ljava/lang/Object;", .fieldLink RJx4a65c 9 "java/util/ArrayList" "elementData" "[Ljava/lang/Object;", .methodLink RJxc12de 1 yJxa1e45_init_da8c8, .instanceMethod yJxa1e45_init_da8c8, .initialized RJxa1e45, .fieldLink RJxc12de 7 "java/util/AbstractList" "modCount" "I", .methodLink RJxa1e45 1 objectInit, .methodLink RX13 1 objectInit, .constantLong RX13 7 (422607679091), .constantLong RX13 9 (418430673267), .constantLong RX13 11 (1650811246), .constantLong RX13 13 (6386279), .constantLong RX13 15 (7562612), .constantLong RX13 17 (1818850164), .constantLong RX13 19 (508440638821), .constantLong RX13 21 (7497062), .constantLong RX13 23 (1853189228), .constantLong RX13 25 (119225866483056), .fieldLink RX13 27 "WiredBeansModel" "elementNames" "[J", .constantLong RX13 33 (7955827)]
def tbA_11 : List Cond := [.constantLong RX13 35 (28271), .constantLong RX13 37 (7302757), .constantLong RX13 39 (1835101817), .constantLong RX13 41 (6909556), .constantLong RX13 43 (500136506472), .constantLong RX13 45 (1667785074), .constantLong RX13 47 (1952807028), .constantLong RX13 49 (7499639), .constantLong RX13 51 (1953658213), .constantLong RX13 53 (439721161573), .fieldLink RX13 55 "WiredBeansModel" "words" "[J", .constantLong RX13 58 (7107643), .constantLong RX13 60 (6779963), .constantLong RX13 62 (1634562107), .constantLong RX13 64 (487301542971), .constantLong RX13 66 (418498179899), .fieldLink RX13 68 "WiredBeansModel" "entities" "[J", .fieldLink RX13 71 "WiredBeansModel" "entityLengths" "[I", .fieldLink RX13 75 "WiredBeansModel" "entitySigns" "[I", .fieldLink RX13 78 "WiredBeansModel" "parents" "[I", .fieldLink RX13 81 "WiredBeansModel" "makers" "[I", .fieldLink RX13 84 "WiredBeansModel" "makerSize" "[I", .fieldLink RX13 87 "WiredBeansModel" "makerType" "[I", .fieldLink RX13 90 "WiredBeansModel" "setters" "[I"]
def tbA_12 : List Cond := [.fieldLink RX13 93 "WiredBeansModel" "setterName" "[I", .fieldLink RX13 96 "WiredBeansModel" "setterType" "[I", .fieldLink RX13 99 "WiredBeansModel" "factories" "[I", .fieldLink RX13 102 "WiredBeansModel" "factoryName" "[I", .fieldLink RX13 105 "WiredBeansModel" "factoryResult" "[I", .fieldLink RX13 108 "WiredBeansModel" "factorySize" "[I", .fieldLink RX13 111 "WiredBeansModel" "factoryType" "[I", .arrayClass .boolean, .fieldLink RX13 114 "WiredBeansModel" "factoryStatic" "[Z", .arrayClass .byte, .fieldLink RX13 118 "WiredBeansModel" "text" "[B", .fieldLink RX13 122 "WiredBeansModel" "faultPlace" "I", .fieldLink RX13 126 "WiredBeansModel" "kinds" "[I", .fieldLink RX13 129 "WiredBeansModel" "places" "[I", .fieldLink RX13 132 "WiredBeansModel" "above" "[I", .fieldLink RX13 135 "WiredBeansModel" "within" "[I", .fieldLink RX13 138 "WiredBeansModel" "attributes" "[I", .fieldLink RX13 141 "WiredBeansModel" "textSize" "[I", .fieldLink RX13 144 "WiredBeansModel" "pending" "[I", .fieldLink RX13 147 "WiredBeansModel" "textAt" "[I", .fieldLink RX13 150 "WiredBeansModel" "names" "[J", .fieldLink RX13 153 "WiredBeansModel" "attributeName" "[J", .fieldLink RX13 156 "WiredBeansModel" "attributeAt" "[I", .fieldLink RX13 159 "WiredBeansModel" "attributeSize" "[I"]
def tbA_13 : List Cond := [.fieldLink RX13 162 "WiredBeansModel" "characters" "[B", .fieldLink RX13 165 "WiredBeansModel" "texts" "[B", .fieldLink RX13 168 "WiredBeansModel" "beanElement" "[I", .fieldLink RX13 171 "WiredBeansModel" "beanOf" "[I", .fieldLink RX13 174 "WiredBeansModel" "setMany" "[I", .fieldLink RX13 177 "WiredBeansModel" "setElement" "[I", .fieldLink RX13 180 "WiredBeansModel" "lookupMany" "[I", .fieldLink RX13 183 "WiredBeansModel" "lookupElement" "[I", .fieldLink RX13 186 "WiredBeansModel" "failureBean" "I", .fieldLink RX13 189 "WiredBeansModel" "objectClass" "[I", .fieldLink RX13 192 "WiredBeansModel" "objectBean" "[I", .fieldLink RX13 195 "WiredBeansModel" "eventKind" "[I", .fieldLink RX13 198 "WiredBeansModel" "eventObject" "[I", .fieldLink RX13 201 "WiredBeansModel" "eventSecond" "[I", .fieldLink RX13 204 "WiredBeansModel" "eventThird" "[I", .fieldLink RX13 207 "WiredBeansModel" "madeOrder" "[I", .fieldLink RX13 210 "WiredBeansModel" "own" "[I", .fieldLink RX13 213 "WiredBeansModel" "isMade" "[Z", .fieldLink RX13 216 "WiredBeansModel" "making" "[Z", .fieldLink RX13 219 "WiredBeansModel" "pileBean" "[I", .fieldLink RX13 222 "WiredBeansModel" "pilePhase" "[I", .fieldLink RX13 225 "WiredBeansModel" "pileIndex" "[I", .fieldLink RX13 228 "WiredBeansModel" "pileItem" "[I", .fieldLink RX13 231 "WiredBeansModel" "pileFactory" "[I"]
def tbA_14 : List Cond := [.fieldLink RX13 234 "WiredBeansModel" "pileObject" "[I", .fieldLink RX13 237 "WiredBeansModel" "valueKind" "[I", .fieldLink RX13 240 "WiredBeansModel" "value" "[I", .fieldLink RX13 243 "WiredBeansModel" "itemKind" "[I", .fieldLink RX13 246 "WiredBeansModel" "item" "[I", .fieldLink RX13 249 "WiredBeansModel" "spot" "[I", .fieldLink RX13 252 "WiredBeansModel" "thrown" "I", .methodLink RX13 255 yX13_isType, .static yX13_isType, .initialized RX13, .methodLink RX13 259 yX13_isClass, .static yX13_isClass, .methodLink RX13 262 yX13_areTypes, .static yX13_areTypes, .methodLink RX13 266 yX13_isLetter, .static yX13_isLetter, .fieldLink RX13 273 "WiredBeansModel" "size" "I", .fieldLink RX13 276 "WiredBeansModel" "fault" "I", .fieldLink RX13 279 "WiredBeansModel" "at" "I", .methodLink RX13 282 yX13_here, .instanceMethod yX13_here, .selects RX13 yX13_here yX13_here, .methodLink RX13 286 yX13_isWhite, .instanceMethod yX13_isWhite]
def tbA_15 : List Cond := [.selects RX13 yX13_isWhite yX13_isWhite, .methodLink RX13 296 yX13_white, .instanceMethod yX13_white, .selects RX13 yX13_white yX13_white, .fieldLink RX13 329 "WiredBeansModel" "elements" "I", .methodLink RX13 289 yX13_bad, .instanceMethod yX13_bad, .selects RX13 yX13_bad yX13_bad, .fieldLink RX13 335 "WiredBeansModel" "closed" "Z", .methodLink RX13 339 yX13_between, .instanceMethod yX13_between, .selects RX13 yX13_between yX13_between, .methodLink RX13 342 yX13_begin, .instanceMethod yX13_begin, .selects RX13 yX13_begin yX13_begin, .fieldLink RX13 471 "WiredBeansModel" "events" "I", .fieldLink RX13 474 "WiredBeansModel" "made" "I", .fieldLink RX13 323 "WiredBeansModel" "pool" "I", .fieldLink RX13 439 "WiredBeansModel" "beans" "I", .fieldLink RX13 477 "WiredBeansModel" "document" "Z", .fieldLink RX13 480 "WiredBeansModel" "objects" "I", .methodLink RX13 483 yX13_clear, .instanceMethod yX13_clear, .selects RX13 yX13_clear yX13_clear]
def tbA_16 : List Cond := [.methodLink RX13 486 yX13_readDocument, .instanceMethod yX13_readDocument, .selects RX13 yX13_readDocument yX13_readDocument, .fieldLink RX13 498 "WiredBeansModel" "failure" "I", .constantLong RX13 394 (1818327673), .fieldLink RX13 513 "WiredBeansModel" "got" "I", .constantLong RX13 380 (1851878757), .constantLong RX13 398 (120282512125796), .constantLong RX13 400 (1768843636), .constantLong RX13 402 (28259044220366713), .constantLong RX13 392 (495589486693), .classLink RL 8 RX12, .instantiable RX12 12, .methodLink RL 32 yX12_init, .instanceMethod yX12_init, .classLink RL 33 RX13, .instantiable RX13 77, .methodLink RL 35 yX13_init, .instanceMethod yX13_init, .methodLink RL 36 yX12_declare, .instanceMethod yX12_declare, .selects RX12 yX12_declare yX12_declare, .methodLink RL 40 yX13_declare, .instanceMethod yX13_declare]
def tbA_17 : List Cond := [.selects RX13 yX13_declare yX13_declare, .methodLink RL 41 yX12_constructor, .instanceMethod yX12_constructor, .selects RX12 yX12_constructor yX12_constructor, .methodLink RL 45 yX13_constructor, .instanceMethod yX13_constructor, .selects RX13 yX13_constructor yX13_constructor, .methodLink RL 46 yX12_setter, .instanceMethod yX12_setter, .selects RX12 yX12_setter yX12_setter, .methodLink RL 50 yX13_setter, .instanceMethod yX13_setter, .selects RX13 yX13_setter yX13_setter, .methodLink RL 51 yX12_factory, .instanceMethod yX12_factory, .selects RX12 yX12_factory yX12_factory, .methodLink RL 55 yX13_factory, .instanceMethod yX13_factory, .selects RX13 yX13_factory yX13_factory, .methodLink RL 56 yX12_type, .instanceMethod yX12_type, .selects RX12 yX12_type yX12_type, .methodLink RL 60 yX13_type, .instanceMethod yX13_type]
def tbA_18 : List Cond := [.selects RX13 yX13_type yX13_type, .methodLink RL 61 yL_read, .static yL_read, .initialized RL, .methodLink RL 66 yX13_read, .instanceMethod yX13_read, .selects RX13 yX13_read yX13_read, .methodLink RL 67 yX13_thrown, .instanceMethod yX13_thrown, .selects RX13 yX13_thrown yX13_thrown, .methodLink RL 70 yX12_fault, .instanceMethod yX12_fault, .selects RX12 yX12_fault yX12_fault, .methodLink RL 74 yX13_fault, .instanceMethod yX13_fault, .selects RX13 yX13_fault yX13_fault, .methodLink RL 75 yL_refresh, .static yL_refresh, .methodLink RL 77 yX13_refresh, .instanceMethod yX13_refresh, .selects RX13 yX13_refresh yX13_refresh, .constantLong RL 78 (4294967295), .methodLink RL 80 yL_get, .static yL_get]
def tbA_19 : List Cond := [.methodLink RL 83 yX13_get, .instanceMethod yX13_get, .selects RX13 yX13_get yX13_get, .methodLink RL 84 yL_call, .static yL_call, .methodLink RL 87 yX13_call, .instanceMethod yX13_call, .selects RX13 yX13_call yX13_call, .methodLink RL 88 yX12_close, .instanceMethod yX12_close, .selects RX12 yX12_close yX12_close, .methodLink RL 91 yX13_close, .instanceMethod yX13_close, .selects RX13 yX13_close yX13_close, .methodLink RL 92 yX12_events, .instanceMethod yX12_events, .selects RX12 yX12_events yX12_events, .methodLink RL 95 yX13_events, .instanceMethod yX13_events, .selects RX13 yX13_events yX13_events, .methodLink RL 96 yX12_event, .instanceMethod yX12_event, .selects RX12 yX12_event yX12_event, .methodLink RL 99 yX13_event]
def tbA_20 : List Cond := [.instanceMethod yX13_event, .selects RX13 yX13_event yX13_event, .methodLink RL 100 yX12_object, .instanceMethod yX12_object, .selects RX12 yX12_object yX12_object, .methodLink RL 103 yX13_object, .instanceMethod yX13_object, .selects RX13 yX13_object yX13_object, .methodLink RL 104 yX12_bean, .instanceMethod yX12_bean, .selects RX12 yX12_bean yX12_bean, .methodLink RL 107 yX13_bean, .instanceMethod yX13_bean, .selects RX13 yX13_bean yX13_bean, .methodLink RL 7 yX12_read, .instanceMethod yX12_read, .selects RX12 yX12_read yX12_read, .classLink RL 13 "java/lang/IllegalArgumentException", .methodLink RL 15 yX12_refresh, .instanceMethod yX12_refresh, .selects RX12 yX12_refresh yX12_refresh, .classLink RL 18 "java/lang/IllegalStateException", .classLink RL 20 "java/lang/UnsupportedOperationException", .methodLink RL 22 yX12_get]
def tbA_21 : List Cond := [.instanceMethod yX12_get, .selects RX12 yX12_get yX12_get, .methodLink RL 26 yX12_call, .instanceMethod yX12_call, .selects RX12 yX12_call yX12_call, .classLink RL 30 "java/lang/IndexOutOfBoundsException", .methodLink RX12 1 objectInit, .methodLink RX12 1 objectInit, .methodLink RX12 1 objectInit, .methodLink RX12 1 objectInit, .methodLink RX12 1 objectInit, .methodLink RX12 1 objectInit, .methodLink RX12 1 objectInit, .methodLink RX12 1 objectInit, .methodLink RX12 1 objectInit, .methodLink RX12 1 objectInit, .methodLink RX12 1 objectInit, .methodLink RX12 1 objectInit, .methodLink RX12 1 objectInit, .methodLink RX12 1 objectInit, .methodLink RX12 1 objectInit, .methodLink RX12 1 objectInit, .methodLink RX12 1 objectInit, .methodLink RX12 1 objectInit]
def tbA_22 : List Cond := [.code objectInit ⟨#[0xb1]⟩ 1 none, .code yX2_init cX2_init 3 none, .code yX6_init cX6_init 3 none, .code yX7_init cX7_init 2 none, .code yX9_init cX9_init 2 none, .code yX10_init cX10_init 3 none, .code yX4_init cX4_init 1 none, .code yX5_init cX5_init 4 none, .code yX12_isClass cX12_isClass 1 (some .boolean), .code yX2_begin cX2_begin 3 none, .code yX12_areTypes cX12_areTypes 4 (some .boolean), .code yX2_addConstructor cX2_addConstructor 5 (some .boolean), .code yX12_isLetter cX12_isLetter 1 (some .boolean), .code yX12_isType cX12_isType 1 (some .boolean), .code yX2_addSetter cX2_addSetter 3 (some .boolean), .code yX2_addFactory cX2_addFactory 8 (some .boolean), .code yX12_typedBehind cX12_typedBehind 6 (some .int), .code yX5_startAfresh cX5_startAfresh 1 none, .codeWith yX7_firstWrongPlace cX7_firstWrongPlace 4 (some .int) [(32, 75, 78, 50)], .code yX10_forgetBeans cX10_forgetBeans 1 none, .code yX10_count cX10_count 1 (some .int), .code yX5_failure cX5_failure 1 (some .int), .code yX5_failureBean cX5_failureBean 1 (some .int), .code yX5_forgetFailure cX5_forgetFailure 1 none]
def tbA_23 : List Cond := [.code yX5_destroyAll cX5_destroyAll 2 none, .code yX4_count cX4_count 1 (some .int), .code yX4_number cX4_number 3 (some .int), .code yX5_classOfObject cX5_classOfObject 2 (some .int), .code yX5_beanOfObject cX5_beanOfObject 2 (some .int), .code yX8_init cX8_init 3 none, .code yX8_describe cX8_describe 4 none, .code yX8_setTypes cX8_setTypes 5 none, .code yX3_init cX3_init 1 none, .code yX6_clear cX6_clear 1 none, .code yX7_skipAround cX7_skipAround 2 none, .code yX7_openElement cX7_openElement 5 none, .code yX7_skipsWhite cX7_skipsWhite 2 (some .boolean), .code yX7_expect cX7_expect 2 none, .code yJx4a65c_init_da8c8 cJx4a65c_init_da8c8 1 none, .code yX1_init cX1_init 2 none, .code yX5_forgetMade cX5_forgetMade 2 none, .code yX4_clear cX4_clear 1 none, .code yX5_isObject cX5_isObject 2 (some .boolean), .code yJxc12de_init_da8c8 cJxc12de_init_da8c8 1 none, .code yJxa1e45_init_da8c8 cJxa1e45_init_da8c8 1 none, .code yX13_isType cX13_isType 1 (some .boolean), .code yX13_isClass cX13_isClass 1 (some .boolean), .code yX13_areTypes cX13_areTypes 4 (some .boolean)]
def tbA_24 : List Cond := [.code yX13_isLetter cX13_isLetter 1 (some .boolean), .code yX13_here cX13_here 2 (some .int), .code yX13_isWhite cX13_isWhite 2 (some .boolean), .code yX13_white cX13_white 2 (some .int), .code yX13_bad cX13_bad 2 none, .code yX13_between cX13_between 2 none, .code yX13_begin cX13_begin 6 (some .int), .code yX13_clear cX13_clear 2 none, .code yX13_readDocument cX13_readDocument 5 none, .code yX12_init cX12_init 2 none, .code yX13_init cX13_init 2 none, .code yX12_declare cX12_declare 3 (some .boolean), .code yX13_declare cX13_declare 3 (some .boolean), .code yX12_constructor cX12_constructor 6 (some .boolean), .code yX13_constructor cX13_constructor 7 (some .boolean), .code yX12_setter cX12_setter 4 (some .boolean), .code yX13_setter cX13_setter 5 (some .boolean), .code yX12_factory cX12_factory 9 (some .boolean), .code yX13_factory cX13_factory 10 (some .boolean), .code yX12_type cX12_type 7 (some .int), .code yX13_type cX13_type 10 (some .int), .codeWith yL_read cL_read 3 (some .int) [(0, 8, 11, 13)], .code yX13_read cX13_read 4 (some .int), .code yX13_thrown cX13_thrown 1 (some .int)]
def tbA_25 : List Cond := [.code yX12_fault cX12_fault 2 (some .int), .code yX13_fault cX13_fault 2 (some .int), .codeWith yL_refresh cL_refresh 3 (some .int) [(0, 8, 11, 18), (0, 8, 14, 20)], .code yX13_refresh cX13_refresh 4 (some .int), .codeWith yL_get cL_get 5 (some .int) [(0, 9, 12, 18), (0, 9, 16, 20)], .code yX13_get cX13_get 3 (some .int), .codeWith yL_call cL_call 5 (some .int) [(0, 10, 13, 18), (0, 10, 17, 30), (0, 10, 21, 20)], .code yX13_call cX13_call 7 (some .int), .code yX12_close cX12_close 1 (some .int), .code yX13_close cX13_close 1 (some .int), .code yX12_events cX12_events 1 (some .int), .code yX13_events cX13_events 1 (some .int), .code yX12_event cX12_event 3 (some .int), .code yX13_event cX13_event 3 (some .int), .code yX12_object cX12_object 3 (some .int), .code yX13_object cX13_object 3 (some .int), .code yX12_bean cX12_bean 3 (some .int), .code yX13_bean cX13_bean 4 (some .int), .code yX12_read cX12_read 1 (some .int), .code yX12_refresh cX12_refresh 1 (some .int), .code yX12_get cX12_get 4 (some .int), .code yX12_call cX12_call 5 (some .int)]
def tbA : List Cond := tbA_0 ++ (tbA_1 ++ (tbA_2 ++ (tbA_3 ++ (tbA_4 ++ (tbA_5 ++ (tbA_6 ++ (tbA_7 ++ (tbA_8 ++ (tbA_9 ++ (tbA_10 ++ (tbA_11 ++ (tbA_12 ++ (tbA_13 ++ (tbA_14 ++ (tbA_15 ++ (tbA_16 ++ (tbA_17 ++ (tbA_18 ++ (tbA_19 ++ (tbA_20 ++ (tbA_21 ++ (tbA_22 ++ (tbA_23 ++ (tbA_24 ++ (tbA_25)))))))))))))))))))))))))
def tbF : List Cond := wsJx4a65c0 ++ (wsX10 ++ (wsX20 ++ (wsX30 ++ (wsX40 ++ (wsX50 ++ (wsX60 ++ (wsX70 ++ (wsX80 ++ (wsX90 ++ (wsX100 ++ (wsX120 ++ (wsX130))))))))))))
def tbX : List Cond := (vx_at0 RX12 131 "java/lang/IllegalArgumentException" ["java/lang/RuntimeException", "java/lang/Exception"]).filter goodWord ++ ((vx_at0 RX12 146 "java/lang/IllegalStateException" ["java/lang/RuntimeException", "java/lang/Exception"]).filter goodWord ++ ((vx_at0 RX7 52 "java/lang/IllegalArgumentException" ["java/lang/RuntimeException", "java/lang/Exception"]).filter goodWord))
def tb : List Cond := tbA ++ (tbF ++ tbX)
theorem inA_0 : ∀ w ∈ tbA_0, w ∈ tb := fun _ h => List.mem_append_left _ (List.mem_append_left _ h)
theorem inA_1 : ∀ w ∈ tbA_1, w ∈ tb := fun _ h => List.mem_append_left _ (List.mem_append_right _ (List.mem_append_left _ h))
theorem inA_2 : ∀ w ∈ tbA_2, w ∈ tb := fun _ h => List.mem_append_left _ (List.mem_append_right _ (List.mem_append_right _ (List.mem_append_left _ h)))
theorem inA_3 : ∀ w ∈ tbA_3, w ∈ tb := fun _ h => List.mem_append_left _ (List.mem_append_right _ (List.mem_append_right _ (List.mem_append_right _ (List.mem_append_left _ h))))
theorem inA_4 : ∀ w ∈ tbA_4, w ∈ tb := fun _ h => List.mem_append_left _ (List.mem_append_right _ (List.mem_append_right _ (List.mem_append_right _ (List.mem_append_right _ (List.mem_append_left _ h)))))
theorem inA_5 : ∀ w ∈ tbA_5, w ∈ tb := fun _ h => List.mem_append_left _ (List.mem_append_right _ (List.mem_append_right _ (List.mem_append_right _ (List.mem_append_right _ (List.mem_append_right _ (List.mem_append_left _ h))))))
theorem inA_6 : ∀ w ∈ tbA_6, w ∈ tb := fun _ h => List.mem_append_left _ (List.mem_append_right _ (List.mem_append_right _ (List.mem_append_right _ (List.mem_append_right _ (List.mem_append_right _ (List.mem_append_right _ (List.mem_append_left _ h)))))))
theorem inA_7 : ∀ w ∈ tbA_7, w ∈ tb := fun _ h => List.mem_append_left _ (List.mem_append_right _ (List.mem_append_right _ (List.mem_append_right _ (List.mem_append_right _ (List.mem_append_right _ (List.mem_append_right _ (List.mem_append_right _ (List.mem_append_left _ h))))))))
theorem inA_8 : ∀ w ∈ tbA_8, w ∈ tb := fun _ h => List.mem_append_left _ (List.mem_append_right _ (List.mem_append_right _ (List.mem_append_right _ (List.mem_append_right _ (List.mem_append_right _ (List.mem_append_right _ (List.mem_append_right _ (List.mem_append_right _ (List.mem_append_left _ h)))))))))
theorem inA_9 : ∀ w ∈ tbA_9, w ∈ tb := fun _ h => List.mem_append_left _ (List.mem_append_right _ (List.mem_append_right _ (List.mem_append_right _ (List.mem_append_right _ (List.mem_append_right _ (List.mem_append_right _ (List.mem_append_right _ (List.mem_append_right _ (List.mem_append_right _ (List.mem_append_left _ h))))))))))
theorem inA_10 : ∀ w ∈ tbA_10, w ∈ tb := fun _ h => List.mem_append_left _ (List.mem_append_right _ (List.mem_append_right _ (List.mem_append_right _ (List.mem_append_right _ (List.mem_append_right _ (List.mem_append_right _ (List.mem_append_right _ (List.mem_append_right _ (List.mem_append_right _ (List.mem_append_right _ (List.mem_append_left _ h)))))))))))
theorem inA_11 : ∀ w ∈ tbA_11, w ∈ tb := fun _ h => List.mem_append_left _ (List.mem_append_right _ (List.mem_append_right _ (List.mem_append_right _ (List.mem_append_right _ (List.mem_append_right _ (List.mem_append_right _ (List.mem_append_right _ (List.mem_append_right _ (List.mem_append_right _ (List.mem_append_right _ (List.mem_append_right _ (List.mem_append_left _ h))))))))))))
theorem inA_12 : ∀ w ∈ tbA_12, w ∈ tb := fun _ h => List.mem_append_left _ (List.mem_append_right _ (List.mem_append_right _ (List.mem_append_right _ (List.mem_append_right _ (List.mem_append_right _ (List.mem_append_right _ (List.mem_append_right _ (List.mem_append_right _ (List.mem_append_right _ (List.mem_append_right _ (List.mem_append_right _ (List.mem_append_right _ (List.mem_append_left _ h)))))))))))))
theorem inA_13 : ∀ w ∈ tbA_13, w ∈ tb := fun _ h => List.mem_append_left _ (List.mem_append_right _ (List.mem_append_right _ (List.mem_append_right _ (List.mem_append_right _ (List.mem_append_right _ (List.mem_append_right _ (List.mem_append_right _ (List.mem_append_right _ (List.mem_append_right _ (List.mem_append_right _ (List.mem_append_right _ (List.mem_append_right _ (List.mem_append_right _ (List.mem_append_left _ h))))))))))))))
theorem inA_14 : ∀ w ∈ tbA_14, w ∈ tb := fun _ h => List.mem_append_left _ (List.mem_append_right _ (List.mem_append_right _ (List.mem_append_right _ (List.mem_append_right _ (List.mem_append_right _ (List.mem_append_right _ (List.mem_append_right _ (List.mem_append_right _ (List.mem_append_right _ (List.mem_append_right _ (List.mem_append_right _ (List.mem_append_right _ (List.mem_append_right _ (List.mem_append_right _ (List.mem_append_left _ h)))))))))))))))
theorem inA_15 : ∀ w ∈ tbA_15, w ∈ tb := fun _ h => List.mem_append_left _ (List.mem_append_right _ (List.mem_append_right _ (List.mem_append_right _ (List.mem_append_right _ (List.mem_append_right _ (List.mem_append_right _ (List.mem_append_right _ (List.mem_append_right _ (List.mem_append_right _ (List.mem_append_right _ (List.mem_append_right _ (List.mem_append_right _ (List.mem_append_right _ (List.mem_append_right _ (List.mem_append_right _ (List.mem_append_left _ h))))))))))))))))
theorem inA_16 : ∀ w ∈ tbA_16, w ∈ tb := fun _ h => List.mem_append_left _ (List.mem_append_right _ (List.mem_append_right _ (List.mem_append_right _ (List.mem_append_right _ (List.mem_append_right _ (List.mem_append_right _ (List.mem_append_right _ (List.mem_append_right _ (List.mem_append_right _ (List.mem_append_right _ (List.mem_append_right _ (List.mem_append_right _ (List.mem_append_right _ (List.mem_append_right _ (List.mem_append_right _ (List.mem_append_right _ (List.mem_append_left _ h)))))))))))))))))
theorem inA_17 : ∀ w ∈ tbA_17, w ∈ tb := fun _ h => List.mem_append_left _ (List.mem_append_right _ (List.mem_append_right _ (List.mem_append_right _ (List.mem_append_right _ (List.mem_append_right _ (List.mem_append_right _ (List.mem_append_right _ (List.mem_append_right _ (List.mem_append_right _ (List.mem_append_right _ (List.mem_append_right _ (List.mem_append_right _ (List.mem_append_right _ (List.mem_append_right _ (List.mem_append_right _ (List.mem_append_right _ (List.mem_append_right _ (List.mem_append_left _ h))))))))))))))))))
theorem inA_18 : ∀ w ∈ tbA_18, w ∈ tb := fun _ h => List.mem_append_left _ (List.mem_append_right _ (List.mem_append_right _ (List.mem_append_right _ (List.mem_append_right _ (List.mem_append_right _ (List.mem_append_right _ (List.mem_append_right _ (List.mem_append_right _ (List.mem_append_right _ (List.mem_append_right _ (List.mem_append_right _ (List.mem_append_right _ (List.mem_append_right _ (List.mem_append_right _ (List.mem_append_right _ (List.mem_append_right _ (List.mem_append_right _ (List.mem_append_right _ (List.mem_append_left _ h)))))))))))))))))))
theorem inA_19 : ∀ w ∈ tbA_19, w ∈ tb := fun _ h => List.mem_append_left _ (List.mem_append_right _ (List.mem_append_right _ (List.mem_append_right _ (List.mem_append_right _ (List.mem_append_right _ (List.mem_append_right _ (List.mem_append_right _ (List.mem_append_right _ (List.mem_append_right _ (List.mem_append_right _ (List.mem_append_right _ (List.mem_append_right _ (List.mem_append_right _ (List.mem_append_right _ (List.mem_append_right _ (List.mem_append_right _ (List.mem_append_right _ (List.mem_append_right _ (List.mem_append_right _ (List.mem_append_left _ h))))))))))))))))))))
theorem inA_20 : ∀ w ∈ tbA_20, w ∈ tb := fun _ h => List.mem_append_left _ (List.mem_append_right _ (List.mem_append_right _ (List.mem_append_right _ (List.mem_append_right _ (List.mem_append_right _ (List.mem_append_right _ (List.mem_append_right _ (List.mem_append_right _ (List.mem_append_right _ (List.mem_append_right _ (List.mem_append_right _ (List.mem_append_right _ (List.mem_append_right _ (List.mem_append_right _ (List.mem_append_right _ (List.mem_append_right _ (List.mem_append_right _ (List.mem_append_right _ (List.mem_append_right _ (List.mem_append_right _ (List.mem_append_left _ h)))))))))))))))))))))
theorem inA_21 : ∀ w ∈ tbA_21, w ∈ tb := fun _ h => List.mem_append_left _ (List.mem_append_right _ (List.mem_append_right _ (List.mem_append_right _ (List.mem_append_right _ (List.mem_append_right _ (List.mem_append_right _ (List.mem_append_right _ (List.mem_append_right _ (List.mem_append_right _ (List.mem_append_right _ (List.mem_append_right _ (List.mem_append_right _ (List.mem_append_right _ (List.mem_append_right _ (List.mem_append_right _ (List.mem_append_right _ (List.mem_append_right _ (List.mem_append_right _ (List.mem_append_right _ (List.mem_append_right _ (List.mem_append_right _ (List.mem_append_left _ h))))))))))))))))))))))
theorem inA_22 : ∀ w ∈ tbA_22, w ∈ tb := fun _ h => List.mem_append_left _ (List.mem_append_right _ (List.mem_append_right _ (List.mem_append_right _ (List.mem_append_right _ (List.mem_append_right _ (List.mem_append_right _ (List.mem_append_right _ (List.mem_append_right _ (List.mem_append_right _ (List.mem_append_right _ (List.mem_append_right _ (List.mem_append_right _ (List.mem_append_right _ (List.mem_append_right _ (List.mem_append_right _ (List.mem_append_right _ (List.mem_append_right _ (List.mem_append_right _ (List.mem_append_right _ (List.mem_append_right _ (List.mem_append_right _ (List.mem_append_right _ (List.mem_append_left _ h)))))))))))))))))))))))
theorem inA_23 : ∀ w ∈ tbA_23, w ∈ tb := fun _ h => List.mem_append_left _ (List.mem_append_right _ (List.mem_append_right _ (List.mem_append_right _ (List.mem_append_right _ (List.mem_append_right _ (List.mem_append_right _ (List.mem_append_right _ (List.mem_append_right _ (List.mem_append_right _ (List.mem_append_right _ (List.mem_append_right _ (List.mem_append_right _ (List.mem_append_right _ (List.mem_append_right _ (List.mem_append_right _ (List.mem_append_right _ (List.mem_append_right _ (List.mem_append_right _ (List.mem_append_right _ (List.mem_append_right _ (List.mem_append_right _ (List.mem_append_right _ (List.mem_append_right _ (List.mem_append_left _ h))))))))))))))))))))))))
theorem inA_24 : ∀ w ∈ tbA_24, w ∈ tb := fun _ h => List.mem_append_left _ (List.mem_append_right _ (List.mem_append_right _ (List.mem_append_right _ (List.mem_append_right _ (List.mem_append_right _ (List.mem_append_right _ (List.mem_append_right _ (List.mem_append_right _ (List.mem_append_right _ (List.mem_append_right _ (List.mem_append_right _ (List.mem_append_right _ (List.mem_append_right _ (List.mem_append_right _ (List.mem_append_right _ (List.mem_append_right _ (List.mem_append_right _ (List.mem_append_right _ (List.mem_append_right _ (List.mem_append_right _ (List.mem_append_right _ (List.mem_append_right _ (List.mem_append_right _ (List.mem_append_right _ (List.mem_append_left _ h)))))))))))))))))))))))))
theorem inA_25 : ∀ w ∈ tbA_25, w ∈ tb := fun _ h => List.mem_append_left _ (List.mem_append_right _ (List.mem_append_right _ (List.mem_append_right _ (List.mem_append_right _ (List.mem_append_right _ (List.mem_append_right _ (List.mem_append_right _ (List.mem_append_right _ (List.mem_append_right _ (List.mem_append_right _ (List.mem_append_right _ (List.mem_append_right _ (List.mem_append_right _ (List.mem_append_right _ (List.mem_append_right _ (List.mem_append_right _ (List.mem_append_right _ (List.mem_append_right _ (List.mem_append_right _ (List.mem_append_right _ (List.mem_append_right _ (List.mem_append_right _ (List.mem_append_right _ (List.mem_append_right _ (List.mem_append_right _ (h))))))))))))))))))))))))))
theorem kw_0 : (.methodLink RX12 1 objectInit : Cond) ∈ tb := inA_0 _ (List.mem_of_getElem? (i := 0) rfl)
theorem kw_1 : (.instanceMethod objectInit : Cond) ∈ tb := inA_0 _ (List.mem_of_getElem? (i := 1) rfl)
theorem kw_2 : (.classLink RX12 9 RX2 : Cond) ∈ tb := inA_0 _ (List.mem_of_getElem? (i := 2) rfl)
theorem kw_3 : (.fieldLink RX12 11 "WiredBeans" "classes" "[LWiredBeans$DeclaredClass;" : Cond) ∈ tb := inA_0 _ (List.mem_of_getElem? (i := 3) rfl)
theorem kw_4 : (.initialized RX2 : Cond) ∈ tb := inA_0 _ (List.mem_of_getElem? (i := 4) rfl)
theorem kw_5 : (.instantiable RX2 8 : Cond) ∈ tb := inA_0 _ (List.mem_of_getElem? (i := 5) rfl)
theorem kw_6 : (.methodLink RX12 15 yX2_init : Cond) ∈ tb := inA_0 _ (List.mem_of_getElem? (i := 6) rfl)
theorem kw_7 : (.instanceMethod yX2_init : Cond) ∈ tb := inA_0 _ (List.mem_of_getElem? (i := 7) rfl)
theorem kw_8 : (.arrayClass .char : Cond) ∈ tb := inA_0 _ (List.mem_of_getElem? (i := 8) rfl)
theorem kw_9 : (.fieldLink RX12 18 "WiredBeans" "typed" "[C" : Cond) ∈ tb := inA_0 _ (List.mem_of_getElem? (i := 9) rfl)
theorem kw_10 : (.classLink RX12 22 RX6 : Cond) ∈ tb := inA_0 _ (List.mem_of_getElem? (i := 10) rfl)
theorem kw_11 : (.initialized RX6 : Cond) ∈ tb := inA_0 _ (List.mem_of_getElem? (i := 11) rfl)
theorem kw_12 : (.instantiable RX6 8 : Cond) ∈ tb := inA_0 _ (List.mem_of_getElem? (i := 12) rfl)
theorem kw_13 : (.methodLink RX12 24 yX6_init : Cond) ∈ tb := inA_0 _ (List.mem_of_getElem? (i := 13) rfl)
theorem kw_14 : (.instanceMethod yX6_init : Cond) ∈ tb := inA_0 _ (List.mem_of_getElem? (i := 14) rfl)
theorem kw_15 : (.fieldLink RX12 25 "WiredBeans" "paper" "LWiredBeans$Paper;" : Cond) ∈ tb := inA_0 _ (List.mem_of_getElem? (i := 15) rfl)
theorem kw_16 : (.classLink RX12 29 RX7 : Cond) ∈ tb := inA_0 _ (List.mem_of_getElem? (i := 16) rfl)
theorem kw_17 : (.initialized RX7 : Cond) ∈ tb := inA_0 _ (List.mem_of_getElem? (i := 17) rfl)
theorem kw_18 : (.instantiable RX7 6 : Cond) ∈ tb := inA_0 _ (List.mem_of_getElem? (i := 18) rfl)
theorem kw_19 : (.methodLink RX12 31 yX7_init : Cond) ∈ tb := inA_0 _ (List.mem_of_getElem? (i := 19) rfl)
theorem kw_20 : (.instanceMethod yX7_init : Cond) ∈ tb := inA_0 _ (List.mem_of_getElem? (i := 20) rfl)
theorem kw_21 : (.fieldLink RX12 34 "WiredBeans" "reader" "LWiredBeans$Reader;" : Cond) ∈ tb := inA_0 _ (List.mem_of_getElem? (i := 21) rfl)
theorem kw_22 : (.classLink RX12 38 RX9 : Cond) ∈ tb := inA_0 _ (List.mem_of_getElem? (i := 22) rfl)
theorem kw_23 : (.initialized RX9 : Cond) ∈ tb := inA_0 _ (List.mem_of_getElem? (i := 23) rfl)
theorem kw_24 : (.instantiable RX9 1 : Cond) ∈ tb := inA_1 _ (List.mem_of_getElem? (i := 0) rfl)
theorem kw_25 : (.methodLink RX12 40 yX9_init : Cond) ∈ tb := inA_1 _ (List.mem_of_getElem? (i := 1) rfl)
theorem kw_26 : (.instanceMethod yX9_init : Cond) ∈ tb := inA_1 _ (List.mem_of_getElem? (i := 2) rfl)
theorem kw_27 : (.fieldLink RX12 41 "WiredBeans" "structure" "LWiredBeans$Structure;" : Cond) ∈ tb := inA_1 _ (List.mem_of_getElem? (i := 3) rfl)
theorem kw_28 : (.classLink RX12 45 RX10 : Cond) ∈ tb := inA_1 _ (List.mem_of_getElem? (i := 4) rfl)
theorem kw_29 : (.initialized RX10 : Cond) ∈ tb := inA_1 _ (List.mem_of_getElem? (i := 5) rfl)
theorem kw_30 : (.instantiable RX10 4 : Cond) ∈ tb := inA_1 _ (List.mem_of_getElem? (i := 6) rfl)
theorem kw_31 : (.methodLink RX12 47 yX10_init : Cond) ∈ tb := inA_1 _ (List.mem_of_getElem? (i := 7) rfl)
theorem kw_32 : (.instanceMethod yX10_init : Cond) ∈ tb := inA_1 _ (List.mem_of_getElem? (i := 8) rfl)
theorem kw_33 : (.fieldLink RX12 48 "WiredBeans" "wiring" "LWiredBeans$Wiring;" : Cond) ∈ tb := inA_1 _ (List.mem_of_getElem? (i := 9) rfl)
theorem kw_34 : (.classLink RX12 52 RX4 : Cond) ∈ tb := inA_1 _ (List.mem_of_getElem? (i := 10) rfl)
theorem kw_35 : (.initialized RX4 : Cond) ∈ tb := inA_1 _ (List.mem_of_getElem? (i := 11) rfl)
theorem kw_36 : (.instantiable RX4 2 : Cond) ∈ tb := inA_1 _ (List.mem_of_getElem? (i := 12) rfl)
theorem kw_37 : (.methodLink RX12 54 yX4_init : Cond) ∈ tb := inA_1 _ (List.mem_of_getElem? (i := 13) rfl)
theorem kw_38 : (.instanceMethod yX4_init : Cond) ∈ tb := inA_1 _ (List.mem_of_getElem? (i := 14) rfl)
theorem kw_39 : (.fieldLink RX12 55 "WiredBeans" "row" "LWiredBeans$EventRow;" : Cond) ∈ tb := inA_1 _ (List.mem_of_getElem? (i := 15) rfl)
theorem kw_40 : (.classLink RX12 59 RX5 : Cond) ∈ tb := inA_1 _ (List.mem_of_getElem? (i := 16) rfl)
theorem kw_41 : (.initialized RX5 : Cond) ∈ tb := inA_1 _ (List.mem_of_getElem? (i := 17) rfl)
theorem kw_42 : (.instantiable RX5 13 : Cond) ∈ tb := inA_1 _ (List.mem_of_getElem? (i := 18) rfl)
theorem kw_43 : (.methodLink RX12 61 yX5_init : Cond) ∈ tb := inA_1 _ (List.mem_of_getElem? (i := 19) rfl)
theorem kw_44 : (.instanceMethod yX5_init : Cond) ∈ tb := inA_1 _ (List.mem_of_getElem? (i := 20) rfl)
theorem kw_45 : (.fieldLink RX12 64 "WiredBeans" "maker" "LWiredBeans$Maker;" : Cond) ∈ tb := inA_1 _ (List.mem_of_getElem? (i := 21) rfl)
theorem kw_46 : (.fieldLink RX12 68 "WiredBeans" "faultPlace" "I" : Cond) ∈ tb := inA_1 _ (List.mem_of_getElem? (i := 22) rfl)
theorem kw_47 : (.methodLink RX12 72 yX12_isClass : Cond) ∈ tb := inA_1 _ (List.mem_of_getElem? (i := 23) rfl)
theorem kw_48 : (.static yX12_isClass : Cond) ∈ tb := inA_2 _ (List.mem_of_getElem? (i := 0) rfl)
theorem kw_49 : (.initialized RX12 : Cond) ∈ tb := inA_2 _ (List.mem_of_getElem? (i := 1) rfl)
theorem kw_50 : (.methodLink RX12 76 yX2_begin : Cond) ∈ tb := inA_2 _ (List.mem_of_getElem? (i := 2) rfl)
theorem kw_51 : (.instanceMethod yX2_begin : Cond) ∈ tb := inA_2 _ (List.mem_of_getElem? (i := 3) rfl)
theorem kw_52 : (.selects RX2 yX2_begin yX2_begin : Cond) ∈ tb := inA_2 _ (List.mem_of_getElem? (i := 4) rfl)
theorem kw_53 : (.methodLink RX12 80 yX12_areTypes : Cond) ∈ tb := inA_2 _ (List.mem_of_getElem? (i := 5) rfl)
theorem kw_54 : (.static yX12_areTypes : Cond) ∈ tb := inA_2 _ (List.mem_of_getElem? (i := 6) rfl)
theorem kw_55 : (.methodLink RX12 84 yX2_addConstructor : Cond) ∈ tb := inA_2 _ (List.mem_of_getElem? (i := 7) rfl)
theorem kw_56 : (.instanceMethod yX2_addConstructor : Cond) ∈ tb := inA_2 _ (List.mem_of_getElem? (i := 8) rfl)
theorem kw_57 : (.selects RX2 yX2_addConstructor yX2_addConstructor : Cond) ∈ tb := inA_2 _ (List.mem_of_getElem? (i := 9) rfl)
theorem kw_58 : (.methodLink RX12 87 yX12_isLetter : Cond) ∈ tb := inA_2 _ (List.mem_of_getElem? (i := 10) rfl)
theorem kw_59 : (.static yX12_isLetter : Cond) ∈ tb := inA_2 _ (List.mem_of_getElem? (i := 11) rfl)
theorem kw_60 : (.methodLink RX12 90 yX12_isType : Cond) ∈ tb := inA_2 _ (List.mem_of_getElem? (i := 12) rfl)
theorem kw_61 : (.static yX12_isType : Cond) ∈ tb := inA_2 _ (List.mem_of_getElem? (i := 13) rfl)
theorem kw_62 : (.methodLink RX12 93 yX2_addSetter : Cond) ∈ tb := inA_2 _ (List.mem_of_getElem? (i := 14) rfl)
theorem kw_63 : (.instanceMethod yX2_addSetter : Cond) ∈ tb := inA_2 _ (List.mem_of_getElem? (i := 15) rfl)
theorem kw_64 : (.selects RX2 yX2_addSetter yX2_addSetter : Cond) ∈ tb := inA_2 _ (List.mem_of_getElem? (i := 16) rfl)
theorem kw_65 : (.methodLink RX12 97 yX2_addFactory : Cond) ∈ tb := inA_2 _ (List.mem_of_getElem? (i := 17) rfl)
theorem kw_66 : (.instanceMethod yX2_addFactory : Cond) ∈ tb := inA_2 _ (List.mem_of_getElem? (i := 18) rfl)
theorem kw_67 : (.selects RX2 yX2_addFactory yX2_addFactory : Cond) ∈ tb := inA_2 _ (List.mem_of_getElem? (i := 19) rfl)
theorem kw_68 : (.fieldLink RX12 101 "WiredBeans" "typedLength" "I" : Cond) ∈ tb := inA_2 _ (List.mem_of_getElem? (i := 20) rfl)
theorem kw_69 : (.methodLink RX12 104 yX12_typedBehind : Cond) ∈ tb := inA_2 _ (List.mem_of_getElem? (i := 21) rfl)
theorem kw_70 : (.instanceMethod yX12_typedBehind : Cond) ∈ tb := inA_2 _ (List.mem_of_getElem? (i := 22) rfl)
theorem kw_71 : (.selects RX12 yX12_typedBehind yX12_typedBehind : Cond) ∈ tb := inA_2 _ (List.mem_of_getElem? (i := 23) rfl)
theorem kw_72 : (.methodLink RX12 108 yX5_startAfresh : Cond) ∈ tb := inA_3 _ (List.mem_of_getElem? (i := 0) rfl)
theorem kw_73 : (.instanceMethod yX5_startAfresh : Cond) ∈ tb := inA_3 _ (List.mem_of_getElem? (i := 1) rfl)
theorem kw_74 : (.selects RX5 yX5_startAfresh yX5_startAfresh : Cond) ∈ tb := inA_3 _ (List.mem_of_getElem? (i := 2) rfl)
theorem kw_75 : (.fieldLink RX12 111 "WiredBeans" "faultNumber" "I" : Cond) ∈ tb := inA_3 _ (List.mem_of_getElem? (i := 3) rfl)
theorem kw_76 : (.methodLink RX12 114 yX7_firstWrongPlace : Cond) ∈ tb := inA_3 _ (List.mem_of_getElem? (i := 4) rfl)
theorem kw_77 : (.instanceMethod yX7_firstWrongPlace : Cond) ∈ tb := inA_3 _ (List.mem_of_getElem? (i := 5) rfl)
theorem kw_78 : (.selects RX7 yX7_firstWrongPlace yX7_firstWrongPlace : Cond) ∈ tb := inA_3 _ (List.mem_of_getElem? (i := 6) rfl)
theorem kw_79 : (.fieldLink RX12 122 "WiredBeans" "hasDocument" "Z" : Cond) ∈ tb := inA_3 _ (List.mem_of_getElem? (i := 7) rfl)
theorem kw_80 : (.methodLink RX12 126 yX10_forgetBeans : Cond) ∈ tb := inA_3 _ (List.mem_of_getElem? (i := 8) rfl)
theorem kw_81 : (.instanceMethod yX10_forgetBeans : Cond) ∈ tb := inA_3 _ (List.mem_of_getElem? (i := 9) rfl)
theorem kw_82 : (.selects RX10 yX10_forgetBeans yX10_forgetBeans : Cond) ∈ tb := inA_3 _ (List.mem_of_getElem? (i := 10) rfl)
theorem kw_83 : (.classLink RX12 129 "java/lang/IllegalArgumentException" : Cond) ∈ tb := inA_3 _ (List.mem_of_getElem? (i := 11) rfl)
theorem kw_84 : (.initialized "java/lang/IllegalArgumentException" : Cond) ∈ tb := inA_3 _ (List.mem_of_getElem? (i := 12) rfl)
theorem kw_85 : (.methodLink RX12 132 yX10_count : Cond) ∈ tb := inA_3 _ (List.mem_of_getElem? (i := 13) rfl)
theorem kw_86 : (.instanceMethod yX10_count : Cond) ∈ tb := inA_3 _ (List.mem_of_getElem? (i := 14) rfl)
theorem kw_87 : (.selects RX10 yX10_count yX10_count : Cond) ∈ tb := inA_3 _ (List.mem_of_getElem? (i := 15) rfl)
theorem kw_88 : (.methodLink RX12 135 yX5_failure : Cond) ∈ tb := inA_3 _ (List.mem_of_getElem? (i := 16) rfl)
theorem kw_89 : (.instanceMethod yX5_failure : Cond) ∈ tb := inA_3 _ (List.mem_of_getElem? (i := 17) rfl)
theorem kw_90 : (.selects RX5 yX5_failure yX5_failure : Cond) ∈ tb := inA_3 _ (List.mem_of_getElem? (i := 18) rfl)
theorem kw_91 : (.methodLink RX12 138 yX5_failureBean : Cond) ∈ tb := inA_3 _ (List.mem_of_getElem? (i := 19) rfl)
theorem kw_92 : (.instanceMethod yX5_failureBean : Cond) ∈ tb := inA_3 _ (List.mem_of_getElem? (i := 20) rfl)
theorem kw_93 : (.selects RX5 yX5_failureBean yX5_failureBean : Cond) ∈ tb := inA_3 _ (List.mem_of_getElem? (i := 21) rfl)
theorem kw_94 : (.methodLink RX12 141 yX5_forgetFailure : Cond) ∈ tb := inA_3 _ (List.mem_of_getElem? (i := 22) rfl)
theorem kw_95 : (.instanceMethod yX5_forgetFailure : Cond) ∈ tb := inA_3 _ (List.mem_of_getElem? (i := 23) rfl)
theorem kw_96 : (.selects RX5 yX5_forgetFailure yX5_forgetFailure : Cond) ∈ tb := inA_4 _ (List.mem_of_getElem? (i := 0) rfl)
theorem kw_97 : (.classLink RX12 144 "java/lang/IllegalStateException" : Cond) ∈ tb := inA_4 _ (List.mem_of_getElem? (i := 1) rfl)
theorem kw_98 : (.initialized "java/lang/IllegalStateException" : Cond) ∈ tb := inA_4 _ (List.mem_of_getElem? (i := 2) rfl)
theorem kw_99 : (.classLink RX12 151 "java/lang/UnsupportedOperationException" : Cond) ∈ tb := inA_4 _ (List.mem_of_getElem? (i := 3) rfl)
theorem kw_100 : (.initialized "java/lang/UnsupportedOperationException" : Cond) ∈ tb := inA_4 _ (List.mem_of_getElem? (i := 4) rfl)
theorem kw_101 : (.classLink RX12 169 "java/lang/IndexOutOfBoundsException" : Cond) ∈ tb := inA_4 _ (List.mem_of_getElem? (i := 5) rfl)
theorem kw_102 : (.initialized "java/lang/IndexOutOfBoundsException" : Cond) ∈ tb := inA_4 _ (List.mem_of_getElem? (i := 6) rfl)
theorem kw_103 : (.fieldLink RX12 172 "WiredBeans$Element" "target" "J" : Cond) ∈ tb := inA_4 _ (List.mem_of_getElem? (i := 7) rfl)
theorem kw_104 : (.methodLink RX12 178 yX5_destroyAll : Cond) ∈ tb := inA_4 _ (List.mem_of_getElem? (i := 8) rfl)
theorem kw_105 : (.instanceMethod yX5_destroyAll : Cond) ∈ tb := inA_4 _ (List.mem_of_getElem? (i := 9) rfl)
theorem kw_106 : (.selects RX5 yX5_destroyAll yX5_destroyAll : Cond) ∈ tb := inA_4 _ (List.mem_of_getElem? (i := 10) rfl)
theorem kw_107 : (.methodLink RX12 181 yX4_count : Cond) ∈ tb := inA_4 _ (List.mem_of_getElem? (i := 11) rfl)
theorem kw_108 : (.instanceMethod yX4_count : Cond) ∈ tb := inA_4 _ (List.mem_of_getElem? (i := 12) rfl)
theorem kw_109 : (.selects RX4 yX4_count yX4_count : Cond) ∈ tb := inA_4 _ (List.mem_of_getElem? (i := 13) rfl)
theorem kw_110 : (.methodLink RX12 182 yX4_number : Cond) ∈ tb := inA_4 _ (List.mem_of_getElem? (i := 14) rfl)
theorem kw_111 : (.instanceMethod yX4_number : Cond) ∈ tb := inA_4 _ (List.mem_of_getElem? (i := 15) rfl)
theorem kw_112 : (.selects RX4 yX4_number yX4_number : Cond) ∈ tb := inA_4 _ (List.mem_of_getElem? (i := 16) rfl)
theorem kw_113 : (.methodLink RX12 185 yX5_classOfObject : Cond) ∈ tb := inA_4 _ (List.mem_of_getElem? (i := 17) rfl)
theorem kw_114 : (.instanceMethod yX5_classOfObject : Cond) ∈ tb := inA_4 _ (List.mem_of_getElem? (i := 18) rfl)
theorem kw_115 : (.selects RX5 yX5_classOfObject yX5_classOfObject : Cond) ∈ tb := inA_4 _ (List.mem_of_getElem? (i := 19) rfl)
theorem kw_116 : (.methodLink RX12 189 yX5_beanOfObject : Cond) ∈ tb := inA_4 _ (List.mem_of_getElem? (i := 20) rfl)
theorem kw_117 : (.instanceMethod yX5_beanOfObject : Cond) ∈ tb := inA_4 _ (List.mem_of_getElem? (i := 21) rfl)
theorem kw_118 : (.selects RX5 yX5_beanOfObject yX5_beanOfObject : Cond) ∈ tb := inA_4 _ (List.mem_of_getElem? (i := 22) rfl)
theorem kw_119 : (.methodLink RX8 3 objectInit : Cond) ∈ tb := inA_4 _ (List.mem_of_getElem? (i := 23) rfl)
theorem kw_120 : (.fieldLink RX8 9 "WiredBeans$Signature" "owner" "I" : Cond) ∈ tb := inA_5 _ (List.mem_of_getElem? (i := 0) rfl)
theorem kw_121 : (.fieldLink RX8 15 "WiredBeans$Signature" "number" "I" : Cond) ∈ tb := inA_5 _ (List.mem_of_getElem? (i := 1) rfl)
theorem kw_122 : (.arrayClass .int : Cond) ∈ tb := inA_5 _ (List.mem_of_getElem? (i := 2) rfl)
theorem kw_123 : (.fieldLink RX8 18 "WiredBeans$Signature" "types" "[I" : Cond) ∈ tb := inA_5 _ (List.mem_of_getElem? (i := 3) rfl)
theorem kw_124 : (.fieldLink RX8 22 "WiredBeans$Signature" "name" "I" : Cond) ∈ tb := inA_5 _ (List.mem_of_getElem? (i := 4) rfl)
theorem kw_125 : (.fieldLink RX8 25 "WiredBeans$Signature" "isStatic" "Z" : Cond) ∈ tb := inA_5 _ (List.mem_of_getElem? (i := 5) rfl)
theorem kw_126 : (.fieldLink RX8 29 "WiredBeans$Signature" "result" "I" : Cond) ∈ tb := inA_5 _ (List.mem_of_getElem? (i := 6) rfl)
theorem kw_127 : (.fieldLink RX8 32 "WiredBeans$Signature" "count" "I" : Cond) ∈ tb := inA_5 _ (List.mem_of_getElem? (i := 7) rfl)
theorem kw_128 : (.methodLink RX2 3 objectInit : Cond) ∈ tb := inA_5 _ (List.mem_of_getElem? (i := 8) rfl)
theorem kw_129 : (.fieldLink RX2 9 "WiredBeans$DeclaredClass" "number" "I" : Cond) ∈ tb := inA_5 _ (List.mem_of_getElem? (i := 9) rfl)
theorem kw_130 : (.classLink RX2 15 RX8 : Cond) ∈ tb := inA_5 _ (List.mem_of_getElem? (i := 10) rfl)
theorem kw_131 : (.fieldLink RX2 17 "WiredBeans$DeclaredClass" "constructors" "[LWiredBeans$Signature;" : Cond) ∈ tb := inA_5 _ (List.mem_of_getElem? (i := 11) rfl)
theorem kw_132 : (.fieldLink RX2 21 "WiredBeans$DeclaredClass" "factories" "[LWiredBeans$Signature;" : Cond) ∈ tb := inA_5 _ (List.mem_of_getElem? (i := 12) rfl)
theorem kw_133 : (.initialized RX8 : Cond) ∈ tb := inA_5 _ (List.mem_of_getElem? (i := 13) rfl)
theorem kw_134 : (.instantiable RX8 7 : Cond) ∈ tb := inA_5 _ (List.mem_of_getElem? (i := 14) rfl)
theorem kw_135 : (.methodLink RX2 24 yX8_init : Cond) ∈ tb := inA_5 _ (List.mem_of_getElem? (i := 15) rfl)
theorem kw_136 : (.instanceMethod yX8_init : Cond) ∈ tb := inA_5 _ (List.mem_of_getElem? (i := 16) rfl)
theorem kw_137 : (.fieldLink RX2 27 "WiredBeans$DeclaredClass" "setterTypes" "[I" : Cond) ∈ tb := inA_5 _ (List.mem_of_getElem? (i := 17) rfl)
theorem kw_138 : (.fieldLink RX2 31 "WiredBeans$DeclaredClass" "parent" "LWiredBeans$DeclaredClass;" : Cond) ∈ tb := inA_5 _ (List.mem_of_getElem? (i := 18) rfl)
theorem kw_139 : (.fieldLink RX2 35 "WiredBeans$DeclaredClass" "constructorCount" "I" : Cond) ∈ tb := inA_5 _ (List.mem_of_getElem? (i := 19) rfl)
theorem kw_140 : (.fieldLink RX2 38 "WiredBeans$DeclaredClass" "factoryCount" "I" : Cond) ∈ tb := inA_5 _ (List.mem_of_getElem? (i := 20) rfl)
theorem kw_141 : (.fieldLink RX2 41 "WiredBeans$DeclaredClass" "setterCount" "I" : Cond) ∈ tb := inA_5 _ (List.mem_of_getElem? (i := 21) rfl)
theorem kw_142 : (.methodLink RX2 44 yX8_describe : Cond) ∈ tb := inA_5 _ (List.mem_of_getElem? (i := 22) rfl)
theorem kw_143 : (.instanceMethod yX8_describe : Cond) ∈ tb := inA_5 _ (List.mem_of_getElem? (i := 23) rfl)
theorem kw_144 : (.selects RX8 yX8_describe yX8_describe : Cond) ∈ tb := inA_6 _ (List.mem_of_getElem? (i := 0) rfl)
theorem kw_145 : (.methodLink RX2 48 yX8_setTypes : Cond) ∈ tb := inA_6 _ (List.mem_of_getElem? (i := 1) rfl)
theorem kw_146 : (.instanceMethod yX8_setTypes : Cond) ∈ tb := inA_6 _ (List.mem_of_getElem? (i := 2) rfl)
theorem kw_147 : (.selects RX8 yX8_setTypes yX8_setTypes : Cond) ∈ tb := inA_6 _ (List.mem_of_getElem? (i := 3) rfl)
theorem kw_148 : (.methodLink RX3 3 objectInit : Cond) ∈ tb := inA_6 _ (List.mem_of_getElem? (i := 4) rfl)
theorem kw_149 : (.fieldLink RX3 11 "WiredBeans$Element" "text" "[C" : Cond) ∈ tb := inA_6 _ (List.mem_of_getElem? (i := 5) rfl)
theorem kw_150 : (.methodLink RX6 3 objectInit : Cond) ∈ tb := inA_6 _ (List.mem_of_getElem? (i := 6) rfl)
theorem kw_151 : (.classLink RX6 11 RX3 : Cond) ∈ tb := inA_6 _ (List.mem_of_getElem? (i := 7) rfl)
theorem kw_152 : (.fieldLink RX6 13 "WiredBeans$Paper" "elements" "[LWiredBeans$Element;" : Cond) ∈ tb := inA_6 _ (List.mem_of_getElem? (i := 8) rfl)
theorem kw_153 : (.initialized RX3 : Cond) ∈ tb := inA_6 _ (List.mem_of_getElem? (i := 9) rfl)
theorem kw_154 : (.instantiable RX3 21 : Cond) ∈ tb := inA_6 _ (List.mem_of_getElem? (i := 10) rfl)
theorem kw_155 : (.methodLink RX6 17 yX3_init : Cond) ∈ tb := inA_6 _ (List.mem_of_getElem? (i := 11) rfl)
theorem kw_156 : (.instanceMethod yX3_init : Cond) ∈ tb := inA_6 _ (List.mem_of_getElem? (i := 12) rfl)
theorem kw_157 : (.arrayClass .long : Cond) ∈ tb := inA_6 _ (List.mem_of_getElem? (i := 13) rfl)
theorem kw_158 : (.fieldLink RX6 18 "WiredBeans$Paper" "attributeKeys" "[J" : Cond) ∈ tb := inA_6 _ (List.mem_of_getElem? (i := 14) rfl)
theorem kw_159 : (.fieldLink RX6 22 "WiredBeans$Paper" "valueStarts" "[I" : Cond) ∈ tb := inA_6 _ (List.mem_of_getElem? (i := 15) rfl)
theorem kw_160 : (.fieldLink RX6 26 "WiredBeans$Paper" "valueLengths" "[I" : Cond) ∈ tb := inA_6 _ (List.mem_of_getElem? (i := 16) rfl)
theorem kw_161 : (.fieldLink RX6 29 "WiredBeans$Paper" "values" "[C" : Cond) ∈ tb := inA_6 _ (List.mem_of_getElem? (i := 17) rfl)
theorem kw_162 : (.fieldLink RX6 33 "WiredBeans$Paper" "count" "I" : Cond) ∈ tb := inA_6 _ (List.mem_of_getElem? (i := 18) rfl)
theorem kw_163 : (.fieldLink RX6 37 "WiredBeans$Paper" "attributes" "I" : Cond) ∈ tb := inA_6 _ (List.mem_of_getElem? (i := 19) rfl)
theorem kw_164 : (.fieldLink RX6 40 "WiredBeans$Paper" "valuesEnd" "I" : Cond) ∈ tb := inA_6 _ (List.mem_of_getElem? (i := 20) rfl)
theorem kw_165 : (.methodLink RX7 3 objectInit : Cond) ∈ tb := inA_6 _ (List.mem_of_getElem? (i := 21) rfl)
theorem kw_166 : (.fieldLink RX7 9 "WiredBeans$Reader" "paper" "LWiredBeans$Paper;" : Cond) ∈ tb := inA_6 _ (List.mem_of_getElem? (i := 22) rfl)
theorem kw_167 : (.fieldLink RX7 15 "WiredBeans$Reader" "text" "[C" : Cond) ∈ tb := inA_6 _ (List.mem_of_getElem? (i := 23) rfl)
theorem kw_168 : (.fieldLink RX7 19 "WiredBeans$Reader" "length" "I" : Cond) ∈ tb := inA_7 _ (List.mem_of_getElem? (i := 0) rfl)
theorem kw_169 : (.fieldLink RX7 23 "WiredBeans$Reader" "at" "I" : Cond) ∈ tb := inA_7 _ (List.mem_of_getElem? (i := 1) rfl)
theorem kw_170 : (.fieldLink RX7 26 "WiredBeans$Reader" "depth" "I" : Cond) ∈ tb := inA_7 _ (List.mem_of_getElem? (i := 2) rfl)
theorem kw_171 : (.fieldLink RX7 29 "WiredBeans$Reader" "open" "LWiredBeans$Element;" : Cond) ∈ tb := inA_7 _ (List.mem_of_getElem? (i := 3) rfl)
theorem kw_172 : (.methodLink RX7 33 yX6_clear : Cond) ∈ tb := inA_7 _ (List.mem_of_getElem? (i := 4) rfl)
theorem kw_173 : (.instanceMethod yX6_clear : Cond) ∈ tb := inA_7 _ (List.mem_of_getElem? (i := 5) rfl)
theorem kw_174 : (.selects RX6 yX6_clear yX6_clear : Cond) ∈ tb := inA_7 _ (List.mem_of_getElem? (i := 6) rfl)
theorem kw_175 : (.methodLink RX7 38 yX7_skipAround : Cond) ∈ tb := inA_7 _ (List.mem_of_getElem? (i := 7) rfl)
theorem kw_176 : (.instanceMethod yX7_skipAround : Cond) ∈ tb := inA_7 _ (List.mem_of_getElem? (i := 8) rfl)
theorem kw_177 : (.selects RX7 yX7_skipAround yX7_skipAround : Cond) ∈ tb := inA_7 _ (List.mem_of_getElem? (i := 9) rfl)
theorem kw_178 : (.methodLink RX7 41 yX7_openElement : Cond) ∈ tb := inA_7 _ (List.mem_of_getElem? (i := 10) rfl)
theorem kw_179 : (.instanceMethod yX7_openElement : Cond) ∈ tb := inA_7 _ (List.mem_of_getElem? (i := 11) rfl)
theorem kw_180 : (.selects RX7 yX7_openElement yX7_openElement : Cond) ∈ tb := inA_7 _ (List.mem_of_getElem? (i := 12) rfl)
theorem kw_181 : (.classLink RX7 50 "java/lang/IllegalArgumentException" : Cond) ∈ tb := inA_7 _ (List.mem_of_getElem? (i := 13) rfl)
theorem kw_182 : (.methodLink RX7 53 yX7_skipsWhite : Cond) ∈ tb := inA_7 _ (List.mem_of_getElem? (i := 14) rfl)
theorem kw_183 : (.instanceMethod yX7_skipsWhite : Cond) ∈ tb := inA_7 _ (List.mem_of_getElem? (i := 15) rfl)
theorem kw_184 : (.selects RX7 yX7_skipsWhite yX7_skipsWhite : Cond) ∈ tb := inA_7 _ (List.mem_of_getElem? (i := 16) rfl)
theorem kw_185 : (.methodLink RX7 64 yX7_expect : Cond) ∈ tb := inA_7 _ (List.mem_of_getElem? (i := 17) rfl)
theorem kw_186 : (.instanceMethod yX7_expect : Cond) ∈ tb := inA_7 _ (List.mem_of_getElem? (i := 18) rfl)
theorem kw_187 : (.selects RX7 yX7_expect yX7_expect : Cond) ∈ tb := inA_7 _ (List.mem_of_getElem? (i := 19) rfl)
theorem kw_188 : (.fieldLink RX7 101 "WiredBeans$Element" "word" "LWiredBeans$Word;" : Cond) ∈ tb := inA_7 _ (List.mem_of_getElem? (i := 20) rfl)
theorem kw_189 : (.methodLink RX9 3 objectInit : Cond) ∈ tb := inA_7 _ (List.mem_of_getElem? (i := 21) rfl)
theorem kw_190 : (.fieldLink RX9 9 "WiredBeans$Structure" "paper" "LWiredBeans$Paper;" : Cond) ∈ tb := inA_7 _ (List.mem_of_getElem? (i := 22) rfl)
theorem kw_191 : (.methodLink RX1 3 objectInit : Cond) ∈ tb := inA_7 _ (List.mem_of_getElem? (i := 23) rfl)
theorem kw_192 : (.fieldLink RX1 9 "WiredBeans$Bean" "number" "I" : Cond) ∈ tb := inA_8 _ (List.mem_of_getElem? (i := 0) rfl)
theorem kw_193 : (.classLink RX1 15 RJx4a65c : Cond) ∈ tb := inA_8 _ (List.mem_of_getElem? (i := 1) rfl)
theorem kw_194 : (.initialized RJx4a65c : Cond) ∈ tb := inA_8 _ (List.mem_of_getElem? (i := 2) rfl)
theorem kw_195 : (.instantiable RJx4a65c 3 : Cond) ∈ tb := inA_8 _ (List.mem_of_getElem? (i := 3) rfl)
theorem kw_196 : (.methodLink RX1 17 yJx4a65c_init_da8c8 : Cond) ∈ tb := inA_8 _ (List.mem_of_getElem? (i := 4) rfl)
theorem kw_197 : (.instanceMethod yJx4a65c_init_da8c8 : Cond) ∈ tb := inA_8 _ (List.mem_of_getElem? (i := 5) rfl)
theorem kw_198 : (.fieldLink RX1 18 "WiredBeans$Bean" "args" "Ljava/util/ArrayList;" : Cond) ∈ tb := inA_8 _ (List.mem_of_getElem? (i := 6) rfl)
theorem kw_199 : (.fieldLink RX1 22 "WiredBeans$Bean" "sets" "Ljava/util/ArrayList;" : Cond) ∈ tb := inA_8 _ (List.mem_of_getElem? (i := 7) rfl)
theorem kw_200 : (.fieldLink RX1 25 "WiredBeans$Bean" "lookups" "Ljava/util/ArrayList;" : Cond) ∈ tb := inA_8 _ (List.mem_of_getElem? (i := 8) rfl)
theorem kw_201 : (.methodLink RX10 3 objectInit : Cond) ∈ tb := inA_8 _ (List.mem_of_getElem? (i := 9) rfl)
theorem kw_202 : (.fieldLink RX10 9 "WiredBeans$Wiring" "paper" "LWiredBeans$Paper;" : Cond) ∈ tb := inA_8 _ (List.mem_of_getElem? (i := 10) rfl)
theorem kw_203 : (.classLink RX10 17 RX1 : Cond) ∈ tb := inA_8 _ (List.mem_of_getElem? (i := 11) rfl)
theorem kw_204 : (.fieldLink RX10 19 "WiredBeans$Wiring" "beans" "[LWiredBeans$Bean;" : Cond) ∈ tb := inA_8 _ (List.mem_of_getElem? (i := 12) rfl)
theorem kw_205 : (.initialized RX1 : Cond) ∈ tb := inA_8 _ (List.mem_of_getElem? (i := 13) rfl)
theorem kw_206 : (.instantiable RX1 19 : Cond) ∈ tb := inA_8 _ (List.mem_of_getElem? (i := 14) rfl)
theorem kw_207 : (.methodLink RX10 23 yX1_init : Cond) ∈ tb := inA_8 _ (List.mem_of_getElem? (i := 15) rfl)
theorem kw_208 : (.instanceMethod yX1_init : Cond) ∈ tb := inA_8 _ (List.mem_of_getElem? (i := 16) rfl)
theorem kw_209 : (.fieldLink RX10 26 "WiredBeans$Wiring" "chain" "[LWiredBeans$Bean;" : Cond) ∈ tb := inA_8 _ (List.mem_of_getElem? (i := 17) rfl)
theorem kw_210 : (.fieldLink RX10 29 "WiredBeans$Wiring" "count" "I" : Cond) ∈ tb := inA_8 _ (List.mem_of_getElem? (i := 18) rfl)
theorem kw_211 : (.methodLink RX4 3 objectInit : Cond) ∈ tb := inA_8 _ (List.mem_of_getElem? (i := 19) rfl)
theorem kw_212 : (.fieldLink RX4 11 "WiredBeans$EventRow" "numbers" "[I" : Cond) ∈ tb := inA_8 _ (List.mem_of_getElem? (i := 20) rfl)
theorem kw_213 : (.fieldLink RX4 15 "WiredBeans$EventRow" "count" "I" : Cond) ∈ tb := inA_8 _ (List.mem_of_getElem? (i := 21) rfl)
theorem kw_214 : (.methodLink RX5 7 objectInit : Cond) ∈ tb := inA_8 _ (List.mem_of_getElem? (i := 22) rfl)
theorem kw_215 : (.fieldLink RX5 13 "WiredBeans$Maker" "wiring" "LWiredBeans$Wiring;" : Cond) ∈ tb := inA_8 _ (List.mem_of_getElem? (i := 23) rfl)
theorem kw_216 : (.fieldLink RX5 17 "WiredBeans$Maker" "classes" "[LWiredBeans$DeclaredClass;" : Cond) ∈ tb := inA_9 _ (List.mem_of_getElem? (i := 0) rfl)
theorem kw_217 : (.fieldLink RX5 21 "WiredBeans$Maker" "row" "LWiredBeans$EventRow;" : Cond) ∈ tb := inA_9 _ (List.mem_of_getElem? (i := 1) rfl)
theorem kw_218 : (.fieldLink RX5 25 "WiredBeans$Maker" "objectClasses" "[I" : Cond) ∈ tb := inA_9 _ (List.mem_of_getElem? (i := 2) rfl)
theorem kw_219 : (.fieldLink RX5 29 "WiredBeans$Maker" "objectBeans" "[I" : Cond) ∈ tb := inA_9 _ (List.mem_of_getElem? (i := 3) rfl)
theorem kw_220 : (.classLink RX5 34 RX1 : Cond) ∈ tb := inA_9 _ (List.mem_of_getElem? (i := 4) rfl)
theorem kw_221 : (.fieldLink RX5 36 "WiredBeans$Maker" "finished" "[LWiredBeans$Bean;" : Cond) ∈ tb := inA_9 _ (List.mem_of_getElem? (i := 5) rfl)
theorem kw_222 : (.fieldLink RX5 40 "WiredBeans$Maker" "worked" "[I" : Cond) ∈ tb := inA_9 _ (List.mem_of_getElem? (i := 6) rfl)
theorem kw_223 : (.fieldLink RX5 43 "WiredBeans$Maker" "argAtPlace" "[I" : Cond) ∈ tb := inA_9 _ (List.mem_of_getElem? (i := 7) rfl)
theorem kw_224 : (.fieldLink RX5 46 "WiredBeans$Maker" "failureBean" "I" : Cond) ∈ tb := inA_9 _ (List.mem_of_getElem? (i := 8) rfl)
theorem kw_225 : (.fieldLink RX5 50 "WiredBeans$Maker" "objectCount" "I" : Cond) ∈ tb := inA_9 _ (List.mem_of_getElem? (i := 9) rfl)
theorem kw_226 : (.methodLink RX5 53 yX5_forgetMade : Cond) ∈ tb := inA_9 _ (List.mem_of_getElem? (i := 10) rfl)
theorem kw_227 : (.instanceMethod yX5_forgetMade : Cond) ∈ tb := inA_9 _ (List.mem_of_getElem? (i := 11) rfl)
theorem kw_228 : (.selects RX5 yX5_forgetMade yX5_forgetMade : Cond) ∈ tb := inA_9 _ (List.mem_of_getElem? (i := 12) rfl)
theorem kw_229 : (.methodLink RX5 56 yX4_clear : Cond) ∈ tb := inA_9 _ (List.mem_of_getElem? (i := 13) rfl)
theorem kw_230 : (.instanceMethod yX4_clear : Cond) ∈ tb := inA_9 _ (List.mem_of_getElem? (i := 14) rfl)
theorem kw_231 : (.selects RX4 yX4_clear yX4_clear : Cond) ∈ tb := inA_9 _ (List.mem_of_getElem? (i := 15) rfl)
theorem kw_232 : (.methodLink RX5 78 yX10_count : Cond) ∈ tb := inA_9 _ (List.mem_of_getElem? (i := 16) rfl)
theorem kw_233 : (.fieldLink RX5 82 "WiredBeans$Bean" "isMade" "Z" : Cond) ∈ tb := inA_9 _ (List.mem_of_getElem? (i := 17) rfl)
theorem kw_234 : (.fieldLink RX5 86 "WiredBeans$Maker" "finishedCount" "I" : Cond) ∈ tb := inA_9 _ (List.mem_of_getElem? (i := 18) rfl)
theorem kw_235 : (.fieldLink RX5 61 "WiredBeans$Maker" "failure" "I" : Cond) ∈ tb := inA_9 _ (List.mem_of_getElem? (i := 19) rfl)
theorem kw_236 : (.fieldLink RX5 89 "WiredBeans$Bean" "destroy" "I" : Cond) ∈ tb := inA_9 _ (List.mem_of_getElem? (i := 20) rfl)
theorem kw_237 : (.fieldLink RX5 92 "WiredBeans$Bean" "madeObject" "I" : Cond) ∈ tb := inA_9 _ (List.mem_of_getElem? (i := 21) rfl)
theorem kw_238 : (.methodLink RX5 64 yX5_isObject : Cond) ∈ tb := inA_9 _ (List.mem_of_getElem? (i := 22) rfl)
theorem kw_239 : (.instanceMethod yX5_isObject : Cond) ∈ tb := inA_9 _ (List.mem_of_getElem? (i := 23) rfl)
theorem kw_240 : (.selects RX5 yX5_isObject yX5_isObject : Cond) ∈ tb := inA_10 _ (List.mem_of_getElem? (i := 0) rfl)
theorem kw_241 : (.methodLink RJx4a65c 1 yJxc12de_init_da8c8 : Cond) ∈ tb := inA_10 _ (List.mem_of_getElem? (i := 1) rfl)
theorem kw_242 : (.instanceMethod yJxc12de_init_da8c8 : Cond) ∈ tb := inA_10 _ (List.mem_of_getElem? (i := 2) rfl)
theorem kw_243 : (.initialized RJxc12de : Cond) ∈ tb := inA_10 _ (List.mem_of_getElem? (i := 3) rfl)
theorem kw_244 : (.fieldLink RJx4a65c 39 "java/util/ArrayList" "DEFAULTCAPACITY_EMPTY_ELEMENTDATA" "[Ljava/lang/Object;" : Cond) ∈ tb := inA_10 _ (List.mem_of_getElem? (i := 4) rfl)
theorem kw_245 : (.fieldLink RJx4a65c 9 "java/util/ArrayList" "elementData" "[Ljava/lang/Object;" : Cond) ∈ tb := inA_10 _ (List.mem_of_getElem? (i := 5) rfl)
theorem kw_246 : (.methodLink RJxc12de 1 yJxa1e45_init_da8c8 : Cond) ∈ tb := inA_10 _ (List.mem_of_getElem? (i := 6) rfl)
theorem kw_247 : (.instanceMethod yJxa1e45_init_da8c8 : Cond) ∈ tb := inA_10 _ (List.mem_of_getElem? (i := 7) rfl)
theorem kw_248 : (.initialized RJxa1e45 : Cond) ∈ tb := inA_10 _ (List.mem_of_getElem? (i := 8) rfl)
theorem kw_249 : (.fieldLink RJxc12de 7 "java/util/AbstractList" "modCount" "I" : Cond) ∈ tb := inA_10 _ (List.mem_of_getElem? (i := 9) rfl)
theorem kw_250 : (.methodLink RJxa1e45 1 objectInit : Cond) ∈ tb := inA_10 _ (List.mem_of_getElem? (i := 10) rfl)
theorem kw_251 : (.methodLink RX13 1 objectInit : Cond) ∈ tb := inA_10 _ (List.mem_of_getElem? (i := 11) rfl)
theorem kw_252 : (.constantLong RX13 7 (422607679091) : Cond) ∈ tb := inA_10 _ (List.mem_of_getElem? (i := 12) rfl)
theorem kw_253 : (.constantLong RX13 9 (418430673267) : Cond) ∈ tb := inA_10 _ (List.mem_of_getElem? (i := 13) rfl)
theorem kw_254 : (.constantLong RX13 11 (1650811246) : Cond) ∈ tb := inA_10 _ (List.mem_of_getElem? (i := 14) rfl)
theorem kw_255 : (.constantLong RX13 13 (6386279) : Cond) ∈ tb := inA_10 _ (List.mem_of_getElem? (i := 15) rfl)
theorem kw_256 : (.constantLong RX13 15 (7562612) : Cond) ∈ tb := inA_10 _ (List.mem_of_getElem? (i := 16) rfl)
theorem kw_257 : (.constantLong RX13 17 (1818850164) : Cond) ∈ tb := inA_10 _ (List.mem_of_getElem? (i := 17) rfl)
theorem kw_258 : (.constantLong RX13 19 (508440638821) : Cond) ∈ tb := inA_10 _ (List.mem_of_getElem? (i := 18) rfl)
theorem kw_259 : (.constantLong RX13 21 (7497062) : Cond) ∈ tb := inA_10 _ (List.mem_of_getElem? (i := 19) rfl)
theorem kw_260 : (.constantLong RX13 23 (1853189228) : Cond) ∈ tb := inA_10 _ (List.mem_of_getElem? (i := 20) rfl)
theorem kw_261 : (.constantLong RX13 25 (119225866483056) : Cond) ∈ tb := inA_10 _ (List.mem_of_getElem? (i := 21) rfl)
theorem kw_262 : (.fieldLink RX13 27 "WiredBeansModel" "elementNames" "[J" : Cond) ∈ tb := inA_10 _ (List.mem_of_getElem? (i := 22) rfl)
theorem kw_263 : (.constantLong RX13 33 (7955827) : Cond) ∈ tb := inA_10 _ (List.mem_of_getElem? (i := 23) rfl)
theorem kw_264 : (.constantLong RX13 35 (28271) : Cond) ∈ tb := inA_11 _ (List.mem_of_getElem? (i := 0) rfl)
theorem kw_265 : (.constantLong RX13 37 (7302757) : Cond) ∈ tb := inA_11 _ (List.mem_of_getElem? (i := 1) rfl)
theorem kw_266 : (.constantLong RX13 39 (1835101817) : Cond) ∈ tb := inA_11 _ (List.mem_of_getElem? (i := 2) rfl)
theorem kw_267 : (.constantLong RX13 41 (6909556) : Cond) ∈ tb := inA_11 _ (List.mem_of_getElem? (i := 3) rfl)
theorem kw_268 : (.constantLong RX13 43 (500136506472) : Cond) ∈ tb := inA_11 _ (List.mem_of_getElem? (i := 4) rfl)
theorem kw_269 : (.constantLong RX13 45 (1667785074) : Cond) ∈ tb := inA_11 _ (List.mem_of_getElem? (i := 5) rfl)
theorem kw_270 : (.constantLong RX13 47 (1952807028) : Cond) ∈ tb := inA_11 _ (List.mem_of_getElem? (i := 6) rfl)
theorem kw_271 : (.constantLong RX13 49 (7499639) : Cond) ∈ tb := inA_11 _ (List.mem_of_getElem? (i := 7) rfl)
theorem kw_272 : (.constantLong RX13 51 (1953658213) : Cond) ∈ tb := inA_11 _ (List.mem_of_getElem? (i := 8) rfl)
theorem kw_273 : (.constantLong RX13 53 (439721161573) : Cond) ∈ tb := inA_11 _ (List.mem_of_getElem? (i := 9) rfl)
theorem kw_274 : (.fieldLink RX13 55 "WiredBeansModel" "words" "[J" : Cond) ∈ tb := inA_11 _ (List.mem_of_getElem? (i := 10) rfl)
theorem kw_275 : (.constantLong RX13 58 (7107643) : Cond) ∈ tb := inA_11 _ (List.mem_of_getElem? (i := 11) rfl)
theorem kw_276 : (.constantLong RX13 60 (6779963) : Cond) ∈ tb := inA_11 _ (List.mem_of_getElem? (i := 12) rfl)
theorem kw_277 : (.constantLong RX13 62 (1634562107) : Cond) ∈ tb := inA_11 _ (List.mem_of_getElem? (i := 13) rfl)
theorem kw_278 : (.constantLong RX13 64 (487301542971) : Cond) ∈ tb := inA_11 _ (List.mem_of_getElem? (i := 14) rfl)
theorem kw_279 : (.constantLong RX13 66 (418498179899) : Cond) ∈ tb := inA_11 _ (List.mem_of_getElem? (i := 15) rfl)
theorem kw_280 : (.fieldLink RX13 68 "WiredBeansModel" "entities" "[J" : Cond) ∈ tb := inA_11 _ (List.mem_of_getElem? (i := 16) rfl)
theorem kw_281 : (.fieldLink RX13 71 "WiredBeansModel" "entityLengths" "[I" : Cond) ∈ tb := inA_11 _ (List.mem_of_getElem? (i := 17) rfl)
theorem kw_282 : (.fieldLink RX13 75 "WiredBeansModel" "entitySigns" "[I" : Cond) ∈ tb := inA_11 _ (List.mem_of_getElem? (i := 18) rfl)
theorem kw_283 : (.fieldLink RX13 78 "WiredBeansModel" "parents" "[I" : Cond) ∈ tb := inA_11 _ (List.mem_of_getElem? (i := 19) rfl)
theorem kw_284 : (.fieldLink RX13 81 "WiredBeansModel" "makers" "[I" : Cond) ∈ tb := inA_11 _ (List.mem_of_getElem? (i := 20) rfl)
theorem kw_285 : (.fieldLink RX13 84 "WiredBeansModel" "makerSize" "[I" : Cond) ∈ tb := inA_11 _ (List.mem_of_getElem? (i := 21) rfl)
theorem kw_286 : (.fieldLink RX13 87 "WiredBeansModel" "makerType" "[I" : Cond) ∈ tb := inA_11 _ (List.mem_of_getElem? (i := 22) rfl)
theorem kw_287 : (.fieldLink RX13 90 "WiredBeansModel" "setters" "[I" : Cond) ∈ tb := inA_11 _ (List.mem_of_getElem? (i := 23) rfl)
theorem kw_288 : (.fieldLink RX13 93 "WiredBeansModel" "setterName" "[I" : Cond) ∈ tb := inA_12 _ (List.mem_of_getElem? (i := 0) rfl)
theorem kw_289 : (.fieldLink RX13 96 "WiredBeansModel" "setterType" "[I" : Cond) ∈ tb := inA_12 _ (List.mem_of_getElem? (i := 1) rfl)
theorem kw_290 : (.fieldLink RX13 99 "WiredBeansModel" "factories" "[I" : Cond) ∈ tb := inA_12 _ (List.mem_of_getElem? (i := 2) rfl)
theorem kw_291 : (.fieldLink RX13 102 "WiredBeansModel" "factoryName" "[I" : Cond) ∈ tb := inA_12 _ (List.mem_of_getElem? (i := 3) rfl)
theorem kw_292 : (.fieldLink RX13 105 "WiredBeansModel" "factoryResult" "[I" : Cond) ∈ tb := inA_12 _ (List.mem_of_getElem? (i := 4) rfl)
theorem kw_293 : (.fieldLink RX13 108 "WiredBeansModel" "factorySize" "[I" : Cond) ∈ tb := inA_12 _ (List.mem_of_getElem? (i := 5) rfl)
theorem kw_294 : (.fieldLink RX13 111 "WiredBeansModel" "factoryType" "[I" : Cond) ∈ tb := inA_12 _ (List.mem_of_getElem? (i := 6) rfl)
theorem kw_295 : (.arrayClass .boolean : Cond) ∈ tb := inA_12 _ (List.mem_of_getElem? (i := 7) rfl)
theorem kw_296 : (.fieldLink RX13 114 "WiredBeansModel" "factoryStatic" "[Z" : Cond) ∈ tb := inA_12 _ (List.mem_of_getElem? (i := 8) rfl)
theorem kw_297 : (.arrayClass .byte : Cond) ∈ tb := inA_12 _ (List.mem_of_getElem? (i := 9) rfl)
theorem kw_298 : (.fieldLink RX13 118 "WiredBeansModel" "text" "[B" : Cond) ∈ tb := inA_12 _ (List.mem_of_getElem? (i := 10) rfl)
theorem kw_299 : (.fieldLink RX13 122 "WiredBeansModel" "faultPlace" "I" : Cond) ∈ tb := inA_12 _ (List.mem_of_getElem? (i := 11) rfl)
theorem kw_300 : (.fieldLink RX13 126 "WiredBeansModel" "kinds" "[I" : Cond) ∈ tb := inA_12 _ (List.mem_of_getElem? (i := 12) rfl)
theorem kw_301 : (.fieldLink RX13 129 "WiredBeansModel" "places" "[I" : Cond) ∈ tb := inA_12 _ (List.mem_of_getElem? (i := 13) rfl)
theorem kw_302 : (.fieldLink RX13 132 "WiredBeansModel" "above" "[I" : Cond) ∈ tb := inA_12 _ (List.mem_of_getElem? (i := 14) rfl)
theorem kw_303 : (.fieldLink RX13 135 "WiredBeansModel" "within" "[I" : Cond) ∈ tb := inA_12 _ (List.mem_of_getElem? (i := 15) rfl)
theorem kw_304 : (.fieldLink RX13 138 "WiredBeansModel" "attributes" "[I" : Cond) ∈ tb := inA_12 _ (List.mem_of_getElem? (i := 16) rfl)
theorem kw_305 : (.fieldLink RX13 141 "WiredBeansModel" "textSize" "[I" : Cond) ∈ tb := inA_12 _ (List.mem_of_getElem? (i := 17) rfl)
theorem kw_306 : (.fieldLink RX13 144 "WiredBeansModel" "pending" "[I" : Cond) ∈ tb := inA_12 _ (List.mem_of_getElem? (i := 18) rfl)
theorem kw_307 : (.fieldLink RX13 147 "WiredBeansModel" "textAt" "[I" : Cond) ∈ tb := inA_12 _ (List.mem_of_getElem? (i := 19) rfl)
theorem kw_308 : (.fieldLink RX13 150 "WiredBeansModel" "names" "[J" : Cond) ∈ tb := inA_12 _ (List.mem_of_getElem? (i := 20) rfl)
theorem kw_309 : (.fieldLink RX13 153 "WiredBeansModel" "attributeName" "[J" : Cond) ∈ tb := inA_12 _ (List.mem_of_getElem? (i := 21) rfl)
theorem kw_310 : (.fieldLink RX13 156 "WiredBeansModel" "attributeAt" "[I" : Cond) ∈ tb := inA_12 _ (List.mem_of_getElem? (i := 22) rfl)
theorem kw_311 : (.fieldLink RX13 159 "WiredBeansModel" "attributeSize" "[I" : Cond) ∈ tb := inA_12 _ (List.mem_of_getElem? (i := 23) rfl)
theorem kw_312 : (.fieldLink RX13 162 "WiredBeansModel" "characters" "[B" : Cond) ∈ tb := inA_13 _ (List.mem_of_getElem? (i := 0) rfl)
theorem kw_313 : (.fieldLink RX13 165 "WiredBeansModel" "texts" "[B" : Cond) ∈ tb := inA_13 _ (List.mem_of_getElem? (i := 1) rfl)
theorem kw_314 : (.fieldLink RX13 168 "WiredBeansModel" "beanElement" "[I" : Cond) ∈ tb := inA_13 _ (List.mem_of_getElem? (i := 2) rfl)
theorem kw_315 : (.fieldLink RX13 171 "WiredBeansModel" "beanOf" "[I" : Cond) ∈ tb := inA_13 _ (List.mem_of_getElem? (i := 3) rfl)
theorem kw_316 : (.fieldLink RX13 174 "WiredBeansModel" "setMany" "[I" : Cond) ∈ tb := inA_13 _ (List.mem_of_getElem? (i := 4) rfl)
theorem kw_317 : (.fieldLink RX13 177 "WiredBeansModel" "setElement" "[I" : Cond) ∈ tb := inA_13 _ (List.mem_of_getElem? (i := 5) rfl)
theorem kw_318 : (.fieldLink RX13 180 "WiredBeansModel" "lookupMany" "[I" : Cond) ∈ tb := inA_13 _ (List.mem_of_getElem? (i := 6) rfl)
theorem kw_319 : (.fieldLink RX13 183 "WiredBeansModel" "lookupElement" "[I" : Cond) ∈ tb := inA_13 _ (List.mem_of_getElem? (i := 7) rfl)
theorem kw_320 : (.fieldLink RX13 186 "WiredBeansModel" "failureBean" "I" : Cond) ∈ tb := inA_13 _ (List.mem_of_getElem? (i := 8) rfl)
theorem kw_321 : (.fieldLink RX13 189 "WiredBeansModel" "objectClass" "[I" : Cond) ∈ tb := inA_13 _ (List.mem_of_getElem? (i := 9) rfl)
theorem kw_322 : (.fieldLink RX13 192 "WiredBeansModel" "objectBean" "[I" : Cond) ∈ tb := inA_13 _ (List.mem_of_getElem? (i := 10) rfl)
theorem kw_323 : (.fieldLink RX13 195 "WiredBeansModel" "eventKind" "[I" : Cond) ∈ tb := inA_13 _ (List.mem_of_getElem? (i := 11) rfl)
theorem kw_324 : (.fieldLink RX13 198 "WiredBeansModel" "eventObject" "[I" : Cond) ∈ tb := inA_13 _ (List.mem_of_getElem? (i := 12) rfl)
theorem kw_325 : (.fieldLink RX13 201 "WiredBeansModel" "eventSecond" "[I" : Cond) ∈ tb := inA_13 _ (List.mem_of_getElem? (i := 13) rfl)
theorem kw_326 : (.fieldLink RX13 204 "WiredBeansModel" "eventThird" "[I" : Cond) ∈ tb := inA_13 _ (List.mem_of_getElem? (i := 14) rfl)
theorem kw_327 : (.fieldLink RX13 207 "WiredBeansModel" "madeOrder" "[I" : Cond) ∈ tb := inA_13 _ (List.mem_of_getElem? (i := 15) rfl)
theorem kw_328 : (.fieldLink RX13 210 "WiredBeansModel" "own" "[I" : Cond) ∈ tb := inA_13 _ (List.mem_of_getElem? (i := 16) rfl)
theorem kw_329 : (.fieldLink RX13 213 "WiredBeansModel" "isMade" "[Z" : Cond) ∈ tb := inA_13 _ (List.mem_of_getElem? (i := 17) rfl)
theorem kw_330 : (.fieldLink RX13 216 "WiredBeansModel" "making" "[Z" : Cond) ∈ tb := inA_13 _ (List.mem_of_getElem? (i := 18) rfl)
theorem kw_331 : (.fieldLink RX13 219 "WiredBeansModel" "pileBean" "[I" : Cond) ∈ tb := inA_13 _ (List.mem_of_getElem? (i := 19) rfl)
theorem kw_332 : (.fieldLink RX13 222 "WiredBeansModel" "pilePhase" "[I" : Cond) ∈ tb := inA_13 _ (List.mem_of_getElem? (i := 20) rfl)
theorem kw_333 : (.fieldLink RX13 225 "WiredBeansModel" "pileIndex" "[I" : Cond) ∈ tb := inA_13 _ (List.mem_of_getElem? (i := 21) rfl)
theorem kw_334 : (.fieldLink RX13 228 "WiredBeansModel" "pileItem" "[I" : Cond) ∈ tb := inA_13 _ (List.mem_of_getElem? (i := 22) rfl)
theorem kw_335 : (.fieldLink RX13 231 "WiredBeansModel" "pileFactory" "[I" : Cond) ∈ tb := inA_13 _ (List.mem_of_getElem? (i := 23) rfl)
theorem kw_336 : (.fieldLink RX13 234 "WiredBeansModel" "pileObject" "[I" : Cond) ∈ tb := inA_14 _ (List.mem_of_getElem? (i := 0) rfl)
theorem kw_337 : (.fieldLink RX13 237 "WiredBeansModel" "valueKind" "[I" : Cond) ∈ tb := inA_14 _ (List.mem_of_getElem? (i := 1) rfl)
theorem kw_338 : (.fieldLink RX13 240 "WiredBeansModel" "value" "[I" : Cond) ∈ tb := inA_14 _ (List.mem_of_getElem? (i := 2) rfl)
theorem kw_339 : (.fieldLink RX13 243 "WiredBeansModel" "itemKind" "[I" : Cond) ∈ tb := inA_14 _ (List.mem_of_getElem? (i := 3) rfl)
theorem kw_340 : (.fieldLink RX13 246 "WiredBeansModel" "item" "[I" : Cond) ∈ tb := inA_14 _ (List.mem_of_getElem? (i := 4) rfl)
theorem kw_341 : (.fieldLink RX13 249 "WiredBeansModel" "spot" "[I" : Cond) ∈ tb := inA_14 _ (List.mem_of_getElem? (i := 5) rfl)
theorem kw_342 : (.fieldLink RX13 252 "WiredBeansModel" "thrown" "I" : Cond) ∈ tb := inA_14 _ (List.mem_of_getElem? (i := 6) rfl)
theorem kw_343 : (.methodLink RX13 255 yX13_isType : Cond) ∈ tb := inA_14 _ (List.mem_of_getElem? (i := 7) rfl)
theorem kw_344 : (.static yX13_isType : Cond) ∈ tb := inA_14 _ (List.mem_of_getElem? (i := 8) rfl)
theorem kw_345 : (.initialized RX13 : Cond) ∈ tb := inA_14 _ (List.mem_of_getElem? (i := 9) rfl)
theorem kw_346 : (.methodLink RX13 259 yX13_isClass : Cond) ∈ tb := inA_14 _ (List.mem_of_getElem? (i := 10) rfl)
theorem kw_347 : (.static yX13_isClass : Cond) ∈ tb := inA_14 _ (List.mem_of_getElem? (i := 11) rfl)
theorem kw_348 : (.methodLink RX13 262 yX13_areTypes : Cond) ∈ tb := inA_14 _ (List.mem_of_getElem? (i := 12) rfl)
theorem kw_349 : (.static yX13_areTypes : Cond) ∈ tb := inA_14 _ (List.mem_of_getElem? (i := 13) rfl)
theorem kw_350 : (.methodLink RX13 266 yX13_isLetter : Cond) ∈ tb := inA_14 _ (List.mem_of_getElem? (i := 14) rfl)
theorem kw_351 : (.static yX13_isLetter : Cond) ∈ tb := inA_14 _ (List.mem_of_getElem? (i := 15) rfl)
theorem kw_352 : (.fieldLink RX13 273 "WiredBeansModel" "size" "I" : Cond) ∈ tb := inA_14 _ (List.mem_of_getElem? (i := 16) rfl)
theorem kw_353 : (.fieldLink RX13 276 "WiredBeansModel" "fault" "I" : Cond) ∈ tb := inA_14 _ (List.mem_of_getElem? (i := 17) rfl)
theorem kw_354 : (.fieldLink RX13 279 "WiredBeansModel" "at" "I" : Cond) ∈ tb := inA_14 _ (List.mem_of_getElem? (i := 18) rfl)
theorem kw_355 : (.methodLink RX13 282 yX13_here : Cond) ∈ tb := inA_14 _ (List.mem_of_getElem? (i := 19) rfl)
theorem kw_356 : (.instanceMethod yX13_here : Cond) ∈ tb := inA_14 _ (List.mem_of_getElem? (i := 20) rfl)
theorem kw_357 : (.selects RX13 yX13_here yX13_here : Cond) ∈ tb := inA_14 _ (List.mem_of_getElem? (i := 21) rfl)
theorem kw_358 : (.methodLink RX13 286 yX13_isWhite : Cond) ∈ tb := inA_14 _ (List.mem_of_getElem? (i := 22) rfl)
theorem kw_359 : (.instanceMethod yX13_isWhite : Cond) ∈ tb := inA_14 _ (List.mem_of_getElem? (i := 23) rfl)
theorem kw_360 : (.selects RX13 yX13_isWhite yX13_isWhite : Cond) ∈ tb := inA_15 _ (List.mem_of_getElem? (i := 0) rfl)
theorem kw_361 : (.methodLink RX13 296 yX13_white : Cond) ∈ tb := inA_15 _ (List.mem_of_getElem? (i := 1) rfl)
theorem kw_362 : (.instanceMethod yX13_white : Cond) ∈ tb := inA_15 _ (List.mem_of_getElem? (i := 2) rfl)
theorem kw_363 : (.selects RX13 yX13_white yX13_white : Cond) ∈ tb := inA_15 _ (List.mem_of_getElem? (i := 3) rfl)
theorem kw_364 : (.fieldLink RX13 329 "WiredBeansModel" "elements" "I" : Cond) ∈ tb := inA_15 _ (List.mem_of_getElem? (i := 4) rfl)
theorem kw_365 : (.methodLink RX13 289 yX13_bad : Cond) ∈ tb := inA_15 _ (List.mem_of_getElem? (i := 5) rfl)
theorem kw_366 : (.instanceMethod yX13_bad : Cond) ∈ tb := inA_15 _ (List.mem_of_getElem? (i := 6) rfl)
theorem kw_367 : (.selects RX13 yX13_bad yX13_bad : Cond) ∈ tb := inA_15 _ (List.mem_of_getElem? (i := 7) rfl)
theorem kw_368 : (.fieldLink RX13 335 "WiredBeansModel" "closed" "Z" : Cond) ∈ tb := inA_15 _ (List.mem_of_getElem? (i := 8) rfl)
theorem kw_369 : (.methodLink RX13 339 yX13_between : Cond) ∈ tb := inA_15 _ (List.mem_of_getElem? (i := 9) rfl)
theorem kw_370 : (.instanceMethod yX13_between : Cond) ∈ tb := inA_15 _ (List.mem_of_getElem? (i := 10) rfl)
theorem kw_371 : (.selects RX13 yX13_between yX13_between : Cond) ∈ tb := inA_15 _ (List.mem_of_getElem? (i := 11) rfl)
theorem kw_372 : (.methodLink RX13 342 yX13_begin : Cond) ∈ tb := inA_15 _ (List.mem_of_getElem? (i := 12) rfl)
theorem kw_373 : (.instanceMethod yX13_begin : Cond) ∈ tb := inA_15 _ (List.mem_of_getElem? (i := 13) rfl)
theorem kw_374 : (.selects RX13 yX13_begin yX13_begin : Cond) ∈ tb := inA_15 _ (List.mem_of_getElem? (i := 14) rfl)
theorem kw_375 : (.fieldLink RX13 471 "WiredBeansModel" "events" "I" : Cond) ∈ tb := inA_15 _ (List.mem_of_getElem? (i := 15) rfl)
theorem kw_376 : (.fieldLink RX13 474 "WiredBeansModel" "made" "I" : Cond) ∈ tb := inA_15 _ (List.mem_of_getElem? (i := 16) rfl)
theorem kw_377 : (.fieldLink RX13 323 "WiredBeansModel" "pool" "I" : Cond) ∈ tb := inA_15 _ (List.mem_of_getElem? (i := 17) rfl)
theorem kw_378 : (.fieldLink RX13 439 "WiredBeansModel" "beans" "I" : Cond) ∈ tb := inA_15 _ (List.mem_of_getElem? (i := 18) rfl)
theorem kw_379 : (.fieldLink RX13 477 "WiredBeansModel" "document" "Z" : Cond) ∈ tb := inA_15 _ (List.mem_of_getElem? (i := 19) rfl)
theorem kw_380 : (.fieldLink RX13 480 "WiredBeansModel" "objects" "I" : Cond) ∈ tb := inA_15 _ (List.mem_of_getElem? (i := 20) rfl)
theorem kw_381 : (.methodLink RX13 483 yX13_clear : Cond) ∈ tb := inA_15 _ (List.mem_of_getElem? (i := 21) rfl)
theorem kw_382 : (.instanceMethod yX13_clear : Cond) ∈ tb := inA_15 _ (List.mem_of_getElem? (i := 22) rfl)
theorem kw_383 : (.selects RX13 yX13_clear yX13_clear : Cond) ∈ tb := inA_15 _ (List.mem_of_getElem? (i := 23) rfl)
theorem kw_384 : (.methodLink RX13 486 yX13_readDocument : Cond) ∈ tb := inA_16 _ (List.mem_of_getElem? (i := 0) rfl)
theorem kw_385 : (.instanceMethod yX13_readDocument : Cond) ∈ tb := inA_16 _ (List.mem_of_getElem? (i := 1) rfl)
theorem kw_386 : (.selects RX13 yX13_readDocument yX13_readDocument : Cond) ∈ tb := inA_16 _ (List.mem_of_getElem? (i := 2) rfl)
theorem kw_387 : (.fieldLink RX13 498 "WiredBeansModel" "failure" "I" : Cond) ∈ tb := inA_16 _ (List.mem_of_getElem? (i := 3) rfl)
theorem kw_388 : (.constantLong RX13 394 (1818327673) : Cond) ∈ tb := inA_16 _ (List.mem_of_getElem? (i := 4) rfl)
theorem kw_389 : (.fieldLink RX13 513 "WiredBeansModel" "got" "I" : Cond) ∈ tb := inA_16 _ (List.mem_of_getElem? (i := 5) rfl)
theorem kw_390 : (.constantLong RX13 380 (1851878757) : Cond) ∈ tb := inA_16 _ (List.mem_of_getElem? (i := 6) rfl)
theorem kw_391 : (.constantLong RX13 398 (120282512125796) : Cond) ∈ tb := inA_16 _ (List.mem_of_getElem? (i := 7) rfl)
theorem kw_392 : (.constantLong RX13 400 (1768843636) : Cond) ∈ tb := inA_16 _ (List.mem_of_getElem? (i := 8) rfl)
theorem kw_393 : (.constantLong RX13 402 (28259044220366713) : Cond) ∈ tb := inA_16 _ (List.mem_of_getElem? (i := 9) rfl)
theorem kw_394 : (.constantLong RX13 392 (495589486693) : Cond) ∈ tb := inA_16 _ (List.mem_of_getElem? (i := 10) rfl)
theorem kw_395 : (.classLink RL 8 RX12 : Cond) ∈ tb := inA_16 _ (List.mem_of_getElem? (i := 11) rfl)
theorem kw_396 : (.instantiable RX12 12 : Cond) ∈ tb := inA_16 _ (List.mem_of_getElem? (i := 12) rfl)
theorem kw_397 : (.methodLink RL 32 yX12_init : Cond) ∈ tb := inA_16 _ (List.mem_of_getElem? (i := 13) rfl)
theorem kw_398 : (.instanceMethod yX12_init : Cond) ∈ tb := inA_16 _ (List.mem_of_getElem? (i := 14) rfl)
theorem kw_399 : (.classLink RL 33 RX13 : Cond) ∈ tb := inA_16 _ (List.mem_of_getElem? (i := 15) rfl)
theorem kw_400 : (.instantiable RX13 77 : Cond) ∈ tb := inA_16 _ (List.mem_of_getElem? (i := 16) rfl)
theorem kw_401 : (.methodLink RL 35 yX13_init : Cond) ∈ tb := inA_16 _ (List.mem_of_getElem? (i := 17) rfl)
theorem kw_402 : (.instanceMethod yX13_init : Cond) ∈ tb := inA_16 _ (List.mem_of_getElem? (i := 18) rfl)
theorem kw_403 : (.methodLink RL 36 yX12_declare : Cond) ∈ tb := inA_16 _ (List.mem_of_getElem? (i := 19) rfl)
theorem kw_404 : (.instanceMethod yX12_declare : Cond) ∈ tb := inA_16 _ (List.mem_of_getElem? (i := 20) rfl)
theorem kw_405 : (.selects RX12 yX12_declare yX12_declare : Cond) ∈ tb := inA_16 _ (List.mem_of_getElem? (i := 21) rfl)
theorem kw_406 : (.methodLink RL 40 yX13_declare : Cond) ∈ tb := inA_16 _ (List.mem_of_getElem? (i := 22) rfl)
theorem kw_407 : (.instanceMethod yX13_declare : Cond) ∈ tb := inA_16 _ (List.mem_of_getElem? (i := 23) rfl)
theorem kw_408 : (.selects RX13 yX13_declare yX13_declare : Cond) ∈ tb := inA_17 _ (List.mem_of_getElem? (i := 0) rfl)
theorem kw_409 : (.methodLink RL 41 yX12_constructor : Cond) ∈ tb := inA_17 _ (List.mem_of_getElem? (i := 1) rfl)
theorem kw_410 : (.instanceMethod yX12_constructor : Cond) ∈ tb := inA_17 _ (List.mem_of_getElem? (i := 2) rfl)
theorem kw_411 : (.selects RX12 yX12_constructor yX12_constructor : Cond) ∈ tb := inA_17 _ (List.mem_of_getElem? (i := 3) rfl)
theorem kw_412 : (.methodLink RL 45 yX13_constructor : Cond) ∈ tb := inA_17 _ (List.mem_of_getElem? (i := 4) rfl)
theorem kw_413 : (.instanceMethod yX13_constructor : Cond) ∈ tb := inA_17 _ (List.mem_of_getElem? (i := 5) rfl)
theorem kw_414 : (.selects RX13 yX13_constructor yX13_constructor : Cond) ∈ tb := inA_17 _ (List.mem_of_getElem? (i := 6) rfl)
theorem kw_415 : (.methodLink RL 46 yX12_setter : Cond) ∈ tb := inA_17 _ (List.mem_of_getElem? (i := 7) rfl)
theorem kw_416 : (.instanceMethod yX12_setter : Cond) ∈ tb := inA_17 _ (List.mem_of_getElem? (i := 8) rfl)
theorem kw_417 : (.selects RX12 yX12_setter yX12_setter : Cond) ∈ tb := inA_17 _ (List.mem_of_getElem? (i := 9) rfl)
theorem kw_418 : (.methodLink RL 50 yX13_setter : Cond) ∈ tb := inA_17 _ (List.mem_of_getElem? (i := 10) rfl)
theorem kw_419 : (.instanceMethod yX13_setter : Cond) ∈ tb := inA_17 _ (List.mem_of_getElem? (i := 11) rfl)
theorem kw_420 : (.selects RX13 yX13_setter yX13_setter : Cond) ∈ tb := inA_17 _ (List.mem_of_getElem? (i := 12) rfl)
theorem kw_421 : (.methodLink RL 51 yX12_factory : Cond) ∈ tb := inA_17 _ (List.mem_of_getElem? (i := 13) rfl)
theorem kw_422 : (.instanceMethod yX12_factory : Cond) ∈ tb := inA_17 _ (List.mem_of_getElem? (i := 14) rfl)
theorem kw_423 : (.selects RX12 yX12_factory yX12_factory : Cond) ∈ tb := inA_17 _ (List.mem_of_getElem? (i := 15) rfl)
theorem kw_424 : (.methodLink RL 55 yX13_factory : Cond) ∈ tb := inA_17 _ (List.mem_of_getElem? (i := 16) rfl)
theorem kw_425 : (.instanceMethod yX13_factory : Cond) ∈ tb := inA_17 _ (List.mem_of_getElem? (i := 17) rfl)
theorem kw_426 : (.selects RX13 yX13_factory yX13_factory : Cond) ∈ tb := inA_17 _ (List.mem_of_getElem? (i := 18) rfl)
theorem kw_427 : (.methodLink RL 56 yX12_type : Cond) ∈ tb := inA_17 _ (List.mem_of_getElem? (i := 19) rfl)
theorem kw_428 : (.instanceMethod yX12_type : Cond) ∈ tb := inA_17 _ (List.mem_of_getElem? (i := 20) rfl)
theorem kw_429 : (.selects RX12 yX12_type yX12_type : Cond) ∈ tb := inA_17 _ (List.mem_of_getElem? (i := 21) rfl)
theorem kw_430 : (.methodLink RL 60 yX13_type : Cond) ∈ tb := inA_17 _ (List.mem_of_getElem? (i := 22) rfl)
theorem kw_431 : (.instanceMethod yX13_type : Cond) ∈ tb := inA_17 _ (List.mem_of_getElem? (i := 23) rfl)
theorem kw_432 : (.selects RX13 yX13_type yX13_type : Cond) ∈ tb := inA_18 _ (List.mem_of_getElem? (i := 0) rfl)
theorem kw_433 : (.methodLink RL 61 yL_read : Cond) ∈ tb := inA_18 _ (List.mem_of_getElem? (i := 1) rfl)
theorem kw_434 : (.static yL_read : Cond) ∈ tb := inA_18 _ (List.mem_of_getElem? (i := 2) rfl)
theorem kw_435 : (.initialized RL : Cond) ∈ tb := inA_18 _ (List.mem_of_getElem? (i := 3) rfl)
theorem kw_436 : (.methodLink RL 66 yX13_read : Cond) ∈ tb := inA_18 _ (List.mem_of_getElem? (i := 4) rfl)
theorem kw_437 : (.instanceMethod yX13_read : Cond) ∈ tb := inA_18 _ (List.mem_of_getElem? (i := 5) rfl)
theorem kw_438 : (.selects RX13 yX13_read yX13_read : Cond) ∈ tb := inA_18 _ (List.mem_of_getElem? (i := 6) rfl)
theorem kw_439 : (.methodLink RL 67 yX13_thrown : Cond) ∈ tb := inA_18 _ (List.mem_of_getElem? (i := 7) rfl)
theorem kw_440 : (.instanceMethod yX13_thrown : Cond) ∈ tb := inA_18 _ (List.mem_of_getElem? (i := 8) rfl)
theorem kw_441 : (.selects RX13 yX13_thrown yX13_thrown : Cond) ∈ tb := inA_18 _ (List.mem_of_getElem? (i := 9) rfl)
theorem kw_442 : (.methodLink RL 70 yX12_fault : Cond) ∈ tb := inA_18 _ (List.mem_of_getElem? (i := 10) rfl)
theorem kw_443 : (.instanceMethod yX12_fault : Cond) ∈ tb := inA_18 _ (List.mem_of_getElem? (i := 11) rfl)
theorem kw_444 : (.selects RX12 yX12_fault yX12_fault : Cond) ∈ tb := inA_18 _ (List.mem_of_getElem? (i := 12) rfl)
theorem kw_445 : (.methodLink RL 74 yX13_fault : Cond) ∈ tb := inA_18 _ (List.mem_of_getElem? (i := 13) rfl)
theorem kw_446 : (.instanceMethod yX13_fault : Cond) ∈ tb := inA_18 _ (List.mem_of_getElem? (i := 14) rfl)
theorem kw_447 : (.selects RX13 yX13_fault yX13_fault : Cond) ∈ tb := inA_18 _ (List.mem_of_getElem? (i := 15) rfl)
theorem kw_448 : (.methodLink RL 75 yL_refresh : Cond) ∈ tb := inA_18 _ (List.mem_of_getElem? (i := 16) rfl)
theorem kw_449 : (.static yL_refresh : Cond) ∈ tb := inA_18 _ (List.mem_of_getElem? (i := 17) rfl)
theorem kw_450 : (.methodLink RL 77 yX13_refresh : Cond) ∈ tb := inA_18 _ (List.mem_of_getElem? (i := 18) rfl)
theorem kw_451 : (.instanceMethod yX13_refresh : Cond) ∈ tb := inA_18 _ (List.mem_of_getElem? (i := 19) rfl)
theorem kw_452 : (.selects RX13 yX13_refresh yX13_refresh : Cond) ∈ tb := inA_18 _ (List.mem_of_getElem? (i := 20) rfl)
theorem kw_453 : (.constantLong RL 78 (4294967295) : Cond) ∈ tb := inA_18 _ (List.mem_of_getElem? (i := 21) rfl)
theorem kw_454 : (.methodLink RL 80 yL_get : Cond) ∈ tb := inA_18 _ (List.mem_of_getElem? (i := 22) rfl)
theorem kw_455 : (.static yL_get : Cond) ∈ tb := inA_18 _ (List.mem_of_getElem? (i := 23) rfl)
theorem kw_456 : (.methodLink RL 83 yX13_get : Cond) ∈ tb := inA_19 _ (List.mem_of_getElem? (i := 0) rfl)
theorem kw_457 : (.instanceMethod yX13_get : Cond) ∈ tb := inA_19 _ (List.mem_of_getElem? (i := 1) rfl)
theorem kw_458 : (.selects RX13 yX13_get yX13_get : Cond) ∈ tb := inA_19 _ (List.mem_of_getElem? (i := 2) rfl)
theorem kw_459 : (.methodLink RL 84 yL_call : Cond) ∈ tb := inA_19 _ (List.mem_of_getElem? (i := 3) rfl)
theorem kw_460 : (.static yL_call : Cond) ∈ tb := inA_19 _ (List.mem_of_getElem? (i := 4) rfl)
theorem kw_461 : (.methodLink RL 87 yX13_call : Cond) ∈ tb := inA_19 _ (List.mem_of_getElem? (i := 5) rfl)
theorem kw_462 : (.instanceMethod yX13_call : Cond) ∈ tb := inA_19 _ (List.mem_of_getElem? (i := 6) rfl)
theorem kw_463 : (.selects RX13 yX13_call yX13_call : Cond) ∈ tb := inA_19 _ (List.mem_of_getElem? (i := 7) rfl)
theorem kw_464 : (.methodLink RL 88 yX12_close : Cond) ∈ tb := inA_19 _ (List.mem_of_getElem? (i := 8) rfl)
theorem kw_465 : (.instanceMethod yX12_close : Cond) ∈ tb := inA_19 _ (List.mem_of_getElem? (i := 9) rfl)
theorem kw_466 : (.selects RX12 yX12_close yX12_close : Cond) ∈ tb := inA_19 _ (List.mem_of_getElem? (i := 10) rfl)
theorem kw_467 : (.methodLink RL 91 yX13_close : Cond) ∈ tb := inA_19 _ (List.mem_of_getElem? (i := 11) rfl)
theorem kw_468 : (.instanceMethod yX13_close : Cond) ∈ tb := inA_19 _ (List.mem_of_getElem? (i := 12) rfl)
theorem kw_469 : (.selects RX13 yX13_close yX13_close : Cond) ∈ tb := inA_19 _ (List.mem_of_getElem? (i := 13) rfl)
theorem kw_470 : (.methodLink RL 92 yX12_events : Cond) ∈ tb := inA_19 _ (List.mem_of_getElem? (i := 14) rfl)
theorem kw_471 : (.instanceMethod yX12_events : Cond) ∈ tb := inA_19 _ (List.mem_of_getElem? (i := 15) rfl)
theorem kw_472 : (.selects RX12 yX12_events yX12_events : Cond) ∈ tb := inA_19 _ (List.mem_of_getElem? (i := 16) rfl)
theorem kw_473 : (.methodLink RL 95 yX13_events : Cond) ∈ tb := inA_19 _ (List.mem_of_getElem? (i := 17) rfl)
theorem kw_474 : (.instanceMethod yX13_events : Cond) ∈ tb := inA_19 _ (List.mem_of_getElem? (i := 18) rfl)
theorem kw_475 : (.selects RX13 yX13_events yX13_events : Cond) ∈ tb := inA_19 _ (List.mem_of_getElem? (i := 19) rfl)
theorem kw_476 : (.methodLink RL 96 yX12_event : Cond) ∈ tb := inA_19 _ (List.mem_of_getElem? (i := 20) rfl)
theorem kw_477 : (.instanceMethod yX12_event : Cond) ∈ tb := inA_19 _ (List.mem_of_getElem? (i := 21) rfl)
theorem kw_478 : (.selects RX12 yX12_event yX12_event : Cond) ∈ tb := inA_19 _ (List.mem_of_getElem? (i := 22) rfl)
theorem kw_479 : (.methodLink RL 99 yX13_event : Cond) ∈ tb := inA_19 _ (List.mem_of_getElem? (i := 23) rfl)
theorem kw_480 : (.instanceMethod yX13_event : Cond) ∈ tb := inA_20 _ (List.mem_of_getElem? (i := 0) rfl)
theorem kw_481 : (.selects RX13 yX13_event yX13_event : Cond) ∈ tb := inA_20 _ (List.mem_of_getElem? (i := 1) rfl)
theorem kw_482 : (.methodLink RL 100 yX12_object : Cond) ∈ tb := inA_20 _ (List.mem_of_getElem? (i := 2) rfl)
theorem kw_483 : (.instanceMethod yX12_object : Cond) ∈ tb := inA_20 _ (List.mem_of_getElem? (i := 3) rfl)
theorem kw_484 : (.selects RX12 yX12_object yX12_object : Cond) ∈ tb := inA_20 _ (List.mem_of_getElem? (i := 4) rfl)
theorem kw_485 : (.methodLink RL 103 yX13_object : Cond) ∈ tb := inA_20 _ (List.mem_of_getElem? (i := 5) rfl)
theorem kw_486 : (.instanceMethod yX13_object : Cond) ∈ tb := inA_20 _ (List.mem_of_getElem? (i := 6) rfl)
theorem kw_487 : (.selects RX13 yX13_object yX13_object : Cond) ∈ tb := inA_20 _ (List.mem_of_getElem? (i := 7) rfl)
theorem kw_488 : (.methodLink RL 104 yX12_bean : Cond) ∈ tb := inA_20 _ (List.mem_of_getElem? (i := 8) rfl)
theorem kw_489 : (.instanceMethod yX12_bean : Cond) ∈ tb := inA_20 _ (List.mem_of_getElem? (i := 9) rfl)
theorem kw_490 : (.selects RX12 yX12_bean yX12_bean : Cond) ∈ tb := inA_20 _ (List.mem_of_getElem? (i := 10) rfl)
theorem kw_491 : (.methodLink RL 107 yX13_bean : Cond) ∈ tb := inA_20 _ (List.mem_of_getElem? (i := 11) rfl)
theorem kw_492 : (.instanceMethod yX13_bean : Cond) ∈ tb := inA_20 _ (List.mem_of_getElem? (i := 12) rfl)
theorem kw_493 : (.selects RX13 yX13_bean yX13_bean : Cond) ∈ tb := inA_20 _ (List.mem_of_getElem? (i := 13) rfl)
theorem kw_494 : (.methodLink RL 7 yX12_read : Cond) ∈ tb := inA_20 _ (List.mem_of_getElem? (i := 14) rfl)
theorem kw_495 : (.instanceMethod yX12_read : Cond) ∈ tb := inA_20 _ (List.mem_of_getElem? (i := 15) rfl)
theorem kw_496 : (.selects RX12 yX12_read yX12_read : Cond) ∈ tb := inA_20 _ (List.mem_of_getElem? (i := 16) rfl)
theorem kw_497 : (.classLink RL 13 "java/lang/IllegalArgumentException" : Cond) ∈ tb := inA_20 _ (List.mem_of_getElem? (i := 17) rfl)
theorem kw_498 : (.methodLink RL 15 yX12_refresh : Cond) ∈ tb := inA_20 _ (List.mem_of_getElem? (i := 18) rfl)
theorem kw_499 : (.instanceMethod yX12_refresh : Cond) ∈ tb := inA_20 _ (List.mem_of_getElem? (i := 19) rfl)
theorem kw_500 : (.selects RX12 yX12_refresh yX12_refresh : Cond) ∈ tb := inA_20 _ (List.mem_of_getElem? (i := 20) rfl)
theorem kw_501 : (.classLink RL 18 "java/lang/IllegalStateException" : Cond) ∈ tb := inA_20 _ (List.mem_of_getElem? (i := 21) rfl)
theorem kw_502 : (.classLink RL 20 "java/lang/UnsupportedOperationException" : Cond) ∈ tb := inA_20 _ (List.mem_of_getElem? (i := 22) rfl)
theorem kw_503 : (.methodLink RL 22 yX12_get : Cond) ∈ tb := inA_20 _ (List.mem_of_getElem? (i := 23) rfl)
theorem kw_504 : (.instanceMethod yX12_get : Cond) ∈ tb := inA_21 _ (List.mem_of_getElem? (i := 0) rfl)
theorem kw_505 : (.selects RX12 yX12_get yX12_get : Cond) ∈ tb := inA_21 _ (List.mem_of_getElem? (i := 1) rfl)
theorem kw_506 : (.methodLink RL 26 yX12_call : Cond) ∈ tb := inA_21 _ (List.mem_of_getElem? (i := 2) rfl)
theorem kw_507 : (.instanceMethod yX12_call : Cond) ∈ tb := inA_21 _ (List.mem_of_getElem? (i := 3) rfl)
theorem kw_508 : (.selects RX12 yX12_call yX12_call : Cond) ∈ tb := inA_21 _ (List.mem_of_getElem? (i := 4) rfl)
theorem kw_509 : (.classLink RL 30 "java/lang/IndexOutOfBoundsException" : Cond) ∈ tb := inA_21 _ (List.mem_of_getElem? (i := 5) rfl)
theorem kw_510 : (.methodLink RX12 1 objectInit : Cond) ∈ tb := inA_21 _ (List.mem_of_getElem? (i := 6) rfl)
theorem kw_511 : (.methodLink RX12 1 objectInit : Cond) ∈ tb := inA_21 _ (List.mem_of_getElem? (i := 7) rfl)
theorem kw_512 : (.methodLink RX12 1 objectInit : Cond) ∈ tb := inA_21 _ (List.mem_of_getElem? (i := 8) rfl)
theorem kw_513 : (.methodLink RX12 1 objectInit : Cond) ∈ tb := inA_21 _ (List.mem_of_getElem? (i := 9) rfl)
theorem kw_514 : (.methodLink RX12 1 objectInit : Cond) ∈ tb := inA_21 _ (List.mem_of_getElem? (i := 10) rfl)
theorem kw_515 : (.methodLink RX12 1 objectInit : Cond) ∈ tb := inA_21 _ (List.mem_of_getElem? (i := 11) rfl)
theorem kw_516 : (.methodLink RX12 1 objectInit : Cond) ∈ tb := inA_21 _ (List.mem_of_getElem? (i := 12) rfl)
theorem kw_517 : (.methodLink RX12 1 objectInit : Cond) ∈ tb := inA_21 _ (List.mem_of_getElem? (i := 13) rfl)
theorem kw_518 : (.methodLink RX12 1 objectInit : Cond) ∈ tb := inA_21 _ (List.mem_of_getElem? (i := 14) rfl)
theorem kw_519 : (.methodLink RX12 1 objectInit : Cond) ∈ tb := inA_21 _ (List.mem_of_getElem? (i := 15) rfl)
theorem kw_520 : (.methodLink RX12 1 objectInit : Cond) ∈ tb := inA_21 _ (List.mem_of_getElem? (i := 16) rfl)
theorem kw_521 : (.methodLink RX12 1 objectInit : Cond) ∈ tb := inA_21 _ (List.mem_of_getElem? (i := 17) rfl)
theorem kw_522 : (.methodLink RX12 1 objectInit : Cond) ∈ tb := inA_21 _ (List.mem_of_getElem? (i := 18) rfl)
theorem kw_523 : (.methodLink RX12 1 objectInit : Cond) ∈ tb := inA_21 _ (List.mem_of_getElem? (i := 19) rfl)
theorem kw_524 : (.methodLink RX12 1 objectInit : Cond) ∈ tb := inA_21 _ (List.mem_of_getElem? (i := 20) rfl)
theorem kw_525 : (.methodLink RX12 1 objectInit : Cond) ∈ tb := inA_21 _ (List.mem_of_getElem? (i := 21) rfl)
theorem kw_526 : (.methodLink RX12 1 objectInit : Cond) ∈ tb := inA_21 _ (List.mem_of_getElem? (i := 22) rfl)
theorem kw_527 : (.methodLink RX12 1 objectInit : Cond) ∈ tb := inA_21 _ (List.mem_of_getElem? (i := 23) rfl)
theorem kw_528 : (.code objectInit ⟨#[0xb1]⟩ 1 none : Cond) ∈ tb := inA_22 _ (List.mem_of_getElem? (i := 0) rfl)
theorem kw_529 : (.code yX2_init cX2_init 3 none : Cond) ∈ tb := inA_22 _ (List.mem_of_getElem? (i := 1) rfl)
theorem kw_530 : (.code yX6_init cX6_init 3 none : Cond) ∈ tb := inA_22 _ (List.mem_of_getElem? (i := 2) rfl)
theorem kw_531 : (.code yX7_init cX7_init 2 none : Cond) ∈ tb := inA_22 _ (List.mem_of_getElem? (i := 3) rfl)
theorem kw_532 : (.code yX9_init cX9_init 2 none : Cond) ∈ tb := inA_22 _ (List.mem_of_getElem? (i := 4) rfl)
theorem kw_533 : (.code yX10_init cX10_init 3 none : Cond) ∈ tb := inA_22 _ (List.mem_of_getElem? (i := 5) rfl)
theorem kw_534 : (.code yX4_init cX4_init 1 none : Cond) ∈ tb := inA_22 _ (List.mem_of_getElem? (i := 6) rfl)
theorem kw_535 : (.code yX5_init cX5_init 4 none : Cond) ∈ tb := inA_22 _ (List.mem_of_getElem? (i := 7) rfl)
theorem kw_536 : (.code yX12_isClass cX12_isClass 1 (some .boolean) : Cond) ∈ tb := inA_22 _ (List.mem_of_getElem? (i := 8) rfl)
theorem kw_537 : (.code yX2_begin cX2_begin 3 none : Cond) ∈ tb := inA_22 _ (List.mem_of_getElem? (i := 9) rfl)
theorem kw_538 : (.code yX12_areTypes cX12_areTypes 4 (some .boolean) : Cond) ∈ tb := inA_22 _ (List.mem_of_getElem? (i := 10) rfl)
theorem kw_539 : (.code yX2_addConstructor cX2_addConstructor 5 (some .boolean) : Cond) ∈ tb := inA_22 _ (List.mem_of_getElem? (i := 11) rfl)
theorem kw_540 : (.code yX12_isLetter cX12_isLetter 1 (some .boolean) : Cond) ∈ tb := inA_22 _ (List.mem_of_getElem? (i := 12) rfl)
theorem kw_541 : (.code yX12_isType cX12_isType 1 (some .boolean) : Cond) ∈ tb := inA_22 _ (List.mem_of_getElem? (i := 13) rfl)
theorem kw_542 : (.code yX2_addSetter cX2_addSetter 3 (some .boolean) : Cond) ∈ tb := inA_22 _ (List.mem_of_getElem? (i := 14) rfl)
theorem kw_543 : (.code yX2_addFactory cX2_addFactory 8 (some .boolean) : Cond) ∈ tb := inA_22 _ (List.mem_of_getElem? (i := 15) rfl)
theorem kw_544 : (.code yX12_typedBehind cX12_typedBehind 6 (some .int) : Cond) ∈ tb := inA_22 _ (List.mem_of_getElem? (i := 16) rfl)
theorem kw_545 : (.code yX5_startAfresh cX5_startAfresh 1 none : Cond) ∈ tb := inA_22 _ (List.mem_of_getElem? (i := 17) rfl)
theorem kw_546 : (.codeWith yX7_firstWrongPlace cX7_firstWrongPlace 4 (some .int) [(32, 75, 78, 50)] : Cond) ∈ tb := inA_22 _ (List.mem_of_getElem? (i := 18) rfl)
theorem kw_547 : (.code yX10_forgetBeans cX10_forgetBeans 1 none : Cond) ∈ tb := inA_22 _ (List.mem_of_getElem? (i := 19) rfl)
theorem kw_548 : (.code yX10_count cX10_count 1 (some .int) : Cond) ∈ tb := inA_22 _ (List.mem_of_getElem? (i := 20) rfl)
theorem kw_549 : (.code yX5_failure cX5_failure 1 (some .int) : Cond) ∈ tb := inA_22 _ (List.mem_of_getElem? (i := 21) rfl)
theorem kw_550 : (.code yX5_failureBean cX5_failureBean 1 (some .int) : Cond) ∈ tb := inA_22 _ (List.mem_of_getElem? (i := 22) rfl)
theorem kw_551 : (.code yX5_forgetFailure cX5_forgetFailure 1 none : Cond) ∈ tb := inA_22 _ (List.mem_of_getElem? (i := 23) rfl)
theorem kw_552 : (.code yX5_destroyAll cX5_destroyAll 2 none : Cond) ∈ tb := inA_23 _ (List.mem_of_getElem? (i := 0) rfl)
theorem kw_553 : (.code yX4_count cX4_count 1 (some .int) : Cond) ∈ tb := inA_23 _ (List.mem_of_getElem? (i := 1) rfl)
theorem kw_554 : (.code yX4_number cX4_number 3 (some .int) : Cond) ∈ tb := inA_23 _ (List.mem_of_getElem? (i := 2) rfl)
theorem kw_555 : (.code yX5_classOfObject cX5_classOfObject 2 (some .int) : Cond) ∈ tb := inA_23 _ (List.mem_of_getElem? (i := 3) rfl)
theorem kw_556 : (.code yX5_beanOfObject cX5_beanOfObject 2 (some .int) : Cond) ∈ tb := inA_23 _ (List.mem_of_getElem? (i := 4) rfl)
theorem kw_557 : (.code yX8_init cX8_init 3 none : Cond) ∈ tb := inA_23 _ (List.mem_of_getElem? (i := 5) rfl)
theorem kw_558 : (.code yX8_describe cX8_describe 4 none : Cond) ∈ tb := inA_23 _ (List.mem_of_getElem? (i := 6) rfl)
theorem kw_559 : (.code yX8_setTypes cX8_setTypes 5 none : Cond) ∈ tb := inA_23 _ (List.mem_of_getElem? (i := 7) rfl)
theorem kw_560 : (.code yX3_init cX3_init 1 none : Cond) ∈ tb := inA_23 _ (List.mem_of_getElem? (i := 8) rfl)
theorem kw_561 : (.code yX6_clear cX6_clear 1 none : Cond) ∈ tb := inA_23 _ (List.mem_of_getElem? (i := 9) rfl)
theorem kw_562 : (.code yX7_skipAround cX7_skipAround 2 none : Cond) ∈ tb := inA_23 _ (List.mem_of_getElem? (i := 10) rfl)
theorem kw_563 : (.code yX7_openElement cX7_openElement 5 none : Cond) ∈ tb := inA_23 _ (List.mem_of_getElem? (i := 11) rfl)
theorem kw_564 : (.code yX7_skipsWhite cX7_skipsWhite 2 (some .boolean) : Cond) ∈ tb := inA_23 _ (List.mem_of_getElem? (i := 12) rfl)
theorem kw_565 : (.code yX7_expect cX7_expect 2 none : Cond) ∈ tb := inA_23 _ (List.mem_of_getElem? (i := 13) rfl)
theorem kw_566 : (.code yJx4a65c_init_da8c8 cJx4a65c_init_da8c8 1 none : Cond) ∈ tb := inA_23 _ (List.mem_of_getElem? (i := 14) rfl)
theorem kw_567 : (.code yX1_init cX1_init 2 none : Cond) ∈ tb := inA_23 _ (List.mem_of_getElem? (i := 15) rfl)
theorem kw_568 : (.code yX5_forgetMade cX5_forgetMade 2 none : Cond) ∈ tb := inA_23 _ (List.mem_of_getElem? (i := 16) rfl)
theorem kw_569 : (.code yX4_clear cX4_clear 1 none : Cond) ∈ tb := inA_23 _ (List.mem_of_getElem? (i := 17) rfl)
theorem kw_570 : (.code yX5_isObject cX5_isObject 2 (some .boolean) : Cond) ∈ tb := inA_23 _ (List.mem_of_getElem? (i := 18) rfl)
theorem kw_571 : (.code yJxc12de_init_da8c8 cJxc12de_init_da8c8 1 none : Cond) ∈ tb := inA_23 _ (List.mem_of_getElem? (i := 19) rfl)
theorem kw_572 : (.code yJxa1e45_init_da8c8 cJxa1e45_init_da8c8 1 none : Cond) ∈ tb := inA_23 _ (List.mem_of_getElem? (i := 20) rfl)
theorem kw_573 : (.code yX13_isType cX13_isType 1 (some .boolean) : Cond) ∈ tb := inA_23 _ (List.mem_of_getElem? (i := 21) rfl)
theorem kw_574 : (.code yX13_isClass cX13_isClass 1 (some .boolean) : Cond) ∈ tb := inA_23 _ (List.mem_of_getElem? (i := 22) rfl)
theorem kw_575 : (.code yX13_areTypes cX13_areTypes 4 (some .boolean) : Cond) ∈ tb := inA_23 _ (List.mem_of_getElem? (i := 23) rfl)
theorem kw_576 : (.code yX13_isLetter cX13_isLetter 1 (some .boolean) : Cond) ∈ tb := inA_24 _ (List.mem_of_getElem? (i := 0) rfl)
theorem kw_577 : (.code yX13_here cX13_here 2 (some .int) : Cond) ∈ tb := inA_24 _ (List.mem_of_getElem? (i := 1) rfl)
theorem kw_578 : (.code yX13_isWhite cX13_isWhite 2 (some .boolean) : Cond) ∈ tb := inA_24 _ (List.mem_of_getElem? (i := 2) rfl)
theorem kw_579 : (.code yX13_white cX13_white 2 (some .int) : Cond) ∈ tb := inA_24 _ (List.mem_of_getElem? (i := 3) rfl)
theorem kw_580 : (.code yX13_bad cX13_bad 2 none : Cond) ∈ tb := inA_24 _ (List.mem_of_getElem? (i := 4) rfl)
theorem kw_581 : (.code yX13_between cX13_between 2 none : Cond) ∈ tb := inA_24 _ (List.mem_of_getElem? (i := 5) rfl)
theorem kw_582 : (.code yX13_begin cX13_begin 6 (some .int) : Cond) ∈ tb := inA_24 _ (List.mem_of_getElem? (i := 6) rfl)
theorem kw_583 : (.code yX13_clear cX13_clear 2 none : Cond) ∈ tb := inA_24 _ (List.mem_of_getElem? (i := 7) rfl)
theorem kw_584 : (.code yX13_readDocument cX13_readDocument 5 none : Cond) ∈ tb := inA_24 _ (List.mem_of_getElem? (i := 8) rfl)
theorem kw_585 : (.code yX12_init cX12_init 2 none : Cond) ∈ tb := inA_24 _ (List.mem_of_getElem? (i := 9) rfl)
theorem kw_586 : (.code yX13_init cX13_init 2 none : Cond) ∈ tb := inA_24 _ (List.mem_of_getElem? (i := 10) rfl)
theorem kw_587 : (.code yX12_declare cX12_declare 3 (some .boolean) : Cond) ∈ tb := inA_24 _ (List.mem_of_getElem? (i := 11) rfl)
theorem kw_588 : (.code yX13_declare cX13_declare 3 (some .boolean) : Cond) ∈ tb := inA_24 _ (List.mem_of_getElem? (i := 12) rfl)
theorem kw_589 : (.code yX12_constructor cX12_constructor 6 (some .boolean) : Cond) ∈ tb := inA_24 _ (List.mem_of_getElem? (i := 13) rfl)
theorem kw_590 : (.code yX13_constructor cX13_constructor 7 (some .boolean) : Cond) ∈ tb := inA_24 _ (List.mem_of_getElem? (i := 14) rfl)
theorem kw_591 : (.code yX12_setter cX12_setter 4 (some .boolean) : Cond) ∈ tb := inA_24 _ (List.mem_of_getElem? (i := 15) rfl)
theorem kw_592 : (.code yX13_setter cX13_setter 5 (some .boolean) : Cond) ∈ tb := inA_24 _ (List.mem_of_getElem? (i := 16) rfl)
theorem kw_593 : (.code yX12_factory cX12_factory 9 (some .boolean) : Cond) ∈ tb := inA_24 _ (List.mem_of_getElem? (i := 17) rfl)
theorem kw_594 : (.code yX13_factory cX13_factory 10 (some .boolean) : Cond) ∈ tb := inA_24 _ (List.mem_of_getElem? (i := 18) rfl)
theorem kw_595 : (.code yX12_type cX12_type 7 (some .int) : Cond) ∈ tb := inA_24 _ (List.mem_of_getElem? (i := 19) rfl)
theorem kw_596 : (.code yX13_type cX13_type 10 (some .int) : Cond) ∈ tb := inA_24 _ (List.mem_of_getElem? (i := 20) rfl)
theorem kw_597 : (.codeWith yL_read cL_read 3 (some .int) [(0, 8, 11, 13)] : Cond) ∈ tb := inA_24 _ (List.mem_of_getElem? (i := 21) rfl)
theorem kw_598 : (.code yX13_read cX13_read 4 (some .int) : Cond) ∈ tb := inA_24 _ (List.mem_of_getElem? (i := 22) rfl)
theorem kw_599 : (.code yX13_thrown cX13_thrown 1 (some .int) : Cond) ∈ tb := inA_24 _ (List.mem_of_getElem? (i := 23) rfl)
theorem kw_600 : (.code yX12_fault cX12_fault 2 (some .int) : Cond) ∈ tb := inA_25 _ (List.mem_of_getElem? (i := 0) rfl)
theorem kw_601 : (.code yX13_fault cX13_fault 2 (some .int) : Cond) ∈ tb := inA_25 _ (List.mem_of_getElem? (i := 1) rfl)
theorem kw_602 : (.codeWith yL_refresh cL_refresh 3 (some .int) [(0, 8, 11, 18), (0, 8, 14, 20)] : Cond) ∈ tb := inA_25 _ (List.mem_of_getElem? (i := 2) rfl)
theorem kw_603 : (.code yX13_refresh cX13_refresh 4 (some .int) : Cond) ∈ tb := inA_25 _ (List.mem_of_getElem? (i := 3) rfl)
theorem kw_604 : (.codeWith yL_get cL_get 5 (some .int) [(0, 9, 12, 18), (0, 9, 16, 20)] : Cond) ∈ tb := inA_25 _ (List.mem_of_getElem? (i := 4) rfl)
theorem kw_605 : (.code yX13_get cX13_get 3 (some .int) : Cond) ∈ tb := inA_25 _ (List.mem_of_getElem? (i := 5) rfl)
theorem kw_606 : (.codeWith yL_call cL_call 5 (some .int) [(0, 10, 13, 18), (0, 10, 17, 30), (0, 10, 21, 20)] : Cond) ∈ tb := inA_25 _ (List.mem_of_getElem? (i := 6) rfl)
theorem kw_607 : (.code yX13_call cX13_call 7 (some .int) : Cond) ∈ tb := inA_25 _ (List.mem_of_getElem? (i := 7) rfl)
theorem kw_608 : (.code yX12_close cX12_close 1 (some .int) : Cond) ∈ tb := inA_25 _ (List.mem_of_getElem? (i := 8) rfl)
theorem kw_609 : (.code yX13_close cX13_close 1 (some .int) : Cond) ∈ tb := inA_25 _ (List.mem_of_getElem? (i := 9) rfl)
theorem kw_610 : (.code yX12_events cX12_events 1 (some .int) : Cond) ∈ tb := inA_25 _ (List.mem_of_getElem? (i := 10) rfl)
theorem kw_611 : (.code yX13_events cX13_events 1 (some .int) : Cond) ∈ tb := inA_25 _ (List.mem_of_getElem? (i := 11) rfl)
theorem kw_612 : (.code yX12_event cX12_event 3 (some .int) : Cond) ∈ tb := inA_25 _ (List.mem_of_getElem? (i := 12) rfl)
theorem kw_613 : (.code yX13_event cX13_event 3 (some .int) : Cond) ∈ tb := inA_25 _ (List.mem_of_getElem? (i := 13) rfl)
theorem kw_614 : (.code yX12_object cX12_object 3 (some .int) : Cond) ∈ tb := inA_25 _ (List.mem_of_getElem? (i := 14) rfl)
theorem kw_615 : (.code yX13_object cX13_object 3 (some .int) : Cond) ∈ tb := inA_25 _ (List.mem_of_getElem? (i := 15) rfl)
theorem kw_616 : (.code yX12_bean cX12_bean 3 (some .int) : Cond) ∈ tb := inA_25 _ (List.mem_of_getElem? (i := 16) rfl)
theorem kw_617 : (.code yX13_bean cX13_bean 4 (some .int) : Cond) ∈ tb := inA_25 _ (List.mem_of_getElem? (i := 17) rfl)
theorem kw_618 : (.code yX12_read cX12_read 1 (some .int) : Cond) ∈ tb := inA_25 _ (List.mem_of_getElem? (i := 18) rfl)
theorem kw_619 : (.code yX12_refresh cX12_refresh 1 (some .int) : Cond) ∈ tb := inA_25 _ (List.mem_of_getElem? (i := 19) rfl)
theorem kw_620 : (.code yX12_get cX12_get 4 (some .int) : Cond) ∈ tb := inA_25 _ (List.mem_of_getElem? (i := 20) rfl)
theorem kw_621 : (.code yX12_call cX12_call 5 (some .int) : Cond) ∈ tb := inA_25 _ (List.mem_of_getElem? (i := 21) rfl)
theorem inJx4a65c : ∀ w ∈ wsJx4a65c0, w ∈ tb := fun _ h => List.mem_append_right _ (List.mem_append_left _ (List.mem_append_left _ h))
theorem inX1 : ∀ w ∈ wsX10, w ∈ tb := fun _ h => List.mem_append_right _ (List.mem_append_left _ (List.mem_append_right _ (List.mem_append_left _ h)))
theorem inX2 : ∀ w ∈ wsX20, w ∈ tb := fun _ h => List.mem_append_right _ (List.mem_append_left _ (List.mem_append_right _ (List.mem_append_right _ (List.mem_append_left _ h))))
theorem inX3 : ∀ w ∈ wsX30, w ∈ tb := fun _ h => List.mem_append_right _ (List.mem_append_left _ (List.mem_append_right _ (List.mem_append_right _ (List.mem_append_right _ (List.mem_append_left _ h)))))
theorem inX4 : ∀ w ∈ wsX40, w ∈ tb := fun _ h => List.mem_append_right _ (List.mem_append_left _ (List.mem_append_right _ (List.mem_append_right _ (List.mem_append_right _ (List.mem_append_right _ (List.mem_append_left _ h))))))
theorem inX5 : ∀ w ∈ wsX50, w ∈ tb := fun _ h => List.mem_append_right _ (List.mem_append_left _ (List.mem_append_right _ (List.mem_append_right _ (List.mem_append_right _ (List.mem_append_right _ (List.mem_append_right _ (List.mem_append_left _ h)))))))
theorem inX6 : ∀ w ∈ wsX60, w ∈ tb := fun _ h => List.mem_append_right _ (List.mem_append_left _ (List.mem_append_right _ (List.mem_append_right _ (List.mem_append_right _ (List.mem_append_right _ (List.mem_append_right _ (List.mem_append_right _ (List.mem_append_left _ h))))))))
theorem inX7 : ∀ w ∈ wsX70, w ∈ tb := fun _ h => List.mem_append_right _ (List.mem_append_left _ (List.mem_append_right _ (List.mem_append_right _ (List.mem_append_right _ (List.mem_append_right _ (List.mem_append_right _ (List.mem_append_right _ (List.mem_append_right _ (List.mem_append_left _ h)))))))))
theorem inX8 : ∀ w ∈ wsX80, w ∈ tb := fun _ h => List.mem_append_right _ (List.mem_append_left _ (List.mem_append_right _ (List.mem_append_right _ (List.mem_append_right _ (List.mem_append_right _ (List.mem_append_right _ (List.mem_append_right _ (List.mem_append_right _ (List.mem_append_right _ (List.mem_append_left _ h))))))))))
theorem inX9 : ∀ w ∈ wsX90, w ∈ tb := fun _ h => List.mem_append_right _ (List.mem_append_left _ (List.mem_append_right _ (List.mem_append_right _ (List.mem_append_right _ (List.mem_append_right _ (List.mem_append_right _ (List.mem_append_right _ (List.mem_append_right _ (List.mem_append_right _ (List.mem_append_right _ (List.mem_append_left _ h)))))))))))
theorem inX10 : ∀ w ∈ wsX100, w ∈ tb := fun _ h => List.mem_append_right _ (List.mem_append_left _ (List.mem_append_right _ (List.mem_append_right _ (List.mem_append_right _ (List.mem_append_right _ (List.mem_append_right _ (List.mem_append_right _ (List.mem_append_right _ (List.mem_append_right _ (List.mem_append_right _ (List.mem_append_right _ (List.mem_append_left _ h))))))))))))
theorem inX12 : ∀ w ∈ wsX120, w ∈ tb := fun _ h => List.mem_append_right _ (List.mem_append_left _ (List.mem_append_right _ (List.mem_append_right _ (List.mem_append_right _ (List.mem_append_right _ (List.mem_append_right _ (List.mem_append_right _ (List.mem_append_right _ (List.mem_append_right _ (List.mem_append_right _ (List.mem_append_right _ (List.mem_append_right _ (List.mem_append_left _ h)))))))))))))
theorem inX13 : ∀ w ∈ wsX130, w ∈ tb := fun _ h => List.mem_append_right _ (List.mem_append_left _ (List.mem_append_right _ (List.mem_append_right _ (List.mem_append_right _ (List.mem_append_right _ (List.mem_append_right _ (List.mem_append_right _ (List.mem_append_right _ (List.mem_append_right _ (List.mem_append_right _ (List.mem_append_right _ (List.mem_append_right _ (List.mem_append_right _ (h))))))))))))))
theorem inT_0 : ∀ w ∈ (vx_at0 RX12 131 "java/lang/IllegalArgumentException" ["java/lang/RuntimeException", "java/lang/Exception"]).filter goodWord, w ∈ tb := fun _ h => List.mem_append_right _ (List.mem_append_right _ (List.mem_append_left _ h))
theorem inU_0 : ∀ w ∈ (vx_at0 RX12 131 "java/lang/IllegalArgumentException" ["java/lang/RuntimeException", "java/lang/Exception"]).filter (fun w => !goodWord w), w ∈ [Cond.castable "java/lang/IllegalArgumentException" "java/lang/IllegalArgumentException", Cond.declares ⟨"java/lang/RuntimeException", "<init>", "()V"⟩, Cond.declares ⟨"java/lang/Exception", "<init>", "()V"⟩, Cond.declares ⟨"java/lang/Throwable", "<init>", "()V"⟩] := by decide +kernel
theorem inV_0 : ∀ w ∈ vx_at0 RX12 131 "java/lang/IllegalArgumentException" ["java/lang/RuntimeException", "java/lang/Exception"], vx_ot w = true := by decide +kernel
theorem inW_0 : ∀ w ∈ (vx_at0 RX12 131 "java/lang/IllegalArgumentException" ["java/lang/RuntimeException", "java/lang/Exception"]).filter goodWord, w ∈ lw_tbl := by decide +kernel
theorem inT_1 : ∀ w ∈ (vx_at0 RX12 146 "java/lang/IllegalStateException" ["java/lang/RuntimeException", "java/lang/Exception"]).filter goodWord, w ∈ tb := fun _ h => List.mem_append_right _ (List.mem_append_right _ (List.mem_append_right _ (List.mem_append_left _ h)))
theorem inU_1 : ∀ w ∈ (vx_at0 RX12 146 "java/lang/IllegalStateException" ["java/lang/RuntimeException", "java/lang/Exception"]).filter (fun w => !goodWord w), w ∈ [Cond.castable "java/lang/IllegalStateException" "java/lang/IllegalStateException", Cond.declares ⟨"java/lang/RuntimeException", "<init>", "()V"⟩, Cond.declares ⟨"java/lang/Exception", "<init>", "()V"⟩, Cond.declares ⟨"java/lang/Throwable", "<init>", "()V"⟩] := by decide +kernel
theorem inV_1 : ∀ w ∈ vx_at0 RX12 146 "java/lang/IllegalStateException" ["java/lang/RuntimeException", "java/lang/Exception"], vx_ot w = true := by decide +kernel
theorem inW_1 : ∀ w ∈ (vx_at0 RX12 146 "java/lang/IllegalStateException" ["java/lang/RuntimeException", "java/lang/Exception"]).filter goodWord, w ∈ lw_tbl := by decide +kernel
theorem inT_2 : ∀ w ∈ (vx_at0 RX7 52 "java/lang/IllegalArgumentException" ["java/lang/RuntimeException", "java/lang/Exception"]).filter goodWord, w ∈ tb := fun _ h => List.mem_append_right _ (List.mem_append_right _ (List.mem_append_right _ (List.mem_append_right _ (h))))
theorem inU_2 : ∀ w ∈ (vx_at0 RX7 52 "java/lang/IllegalArgumentException" ["java/lang/RuntimeException", "java/lang/Exception"]).filter (fun w => !goodWord w), w ∈ [Cond.castable "java/lang/IllegalArgumentException" "java/lang/IllegalArgumentException", Cond.declares ⟨"java/lang/RuntimeException", "<init>", "()V"⟩, Cond.declares ⟨"java/lang/Exception", "<init>", "()V"⟩, Cond.declares ⟨"java/lang/Throwable", "<init>", "()V"⟩] := by decide +kernel
theorem inV_2 : ∀ w ∈ vx_at0 RX7 52 "java/lang/IllegalArgumentException" ["java/lang/RuntimeException", "java/lang/Exception"], vx_ot w = true := by decide +kernel
theorem inW_2 : ∀ w ∈ (vx_at0 RX7 52 "java/lang/IllegalArgumentException" ["java/lang/RuntimeException", "java/lang/Exception"]).filter goodWord, w ∈ lw_tbl := by decide +kernel
set_option maxRecDepth 100000 in
theorem tb_good : GoodIn tb tb := goodIn_sub (fun _ h => h) (by decide +kernel)
theorem in_r {big ws : List Cond} (ps : List Nat) (hp : ws = ps.filterMap (fun i => big[i]?)) : ∀ w ∈ ws, w ∈ big := by
  intro w hw
  rw [hp] at hw
  obtain ⟨i, -, hi⟩ := List.mem_filterMap.mp hw
  exact List.mem_of_getElem? hi
set_option maxRecDepth 100000 in
theorem inC_0 : ∀ w ∈ tbA_0, w ∈ lw_tbl := in_r [186, 187, 189, 637, 148, 191, 192, 193, 386, 638, 261, 150, 262, 263, 264, 639, 413, 152, 414, 415, 416, 640, 438, 153] (by decide +kernel)
set_option maxRecDepth 100000 in
theorem inC_1 : ∀ w ∈ tbA_1, w ∈ lw_tbl := in_r [439, 440, 441, 641, 448, 154, 449, 450, 451, 642, 577, 159, 578, 579, 580, 643, 590, 160, 591, 592, 593, 644, 648, 678] (by decide +kernel)
set_option maxRecDepth 100000 in
theorem inC_2 : ∀ w ∈ tbA_2, w ∈ lw_tbl := in_r [679, 147, 681, 682, 683, 689, 690, 695, 696, 697, 711, 712, 692, 693, 714, 715, 716, 722, 723, 724, 645, 730, 732, 0] (by decide +kernel)
set_option maxRecDepth 100000 in
theorem inC_3 : ∀ w ∈ tbA_3, w ∈ lw_tbl := in_r [824, 825, 826, 647, 832, 833, 834, 646, 1428, 1429, 1430, 1432, 165, 806, 763, 764, 738, 739, 740, 742, 743, 744, 1444, 1445] (by decide +kernel)
set_option maxRecDepth 100000 in
theorem inC_4 : ∀ w ∈ tbA_4, w ∈ lw_tbl := in_r [1446, 1448, 178, 1610, 179, 1647, 180, 318, 750, 751, 752, 770, 771, 772, 782, 783, 784, 790, 791, 792, 798, 799, 800, 202] (by decide +kernel)
set_option maxRecDepth 100000 in
theorem inC_5 : ∀ w ∈ tbA_5, w ∈ lw_tbl := in_r [203, 205, 231, 207, 211, 213, 214, 209, 195, 240, 196, 232, 234, 149, 198, 199, 200, 241, 243, 236, 238, 242, 699, 700] (by decide +kernel)
set_option maxRecDepth 100000 in
theorem inC_6 : ∀ w ∈ tbA_6, w ∈ lw_tbl := in_r [701, 703, 704, 705, 273, 274, 266, 267, 387, 151, 269, 270, 271, 412, 388, 389, 390, 391, 392, 393, 394, 418, 419, 420] (by decide +kernel)
set_option maxRecDepth 100000 in
theorem inC_7 : ∀ w ∈ tbA_7, w ∈ lw_tbl := in_r [421, 422, 423, 424, 837, 838, 839, 841, 843, 3, 924, 926, 9, 836, 845, 847, 4, 857, 859, 7, 291, 443, 444, 460] (by decide +kernel)
set_option maxRecDepth 100000 in
theorem inC_8 : ∀ w ∈ tbA_8, w ∈ lw_tbl := in_r [487, 461, 158, 462, 463, 464, 489, 491, 493, 453, 564, 454, 565, 155, 456, 457, 458, 566, 567, 582, 583, 584, 595, 597] (by decide +kernel)
set_option maxRecDepth 100000 in
theorem inC_9 : ∀ w ∈ tbA_9, w ∈ lw_tbl := in_r [598, 599, 600, 601, 596, 603, 605, 606, 609, 602, 758, 760, 1, 828, 829, 830, 762, 522, 604, 608, 512, 524, 794, 796] (by decide +kernel)
set_option maxRecDepth 100000 in
theorem inC_10 : ∀ w ∈ tbA_10, w ∈ lw_tbl := in_r [2, 466, 467, 157, 473, 475, 469, 470, 156, 477, 472, 1667, 1668, 1669, 1670, 1671, 1672, 1673, 1674, 1675, 1676, 1677, 1694, 1678] (by decide +kernel)
set_option maxRecDepth 100000 in
theorem inC_11 : ∀ w ∈ tbA_11, w ∈ lw_tbl := in_r [1679, 1680, 1681, 1682, 1683, 1684, 1685, 1686, 1687, 1688, 1695, 1689, 1690, 1691, 1692, 1693, 1696, 1697, 1698, 1700, 1701, 1702, 1703, 1704] (by decide +kernel)
set_option maxRecDepth 100000 in
theorem inC_12 : ∀ w ∈ tbA_12, w ∈ lw_tbl := in_r [1705, 1706, 1707, 1708, 1709, 1710, 1711, 1926, 1712, 1434, 1713, 1717, 1720, 1721, 1722, 1723, 1724, 1725, 1726, 1727, 1728, 1729, 1730, 1731] (by decide +kernel)
set_option maxRecDepth 100000 in
theorem inC_13 : ∀ w ∈ tbA_13, w ∈ lw_tbl := in_r [1732, 1733, 1736, 1737, 1738, 1739, 1740, 1741, 1746, 1747, 1748, 1749, 1750, 1751, 1752, 1753, 1754, 1755, 1756, 1758, 1759, 1760, 1761, 1762] (by decide +kernel)
set_option maxRecDepth 100000 in
theorem inC_14 : ∀ w ∈ tbA_14, w ∈ lw_tbl := in_r [1763, 1764, 1765, 1766, 1767, 1769, 1699, 1945, 1946, 161, 1935, 1936, 1942, 1943, 1952, 1953, 1714, 1716, 1715, 1983, 1985, 74, 1987, 1989] (by decide +kernel)
set_option maxRecDepth 100000 in
theorem inC_15 : ∀ w ∈ tbA_15, w ∈ lw_tbl := in_r [75, 1979, 1981, 73, 1718, 1999, 2001, 78, 1770, 1975, 1977, 72, 2007, 2009, 80, 1743, 1744, 1719, 1735, 1734, 1742, 1967, 1969, 70] (by decide +kernel)
set_option maxRecDepth 100000 in
theorem inC_16 : ∀ w ∈ tbA_16, w ∈ lw_tbl := in_r [1971, 1973, 71, 1745, 2067, 1768, 2060, 2069, 2070, 2071, 2066, 181, 182, 183, 184, 1662, 1663, 1664, 1665, 674, 675, 676, 1931, 1932] (by decide +kernel)
set_option maxRecDepth 100000 in
theorem inC_17 : ∀ w ∈ tbA_17, w ∈ lw_tbl := in_r [1933, 685, 686, 687, 1938, 1939, 1940, 707, 708, 709, 1948, 1949, 1950, 718, 719, 720, 1955, 1956, 1957, 726, 727, 728, 1959, 1960] (by decide +kernel)
set_option maxRecDepth 100000 in
theorem inC_18 : ∀ w ∈ tbA_18, w ∈ lw_tbl := in_r [1961, 816, 817, 146, 1963, 1964, 1965, 1927, 1928, 1929, 734, 735, 736, 2152, 2153, 2154, 1435, 1436, 2156, 2157, 2158, 2340, 1616, 1617] (by decide +kernel)
set_option maxRecDepth 100000 in
theorem inC_19 : ∀ w ∈ tbA_19, w ∈ lw_tbl := in_r [2309, 2310, 2311, 1631, 1632, 2316, 2317, 2318, 746, 747, 748, 2320, 2321, 2322, 774, 775, 776, 2324, 2325, 2326, 778, 779, 780, 2328] (by decide +kernel)
set_option maxRecDepth 100000 in
theorem inC_20 : ∀ w ∈ tbA_20, w ∈ lw_tbl := in_r [2329, 2330, 786, 787, 788, 2332, 2333, 2334, 802, 803, 804, 2336, 2337, 2338, 820, 821, 822, 819, 1440, 1441, 1442, 1438, 1439, 1619] (by decide +kernel)
set_option maxRecDepth 100000 in
theorem inC_21 : ∀ w ∈ tbA_21, w ∈ lw_tbl := in_r [1620, 1621, 1635, 1636, 1637, 1634, 186, 186, 186, 186, 186, 186, 186, 186, 186, 186, 186, 186, 186, 186, 186, 186, 186, 186] (by decide +kernel)
set_option maxRecDepth 100000 in
theorem inC_22 : ∀ w ∈ tbA_22, w ∈ lw_tbl := in_r [188, 194, 265, 417, 442, 452, 581, 594, 680, 684, 691, 698, 713, 694, 717, 725, 733, 827, 835, 1431, 765, 741, 745, 1447] (rfl)
set_option maxRecDepth 100000 in
theorem inC_23 : ∀ w ∈ tbA_23, w ∈ lw_tbl := in_r [753, 773, 785, 793, 801, 201, 702, 706, 272, 840, 844, 927, 848, 860, 465, 459, 761, 831, 797, 468, 471, 1947, 1937, 1944] (rfl)
set_option maxRecDepth 100000 in
theorem inC_24 : ∀ w ∈ tbA_24, w ∈ lw_tbl := in_r [1954, 1986, 1990, 1982, 2002, 1978, 2010, 1970, 1974, 185, 1666, 677, 1934, 688, 1941, 710, 1951, 721, 1958, 729, 1962, 818, 1966, 1930] (rfl)
set_option maxRecDepth 100000 in
theorem inC_25 : ∀ w ∈ tbA_25, w ∈ lw_tbl := in_r [737, 2155, 1437, 2159, 1618, 2312, 1633, 2319, 749, 2323, 777, 2327, 781, 2331, 789, 2335, 805, 2339, 823, 1443, 1622, 1638] (rfl)
theorem tbA_in : ∀ w ∈ tbA, w ∈ lw_tbl := fun w h => (List.mem_append.mp h).elim (fun h => inC_0 w h) (fun h => (List.mem_append.mp h).elim (fun h => inC_1 w h) (fun h => (List.mem_append.mp h).elim (fun h => inC_2 w h) (fun h => (List.mem_append.mp h).elim (fun h => inC_3 w h) (fun h => (List.mem_append.mp h).elim (fun h => inC_4 w h) (fun h => (List.mem_append.mp h).elim (fun h => inC_5 w h) (fun h => (List.mem_append.mp h).elim (fun h => inC_6 w h) (fun h => (List.mem_append.mp h).elim (fun h => inC_7 w h) (fun h => (List.mem_append.mp h).elim (fun h => inC_8 w h) (fun h => (List.mem_append.mp h).elim (fun h => inC_9 w h) (fun h => (List.mem_append.mp h).elim (fun h => inC_10 w h) (fun h => (List.mem_append.mp h).elim (fun h => inC_11 w h) (fun h => (List.mem_append.mp h).elim (fun h => inC_12 w h) (fun h => (List.mem_append.mp h).elim (fun h => inC_13 w h) (fun h => (List.mem_append.mp h).elim (fun h => inC_14 w h) (fun h => (List.mem_append.mp h).elim (fun h => inC_15 w h) (fun h => (List.mem_append.mp h).elim (fun h => inC_16 w h) (fun h => (List.mem_append.mp h).elim (fun h => inC_17 w h) (fun h => (List.mem_append.mp h).elim (fun h => inC_18 w h) (fun h => (List.mem_append.mp h).elim (fun h => inC_19 w h) (fun h => (List.mem_append.mp h).elim (fun h => inC_20 w h) (fun h => (List.mem_append.mp h).elim (fun h => inC_21 w h) (fun h => (List.mem_append.mp h).elim (fun h => inC_22 w h) (fun h => (List.mem_append.mp h).elim (fun h => inC_23 w h) (fun h => (List.mem_append.mp h).elim (fun h => inC_24 w h) (fun h => inC_25 w h)))))))))))))))))))))))))
theorem inL_Jx4a65c : ∀ w ∈ wsJx4a65c0, w ∈ lw_tbl := by decide +kernel
theorem inL_X1 : ∀ w ∈ wsX10, w ∈ lw_tbl := by decide +kernel
theorem inL_X2 : ∀ w ∈ wsX20, w ∈ lw_tbl := by decide +kernel
theorem inL_X3 : ∀ w ∈ wsX30, w ∈ lw_tbl := by decide +kernel
theorem inL_X4 : ∀ w ∈ wsX40, w ∈ lw_tbl := by decide +kernel
theorem inL_X5 : ∀ w ∈ wsX50, w ∈ lw_tbl := by decide +kernel
theorem inL_X6 : ∀ w ∈ wsX60, w ∈ lw_tbl := by decide +kernel
theorem inL_X7 : ∀ w ∈ wsX70, w ∈ lw_tbl := by decide +kernel
theorem inL_X8 : ∀ w ∈ wsX80, w ∈ lw_tbl := by decide +kernel
theorem inL_X9 : ∀ w ∈ wsX90, w ∈ lw_tbl := by decide +kernel
theorem inL_X10 : ∀ w ∈ wsX100, w ∈ lw_tbl := by decide +kernel
theorem inL_X12 : ∀ w ∈ wsX120, w ∈ lw_tbl := by decide +kernel
theorem inL_X13 : ∀ w ∈ wsX130, w ∈ lw_tbl := by decide +kernel
theorem tbF_in : ∀ w ∈ tbF, w ∈ lw_tbl := fun w h => (List.mem_append.mp h).elim (fun h => inL_Jx4a65c w h) (fun h => (List.mem_append.mp h).elim (fun h => inL_X1 w h) (fun h => (List.mem_append.mp h).elim (fun h => inL_X2 w h) (fun h => (List.mem_append.mp h).elim (fun h => inL_X3 w h) (fun h => (List.mem_append.mp h).elim (fun h => inL_X4 w h) (fun h => (List.mem_append.mp h).elim (fun h => inL_X5 w h) (fun h => (List.mem_append.mp h).elim (fun h => inL_X6 w h) (fun h => (List.mem_append.mp h).elim (fun h => inL_X7 w h) (fun h => (List.mem_append.mp h).elim (fun h => inL_X8 w h) (fun h => (List.mem_append.mp h).elim (fun h => inL_X9 w h) (fun h => (List.mem_append.mp h).elim (fun h => inL_X10 w h) (fun h => (List.mem_append.mp h).elim (fun h => inL_X12 w h) (fun h => inL_X13 w h))))))))))))
theorem tbX_in : ∀ w ∈ tbX, w ∈ lw_tbl := fun w h => (List.mem_append.mp h).elim (fun h => inW_0 w h) (fun h => (List.mem_append.mp h).elim (fun h => inW_1 w h) (fun h => inW_2 w h))
theorem tb_in : ∀ w ∈ tb, w ∈ lw_tbl := fun w h => (List.mem_append.mp h).elim (tbA_in w) (fun h => (List.mem_append.mp h).elim (tbF_in w) (tbX_in w))
theorem gd_c {w : Cond} (h : w ∈ tb) : GoodIn tb (w :: tb) := fun v hv => (List.mem_cons.mp hv).elim (fun e => by rw [e]; exact tb_good _ h) (tb_good v)
theorem gd_V {own C : String} {idx : Nat} {y : MethodName} {w : Cond} (h1 : Cond.methodLink own idx y ∈ tb) (h2 : Cond.instanceMethod y ∈ tb) (h3 : Cond.selects C y y ∈ tb) (h4 : Cond.initialized C ∈ tb) (h5 : w ∈ tb) : GoodIn tb (wsV own idx C y (w :: tb)) := by
  intro v hv
  unfold wsV at hv
  rcases List.mem_append.mp hv with h | h
  · simp only [List.mem_cons, List.not_mem_nil, or_false] at h
    rcases h with rfl | rfl | rfl | rfl
    · exact tb_good _ h1
    · exact tb_good _ h2
    · exact tb_good _ h3
    · exact tb_good _ h4
  · exact gd_c h5 v h
theorem gd_S {own : String} {idx : Nat} {y : MethodName} {w : Cond} (h1 : Cond.methodLink own idx y ∈ tb) (h2 : Cond.static y ∈ tb) (h3 : Cond.initialized y.cls ∈ tb) (h5 : w ∈ tb) : GoodIn tb (va_wsS own idx y (w :: tb)) := by
  intro v hv
  unfold va_wsS at hv
  rcases List.mem_append.mp hv with h | h
  · simp only [List.mem_cons, List.not_mem_nil, or_false] at h
    rcases h with rfl | rfl | rfl
    · exact tb_good _ h1
    · exact tb_good _ h2
    · exact tb_good _ h3
  · exact gd_c h5 v h
def wm_X12_init : List Cond := .code yX12_init cX12_init 2 none :: tb
def wm_X12_declare : List Cond := .code yX12_declare cX12_declare 3 (some .boolean) :: tb
def wm_X12_constructor : List Cond := .code yX12_constructor cX12_constructor 6 (some .boolean) :: tb
def wm_X12_setter : List Cond := .code yX12_setter cX12_setter 4 (some .boolean) :: tb
def wm_X12_factory : List Cond := .code yX12_factory cX12_factory 9 (some .boolean) :: tb
def wm_X12_type : List Cond := .code yX12_type cX12_type 7 (some .int) :: tb
def wm_X12_read : List Cond := .code yX12_read cX12_read 1 (some .int) :: tb
def wm_X12_fault : List Cond := .code yX12_fault cX12_fault 2 (some .int) :: tb
def wm_X12_refresh : List Cond := .code yX12_refresh cX12_refresh 1 (some .int) :: tb
def wm_X12_get : List Cond := .code yX12_get cX12_get 4 (some .int) :: tb
def wm_X12_call : List Cond := .code yX12_call cX12_call 5 (some .int) :: tb
def wm_X12_close : List Cond := .code yX12_close cX12_close 1 (some .int) :: tb
def wm_X12_events : List Cond := .code yX12_events cX12_events 1 (some .int) :: tb
def wm_X12_event : List Cond := .code yX12_event cX12_event 3 (some .int) :: tb
def wm_X12_object : List Cond := .code yX12_object cX12_object 3 (some .int) :: tb
def wm_X12_bean : List Cond := .code yX12_bean cX12_bean 3 (some .int) :: tb
def wm_X12_isClass : List Cond := .code yX12_isClass cX12_isClass 1 (some .boolean) :: tb
def wm_X12_isLetter : List Cond := .code yX12_isLetter cX12_isLetter 1 (some .boolean) :: tb
def wm_X12_isType : List Cond := .code yX12_isType cX12_isType 1 (some .boolean) :: tb
def wm_X12_areTypes : List Cond := .code yX12_areTypes cX12_areTypes 4 (some .boolean) :: tb
def wm_X12_typedBehind : List Cond := .code yX12_typedBehind cX12_typedBehind 6 (some .int) :: tb
def wm_X8_init : List Cond := .code yX8_init cX8_init 3 none :: tb
def wm_X8_describe : List Cond := .code yX8_describe cX8_describe 4 none :: tb
def wm_X8_setTypes : List Cond := .code yX8_setTypes cX8_setTypes 5 none :: tb
def wm_X2_init : List Cond := .code yX2_init cX2_init 3 none :: tb
def wm_X2_begin : List Cond := .code yX2_begin cX2_begin 3 none :: tb
def wm_X2_addConstructor : List Cond := .code yX2_addConstructor cX2_addConstructor 5 (some .boolean) :: tb
def wm_X2_addFactory : List Cond := .code yX2_addFactory cX2_addFactory 8 (some .boolean) :: tb
def wm_X2_addSetter : List Cond := .code yX2_addSetter cX2_addSetter 3 (some .boolean) :: tb
def wm_X3_init : List Cond := .code yX3_init cX3_init 1 none :: tb
def wm_X6_init : List Cond := .code yX6_init cX6_init 3 none :: tb
def wm_X6_clear : List Cond := .code yX6_clear cX6_clear 1 none :: tb
def wm_X7_init : List Cond := .code yX7_init cX7_init 2 none :: tb
def wm_X7_firstWrongPlace : List Cond := .codeWith yX7_firstWrongPlace cX7_firstWrongPlace 4 (some .int) [(32, 75, 78, 50)] :: tb
def wm_X7_skipAround : List Cond := .code yX7_skipAround cX7_skipAround 2 none :: tb
def wm_X7_skipsWhite : List Cond := .code yX7_skipsWhite cX7_skipsWhite 2 (some .boolean) :: tb
def wm_X7_openElement : List Cond := .code yX7_openElement cX7_openElement 5 none :: tb
def wm_X7_expect : List Cond := .code yX7_expect cX7_expect 2 none :: tb
def wm_X9_init : List Cond := .code yX9_init cX9_init 2 none :: tb
def wm_X1_init : List Cond := .code yX1_init cX1_init 2 none :: tb
def wm_X10_init : List Cond := .code yX10_init cX10_init 3 none :: tb
def wm_X10_count : List Cond := .code yX10_count cX10_count 1 (some .int) :: tb
def wm_X10_forgetBeans : List Cond := .code yX10_forgetBeans cX10_forgetBeans 1 none :: tb
def wm_X4_init : List Cond := .code yX4_init cX4_init 1 none :: tb
def wm_X4_clear : List Cond := .code yX4_clear cX4_clear 1 none :: tb
def wm_X4_count : List Cond := .code yX4_count cX4_count 1 (some .int) :: tb
def wm_X4_number : List Cond := .code yX4_number cX4_number 3 (some .int) :: tb
def wm_X5_init : List Cond := .code yX5_init cX5_init 4 none :: tb
def wm_X5_startAfresh : List Cond := .code yX5_startAfresh cX5_startAfresh 1 none :: tb
def wm_X5_forgetMade : List Cond := .code yX5_forgetMade cX5_forgetMade 2 none :: tb
def wm_X5_forgetFailure : List Cond := .code yX5_forgetFailure cX5_forgetFailure 1 none :: tb
def wm_X5_failure : List Cond := .code yX5_failure cX5_failure 1 (some .int) :: tb
def wm_X5_failureBean : List Cond := .code yX5_failureBean cX5_failureBean 1 (some .int) :: tb
def wm_X5_destroyAll : List Cond := .code yX5_destroyAll cX5_destroyAll 2 none :: tb
def wm_X5_classOfObject : List Cond := .code yX5_classOfObject cX5_classOfObject 2 (some .int) :: tb
def wm_X5_beanOfObject : List Cond := .code yX5_beanOfObject cX5_beanOfObject 2 (some .int) :: tb
def wm_X5_isObject : List Cond := .code yX5_isObject cX5_isObject 2 (some .boolean) :: tb
def wm_Jx4a65c_init_da8c8 : List Cond := .code yJx4a65c_init_da8c8 cJx4a65c_init_da8c8 1 none :: tb
def wm_Jxc12de_init_da8c8 : List Cond := .code yJxc12de_init_da8c8 cJxc12de_init_da8c8 1 none :: tb
def wm_Jxa1e45_init_da8c8 : List Cond := .code yJxa1e45_init_da8c8 cJxa1e45_init_da8c8 1 none :: tb
def wm_X13_init : List Cond := .code yX13_init cX13_init 2 none :: tb
def wm_X13_thrown : List Cond := .code yX13_thrown cX13_thrown 1 (some .int) :: tb
def wm_X13_isClass : List Cond := .code yX13_isClass cX13_isClass 1 (some .boolean) :: tb
def wm_X13_isType : List Cond := .code yX13_isType cX13_isType 1 (some .boolean) :: tb
def wm_X13_areTypes : List Cond := .code yX13_areTypes cX13_areTypes 4 (some .boolean) :: tb
def wm_X13_isLetter : List Cond := .code yX13_isLetter cX13_isLetter 1 (some .boolean) :: tb
def wm_X13_declare : List Cond := .code yX13_declare cX13_declare 3 (some .boolean) :: tb
def wm_X13_constructor : List Cond := .code yX13_constructor cX13_constructor 7 (some .boolean) :: tb
def wm_X13_setter : List Cond := .code yX13_setter cX13_setter 5 (some .boolean) :: tb
def wm_X13_factory : List Cond := .code yX13_factory cX13_factory 10 (some .boolean) :: tb
def wm_X13_type : List Cond := .code yX13_type cX13_type 10 (some .int) :: tb
def wm_X13_bad : List Cond := .code yX13_bad cX13_bad 2 none :: tb
def wm_X13_here : List Cond := .code yX13_here cX13_here 2 (some .int) :: tb
def wm_X13_isWhite : List Cond := .code yX13_isWhite cX13_isWhite 2 (some .boolean) :: tb
def wm_X13_white : List Cond := .code yX13_white cX13_white 2 (some .int) :: tb
def wm_X13_between : List Cond := .code yX13_between cX13_between 2 none :: tb
def wm_X13_begin : List Cond := .code yX13_begin cX13_begin 6 (some .int) :: tb
def wm_X13_readDocument : List Cond := .code yX13_readDocument cX13_readDocument 5 none :: tb
def wm_X13_clear : List Cond := .code yX13_clear cX13_clear 2 none :: tb
def wm_X13_read : List Cond := .code yX13_read cX13_read 4 (some .int) :: tb
def wm_X13_fault : List Cond := .code yX13_fault cX13_fault 2 (some .int) :: tb
def wm_X13_refresh : List Cond := .code yX13_refresh cX13_refresh 4 (some .int) :: tb
def wm_X13_get : List Cond := .code yX13_get cX13_get 3 (some .int) :: tb
def wm_X13_call : List Cond := .code yX13_call cX13_call 7 (some .int) :: tb
def wm_X13_close : List Cond := .code yX13_close cX13_close 1 (some .int) :: tb
def wm_X13_events : List Cond := .code yX13_events cX13_events 1 (some .int) :: tb
def wm_X13_event : List Cond := .code yX13_event cX13_event 3 (some .int) :: tb
def wm_X13_object : List Cond := .code yX13_object cX13_object 3 (some .int) :: tb
def wm_X13_bean : List Cond := .code yX13_bean cX13_bean 4 (some .int) :: tb
def wm_L_read : List Cond := .codeWith yL_read cL_read 3 (some .int) [(0, 8, 11, 13)] :: tb
def wm_L_refresh : List Cond := .codeWith yL_refresh cL_refresh 3 (some .int) [(0, 8, 11, 18), (0, 8, 14, 20)] :: tb
def wm_L_get : List Cond := .codeWith yL_get cL_get 5 (some .int) [(0, 9, 12, 18), (0, 9, 16, 20)] :: tb
def wm_L_call : List Cond := .codeWith yL_call cL_call 5 (some .int) [(0, 10, 13, 18), (0, 10, 17, 30), (0, 10, 21, 20)] :: tb
def GE (A : Nat → Prop) (U : State) : Prop := (va_AO "WiredBeans$DeclaredClass" U ∧ va_AO "WiredBeans$Signature" U ∧ va_AO "WiredBeans$Element" U ∧ va_AO "WiredBeans$Bean" U) ∧ (va_Nw (.castable "java/lang/IllegalArgumentException" "java/lang/IllegalArgumentException") U ∧ va_Nw (.castable "java/lang/IllegalStateException" "java/lang/IllegalStateException") U ∧ va_Nw (.declares ⟨"java/lang/RuntimeException", "<init>", "()V"⟩) U ∧ va_Nw (.declares ⟨"java/lang/Exception", "<init>", "()V"⟩) U ∧ va_Nw (.declares ⟨"java/lang/Throwable", "<init>", "()V"⟩) U) ∧ va_Zq "java/util/ArrayList" "DEFAULTCAPACITY_EMPTY_ELEMENTDATA" "[Ljava/lang/Object;" A U U.heap ∧ vx_Zq Bundle.tN "UNASSIGNED_STACK" Bundle.steD A U U.heap ∧ vx_Zq Bundle.tN "SUPPRESSED_SENTINEL" Bundle.listD A U U.heap
theorem GE.go {A B : Nat → Prop} {s U : State} {H : Heap} {locs : List Loc} (h : GE A s) (hS : va_S A s.heap H locs) (hB : ∀ q, B q → A q) (hU : U.heap = H) (hW : s.WarmedH U.vm) : GE B U := by
  obtain ⟨⟨a1, a2, a3, a4⟩, ⟨b1, b2, b3, b4, b5⟩, z1, z2, z3⟩ := h
  refine ⟨⟨va_AO.moved hW.alike a1, va_AO.moved hW.alike a2, va_AO.moved hW.alike a3, va_AO.moved hW.alike a4⟩, ⟨va_Nw.warmC hW b1, va_Nw.warmC hW b2, va_Nw.warmD hW b3, va_Nw.warmD hW b4, va_Nw.warmD hW b5⟩, ?_, ?_, ?_⟩
  · rw [hU]; exact (va_Zq.moved hW.alike (va_Zq.kept z1 hS.2.1)).narrow hB
  · rw [hU]; exact (vx_Zq.moved hW.alike (vx_Zq.kept z2 hS.2.1)).narrow hB
  · rw [hU]; exact (vx_Zq.moved hW.alike (vx_Zq.kept z3 hS.2.1)).narrow hB
theorem GE.call {A : Nat → Prop} {U : State} (g : JFrame) (mk : MethodId) (a : Array Value) (h : GE A U) : GE A (U.calling g mk a) := GE.go (U := U.calling g mk a) h (va_S.rf (H0 := U.heap)) (fun _ h => h) rfl (State.WarmedH.refl U)
end
