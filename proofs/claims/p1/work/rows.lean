section
-- ===== PART A: goes FIRST, ahead of the names: the tables' words, and 'selects' of the private methods out of them =====
/-- a private method of a class that the tables say can be made, by its rows of tables_1 -/
def lw_okq (q : MethodName × Nat) : Prop := (q.1.cls ≠ "java/lang/invoke/MethodHandle" ∧ q.1.cls ≠ "java/lang/invoke/VarHandle") ∧ Cond.instantiable q.1.cls q.2 ∈ tables_1 ∧ Cond.privateMethod q.1 ∈ tables_1 ∧ Cond.instanceMethod q.1 ∈ tables_1
theorem lw_p0 : lw_okq (⟨"WiredBeans", "typedBehind", "(II)I"⟩, 12) := ⟨⟨by decide +kernel, by decide +kernel⟩, List.mem_of_getElem? (i := 36) (by decide +kernel), List.mem_of_getElem? (i := 585) (by decide +kernel), List.mem_of_getElem? (i := 586) (by decide +kernel)⟩
theorem lw_p1 : lw_okq (⟨"WiredBeans$Maker", "forgetMade", "()V"⟩, 13) := ⟨⟨by decide +kernel, by decide +kernel⟩, List.mem_of_getElem? (i := 445) (by decide +kernel), List.mem_of_getElem? (i := 613) (by decide +kernel), List.mem_of_getElem? (i := 614) (by decide +kernel)⟩
theorem lw_p2 : lw_okq (⟨"WiredBeans$Maker", "isObject", "(I)Z"⟩, 13) := ⟨⟨by decide +kernel, by decide +kernel⟩, List.mem_of_getElem? (i := 445) (by decide +kernel), List.mem_of_getElem? (i := 649) (by decide +kernel), List.mem_of_getElem? (i := 650) (by decide +kernel)⟩
theorem lw_p3 : lw_okq (⟨"WiredBeans$Reader", "skipAround", "()V"⟩, 6) := ⟨⟨by decide +kernel, by decide +kernel⟩, List.mem_of_getElem? (i := 268) (by decide +kernel), List.mem_of_getElem? (i := 696) (by decide +kernel), List.mem_of_getElem? (i := 697) (by decide +kernel)⟩
theorem lw_p4 : lw_okq (⟨"WiredBeans$Reader", "skipsWhite", "()Z"⟩, 6) := ⟨⟨by decide +kernel, by decide +kernel⟩, List.mem_of_getElem? (i := 268) (by decide +kernel), List.mem_of_getElem? (i := 700) (by decide +kernel), List.mem_of_getElem? (i := 701) (by decide +kernel)⟩
theorem lw_p5 : lw_okq (⟨"WiredBeans$Reader", "charAt", "(I)C"⟩, 6) := ⟨⟨by decide +kernel, by decide +kernel⟩, List.mem_of_getElem? (i := 268) (by decide +kernel), List.mem_of_getElem? (i := 704) (by decide +kernel), List.mem_of_getElem? (i := 705) (by decide +kernel)⟩
theorem lw_p6 : lw_okq (⟨"WiredBeans$Reader", "skipComment", "()V"⟩, 6) := ⟨⟨by decide +kernel, by decide +kernel⟩, List.mem_of_getElem? (i := 268) (by decide +kernel), List.mem_of_getElem? (i := 708) (by decide +kernel), List.mem_of_getElem? (i := 709) (by decide +kernel)⟩
theorem lw_p7 : lw_okq (⟨"WiredBeans$Reader", "expect", "(C)V"⟩, 6) := ⟨⟨by decide +kernel, by decide +kernel⟩, List.mem_of_getElem? (i := 268) (by decide +kernel), List.mem_of_getElem? (i := 712) (by decide +kernel), List.mem_of_getElem? (i := 713) (by decide +kernel)⟩
theorem lw_p8 : lw_okq (⟨"java/lang/Throwable", "fillInStackTrace", "(I)Ljava/lang/Throwable;"⟩, 6) := ⟨⟨by decide +kernel, by decide +kernel⟩, List.mem_of_getElem? (i := 754) (by decide +kernel), List.mem_of_getElem? (i := 752) (by decide +kernel), List.mem_of_getElem? (i := 753) (by decide +kernel)⟩
theorem lw_p9 : lw_okq (⟨"WiredBeans$Reader", "openElement", "()V"⟩, 6) := ⟨⟨by decide +kernel, by decide +kernel⟩, List.mem_of_getElem? (i := 268) (by decide +kernel), List.mem_of_getElem? (i := 779) (by decide +kernel), List.mem_of_getElem? (i := 780) (by decide +kernel)⟩
theorem lw_p10 : lw_okq (⟨"WiredBeans$Reader", "readName", "()J"⟩, 6) := ⟨⟨by decide +kernel, by decide +kernel⟩, List.mem_of_getElem? (i := 268) (by decide +kernel), List.mem_of_getElem? (i := 790) (by decide +kernel), List.mem_of_getElem? (i := 791) (by decide +kernel)⟩
theorem lw_p11 : lw_okq (⟨"WiredBeans$Element", "forgetWiring", "()V"⟩, 21) := ⟨⟨by decide +kernel, by decide +kernel⟩, List.mem_of_getElem? (i := 123) (by decide +kernel), List.mem_of_getElem? (i := 802) (by decide +kernel), List.mem_of_getElem? (i := 803) (by decide +kernel)⟩
theorem lw_p12 : lw_okq (⟨"WiredBeans$Reader", "readAttribute", "()V"⟩, 6) := ⟨⟨by decide +kernel, by decide +kernel⟩, List.mem_of_getElem? (i := 268) (by decide +kernel), List.mem_of_getElem? (i := 816) (by decide +kernel), List.mem_of_getElem? (i := 817) (by decide +kernel)⟩
theorem lw_p13 : lw_okq (⟨"WiredBeans$Reader", "readCharacter", "()C"⟩, 6) := ⟨⟨by decide +kernel, by decide +kernel⟩, List.mem_of_getElem? (i := 268) (by decide +kernel), List.mem_of_getElem? (i := 828) (by decide +kernel), List.mem_of_getElem? (i := 829) (by decide +kernel)⟩
theorem lw_p14 : lw_okq (⟨"WiredBeans$Reader", "readEntity", "(Ljava/lang/String;C)C"⟩, 6) := ⟨⟨by decide +kernel, by decide +kernel⟩, List.mem_of_getElem? (i := 268) (by decide +kernel), List.mem_of_getElem? (i := 833) (by decide +kernel), List.mem_of_getElem? (i := 834) (by decide +kernel)⟩
theorem lw_p15 : lw_okq (⟨"WiredBeans$Reader", "readNumbered", "()C"⟩, 6) := ⟨⟨by decide +kernel, by decide +kernel⟩, List.mem_of_getElem? (i := 268) (by decide +kernel), List.mem_of_getElem? (i := 889) (by decide +kernel), List.mem_of_getElem? (i := 890) (by decide +kernel)⟩
def lw_privs_1 : List (MethodName × Nat) := [(⟨"WiredBeans", "typedBehind", "(II)I"⟩, 12), (⟨"WiredBeans$Maker", "forgetMade", "()V"⟩, 13), (⟨"WiredBeans$Maker", "isObject", "(I)Z"⟩, 13), (⟨"WiredBeans$Reader", "skipAround", "()V"⟩, 6), (⟨"WiredBeans$Reader", "skipsWhite", "()Z"⟩, 6), (⟨"WiredBeans$Reader", "charAt", "(I)C"⟩, 6), (⟨"WiredBeans$Reader", "skipComment", "()V"⟩, 6), (⟨"WiredBeans$Reader", "expect", "(C)V"⟩, 6), (⟨"java/lang/Throwable", "fillInStackTrace", "(I)Ljava/lang/Throwable;"⟩, 6), (⟨"WiredBeans$Reader", "openElement", "()V"⟩, 6), (⟨"WiredBeans$Reader", "readName", "()J"⟩, 6), (⟨"WiredBeans$Element", "forgetWiring", "()V"⟩, 21), (⟨"WiredBeans$Reader", "readAttribute", "()V"⟩, 6), (⟨"WiredBeans$Reader", "readCharacter", "()C"⟩, 6), (⟨"WiredBeans$Reader", "readEntity", "(Ljava/lang/String;C)C"⟩, 6), (⟨"WiredBeans$Reader", "readNumbered", "()C"⟩, 6)]
theorem lw_r1 : ∀ q ∈ lw_privs_1, lw_okq q := List.forall_mem_cons.mpr ⟨lw_p0, List.forall_mem_cons.mpr ⟨lw_p1, List.forall_mem_cons.mpr ⟨lw_p2, List.forall_mem_cons.mpr ⟨lw_p3, List.forall_mem_cons.mpr ⟨lw_p4, List.forall_mem_cons.mpr ⟨lw_p5, List.forall_mem_cons.mpr ⟨lw_p6, List.forall_mem_cons.mpr ⟨lw_p7, List.forall_mem_cons.mpr ⟨lw_p8, List.forall_mem_cons.mpr ⟨lw_p9, List.forall_mem_cons.mpr ⟨lw_p10, List.forall_mem_cons.mpr ⟨lw_p11, List.forall_mem_cons.mpr ⟨lw_p12, List.forall_mem_cons.mpr ⟨lw_p13, List.forall_mem_cons.mpr ⟨lw_p14, List.forall_mem_cons.mpr ⟨lw_p15, fun _ h => absurd h List.not_mem_nil⟩⟩⟩⟩⟩⟩⟩⟩⟩⟩⟩⟩⟩⟩⟩⟩
theorem lw_p16 : lw_okq (⟨"WiredBeans$Reader", "leaveElement", "()V"⟩, 6) := ⟨⟨by decide +kernel, by decide +kernel⟩, List.mem_of_getElem? (i := 268) (by decide +kernel), List.mem_of_getElem? (i := 897) (by decide +kernel), List.mem_of_getElem? (i := 898) (by decide +kernel)⟩
theorem lw_p17 : lw_okq (⟨"WiredBeans$Reader", "readContent", "()V"⟩, 6) := ⟨⟨by decide +kernel, by decide +kernel⟩, List.mem_of_getElem? (i := 268) (by decide +kernel), List.mem_of_getElem? (i := 901) (by decide +kernel), List.mem_of_getElem? (i := 902) (by decide +kernel)⟩
theorem lw_p18 : lw_okq (⟨"WiredBeans$Element", "takeWhite", "(C)V"⟩, 21) := ⟨⟨by decide +kernel, by decide +kernel⟩, List.mem_of_getElem? (i := 123) (by decide +kernel), List.mem_of_getElem? (i := 909) (by decide +kernel), List.mem_of_getElem? (i := 910) (by decide +kernel)⟩
theorem lw_p19 : lw_okq (⟨"WiredBeans$Reader", "closeElement", "()V"⟩, 6) := ⟨⟨by decide +kernel, by decide +kernel⟩, List.mem_of_getElem? (i := 268) (by decide +kernel), List.mem_of_getElem? (i := 913) (by decide +kernel), List.mem_of_getElem? (i := 914) (by decide +kernel)⟩
theorem lw_p20 : lw_okq (⟨"WiredBeans$Reader", "refuseMore", "()V"⟩, 6) := ⟨⟨by decide +kernel, by decide +kernel⟩, List.mem_of_getElem? (i := 268) (by decide +kernel), List.mem_of_getElem? (i := 917) (by decide +kernel), List.mem_of_getElem? (i := 918) (by decide +kernel)⟩
theorem lw_p21 : lw_okq (⟨"WiredBeans$Structure", "isRight", "(LWiredBeans$Element;)Z"⟩, 1) := ⟨⟨by decide +kernel, by decide +kernel⟩, List.mem_of_getElem? (i := 293) (by decide +kernel), List.mem_of_getElem? (i := 933) (by decide +kernel), List.mem_of_getElem? (i := 934) (by decide +kernel)⟩
theorem lw_p22 : lw_okq (⟨"WiredBeans$Structure", "standsRight", "(LWiredBeans$Element;)Z"⟩, 1) := ⟨⟨by decide +kernel, by decide +kernel⟩, List.mem_of_getElem? (i := 293) (by decide +kernel), List.mem_of_getElem? (i := 937) (by decide +kernel), List.mem_of_getElem? (i := 938) (by decide +kernel)⟩
theorem lw_p23 : lw_okq (⟨"WiredBeans$Structure", "isHeld", "(LWiredBeans$Element;)Z"⟩, 1) := ⟨⟨by decide +kernel, by decide +kernel⟩, List.mem_of_getElem? (i := 293) (by decide +kernel), List.mem_of_getElem? (i := 955) (by decide +kernel), List.mem_of_getElem? (i := 956) (by decide +kernel)⟩
theorem lw_p24 : lw_okq (⟨"WiredBeans$Structure", "likeBefore", "(LWiredBeans$Element;)I"⟩, 1) := ⟨⟨by decide +kernel, by decide +kernel⟩, List.mem_of_getElem? (i := 293) (by decide +kernel), List.mem_of_getElem? (i := 967) (by decide +kernel), List.mem_of_getElem? (i := 968) (by decide +kernel)⟩
theorem lw_p25 : lw_okq (⟨"WiredBeans$Structure", "isFirstOfName", "(LWiredBeans$Element;)Z"⟩, 1) := ⟨⟨by decide +kernel, by decide +kernel⟩, List.mem_of_getElem? (i := 293) (by decide +kernel), List.mem_of_getElem? (i := 971) (by decide +kernel), List.mem_of_getElem? (i := 972) (by decide +kernel)⟩
theorem lw_p26 : lw_okq (⟨"WiredBeans$Paper", "find", "(LWiredBeans$Element;LWiredBeans$Word;)I"⟩, 8) := ⟨⟨by decide +kernel, by decide +kernel⟩, List.mem_of_getElem? (i := 116) (by decide +kernel), List.mem_of_getElem? (i := 981) (by decide +kernel), List.mem_of_getElem? (i := 982) (by decide +kernel)⟩
theorem lw_p27 : lw_okq (⟨"WiredBeans$Paper", "valueLength", "(I)I"⟩, 8) := ⟨⟨by decide +kernel, by decide +kernel⟩, List.mem_of_getElem? (i := 116) (by decide +kernel), List.mem_of_getElem? (i := 985) (by decide +kernel), List.mem_of_getElem? (i := 986) (by decide +kernel)⟩
theorem lw_p28 : lw_okq (⟨"WiredBeans$Paper", "valueChar", "(II)C"⟩, 8) := ⟨⟨by decide +kernel, by decide +kernel⟩, List.mem_of_getElem? (i := 116) (by decide +kernel), List.mem_of_getElem? (i := 989) (by decide +kernel), List.mem_of_getElem? (i := 990) (by decide +kernel)⟩
theorem lw_p29 : lw_okq (⟨"WiredBeans$Structure", "hasRightAttributes", "(LWiredBeans$Element;)Z"⟩, 1) := ⟨⟨by decide +kernel, by decide +kernel⟩, List.mem_of_getElem? (i := 293) (by decide +kernel), List.mem_of_getElem? (i := 993) (by decide +kernel), List.mem_of_getElem? (i := 994) (by decide +kernel)⟩
theorem lw_p30 : lw_okq (⟨"WiredBeans$Structure", "mayHave", "(LWiredBeans$Element;LWiredBeans$Word;)Z"⟩, 1) := ⟨⟨by decide +kernel, by decide +kernel⟩, List.mem_of_getElem? (i := 293) (by decide +kernel), List.mem_of_getElem? (i := 1002) (by decide +kernel), List.mem_of_getElem? (i := 1003) (by decide +kernel)⟩
theorem lw_p31 : lw_okq (⟨"WiredBeans$Structure", "beanMayHave", "(LWiredBeans$Word;Z)Z"⟩, 1) := ⟨⟨by decide +kernel, by decide +kernel⟩, List.mem_of_getElem? (i := 293) (by decide +kernel), List.mem_of_getElem? (i := 1008) (by decide +kernel), List.mem_of_getElem? (i := 1009) (by decide +kernel)⟩
def lw_privs_2 : List (MethodName × Nat) := [(⟨"WiredBeans$Reader", "leaveElement", "()V"⟩, 6), (⟨"WiredBeans$Reader", "readContent", "()V"⟩, 6), (⟨"WiredBeans$Element", "takeWhite", "(C)V"⟩, 21), (⟨"WiredBeans$Reader", "closeElement", "()V"⟩, 6), (⟨"WiredBeans$Reader", "refuseMore", "()V"⟩, 6), (⟨"WiredBeans$Structure", "isRight", "(LWiredBeans$Element;)Z"⟩, 1), (⟨"WiredBeans$Structure", "standsRight", "(LWiredBeans$Element;)Z"⟩, 1), (⟨"WiredBeans$Structure", "isHeld", "(LWiredBeans$Element;)Z"⟩, 1), (⟨"WiredBeans$Structure", "likeBefore", "(LWiredBeans$Element;)I"⟩, 1), (⟨"WiredBeans$Structure", "isFirstOfName", "(LWiredBeans$Element;)Z"⟩, 1), (⟨"WiredBeans$Paper", "find", "(LWiredBeans$Element;LWiredBeans$Word;)I"⟩, 8), (⟨"WiredBeans$Paper", "valueLength", "(I)I"⟩, 8), (⟨"WiredBeans$Paper", "valueChar", "(II)C"⟩, 8), (⟨"WiredBeans$Structure", "hasRightAttributes", "(LWiredBeans$Element;)Z"⟩, 1), (⟨"WiredBeans$Structure", "mayHave", "(LWiredBeans$Element;LWiredBeans$Word;)Z"⟩, 1), (⟨"WiredBeans$Structure", "beanMayHave", "(LWiredBeans$Word;Z)Z"⟩, 1)]
theorem lw_r2 : ∀ q ∈ lw_privs_2, lw_okq q := List.forall_mem_cons.mpr ⟨lw_p16, List.forall_mem_cons.mpr ⟨lw_p17, List.forall_mem_cons.mpr ⟨lw_p18, List.forall_mem_cons.mpr ⟨lw_p19, List.forall_mem_cons.mpr ⟨lw_p20, List.forall_mem_cons.mpr ⟨lw_p21, List.forall_mem_cons.mpr ⟨lw_p22, List.forall_mem_cons.mpr ⟨lw_p23, List.forall_mem_cons.mpr ⟨lw_p24, List.forall_mem_cons.mpr ⟨lw_p25, List.forall_mem_cons.mpr ⟨lw_p26, List.forall_mem_cons.mpr ⟨lw_p27, List.forall_mem_cons.mpr ⟨lw_p28, List.forall_mem_cons.mpr ⟨lw_p29, List.forall_mem_cons.mpr ⟨lw_p30, List.forall_mem_cons.mpr ⟨lw_p31, fun _ h => absurd h List.not_mem_nil⟩⟩⟩⟩⟩⟩⟩⟩⟩⟩⟩⟩⟩⟩⟩⟩
theorem lw_p32 : lw_okq (⟨"WiredBeans$Structure", "hasRightValue", "(LWiredBeans$Element;LWiredBeans$Word;)Z"⟩, 1) := ⟨⟨by decide +kernel, by decide +kernel⟩, List.mem_of_getElem? (i := 293) (by decide +kernel), List.mem_of_getElem? (i := 1020) (by decide +kernel), List.mem_of_getElem? (i := 1021) (by decide +kernel)⟩
theorem lw_p33 : lw_okq (⟨"WiredBeans$Structure", "hasWhatItNeeds", "(LWiredBeans$Element;)Z"⟩, 1) := ⟨⟨by decide +kernel, by decide +kernel⟩, List.mem_of_getElem? (i := 293) (by decide +kernel), List.mem_of_getElem? (i := 1058) (by decide +kernel), List.mem_of_getElem? (i := 1059) (by decide +kernel)⟩
theorem lw_p34 : lw_okq (⟨"WiredBeans$Structure", "beanHasWhatItNeeds", "(LWiredBeans$Element;)Z"⟩, 1) := ⟨⟨by decide +kernel, by decide +kernel⟩, List.mem_of_getElem? (i := 293) (by decide +kernel), List.mem_of_getElem? (i := 1067) (by decide +kernel), List.mem_of_getElem? (i := 1068) (by decide +kernel)⟩
theorem lw_p35 : lw_okq (⟨"WiredBeans$Structure", "hasRightCount", "(LWiredBeans$Element;)Z"⟩, 1) := ⟨⟨by decide +kernel, by decide +kernel⟩, List.mem_of_getElem? (i := 293) (by decide +kernel), List.mem_of_getElem? (i := 1083) (by decide +kernel), List.mem_of_getElem? (i := 1084) (by decide +kernel)⟩
theorem lw_p36 : lw_okq (⟨"WiredBeans$Wiring", "settle", "(LWiredBeans$Element;)V"⟩, 4) := ⟨⟨by decide +kernel, by decide +kernel⟩, List.mem_of_getElem? (i := 303) (by decide +kernel), List.mem_of_getElem? (i := 1093) (by decide +kernel), List.mem_of_getElem? (i := 1094) (by decide +kernel)⟩
theorem lw_p37 : lw_okq (⟨"WiredBeans$Wiring", "settleContent", "(LWiredBeans$Element;)V"⟩, 4) := ⟨⟨by decide +kernel, by decide +kernel⟩, List.mem_of_getElem? (i := 303) (by decide +kernel), List.mem_of_getElem? (i := 1128) (by decide +kernel), List.mem_of_getElem? (i := 1129) (by decide +kernel)⟩
theorem lw_p38 : lw_okq (⟨"WiredBeans$Element", "textAsNumber", "()J"⟩, 21) := ⟨⟨by decide +kernel, by decide +kernel⟩, List.mem_of_getElem? (i := 123) (by decide +kernel), List.mem_of_getElem? (i := 1142) (by decide +kernel), List.mem_of_getElem? (i := 1143) (by decide +kernel)⟩
theorem lw_p39 : lw_okq (⟨"WiredBeans$Element", "textIs", "(Ljava/lang/String;)Z"⟩, 21) := ⟨⟨by decide +kernel, by decide +kernel⟩, List.mem_of_getElem? (i := 123) (by decide +kernel), List.mem_of_getElem? (i := 1148) (by decide +kernel), List.mem_of_getElem? (i := 1149) (by decide +kernel)⟩
theorem lw_p40 : lw_okq (⟨"WiredBeans$Wiring", "isRight", "(I)Z"⟩, 4) := ⟨⟨by decide +kernel, by decide +kernel⟩, List.mem_of_getElem? (i := 303) (by decide +kernel), List.mem_of_getElem? (i := 1158) (by decide +kernel), List.mem_of_getElem? (i := 1159) (by decide +kernel)⟩
theorem lw_p41 : lw_okq (⟨"WiredBeans$Wiring", "hasRightParent", "(LWiredBeans$Bean;)Z"⟩, 4) := ⟨⟨by decide +kernel, by decide +kernel⟩, List.mem_of_getElem? (i := 303) (by decide +kernel), List.mem_of_getElem? (i := 1162) (by decide +kernel), List.mem_of_getElem? (i := 1163) (by decide +kernel)⟩
theorem lw_p42 : lw_okq (⟨"WiredBeans$Wiring", "withId", "(J)LWiredBeans$Bean;"⟩, 4) := ⟨⟨by decide +kernel, by decide +kernel⟩, List.mem_of_getElem? (i := 303) (by decide +kernel), List.mem_of_getElem? (i := 1166) (by decide +kernel), List.mem_of_getElem? (i := 1167) (by decide +kernel)⟩
theorem lw_p43 : lw_okq (⟨"WiredBeans$Wiring", "comesToItself", "(LWiredBeans$Bean;)Z"⟩, 4) := ⟨⟨by decide +kernel, by decide +kernel⟩, List.mem_of_getElem? (i := 303) (by decide +kernel), List.mem_of_getElem? (i := 1170) (by decide +kernel), List.mem_of_getElem? (i := 1171) (by decide +kernel)⟩
theorem lw_p44 : lw_okq (⟨"WiredBeans$Wiring", "merge", "(LWiredBeans$Bean;)V"⟩, 4) := ⟨⟨by decide +kernel, by decide +kernel⟩, List.mem_of_getElem? (i := 303) (by decide +kernel), List.mem_of_getElem? (i := 1174) (by decide +kernel), List.mem_of_getElem? (i := 1175) (by decide +kernel)⟩
theorem lw_p45 : lw_okq (⟨"WiredBeans$Bean", "overlayInner", "(LWiredBeans$Element;)V"⟩, 19) := ⟨⟨by decide +kernel, by decide +kernel⟩, List.mem_of_getElem? (i := 310) (by decide +kernel), List.mem_of_getElem? (i := 1192) (by decide +kernel), List.mem_of_getElem? (i := 1193) (by decide +kernel)⟩
theorem lw_p46 : lw_okq (⟨"java/util/ArrayList", "add", "(Ljava/lang/Object;[Ljava/lang/Object;I)V"⟩, 3) := ⟨⟨by decide +kernel, by decide +kernel⟩, List.mem_of_getElem? (i := 316) (by decide +kernel), List.mem_of_getElem? (i := 1201) (by decide +kernel), List.mem_of_getElem? (i := 1202) (by decide +kernel)⟩
theorem lw_p47 : lw_okq (⟨"java/util/ArrayList", "grow", "()[Ljava/lang/Object;"⟩, 3) := ⟨⟨by decide +kernel, by decide +kernel⟩, List.mem_of_getElem? (i := 316) (by decide +kernel), List.mem_of_getElem? (i := 1205) (by decide +kernel), List.mem_of_getElem? (i := 1206) (by decide +kernel)⟩
def lw_privs_3 : List (MethodName × Nat) := [(⟨"WiredBeans$Structure", "hasRightValue", "(LWiredBeans$Element;LWiredBeans$Word;)Z"⟩, 1), (⟨"WiredBeans$Structure", "hasWhatItNeeds", "(LWiredBeans$Element;)Z"⟩, 1), (⟨"WiredBeans$Structure", "beanHasWhatItNeeds", "(LWiredBeans$Element;)Z"⟩, 1), (⟨"WiredBeans$Structure", "hasRightCount", "(LWiredBeans$Element;)Z"⟩, 1), (⟨"WiredBeans$Wiring", "settle", "(LWiredBeans$Element;)V"⟩, 4), (⟨"WiredBeans$Wiring", "settleContent", "(LWiredBeans$Element;)V"⟩, 4), (⟨"WiredBeans$Element", "textAsNumber", "()J"⟩, 21), (⟨"WiredBeans$Element", "textIs", "(Ljava/lang/String;)Z"⟩, 21), (⟨"WiredBeans$Wiring", "isRight", "(I)Z"⟩, 4), (⟨"WiredBeans$Wiring", "hasRightParent", "(LWiredBeans$Bean;)Z"⟩, 4), (⟨"WiredBeans$Wiring", "withId", "(J)LWiredBeans$Bean;"⟩, 4), (⟨"WiredBeans$Wiring", "comesToItself", "(LWiredBeans$Bean;)Z"⟩, 4), (⟨"WiredBeans$Wiring", "merge", "(LWiredBeans$Bean;)V"⟩, 4), (⟨"WiredBeans$Bean", "overlayInner", "(LWiredBeans$Element;)V"⟩, 19), (⟨"java/util/ArrayList", "add", "(Ljava/lang/Object;[Ljava/lang/Object;I)V"⟩, 3), (⟨"java/util/ArrayList", "grow", "()[Ljava/lang/Object;"⟩, 3)]
theorem lw_r3 : ∀ q ∈ lw_privs_3, lw_okq q := List.forall_mem_cons.mpr ⟨lw_p32, List.forall_mem_cons.mpr ⟨lw_p33, List.forall_mem_cons.mpr ⟨lw_p34, List.forall_mem_cons.mpr ⟨lw_p35, List.forall_mem_cons.mpr ⟨lw_p36, List.forall_mem_cons.mpr ⟨lw_p37, List.forall_mem_cons.mpr ⟨lw_p38, List.forall_mem_cons.mpr ⟨lw_p39, List.forall_mem_cons.mpr ⟨lw_p40, List.forall_mem_cons.mpr ⟨lw_p41, List.forall_mem_cons.mpr ⟨lw_p42, List.forall_mem_cons.mpr ⟨lw_p43, List.forall_mem_cons.mpr ⟨lw_p44, List.forall_mem_cons.mpr ⟨lw_p45, List.forall_mem_cons.mpr ⟨lw_p46, List.forall_mem_cons.mpr ⟨lw_p47, fun _ h => absurd h List.not_mem_nil⟩⟩⟩⟩⟩⟩⟩⟩⟩⟩⟩⟩⟩⟩⟩⟩
theorem lw_p48 : lw_okq (⟨"java/util/ArrayList", "grow", "(I)[Ljava/lang/Object;"⟩, 3) := ⟨⟨by decide +kernel, by decide +kernel⟩, List.mem_of_getElem? (i := 316) (by decide +kernel), List.mem_of_getElem? (i := 1209) (by decide +kernel), List.mem_of_getElem? (i := 1210) (by decide +kernel)⟩
theorem lw_p49 : lw_okq (⟨"WiredBeans$Maker", "obtain", "(JI)I"⟩, 13) := ⟨⟨by decide +kernel, by decide +kernel⟩, List.mem_of_getElem? (i := 445) (by decide +kernel), List.mem_of_getElem? (i := 1323) (by decide +kernel), List.mem_of_getElem? (i := 1324) (by decide +kernel)⟩
theorem lw_p50 : lw_okq (⟨"WiredBeans$Wiring", "nameBehindAlias", "(J)J"⟩, 4) := ⟨⟨by decide +kernel, by decide +kernel⟩, List.mem_of_getElem? (i := 303) (by decide +kernel), List.mem_of_getElem? (i := 1331) (by decide +kernel), List.mem_of_getElem? (i := 1332) (by decide +kernel)⟩
theorem lw_p51 : lw_okq (⟨"WiredBeans$Maker", "failWith", "(I)I"⟩, 13) := ⟨⟨by decide +kernel, by decide +kernel⟩, List.mem_of_getElem? (i := 445) (by decide +kernel), List.mem_of_getElem? (i := 1336) (by decide +kernel), List.mem_of_getElem? (i := 1337) (by decide +kernel)⟩
theorem lw_p52 : lw_okq (⟨"WiredBeans$Maker", "make", "(LWiredBeans$Bean;I)I"⟩, 13) := ⟨⟨by decide +kernel, by decide +kernel⟩, List.mem_of_getElem? (i := 445) (by decide +kernel), List.mem_of_getElem? (i := 1354) (by decide +kernel), List.mem_of_getElem? (i := 1355) (by decide +kernel)⟩
theorem lw_p53 : lw_okq (⟨"WiredBeans$Maker", "workOutArgs", "(LWiredBeans$Bean;I)V"⟩, 13) := ⟨⟨by decide +kernel, by decide +kernel⟩, List.mem_of_getElem? (i := 445) (by decide +kernel), List.mem_of_getElem? (i := 1358) (by decide +kernel), List.mem_of_getElem? (i := 1359) (by decide +kernel)⟩
theorem lw_p54 : lw_okq (⟨"WiredBeans$Maker", "workOut", "(LWiredBeans$Element;II)V"⟩, 13) := ⟨⟨by decide +kernel, by decide +kernel⟩, List.mem_of_getElem? (i := 445) (by decide +kernel), List.mem_of_getElem? (i := 1368) (by decide +kernel), List.mem_of_getElem? (i := 1369) (by decide +kernel)⟩
theorem lw_p55 : lw_okq (⟨"WiredBeans$Maker", "itemValue", "(LWiredBeans$Element;I)I"⟩, 13) := ⟨⟨by decide +kernel, by decide +kernel⟩, List.mem_of_getElem? (i := 445) (by decide +kernel), List.mem_of_getElem? (i := 1373) (by decide +kernel), List.mem_of_getElem? (i := 1374) (by decide +kernel)⟩
theorem lw_p56 : lw_okq (⟨"WiredBeans$Maker", "objectOf", "(LWiredBeans$Element;I)I"⟩, 13) := ⟨⟨by decide +kernel, by decide +kernel⟩, List.mem_of_getElem? (i := 445) (by decide +kernel), List.mem_of_getElem? (i := 1380) (by decide +kernel), List.mem_of_getElem? (i := 1381) (by decide +kernel)⟩
theorem lw_p57 : lw_okq (⟨"WiredBeans$Maker", "chooseFor", "(LWiredBeans$Bean;II)LWiredBeans$Signature;"⟩, 13) := ⟨⟨by decide +kernel, by decide +kernel⟩, List.mem_of_getElem? (i := 445) (by decide +kernel), List.mem_of_getElem? (i := 1386) (by decide +kernel), List.mem_of_getElem? (i := 1387) (by decide +kernel)⟩
theorem lw_p58 : lw_okq (⟨"WiredBeans$DeclaredClass", "ownsFactory", "(IZ)Z"⟩, 8) := ⟨⟨by decide +kernel, by decide +kernel⟩, List.mem_of_getElem? (i := 45) (by decide +kernel), List.mem_of_getElem? (i := 1394) (by decide +kernel), List.mem_of_getElem? (i := 1395) (by decide +kernel)⟩
theorem lw_p59 : lw_okq (⟨"WiredBeans$Maker", "placesArgs", "(LWiredBeans$Bean;)Z"⟩, 13) := ⟨⟨by decide +kernel, by decide +kernel⟩, List.mem_of_getElem? (i := 445) (by decide +kernel), List.mem_of_getElem? (i := 1402) (by decide +kernel), List.mem_of_getElem? (i := 1403) (by decide +kernel)⟩
theorem lw_p60 : lw_okq (⟨"WiredBeans$Maker", "placeOthers", "(LWiredBeans$Bean;I)V"⟩, 13) := ⟨⟨by decide +kernel, by decide +kernel⟩, List.mem_of_getElem? (i := 445) (by decide +kernel), List.mem_of_getElem? (i := 1406) (by decide +kernel), List.mem_of_getElem? (i := 1407) (by decide +kernel)⟩
theorem lw_p61 : lw_okq (⟨"WiredBeans$Maker", "sumFor", "(LWiredBeans$Bean;LWiredBeans$Signature;I)I"⟩, 13) := ⟨⟨by decide +kernel, by decide +kernel⟩, List.mem_of_getElem? (i := 445) (by decide +kernel), List.mem_of_getElem? (i := 1411) (by decide +kernel), List.mem_of_getElem? (i := 1412) (by decide +kernel)⟩
theorem lw_p62 : lw_okq (⟨"WiredBeans$Maker", "weightOf", "(LWiredBeans$Element;II)I"⟩, 13) := ⟨⟨by decide +kernel, by decide +kernel⟩, List.mem_of_getElem? (i := 445) (by decide +kernel), List.mem_of_getElem? (i := 1415) (by decide +kernel), List.mem_of_getElem? (i := 1416) (by decide +kernel)⟩
theorem lw_p63 : lw_okq (⟨"WiredBeans$Maker", "objectWeight", "(II)I"⟩, 13) := ⟨⟨by decide +kernel, by decide +kernel⟩, List.mem_of_getElem? (i := 445) (by decide +kernel), List.mem_of_getElem? (i := 1425) (by decide +kernel), List.mem_of_getElem? (i := 1426) (by decide +kernel)⟩
def lw_privs_4 : List (MethodName × Nat) := [(⟨"java/util/ArrayList", "grow", "(I)[Ljava/lang/Object;"⟩, 3), (⟨"WiredBeans$Maker", "obtain", "(JI)I"⟩, 13), (⟨"WiredBeans$Wiring", "nameBehindAlias", "(J)J"⟩, 4), (⟨"WiredBeans$Maker", "failWith", "(I)I"⟩, 13), (⟨"WiredBeans$Maker", "make", "(LWiredBeans$Bean;I)I"⟩, 13), (⟨"WiredBeans$Maker", "workOutArgs", "(LWiredBeans$Bean;I)V"⟩, 13), (⟨"WiredBeans$Maker", "workOut", "(LWiredBeans$Element;II)V"⟩, 13), (⟨"WiredBeans$Maker", "itemValue", "(LWiredBeans$Element;I)I"⟩, 13), (⟨"WiredBeans$Maker", "objectOf", "(LWiredBeans$Element;I)I"⟩, 13), (⟨"WiredBeans$Maker", "chooseFor", "(LWiredBeans$Bean;II)LWiredBeans$Signature;"⟩, 13), (⟨"WiredBeans$DeclaredClass", "ownsFactory", "(IZ)Z"⟩, 8), (⟨"WiredBeans$Maker", "placesArgs", "(LWiredBeans$Bean;)Z"⟩, 13), (⟨"WiredBeans$Maker", "placeOthers", "(LWiredBeans$Bean;I)V"⟩, 13), (⟨"WiredBeans$Maker", "sumFor", "(LWiredBeans$Bean;LWiredBeans$Signature;I)I"⟩, 13), (⟨"WiredBeans$Maker", "weightOf", "(LWiredBeans$Element;II)I"⟩, 13), (⟨"WiredBeans$Maker", "objectWeight", "(II)I"⟩, 13)]
theorem lw_r4 : ∀ q ∈ lw_privs_4, lw_okq q := List.forall_mem_cons.mpr ⟨lw_p48, List.forall_mem_cons.mpr ⟨lw_p49, List.forall_mem_cons.mpr ⟨lw_p50, List.forall_mem_cons.mpr ⟨lw_p51, List.forall_mem_cons.mpr ⟨lw_p52, List.forall_mem_cons.mpr ⟨lw_p53, List.forall_mem_cons.mpr ⟨lw_p54, List.forall_mem_cons.mpr ⟨lw_p55, List.forall_mem_cons.mpr ⟨lw_p56, List.forall_mem_cons.mpr ⟨lw_p57, List.forall_mem_cons.mpr ⟨lw_p58, List.forall_mem_cons.mpr ⟨lw_p59, List.forall_mem_cons.mpr ⟨lw_p60, List.forall_mem_cons.mpr ⟨lw_p61, List.forall_mem_cons.mpr ⟨lw_p62, List.forall_mem_cons.mpr ⟨lw_p63, fun _ h => absurd h List.not_mem_nil⟩⟩⟩⟩⟩⟩⟩⟩⟩⟩⟩⟩⟩⟩⟩⟩
theorem lw_p64 : lw_okq (⟨"WiredBeans$Maker", "bringToBe", "(LWiredBeans$Bean;LWiredBeans$Signature;I)V"⟩, 13) := ⟨⟨by decide +kernel, by decide +kernel⟩, List.mem_of_getElem? (i := 445) (by decide +kernel), List.mem_of_getElem? (i := 1433) (by decide +kernel), List.mem_of_getElem? (i := 1434) (by decide +kernel)⟩
theorem lw_p65 : lw_okq (⟨"WiredBeans$Maker", "tellValue", "(IIILWiredBeans$Element;II)V"⟩, 13) := ⟨⟨by decide +kernel, by decide +kernel⟩, List.mem_of_getElem? (i := 445) (by decide +kernel), List.mem_of_getElem? (i := 1437) (by decide +kernel), List.mem_of_getElem? (i := 1438) (by decide +kernel)⟩
theorem lw_p66 : lw_okq (⟨"WiredBeans$Maker", "valueOf", "(LWiredBeans$Element;II)I"⟩, 13) := ⟨⟨by decide +kernel, by decide +kernel⟩, List.mem_of_getElem? (i := 445) (by decide +kernel), List.mem_of_getElem? (i := 1441) (by decide +kernel), List.mem_of_getElem? (i := 1442) (by decide +kernel)⟩
theorem lw_p67 : lw_okq (⟨"WiredBeans$Maker", "applySets", "(LWiredBeans$Bean;I)V"⟩, 13) := ⟨⟨by decide +kernel, by decide +kernel⟩, List.mem_of_getElem? (i := 445) (by decide +kernel), List.mem_of_getElem? (i := 1448) (by decide +kernel), List.mem_of_getElem? (i := 1449) (by decide +kernel)⟩
theorem lw_p68 : lw_okq (⟨"WiredBeans$Maker", "finish", "(LWiredBeans$Bean;)V"⟩, 13) := ⟨⟨by decide +kernel, by decide +kernel⟩, List.mem_of_getElem? (i := 445) (by decide +kernel), List.mem_of_getElem? (i := 1456) (by decide +kernel), List.mem_of_getElem? (i := 1457) (by decide +kernel)⟩
theorem lw_p69 : lw_okq (⟨"WiredBeans$Maker", "stopMaking", "()V"⟩, 13) := ⟨⟨by decide +kernel, by decide +kernel⟩, List.mem_of_getElem? (i := 445) (by decide +kernel), List.mem_of_getElem? (i := 1460) (by decide +kernel), List.mem_of_getElem? (i := 1461) (by decide +kernel)⟩
theorem lw_p70 : lw_okq (⟨"WiredBeansModel", "clear", "()V"⟩, 77) := ⟨⟨by decide +kernel, by decide +kernel⟩, List.mem_of_getElem? (i := 1517) (by decide +kernel), List.mem_of_getElem? (i := 1822) (by decide +kernel), List.mem_of_getElem? (i := 1823) (by decide +kernel)⟩
theorem lw_p71 : lw_okq (⟨"WiredBeansModel", "readDocument", "()V"⟩, 77) := ⟨⟨by decide +kernel, by decide +kernel⟩, List.mem_of_getElem? (i := 1517) (by decide +kernel), List.mem_of_getElem? (i := 1826) (by decide +kernel), List.mem_of_getElem? (i := 1827) (by decide +kernel)⟩
theorem lw_p72 : lw_okq (⟨"WiredBeansModel", "between", "()V"⟩, 77) := ⟨⟨by decide +kernel, by decide +kernel⟩, List.mem_of_getElem? (i := 1517) (by decide +kernel), List.mem_of_getElem? (i := 1830) (by decide +kernel), List.mem_of_getElem? (i := 1831) (by decide +kernel)⟩
theorem lw_p73 : lw_okq (⟨"WiredBeansModel", "white", "()I"⟩, 77) := ⟨⟨by decide +kernel, by decide +kernel⟩, List.mem_of_getElem? (i := 1517) (by decide +kernel), List.mem_of_getElem? (i := 1834) (by decide +kernel), List.mem_of_getElem? (i := 1835) (by decide +kernel)⟩
theorem lw_p74 : lw_okq (⟨"WiredBeansModel", "here", "(I)I"⟩, 77) := ⟨⟨by decide +kernel, by decide +kernel⟩, List.mem_of_getElem? (i := 1517) (by decide +kernel), List.mem_of_getElem? (i := 1838) (by decide +kernel), List.mem_of_getElem? (i := 1839) (by decide +kernel)⟩
theorem lw_p75 : lw_okq (⟨"WiredBeansModel", "isWhite", "(I)Z"⟩, 77) := ⟨⟨by decide +kernel, by decide +kernel⟩, List.mem_of_getElem? (i := 1517) (by decide +kernel), List.mem_of_getElem? (i := 1842) (by decide +kernel), List.mem_of_getElem? (i := 1843) (by decide +kernel)⟩
theorem lw_p76 : lw_okq (⟨"WiredBeansModel", "comment", "()V"⟩, 77) := ⟨⟨by decide +kernel, by decide +kernel⟩, List.mem_of_getElem? (i := 1517) (by decide +kernel), List.mem_of_getElem? (i := 1846) (by decide +kernel), List.mem_of_getElem? (i := 1847) (by decide +kernel)⟩
theorem lw_p77 : lw_okq (⟨"WiredBeansModel", "must", "(I)V"⟩, 77) := ⟨⟨by decide +kernel, by decide +kernel⟩, List.mem_of_getElem? (i := 1517) (by decide +kernel), List.mem_of_getElem? (i := 1850) (by decide +kernel), List.mem_of_getElem? (i := 1851) (by decide +kernel)⟩
theorem lw_p78 : lw_okq (⟨"WiredBeansModel", "bad", "(I)V"⟩, 77) := ⟨⟨by decide +kernel, by decide +kernel⟩, List.mem_of_getElem? (i := 1517) (by decide +kernel), List.mem_of_getElem? (i := 1854) (by decide +kernel), List.mem_of_getElem? (i := 1855) (by decide +kernel)⟩
theorem lw_p79 : lw_okq (⟨"WiredBeansModel", "isSmall", "(I)Z"⟩, 77) := ⟨⟨by decide +kernel, by decide +kernel⟩, List.mem_of_getElem? (i := 1517) (by decide +kernel), List.mem_of_getElem? (i := 1858) (by decide +kernel), List.mem_of_getElem? (i := 1859) (by decide +kernel)⟩
def lw_privs_5 : List (MethodName × Nat) := [(⟨"WiredBeans$Maker", "bringToBe", "(LWiredBeans$Bean;LWiredBeans$Signature;I)V"⟩, 13), (⟨"WiredBeans$Maker", "tellValue", "(IIILWiredBeans$Element;II)V"⟩, 13), (⟨"WiredBeans$Maker", "valueOf", "(LWiredBeans$Element;II)I"⟩, 13), (⟨"WiredBeans$Maker", "applySets", "(LWiredBeans$Bean;I)V"⟩, 13), (⟨"WiredBeans$Maker", "finish", "(LWiredBeans$Bean;)V"⟩, 13), (⟨"WiredBeans$Maker", "stopMaking", "()V"⟩, 13), (⟨"WiredBeansModel", "clear", "()V"⟩, 77), (⟨"WiredBeansModel", "readDocument", "()V"⟩, 77), (⟨"WiredBeansModel", "between", "()V"⟩, 77), (⟨"WiredBeansModel", "white", "()I"⟩, 77), (⟨"WiredBeansModel", "here", "(I)I"⟩, 77), (⟨"WiredBeansModel", "isWhite", "(I)Z"⟩, 77), (⟨"WiredBeansModel", "comment", "()V"⟩, 77), (⟨"WiredBeansModel", "must", "(I)V"⟩, 77), (⟨"WiredBeansModel", "bad", "(I)V"⟩, 77), (⟨"WiredBeansModel", "isSmall", "(I)Z"⟩, 77)]
theorem lw_r5 : ∀ q ∈ lw_privs_5, lw_okq q := List.forall_mem_cons.mpr ⟨lw_p64, List.forall_mem_cons.mpr ⟨lw_p65, List.forall_mem_cons.mpr ⟨lw_p66, List.forall_mem_cons.mpr ⟨lw_p67, List.forall_mem_cons.mpr ⟨lw_p68, List.forall_mem_cons.mpr ⟨lw_p69, List.forall_mem_cons.mpr ⟨lw_p70, List.forall_mem_cons.mpr ⟨lw_p71, List.forall_mem_cons.mpr ⟨lw_p72, List.forall_mem_cons.mpr ⟨lw_p73, List.forall_mem_cons.mpr ⟨lw_p74, List.forall_mem_cons.mpr ⟨lw_p75, List.forall_mem_cons.mpr ⟨lw_p76, List.forall_mem_cons.mpr ⟨lw_p77, List.forall_mem_cons.mpr ⟨lw_p78, List.forall_mem_cons.mpr ⟨lw_p79, fun _ h => absurd h List.not_mem_nil⟩⟩⟩⟩⟩⟩⟩⟩⟩⟩⟩⟩⟩⟩⟩⟩
theorem lw_p80 : lw_okq (⟨"WiredBeansModel", "begin", "(II)I"⟩, 77) := ⟨⟨by decide +kernel, by decide +kernel⟩, List.mem_of_getElem? (i := 1517) (by decide +kernel), List.mem_of_getElem? (i := 1862) (by decide +kernel), List.mem_of_getElem? (i := 1863) (by decide +kernel)⟩
theorem lw_p81 : lw_okq (⟨"WiredBeansModel", "name", "()J"⟩, 77) := ⟨⟨by decide +kernel, by decide +kernel⟩, List.mem_of_getElem? (i := 1517) (by decide +kernel), List.mem_of_getElem? (i := 1866) (by decide +kernel), List.mem_of_getElem? (i := 1867) (by decide +kernel)⟩
theorem lw_p82 : lw_okq (⟨"WiredBeansModel", "attribute", "(I)V"⟩, 77) := ⟨⟨by decide +kernel, by decide +kernel⟩, List.mem_of_getElem? (i := 1517) (by decide +kernel), List.mem_of_getElem? (i := 1870) (by decide +kernel), List.mem_of_getElem? (i := 1871) (by decide +kernel)⟩
theorem lw_p83 : lw_okq (⟨"WiredBeansModel", "find", "(IJ)I"⟩, 77) := ⟨⟨by decide +kernel, by decide +kernel⟩, List.mem_of_getElem? (i := 1517) (by decide +kernel), List.mem_of_getElem? (i := 1874) (by decide +kernel), List.mem_of_getElem? (i := 1875) (by decide +kernel)⟩
theorem lw_p84 : lw_okq (⟨"WiredBeansModel", "entity", "()I"⟩, 77) := ⟨⟨by decide +kernel, by decide +kernel⟩, List.mem_of_getElem? (i := 1517) (by decide +kernel), List.mem_of_getElem? (i := 1878) (by decide +kernel), List.mem_of_getElem? (i := 1879) (by decide +kernel)⟩
theorem lw_p85 : lw_okq (⟨"WiredBeansModel", "numberedEntity", "()I"⟩, 77) := ⟨⟨by decide +kernel, by decide +kernel⟩, List.mem_of_getElem? (i := 1517) (by decide +kernel), List.mem_of_getElem? (i := 1882) (by decide +kernel), List.mem_of_getElem? (i := 1883) (by decide +kernel)⟩
theorem lw_p86 : lw_okq (⟨"WiredBeansModel", "agrees", "(II)Z"⟩, 77) := ⟨⟨by decide +kernel, by decide +kernel⟩, List.mem_of_getElem? (i := 1517) (by decide +kernel), List.mem_of_getElem? (i := 1886) (by decide +kernel), List.mem_of_getElem? (i := 1887) (by decide +kernel)⟩
theorem lw_p87 : lw_okq (⟨"WiredBeansModel", "add", "(II)V"⟩, 77) := ⟨⟨by decide +kernel, by decide +kernel⟩, List.mem_of_getElem? (i := 1517) (by decide +kernel), List.mem_of_getElem? (i := 1891) (by decide +kernel), List.mem_of_getElem? (i := 1892) (by decide +kernel)⟩
theorem lw_p88 : lw_okq (⟨"WiredBeansModel", "end", "(I)V"⟩, 77) := ⟨⟨by decide +kernel, by decide +kernel⟩, List.mem_of_getElem? (i := 1517) (by decide +kernel), List.mem_of_getElem? (i := 1895) (by decide +kernel), List.mem_of_getElem? (i := 1896) (by decide +kernel)⟩
theorem lw_p89 : lw_okq (⟨"WiredBeansModel", "badStructure", "()I"⟩, 77) := ⟨⟨by decide +kernel, by decide +kernel⟩, List.mem_of_getElem? (i := 1517) (by decide +kernel), List.mem_of_getElem? (i := 1899) (by decide +kernel), List.mem_of_getElem? (i := 1900) (by decide +kernel)⟩
theorem lw_p90 : lw_okq (⟨"WiredBeansModel", "isGood", "(I)Z"⟩, 77) := ⟨⟨by decide +kernel, by decide +kernel⟩, List.mem_of_getElem? (i := 1517) (by decide +kernel), List.mem_of_getElem? (i := 1903) (by decide +kernel), List.mem_of_getElem? (i := 1904) (by decide +kernel)⟩
theorem lw_p91 : lw_okq (⟨"WiredBeansModel", "isInPlace", "(I)Z"⟩, 77) := ⟨⟨by decide +kernel, by decide +kernel⟩, List.mem_of_getElem? (i := 1517) (by decide +kernel), List.mem_of_getElem? (i := 1907) (by decide +kernel), List.mem_of_getElem? (i := 1908) (by decide +kernel)⟩
theorem lw_p92 : lw_okq (⟨"WiredBeansModel", "isAllowed", "(IJ)Z"⟩, 77) := ⟨⟨by decide +kernel, by decide +kernel⟩, List.mem_of_getElem? (i := 1517) (by decide +kernel), List.mem_of_getElem? (i := 1911) (by decide +kernel), List.mem_of_getElem? (i := 1912) (by decide +kernel)⟩
theorem lw_p93 : lw_okq (⟨"WiredBeansModel", "isWord", "(IJ)Z"⟩, 77) := ⟨⟨by decide +kernel, by decide +kernel⟩, List.mem_of_getElem? (i := 1517) (by decide +kernel), List.mem_of_getElem? (i := 1930) (by decide +kernel), List.mem_of_getElem? (i := 1931) (by decide +kernel)⟩
theorem lw_p94 : lw_okq (⟨"WiredBeansModel", "isGoodBean", "(I)Z"⟩, 77) := ⟨⟨by decide +kernel, by decide +kernel⟩, List.mem_of_getElem? (i := 1517) (by decide +kernel), List.mem_of_getElem? (i := 1934) (by decide +kernel), List.mem_of_getElem? (i := 1935) (by decide +kernel)⟩
theorem lw_p95 : lw_okq (⟨"WiredBeansModel", "has", "(IJ)Z"⟩, 77) := ⟨⟨by decide +kernel, by decide +kernel⟩, List.mem_of_getElem? (i := 1517) (by decide +kernel), List.mem_of_getElem? (i := 1938) (by decide +kernel), List.mem_of_getElem? (i := 1939) (by decide +kernel)⟩
def lw_privs_6 : List (MethodName × Nat) := [(⟨"WiredBeansModel", "begin", "(II)I"⟩, 77), (⟨"WiredBeansModel", "name", "()J"⟩, 77), (⟨"WiredBeansModel", "attribute", "(I)V"⟩, 77), (⟨"WiredBeansModel", "find", "(IJ)I"⟩, 77), (⟨"WiredBeansModel", "entity", "()I"⟩, 77), (⟨"WiredBeansModel", "numberedEntity", "()I"⟩, 77), (⟨"WiredBeansModel", "agrees", "(II)Z"⟩, 77), (⟨"WiredBeansModel", "add", "(II)V"⟩, 77), (⟨"WiredBeansModel", "end", "(I)V"⟩, 77), (⟨"WiredBeansModel", "badStructure", "()I"⟩, 77), (⟨"WiredBeansModel", "isGood", "(I)Z"⟩, 77), (⟨"WiredBeansModel", "isInPlace", "(I)Z"⟩, 77), (⟨"WiredBeansModel", "isAllowed", "(IJ)Z"⟩, 77), (⟨"WiredBeansModel", "isWord", "(IJ)Z"⟩, 77), (⟨"WiredBeansModel", "isGoodBean", "(I)Z"⟩, 77), (⟨"WiredBeansModel", "has", "(IJ)Z"⟩, 77)]
theorem lw_r6 : ∀ q ∈ lw_privs_6, lw_okq q := List.forall_mem_cons.mpr ⟨lw_p80, List.forall_mem_cons.mpr ⟨lw_p81, List.forall_mem_cons.mpr ⟨lw_p82, List.forall_mem_cons.mpr ⟨lw_p83, List.forall_mem_cons.mpr ⟨lw_p84, List.forall_mem_cons.mpr ⟨lw_p85, List.forall_mem_cons.mpr ⟨lw_p86, List.forall_mem_cons.mpr ⟨lw_p87, List.forall_mem_cons.mpr ⟨lw_p88, List.forall_mem_cons.mpr ⟨lw_p89, List.forall_mem_cons.mpr ⟨lw_p90, List.forall_mem_cons.mpr ⟨lw_p91, List.forall_mem_cons.mpr ⟨lw_p92, List.forall_mem_cons.mpr ⟨lw_p93, List.forall_mem_cons.mpr ⟨lw_p94, List.forall_mem_cons.mpr ⟨lw_p95, fun _ h => absurd h List.not_mem_nil⟩⟩⟩⟩⟩⟩⟩⟩⟩⟩⟩⟩⟩⟩⟩⟩
theorem lw_p96 : lw_okq (⟨"WiredBeansModel", "isOneLetter", "(IJ)Z"⟩, 77) := ⟨⟨by decide +kernel, by decide +kernel⟩, List.mem_of_getElem? (i := 1517) (by decide +kernel), List.mem_of_getElem? (i := 1942) (by decide +kernel), List.mem_of_getElem? (i := 1943) (by decide +kernel)⟩
theorem lw_p97 : lw_okq (⟨"WiredBeansModel", "word", "(IJ)J"⟩, 77) := ⟨⟨by decide +kernel, by decide +kernel⟩, List.mem_of_getElem? (i := 1517) (by decide +kernel), List.mem_of_getElem? (i := 1946) (by decide +kernel), List.mem_of_getElem? (i := 1947) (by decide +kernel)⟩
theorem lw_p98 : lw_okq (⟨"WiredBeansModel", "isOneOf", "(IJII)Z"⟩, 77) := ⟨⟨by decide +kernel, by decide +kernel⟩, List.mem_of_getElem? (i := 1517) (by decide +kernel), List.mem_of_getElem? (i := 1958) (by decide +kernel), List.mem_of_getElem? (i := 1959) (by decide +kernel)⟩
theorem lw_p99 : lw_okq (⟨"WiredBeansModel", "isGoodHolder", "(I)Z"⟩, 77) := ⟨⟨by decide +kernel, by decide +kernel⟩, List.mem_of_getElem? (i := 1517) (by decide +kernel), List.mem_of_getElem? (i := 1962) (by decide +kernel), List.mem_of_getElem? (i := 1963) (by decide +kernel)⟩
theorem lw_p100 : lw_okq (⟨"WiredBeansModel", "ahead", "(IZ)I"⟩, 77) := ⟨⟨by decide +kernel, by decide +kernel⟩, List.mem_of_getElem? (i := 1517) (by decide +kernel), List.mem_of_getElem? (i := 1966) (by decide +kernel), List.mem_of_getElem? (i := 1967) (by decide +kernel)⟩
theorem lw_p101 : lw_okq (⟨"WiredBeansModel", "typeIn", "(I)I"⟩, 77) := ⟨⟨by decide +kernel, by decide +kernel⟩, List.mem_of_getElem? (i := 1517) (by decide +kernel), List.mem_of_getElem? (i := 1971) (by decide +kernel), List.mem_of_getElem? (i := 1972) (by decide +kernel)⟩
theorem lw_p102 : lw_okq (⟨"WiredBeansModel", "badBeans", "()I"⟩, 77) := ⟨⟨by decide +kernel, by decide +kernel⟩, List.mem_of_getElem? (i := 1517) (by decide +kernel), List.mem_of_getElem? (i := 1975) (by decide +kernel), List.mem_of_getElem? (i := 1976) (by decide +kernel)⟩
theorem lw_p103 : lw_okq (⟨"WiredBeansModel", "isUsed", "(IJ)Z"⟩, 77) := ⟨⟨by decide +kernel, by decide +kernel⟩, List.mem_of_getElem? (i := 1517) (by decide +kernel), List.mem_of_getElem? (i := 1979) (by decide +kernel), List.mem_of_getElem? (i := 1980) (by decide +kernel)⟩
theorem lw_p104 : lw_okq (⟨"WiredBeansModel", "parentOf", "(I)I"⟩, 77) := ⟨⟨by decide +kernel, by decide +kernel⟩, List.mem_of_getElem? (i := 1517) (by decide +kernel), List.mem_of_getElem? (i := 1983) (by decide +kernel), List.mem_of_getElem? (i := 1984) (by decide +kernel)⟩
theorem lw_p105 : lw_okq (⟨"WiredBeansModel", "withId", "(J)I"⟩, 77) := ⟨⟨by decide +kernel, by decide +kernel⟩, List.mem_of_getElem? (i := 1517) (by decide +kernel), List.mem_of_getElem? (i := 1987) (by decide +kernel), List.mem_of_getElem? (i := 1988) (by decide +kernel)⟩
theorem lw_p106 : lw_okq (⟨"WiredBeansModel", "comesToItself", "(I)Z"⟩, 77) := ⟨⟨by decide +kernel, by decide +kernel⟩, List.mem_of_getElem? (i := 1517) (by decide +kernel), List.mem_of_getElem? (i := 1991) (by decide +kernel), List.mem_of_getElem? (i := 1992) (by decide +kernel)⟩
theorem lw_p107 : lw_okq (⟨"WiredBeansModel", "mergeBean", "(I)V"⟩, 77) := ⟨⟨by decide +kernel, by decide +kernel⟩, List.mem_of_getElem? (i := 1517) (by decide +kernel), List.mem_of_getElem? (i := 1995) (by decide +kernel), List.mem_of_getElem? (i := 1996) (by decide +kernel)⟩
theorem lw_p108 : lw_okq (⟨"WiredBeansModel", "inner", "(III)I"⟩, 77) := ⟨⟨by decide +kernel, by decide +kernel⟩, List.mem_of_getElem? (i := 1517) (by decide +kernel), List.mem_of_getElem? (i := 1999) (by decide +kernel), List.mem_of_getElem? (i := 2000) (by decide +kernel)⟩
theorem lw_p109 : lw_okq (⟨"WiredBeansModel", "merge", "([IIII)I"⟩, 77) := ⟨⟨by decide +kernel, by decide +kernel⟩, List.mem_of_getElem? (i := 1517) (by decide +kernel), List.mem_of_getElem? (i := 2003) (by decide +kernel), List.mem_of_getElem? (i := 2004) (by decide +kernel)⟩
theorem lw_p110 : lw_okq (⟨"WiredBeansModel", "isAbstract", "(I)Z"⟩, 77) := ⟨⟨by decide +kernel, by decide +kernel⟩, List.mem_of_getElem? (i := 1517) (by decide +kernel), List.mem_of_getElem? (i := 2015) (by decide +kernel), List.mem_of_getElem? (i := 2016) (by decide +kernel)⟩
theorem lw_p111 : lw_okq (⟨"WiredBeansModel", "isMany", "(I)Z"⟩, 77) := ⟨⟨by decide +kernel, by decide +kernel⟩, List.mem_of_getElem? (i := 1517) (by decide +kernel), List.mem_of_getElem? (i := 2019) (by decide +kernel), List.mem_of_getElem? (i := 2020) (by decide +kernel)⟩
def lw_privs_7 : List (MethodName × Nat) := [(⟨"WiredBeansModel", "isOneLetter", "(IJ)Z"⟩, 77), (⟨"WiredBeansModel", "word", "(IJ)J"⟩, 77), (⟨"WiredBeansModel", "isOneOf", "(IJII)Z"⟩, 77), (⟨"WiredBeansModel", "isGoodHolder", "(I)Z"⟩, 77), (⟨"WiredBeansModel", "ahead", "(IZ)I"⟩, 77), (⟨"WiredBeansModel", "typeIn", "(I)I"⟩, 77), (⟨"WiredBeansModel", "badBeans", "()I"⟩, 77), (⟨"WiredBeansModel", "isUsed", "(IJ)Z"⟩, 77), (⟨"WiredBeansModel", "parentOf", "(I)I"⟩, 77), (⟨"WiredBeansModel", "withId", "(J)I"⟩, 77), (⟨"WiredBeansModel", "comesToItself", "(I)Z"⟩, 77), (⟨"WiredBeansModel", "mergeBean", "(I)V"⟩, 77), (⟨"WiredBeansModel", "inner", "(III)I"⟩, 77), (⟨"WiredBeansModel", "merge", "([IIII)I"⟩, 77), (⟨"WiredBeansModel", "isAbstract", "(I)Z"⟩, 77), (⟨"WiredBeansModel", "isMany", "(I)Z"⟩, 77)]
theorem lw_r7 : ∀ q ∈ lw_privs_7, lw_okq q := List.forall_mem_cons.mpr ⟨lw_p96, List.forall_mem_cons.mpr ⟨lw_p97, List.forall_mem_cons.mpr ⟨lw_p98, List.forall_mem_cons.mpr ⟨lw_p99, List.forall_mem_cons.mpr ⟨lw_p100, List.forall_mem_cons.mpr ⟨lw_p101, List.forall_mem_cons.mpr ⟨lw_p102, List.forall_mem_cons.mpr ⟨lw_p103, List.forall_mem_cons.mpr ⟨lw_p104, List.forall_mem_cons.mpr ⟨lw_p105, List.forall_mem_cons.mpr ⟨lw_p106, List.forall_mem_cons.mpr ⟨lw_p107, List.forall_mem_cons.mpr ⟨lw_p108, List.forall_mem_cons.mpr ⟨lw_p109, List.forall_mem_cons.mpr ⟨lw_p110, List.forall_mem_cons.mpr ⟨lw_p111, fun _ h => absurd h List.not_mem_nil⟩⟩⟩⟩⟩⟩⟩⟩⟩⟩⟩⟩⟩⟩⟩⟩
theorem lw_p112 : lw_okq (⟨"WiredBeansModel", "run", "(I)Z"⟩, 77) := ⟨⟨by decide +kernel, by decide +kernel⟩, List.mem_of_getElem? (i := 1517) (by decide +kernel), List.mem_of_getElem? (i := 2023) (by decide +kernel), List.mem_of_getElem? (i := 2024) (by decide +kernel)⟩
theorem lw_p113 : lw_okq (⟨"WiredBeansModel", "gets", "(I)Z"⟩, 77) := ⟨⟨by decide +kernel, by decide +kernel⟩, List.mem_of_getElem? (i := 1517) (by decide +kernel), List.mem_of_getElem? (i := 2027) (by decide +kernel), List.mem_of_getElem? (i := 2028) (by decide +kernel)⟩
theorem lw_p114 : lw_okq (⟨"WiredBeansModel", "fails", "(I)V"⟩, 77) := ⟨⟨by decide +kernel, by decide +kernel⟩, List.mem_of_getElem? (i := 1517) (by decide +kernel), List.mem_of_getElem? (i := 2031) (by decide +kernel), List.mem_of_getElem? (i := 2032) (by decide +kernel)⟩
theorem lw_p115 : lw_okq (⟨"WiredBeansModel", "step", "()V"⟩, 77) := ⟨⟨by decide +kernel, by decide +kernel⟩, List.mem_of_getElem? (i := 1517) (by decide +kernel), List.mem_of_getElem? (i := 2035) (by decide +kernel), List.mem_of_getElem? (i := 2036) (by decide +kernel)⟩
theorem lw_p116 : lw_okq (⟨"WiredBeansModel", "called", "(J)I"⟩, 77) := ⟨⟨by decide +kernel, by decide +kernel⟩, List.mem_of_getElem? (i := 1517) (by decide +kernel), List.mem_of_getElem? (i := 2039) (by decide +kernel), List.mem_of_getElem? (i := 2040) (by decide +kernel)⟩
theorem lw_p117 : lw_okq (⟨"WiredBeansModel", "deliver", "()V"⟩, 77) := ⟨⟨by decide +kernel, by decide +kernel⟩, List.mem_of_getElem? (i := 1517) (by decide +kernel), List.mem_of_getElem? (i := 2043) (by decide +kernel), List.mem_of_getElem? (i := 2044) (by decide +kernel)⟩
theorem lw_p118 : lw_okq (⟨"WiredBeansModel", "arg", "(II)I"⟩, 77) := ⟨⟨by decide +kernel, by decide +kernel⟩, List.mem_of_getElem? (i := 1517) (by decide +kernel), List.mem_of_getElem? (i := 2047) (by decide +kernel), List.mem_of_getElem? (i := 2048) (by decide +kernel)⟩
theorem lw_p119 : lw_okq (⟨"WiredBeansModel", "argsOf", "(I)I"⟩, 77) := ⟨⟨by decide +kernel, by decide +kernel⟩, List.mem_of_getElem? (i := 1517) (by decide +kernel), List.mem_of_getElem? (i := 2051) (by decide +kernel), List.mem_of_getElem? (i := 2052) (by decide +kernel)⟩
theorem lw_p120 : lw_okq (⟨"WiredBeansModel", "keep", "(IIII)V"⟩, 77) := ⟨⟨by decide +kernel, by decide +kernel⟩, List.mem_of_getElem? (i := 1517) (by decide +kernel), List.mem_of_getElem? (i := 2055) (by decide +kernel), List.mem_of_getElem? (i := 2056) (by decide +kernel)⟩
theorem lw_p121 : lw_okq (⟨"WiredBeansModel", "tells", "(IJ)I"⟩, 77) := ⟨⟨by decide +kernel, by decide +kernel⟩, List.mem_of_getElem? (i := 1517) (by decide +kernel), List.mem_of_getElem? (i := 2059) (by decide +kernel), List.mem_of_getElem? (i := 2060) (by decide +kernel)⟩
theorem lw_p122 : lw_okq (⟨"WiredBeansModel", "args", "(I)I"⟩, 77) := ⟨⟨by decide +kernel, by decide +kernel⟩, List.mem_of_getElem? (i := 1517) (by decide +kernel), List.mem_of_getElem? (i := 2063) (by decide +kernel), List.mem_of_getElem? (i := 2064) (by decide +kernel)⟩
theorem lw_p123 : lw_okq (⟨"WiredBeansModel", "workedOut", "(II)Z"⟩, 77) := ⟨⟨by decide +kernel, by decide +kernel⟩, List.mem_of_getElem? (i := 1517) (by decide +kernel), List.mem_of_getElem? (i := 2067) (by decide +kernel), List.mem_of_getElem? (i := 2068) (by decide +kernel)⟩
theorem lw_p124 : lw_okq (⟨"WiredBeansModel", "worked", "(III)Z"⟩, 77) := ⟨⟨by decide +kernel, by decide +kernel⟩, List.mem_of_getElem? (i := 1517) (by decide +kernel), List.mem_of_getElem? (i := 2071) (by decide +kernel), List.mem_of_getElem? (i := 2072) (by decide +kernel)⟩
theorem lw_p125 : lw_okq (⟨"WiredBeansModel", "next", "(ZI)V"⟩, 77) := ⟨⟨by decide +kernel, by decide +kernel⟩, List.mem_of_getElem? (i := 1517) (by decide +kernel), List.mem_of_getElem? (i := 2075) (by decide +kernel), List.mem_of_getElem? (i := 2076) (by decide +kernel)⟩
theorem lw_p126 : lw_okq (⟨"WiredBeansModel", "makeObject", "(I)V"⟩, 77) := ⟨⟨by decide +kernel, by decide +kernel⟩, List.mem_of_getElem? (i := 1517) (by decide +kernel), List.mem_of_getElem? (i := 2079) (by decide +kernel), List.mem_of_getElem? (i := 2080) (by decide +kernel)⟩
theorem lw_p127 : lw_okq (⟨"WiredBeansModel", "letter", "(IJ)I"⟩, 77) := ⟨⟨by decide +kernel, by decide +kernel⟩, List.mem_of_getElem? (i := 1517) (by decide +kernel), List.mem_of_getElem? (i := 2083) (by decide +kernel), List.mem_of_getElem? (i := 2084) (by decide +kernel)⟩
def lw_privs_8 : List (MethodName × Nat) := [(⟨"WiredBeansModel", "run", "(I)Z"⟩, 77), (⟨"WiredBeansModel", "gets", "(I)Z"⟩, 77), (⟨"WiredBeansModel", "fails", "(I)V"⟩, 77), (⟨"WiredBeansModel", "step", "()V"⟩, 77), (⟨"WiredBeansModel", "called", "(J)I"⟩, 77), (⟨"WiredBeansModel", "deliver", "()V"⟩, 77), (⟨"WiredBeansModel", "arg", "(II)I"⟩, 77), (⟨"WiredBeansModel", "argsOf", "(I)I"⟩, 77), (⟨"WiredBeansModel", "keep", "(IIII)V"⟩, 77), (⟨"WiredBeansModel", "tells", "(IJ)I"⟩, 77), (⟨"WiredBeansModel", "args", "(I)I"⟩, 77), (⟨"WiredBeansModel", "workedOut", "(II)Z"⟩, 77), (⟨"WiredBeansModel", "worked", "(III)Z"⟩, 77), (⟨"WiredBeansModel", "next", "(ZI)V"⟩, 77), (⟨"WiredBeansModel", "makeObject", "(I)V"⟩, 77), (⟨"WiredBeansModel", "letter", "(IJ)I"⟩, 77)]
theorem lw_r8 : ∀ q ∈ lw_privs_8, lw_okq q := List.forall_mem_cons.mpr ⟨lw_p112, List.forall_mem_cons.mpr ⟨lw_p113, List.forall_mem_cons.mpr ⟨lw_p114, List.forall_mem_cons.mpr ⟨lw_p115, List.forall_mem_cons.mpr ⟨lw_p116, List.forall_mem_cons.mpr ⟨lw_p117, List.forall_mem_cons.mpr ⟨lw_p118, List.forall_mem_cons.mpr ⟨lw_p119, List.forall_mem_cons.mpr ⟨lw_p120, List.forall_mem_cons.mpr ⟨lw_p121, List.forall_mem_cons.mpr ⟨lw_p122, List.forall_mem_cons.mpr ⟨lw_p123, List.forall_mem_cons.mpr ⟨lw_p124, List.forall_mem_cons.mpr ⟨lw_p125, List.forall_mem_cons.mpr ⟨lw_p126, List.forall_mem_cons.mpr ⟨lw_p127, fun _ h => absurd h List.not_mem_nil⟩⟩⟩⟩⟩⟩⟩⟩⟩⟩⟩⟩⟩⟩⟩⟩
theorem lw_p128 : lw_okq (⟨"WiredBeansModel", "classOf", "(I)I"⟩, 77) := ⟨⟨by decide +kernel, by decide +kernel⟩, List.mem_of_getElem? (i := 1517) (by decide +kernel), List.mem_of_getElem? (i := 2087) (by decide +kernel), List.mem_of_getElem? (i := 2088) (by decide +kernel)⟩
theorem lw_p129 : lw_okq (⟨"WiredBeansModel", "classWithFactory", "(IIZ)I"⟩, 77) := ⟨⟨by decide +kernel, by decide +kernel⟩, List.mem_of_getElem? (i := 1517) (by decide +kernel), List.mem_of_getElem? (i := 2091) (by decide +kernel), List.mem_of_getElem? (i := 2092) (by decide +kernel)⟩
theorem lw_p130 : lw_okq (⟨"WiredBeansModel", "isFactory", "(IIZ)Z"⟩, 77) := ⟨⟨by decide +kernel, by decide +kernel⟩, List.mem_of_getElem? (i := 1517) (by decide +kernel), List.mem_of_getElem? (i := 2095) (by decide +kernel), List.mem_of_getElem? (i := 2096) (by decide +kernel)⟩
theorem lw_p131 : lw_okq (⟨"WiredBeansModel", "chosen", "(IZI)I"⟩, 77) := ⟨⟨by decide +kernel, by decide +kernel⟩, List.mem_of_getElem? (i := 1517) (by decide +kernel), List.mem_of_getElem? (i := 2099) (by decide +kernel), List.mem_of_getElem? (i := 2100) (by decide +kernel)⟩
theorem lw_p132 : lw_okq (⟨"WiredBeansModel", "sum", "(II[II)I"⟩, 77) := ⟨⟨by decide +kernel, by decide +kernel⟩, List.mem_of_getElem? (i := 1517) (by decide +kernel), List.mem_of_getElem? (i := 2104) (by decide +kernel), List.mem_of_getElem? (i := 2105) (by decide +kernel)⟩
theorem lw_p133 : lw_okq (⟨"WiredBeansModel", "placed", "(II)Z"⟩, 77) := ⟨⟨by decide +kernel, by decide +kernel⟩, List.mem_of_getElem? (i := 1517) (by decide +kernel), List.mem_of_getElem? (i := 2108) (by decide +kernel), List.mem_of_getElem? (i := 2109) (by decide +kernel)⟩
theorem lw_p134 : lw_okq (⟨"WiredBeansModel", "weight", "(III)I"⟩, 77) := ⟨⟨by decide +kernel, by decide +kernel⟩, List.mem_of_getElem? (i := 1517) (by decide +kernel), List.mem_of_getElem? (i := 2112) (by decide +kernel), List.mem_of_getElem? (i := 2113) (by decide +kernel)⟩
theorem lw_p135 : lw_okq (⟨"WiredBeansModel", "numberIn", "(I)J"⟩, 77) := ⟨⟨by decide +kernel, by decide +kernel⟩, List.mem_of_getElem? (i := 1517) (by decide +kernel), List.mem_of_getElem? (i := 2116) (by decide +kernel), List.mem_of_getElem? (i := 2117) (by decide +kernel)⟩
theorem lw_p136 : lw_okq (⟨"WiredBeansModel", "length", "(I)I"⟩, 77) := ⟨⟨by decide +kernel, by decide +kernel⟩, List.mem_of_getElem? (i := 1517) (by decide +kernel), List.mem_of_getElem? (i := 2120) (by decide +kernel), List.mem_of_getElem? (i := 2121) (by decide +kernel)⟩
theorem lw_p137 : lw_okq (⟨"WiredBeansModel", "sign", "(II)I"⟩, 77) := ⟨⟨by decide +kernel, by decide +kernel⟩, List.mem_of_getElem? (i := 1517) (by decide +kernel), List.mem_of_getElem? (i := 2124) (by decide +kernel), List.mem_of_getElem? (i := 2125) (by decide +kernel)⟩
theorem lw_p138 : lw_okq (⟨"WiredBeansModel", "is", "(II)Z"⟩, 77) := ⟨⟨by decide +kernel, by decide +kernel⟩, List.mem_of_getElem? (i := 1517) (by decide +kernel), List.mem_of_getElem? (i := 2132) (by decide +kernel), List.mem_of_getElem? (i := 2133) (by decide +kernel)⟩
theorem lw_p139 : lw_okq (⟨"WiredBeansModel", "happens", "(IIII)V"⟩, 77) := ⟨⟨by decide +kernel, by decide +kernel⟩, List.mem_of_getElem? (i := 1517) (by decide +kernel), List.mem_of_getElem? (i := 2136) (by decide +kernel), List.mem_of_getElem? (i := 2137) (by decide +kernel)⟩
theorem lw_p140 : lw_okq (⟨"WiredBeansModel", "tell", "(IIIII)V"⟩, 77) := ⟨⟨by decide +kernel, by decide +kernel⟩, List.mem_of_getElem? (i := 1517) (by decide +kernel), List.mem_of_getElem? (i := 2140) (by decide +kernel), List.mem_of_getElem? (i := 2141) (by decide +kernel)⟩
theorem lw_p141 : lw_okq (⟨"WiredBeansModel", "told", "(III)I"⟩, 77) := ⟨⟨by decide +kernel, by decide +kernel⟩, List.mem_of_getElem? (i := 1517) (by decide +kernel), List.mem_of_getElem? (i := 2144) (by decide +kernel), List.mem_of_getElem? (i := 2145) (by decide +kernel)⟩
theorem lw_p142 : lw_okq (⟨"WiredBeansModel", "finish", "(I)V"⟩, 77) := ⟨⟨by decide +kernel, by decide +kernel⟩, List.mem_of_getElem? (i := 1517) (by decide +kernel), List.mem_of_getElem? (i := 2148) (by decide +kernel), List.mem_of_getElem? (i := 2149) (by decide +kernel)⟩
theorem lw_p143 : lw_okq (⟨"WiredBeansModel", "setOne", "(I)V"⟩, 77) := ⟨⟨by decide +kernel, by decide +kernel⟩, List.mem_of_getElem? (i := 1517) (by decide +kernel), List.mem_of_getElem? (i := 2152) (by decide +kernel), List.mem_of_getElem? (i := 2153) (by decide +kernel)⟩
def lw_privs_9 : List (MethodName × Nat) := [(⟨"WiredBeansModel", "classOf", "(I)I"⟩, 77), (⟨"WiredBeansModel", "classWithFactory", "(IIZ)I"⟩, 77), (⟨"WiredBeansModel", "isFactory", "(IIZ)Z"⟩, 77), (⟨"WiredBeansModel", "chosen", "(IZI)I"⟩, 77), (⟨"WiredBeansModel", "sum", "(II[II)I"⟩, 77), (⟨"WiredBeansModel", "placed", "(II)Z"⟩, 77), (⟨"WiredBeansModel", "weight", "(III)I"⟩, 77), (⟨"WiredBeansModel", "numberIn", "(I)J"⟩, 77), (⟨"WiredBeansModel", "length", "(I)I"⟩, 77), (⟨"WiredBeansModel", "sign", "(II)I"⟩, 77), (⟨"WiredBeansModel", "is", "(II)Z"⟩, 77), (⟨"WiredBeansModel", "happens", "(IIII)V"⟩, 77), (⟨"WiredBeansModel", "tell", "(IIIII)V"⟩, 77), (⟨"WiredBeansModel", "told", "(III)I"⟩, 77), (⟨"WiredBeansModel", "finish", "(I)V"⟩, 77), (⟨"WiredBeansModel", "setOne", "(I)V"⟩, 77)]
theorem lw_r9 : ∀ q ∈ lw_privs_9, lw_okq q := List.forall_mem_cons.mpr ⟨lw_p128, List.forall_mem_cons.mpr ⟨lw_p129, List.forall_mem_cons.mpr ⟨lw_p130, List.forall_mem_cons.mpr ⟨lw_p131, List.forall_mem_cons.mpr ⟨lw_p132, List.forall_mem_cons.mpr ⟨lw_p133, List.forall_mem_cons.mpr ⟨lw_p134, List.forall_mem_cons.mpr ⟨lw_p135, List.forall_mem_cons.mpr ⟨lw_p136, List.forall_mem_cons.mpr ⟨lw_p137, List.forall_mem_cons.mpr ⟨lw_p138, List.forall_mem_cons.mpr ⟨lw_p139, List.forall_mem_cons.mpr ⟨lw_p140, List.forall_mem_cons.mpr ⟨lw_p141, List.forall_mem_cons.mpr ⟨lw_p142, List.forall_mem_cons.mpr ⟨lw_p143, fun _ h => absurd h List.not_mem_nil⟩⟩⟩⟩⟩⟩⟩⟩⟩⟩⟩⟩⟩⟩⟩⟩
theorem lw_p144 : lw_okq (⟨"WiredBeansModel", "typeOfSetter", "(II)I"⟩, 77) := ⟨⟨by decide +kernel, by decide +kernel⟩, List.mem_of_getElem? (i := 1517) (by decide +kernel), List.mem_of_getElem? (i := 2156) (by decide +kernel), List.mem_of_getElem? (i := 2157) (by decide +kernel)⟩
theorem lw_p145 : lw_okq (⟨"WiredBeansModel", "shut", "()V"⟩, 77) := ⟨⟨by decide +kernel, by decide +kernel⟩, List.mem_of_getElem? (i := 1517) (by decide +kernel), List.mem_of_getElem? (i := 2160) (by decide +kernel), List.mem_of_getElem? (i := 2161) (by decide +kernel)⟩
def lw_privs_10 : List (MethodName × Nat) := [(⟨"WiredBeansModel", "typeOfSetter", "(II)I"⟩, 77), (⟨"WiredBeansModel", "shut", "()V"⟩, 77)]
theorem lw_r10 : ∀ q ∈ lw_privs_10, lw_okq q := List.forall_mem_cons.mpr ⟨lw_p144, List.forall_mem_cons.mpr ⟨lw_p145, fun _ h => absurd h List.not_mem_nil⟩⟩
def lw_privs : List (MethodName × Nat) := lw_privs_1 ++ (lw_privs_2 ++ (lw_privs_3 ++ (lw_privs_4 ++ (lw_privs_5 ++ (lw_privs_6 ++ (lw_privs_7 ++ (lw_privs_8 ++ (lw_privs_9 ++ (lw_privs_10)))))))))
def lw_tbl : List Cond := k2_sels lw_privs ++ tables_1
theorem lw_privs_ok : ∀ q ∈ lw_privs, lw_okq q := by
  show ∀ q ∈ lw_privs_1 ++ (lw_privs_2 ++ (lw_privs_3 ++ (lw_privs_4 ++ (lw_privs_5 ++ (lw_privs_6 ++ (lw_privs_7 ++ (lw_privs_8 ++ (lw_privs_9 ++ (lw_privs_10))))))))), lw_okq q
  exact List.forall_mem_append.mpr ⟨lw_r1, List.forall_mem_append.mpr ⟨lw_r2, List.forall_mem_append.mpr ⟨lw_r3, List.forall_mem_append.mpr ⟨lw_r4, List.forall_mem_append.mpr ⟨lw_r5, List.forall_mem_append.mpr ⟨lw_r6, List.forall_mem_append.mpr ⟨lw_r7, List.forall_mem_append.mpr ⟨lw_r8, List.forall_mem_append.mpr ⟨lw_r9, lw_r10⟩⟩⟩⟩⟩⟩⟩⟩⟩
end
section
/-! ===== BEGIN words of one list among another's, by their places ===== -/
theorem goodIn_r {big : List Cond} (ws : List Cond) (ps : List Nat) (hp : ws = ps.filterMap (fun i => big[i]?)) (h : ws.all goodWord = true) : GoodIn big ws := by
  intro w hw
  have h1 := List.all_eq_true.mp h w hw
  rw [hp] at hw
  obtain ⟨i, -, hi⟩ := List.mem_filterMap.mp hw
  have hm : w ∈ big := by first | exact List.mem_of_getElem? hi | exact List.getElem?_mem hi
  exact ⟨hm, good_of_word h1⟩
theorem goodIn_app {big a b : List Cond} (ha : GoodIn big a) (hb : GoodIn big b) : GoodIn big (a ++ b) := fun w h => (List.mem_append.mp h).elim (ha w) (hb w)
theorem goodIn_ca {big a b : List Cond} {c : Cond} (ha : GoodIn big (c :: a)) (hb : GoodIn big b) : GoodIn big (c :: (a ++ b)) := fun w h => (List.mem_cons.mp h).elim (fun e => ha w (List.mem_cons.mpr (Or.inl e))) (fun h => (List.mem_append.mp h).elim (fun h => ha w (List.mem_cons.mpr (Or.inr h))) (hb w))
theorem goodIn_sub {big ws : List Cond} (hm : ∀ w ∈ ws, w ∈ big) (h : ws.all goodWord = true) : GoodIn big ws := fun w hw => ⟨hm w hw, good_of_word (List.all_eq_true.mp h w hw)⟩
/-! ===== END ===== -/

/-! ===== BEGIN exceptions that leave a method, and their catching by the caller (launches without stack traces) ===== -/
section VXA
/-! The laws vx_back, vx_callV, vx_callS, vx_callSW, vx_throw0, vx_throwS follow proofs of the library, with one case more: JvmDerived/Free/Laws.lean (Back.of_free), Shelf42/LK1.lean (callV, callS), Shelf/KitTraced.lean (throwNew0V, throwNewS). -/
/-- where a method has thrown q: the class by its name, the cell, what was written, the world -/
def vx_T (XC : String → State → State → Prop) (st : State) (q : Addr) (t : State) (mc ms : Nat) (free : Addr → Prop) : Prop :=
  ∃ (E : String) (ce : Cell) (L : List Loc), XC E st t ∧ t.heap[q]? = some ce ∧ ce.vm = .none ∧ st.vm.findClass E = some ce.cls ∧ st.WarmedH t.vm ∧ st.sameButNew ({ t with vm := st.vm } : State) L mc ms ∧ ∀ z ∈ L, free z.base
def vx_Q (Qc : Array Value → State → Outcome → State → Prop) (XC : String → State → State → Prop) (mc ms : Nat) (free : Addr → Prop) : Array Value → State → Outcome → State → Prop := fun a st o t =>
  (Qc a st o t ∧ ∃ L, FrameEnd st o t L mc ms ∧ ∀ q ∈ L, free q.base) ∨ ∃ q, o = .threw q ∧ vx_T XC st q t mc ms free
/-- a callee that returns or throws -/
def vx_Met (l : Launch) (y : MethodName) (ws : List Cond) (rm : Room) (Pc : Array Value → State → Prop) (Qc : Array Value → State → Outcome → State → Prop) (XC : String → State → State → Prop) (mc ms : Nat) (free : Addr → Prop) : Prop :=
  MetFree l y (headSpec ws rm) Pc (fun _ _ _ _ _ => True) (vx_Q Qc XC mc ms free)
def vx_Post (XC : String → State → State → Prop) (mc ms : Nat) (free : Addr → Prop) : Pt → Array Value → Addr → Pt → Prop := fun A a q B =>
  ∃ (g : JFrame) (mk : MethodId) (t : State) (L : List Loc) (E : String) (ce : Cell), B.U.heap = t.heap ∧ B.U.vm = t.vm ∧ XC E (A.U.calling g mk a) t ∧ t.heap[q]? = some ce ∧ ce.vm = .none ∧ A.U.vm.findClass E = some ce.cls ∧ B.locs = A.locs ++ L ∧ (∀ z ∈ L, free z.base) ∧ B.cells = A.cells + mc ∧ B.slots = A.slots + ms
def vx_Back (l : Launch) (R : Room) (p : Program) (e : Env) (below : List Frame) (s : State) (sargs : Array Value) (y : MethodName) (len W9 : Nat)
    (Pre : Pt → Array Value → Prop) (Post : Pt → Array Value → Option Value → Pt → Prop) (PostX : Pt → Array Value → Addr → Pt → Prop) : Prop :=
  ∀ (m : MethodId) (meth : Method) (c : Code) (A : Pt) (g : JFrame) (ig : Instr) (mk : MethodId) (a : Array Value),
    Stand p l e R s m sargs below meth c A.U A.locs A.cells A.slots → g.method = m → g.locals.size = c.maxLocals → decode c.code g.pc = .ok (ig, len) →
    2 * g.monitorRoom + (g.stack.map fun v => v.category).sum ≤ W9 → A.U.methodNamed? y = some mk → Pre A a →
    (∃ (v : Option Value) (B : Pt), Stand p l e R s m sargs below meth c B.U B.locs B.cells B.slots ∧ Post A a v B ∧
      Steps p.tables e below (doInvoke e (A.U.setTop g) [] mk a).1 (B.U.setTop { g with pc := g.pc + len, stack := v.toList ++ g.stack })) ∨
    (∃ (q : Addr) (B : Pt), Stand p l e R s m sargs below meth c B.U B.locs B.cells B.slots ∧ PostX A a q B ∧
      Steps p.tables e below (doInvoke e (A.U.setTop g) [] mk a).1 ((B.U.setTop g).pushFrame (.throwing q)))
section Payer
variable {l : Launch} {R : Room} {p : Program} {e : Env} {below : List Frame} {s : State} {sargs : Array Value} {y : MethodName} {len W9 : Nat}
theorem vx_back {ws : List Cond} {rm : Room} {Pc : Array Value → State → Prop} {Qc : Array Value → State → Outcome → State → Prop} {XC : String → State → State → Prop} {mc ms : Nat} {free : Addr → Prop} {bytes : ByteArray} {maxL : Nat} {ret : Option FieldType}
    (hM : vx_Met l y ws rm Pc Qc XC mc ms free) (hblind : FrameBlind Pc) (hrc : rm.cells = mc) (hrs : rm.slots = ms)
    (hframes : rm.frames + 1 ≤ R.frames) (hlocals : W9 + (maxL + 11) + rm.locals ≤ R.locals)
    (hws : ∀ w ∈ ws, ∀ a' U, s.WarmedH U.vm → w.before a' U = true) (hcode : Cond.code y bytes maxL ret ∈ ws) (hinit : ∀ a' U, s.WarmedH U.vm → (Cond.initialized y.cls).before a' U = true) :
    vx_Back l R p e below s sargs y len W9 (PreOf R mc ms Pc) (PostOf Qc mc ms free) (vx_Post XC mc ms free) := by
  intro m meth c A g ig mk a X hg hsize hdg hW hn hp
  have h1 : (headSpec ws rm).pre.before a A.U = true := atoms_intro fun w hw => hws w hw _ _ X.warmed
  have h2 : (Cond.code y bytes maxL ret).before a A.U = true := hws _ hcode _ _ X.warmed
  have h3 : (Cond.initialized y.cls).before a A.U = true := hinit _ _ X.warmed
  have h4 : A.cells + (headSpec ws rm).room.cells ≤ R.cells := by rw [show (headSpec ws rm).room.cells = mc from hrc]; exact hp.1
  have h5 : A.slots + (headSpec ws rm).room.slots ≤ R.slots := by rw [show (headSpec ws rm).room.slots = ms from hrs]; exact hp.2.1
  have hPc : Pc a (A.U.calling g mk a) := hblind _ _ _ _ hp.2.2
  obtain ⟨U, Ls, c0, s0⟩ := A
  dsimp only [Pt.U, Pt.locs, Pt.cells, Pt.slots] at h1 h2 h3 h4 h5 X hn hPc ⊢
  obtain ⟨methY, cY, hmY, hcY, -, hlY, -, -, -, -⟩ := Cond.code_spec hn h2
  obtain ⟨kY, hkY, -⟩ := className_of_methodNamed hn
  have hinitY : kY.init = .initialized := Cond.initialized_spec (findClass_of_methodNamed hn) hkY h3
  have h : At U g.method c below := by rw [hg]; exact X.here
  have hlocals9 : W9 + (maxL + 11) + (headSpec ws rm).room.locals ≤ R.locals := hlocals
  have happ : (headSpec ws rm).appliesLoose y e.platform (U.calling g mk a) = true :=
    Spec.appliesLoose_calling (g := g) h hdg hn hkY hinitY
      (X.room_calling (g := g) (R' := (headSpec ws rm).room) hsize hmY hcY hframes (by rw [hlY]; omega) h4 h5) h1
  obtain ⟨mid, hmid⟩ := h.above
  have hfr : (U.setTop g).frames = (.java g :: mid) ++ below := by rw [State.frames_setTop' g h.top, hmid]; rfl
  obtain ⟨o, s₂, hsteps, -, hend, hq⟩ := Steps.callFree hM p X.admits X.cas X.clock (acts := []) hfr happ hPc trivial
  have hq' : vx_Q Qc XC mc ms free a (U.calling g mk a) o s₂ := hq
  rw [State.frames_setTop' g h.top] at hend
  obtain ⟨g₀, hg0⟩ := Option.isSome_iff_exists.mp h.top
  obtain ⟨r, hr⟩ := State.topJava?_eq_some.mp hg0
  have hr' : (({ U with heap := s₂.heap, slotsUsed := s₂.slotsUsed } : State).setVm s₂.vm).frames = .java g₀ :: r := hr
  rcases hq' with ⟨hqc, L, hfe, hL⟩ | ⟨q, rfl, E, ce, L, hx, hce, hcv, hcl, hW₂, hsm, hL⟩
  · obtain ⟨⟨v, rfl⟩, hW₂, e2, q2, q3, q4, q5, q6⟩ := id hfe
    have e3 : s₂ = ({ (U.calling g mk a).setFrames s₂.frames with heap := s₂.heap, slotsUsed := s₂.slotsUsed } : State).setVm s₂.vm := by
      have : s₂ = ({ s₂ with vm := (U.calling g mk a).vm } : State).setVm s₂.vm := rfl
      rw [e2] at this
      exact this
    obtain ⟨c₂, i₂, len₂, hc₂, hd₂, hf₂⟩ := hend
    have hW' : U.WarmedH s₂.vm := hW₂
    have hcc : c₂ = c := by
      have h1 : s₂.code? g.method = U.code? g.method := by
        rw [State.code?_eq, State.code?_eq, hW'.alike.method?]
      exact Option.some.inj (hc₂.symm.trans (h1.trans h.code))
    subst hcc
    have hlen : len₂ = len := by rw [hdg] at hd₂; cases hd₂; rfl
    subst hlen
    have hs₂ : s₂ = (({ U with heap := s₂.heap, slotsUsed := s₂.slotsUsed } : State).setVm s₂.vm).setTop { g with pc := g.pc + len₂, stack := v.toList ++ g.stack } := by
      refine e3.trans ?_
      rw [hf₂, State.calling_eq h.top, State.setFrames_setFrames, State.setTop_of_frames _ hr', hr]
      rfl
    have hsame : U.sameButNew ({ U with heap := s₂.heap, slotsUsed := s₂.slotsUsed } : State) L mc ms := by
      refine ⟨?_, q2, q3, q4, q5, q6⟩
      obtain ⟨t, ht, -⟩ := State.frames_cons hr
      show ({ U with heap := s₂.heap, slotsUsed := s₂.slotsUsed } : State) = { U.setFrames U.frames with heap := s₂.heap, slotsUsed := s₂.slotsUsed }
      rw [State.setFrames_self ht]
    subst hg
    refine Or.inl ⟨v, ⟨(({ U with heap := s₂.heap, slotsUsed := s₂.slotsUsed } : State).setVm s₂.vm), Ls ++ L, c0 + mc, s0 + ms⟩,
      ⟨X.admits, X.cas, X.clock, X.frames, X.room, X.hears, X.method, X.code, (X.here.setHeapUsed s₂.heap s₂.slotsUsed).setVm hW'.alike, X.tail, State.WarmedH.trans X.warmed hW', X.limits, X.bytes, X.same.trans (hsame.setVm s.vm)⟩,
      ⟨g, mk, s₂, L, rfl, rfl, hqc, rfl, hL, rfl, rfl⟩, ?_⟩
    show Steps p.tables e below _ ((({ U with heap := s₂.heap, slotsUsed := s₂.slotsUsed } : State).setVm s₂.vm).setTop { g with pc := g.pc + len₂, stack := v.toList ++ g.stack })
    rw [← hs₂]
    exact hsteps
  · obtain ⟨e2, q2, q3, q4, q5, q6⟩ := id hsm
    have e3 : s₂ = ({ (U.calling g mk a).setFrames s₂.frames with heap := s₂.heap, slotsUsed := s₂.slotsUsed } : State).setVm s₂.vm := by
      have : s₂ = ({ s₂ with vm := (U.calling g mk a).vm } : State).setVm s₂.vm := rfl
      rw [e2] at this
      exact this
    have hf₂ : s₂.frames = .throwing q :: .java g :: U.frames.tail := hend
    have hW' : U.WarmedH s₂.vm := hW₂
    have hs₂ : s₂ = ((({ U with heap := s₂.heap, slotsUsed := s₂.slotsUsed } : State).setVm s₂.vm).setTop g).pushFrame (.throwing q) := by
      refine e3.trans ?_
      rw [hf₂, State.calling_eq h.top, State.setFrames_setFrames, State.pushFrame, State.frames_setTop _ hr', State.setTop_of_frames _ hr', State.setFrames_setFrames, hr]
      rfl
    have hsame : U.sameButNew ({ U with heap := s₂.heap, slotsUsed := s₂.slotsUsed } : State) L mc ms := by
      refine ⟨?_, q2, q3, q4, q5, q6⟩
      obtain ⟨t, ht, -⟩ := State.frames_cons hr
      show ({ U with heap := s₂.heap, slotsUsed := s₂.slotsUsed } : State) = { U.setFrames U.frames with heap := s₂.heap, slotsUsed := s₂.slotsUsed }
      rw [State.setFrames_self ht]
    subst hg
    refine Or.inr ⟨q, ⟨(({ U with heap := s₂.heap, slotsUsed := s₂.slotsUsed } : State).setVm s₂.vm), Ls ++ L, c0 + mc, s0 + ms⟩,
      ⟨X.admits, X.cas, X.clock, X.frames, X.room, X.hears, X.method, X.code, (X.here.setHeapUsed s₂.heap s₂.slotsUsed).setVm hW'.alike, X.tail, State.WarmedH.trans X.warmed hW', X.limits, X.bytes, X.same.trans (hsame.setVm s.vm)⟩,
      ⟨g, mk, s₂, L, E, ce, rfl, rfl, hx, hce, hcv, hcl, rfl, hL, rfl, rfl⟩, ?_⟩
    show Steps p.tables e below _ (((({ U with heap := s₂.heap, slotsUsed := s₂.slotsUsed } : State).setVm s₂.vm).setTop g).pushFrame (.throwing q))
    rw [← hs₂]
    exact hsteps
end Payer
section Calls
variable {p : Program} {l : Launch} {e : Env} {R : Room} {s : State} {m : MethodId} {args : Array Value} {below : List Frame} {meth : Method} {c : Code} {T : State} {locs : List Loc} {cells slots : Nat}
theorem vx_callV (X : Stand p l e R s m args below meth c T locs cells slots) (hexec : p.tables.exec = Jvm.exec) {own C : String} {index : Nat} {y : MethodName} {bytes : ByteArray} {maxL : Nat} {ret : Option FieldType}
    (hown : s.vm.findClass own = some m.cls) (hlink : (Cond.methodLink own index y).before args s = true) (hinst : (Cond.instanceMethod y).before args s = true) (hsel : (Cond.selects C y y).before args s = true)
    (hcode : (Cond.code y bytes maxL ret).before args s = true) (hy : y.cls ≠ "java/lang/invoke/MethodHandle" ∧ y.cls ≠ "java/lang/invoke/VarHandle")
    {W9 : Nat} {Pre : Pt → Array Value → Prop} {Post : Pt → Array Value → Option Value → Pt → Prop} {PostX : Pt → Array Value → Addr → Pt → Prop} (hK : vx_Back l R p e below s args y 3 W9 Pre Post PostX)
    {b : Addr} {cellB : Cell} (hcell : T.heap[b]? = some cellB) (hobj : cellB.vm.isStatics = false) (hcls : s.vm.findClass C = some cellB.cls)
    {g : JFrame} (hg : g.method = m) (hsize : g.locals.size = c.maxLocals) {argsL rest : List Value} (hlen : ∀ sig, parseMethodDescriptor y.desc = some sig → argsL.length = sig.parameters.length)
    (hstack : g.stack = argsL.reverse ++ .ref b :: rest) (hW : 2 * g.monitorRoom + (rest.map fun v => v.category).sum ≤ W9) (hdg : decode c.code g.pc = .ok (.invokevirtual index, 3))
    (hpre : ∀ vm₁, s.WarmedH vm₁ → Pre ⟨T.setVm vm₁, locs, cells, slots⟩ (Value.ref b :: argsL).toArray) :
    (∃ (v : Option Value) (vm₁ : Vm) (B : Pt), s.WarmedH vm₁ ∧ Stand p l e R s m args below meth c B.U B.locs B.cells B.slots ∧ Post ⟨T.setVm vm₁, locs, cells, slots⟩ (Value.ref b :: argsL).toArray v B ∧
      ∀ target, Steps p.tables e below (B.U.setTop { g with pc := g.pc + 3, stack := v.toList ++ rest }) target → Steps p.tables e below (T.setTop g) target) ∨
    (∃ (q : Addr) (vm₁ : Vm) (B : Pt), s.WarmedH vm₁ ∧ Stand p l e R s m args below meth c B.U B.locs B.cells B.slots ∧ PostX ⟨T.setVm vm₁, locs, cells, slots⟩ (Value.ref b :: argsL).toArray q B ∧
      Steps p.tables e below (T.setTop g) ((B.U.setTop { g with stack := rest }).pushFrame (.throwing q))) := by
  obtain ⟨mk, methM, hnamed, hmethM, hstM, habM⟩ := Cond.instanceMethod_spec hinst
  obtain ⟨methM', cM, hmethM', -, -, -, -, -, -, hsigM⟩ := Cond.code_spec hnamed hcode
  cases hmethM.symm.trans hmethM'
  obtain ⟨c2, r2, m2, q1, q2, q3, q4, kP, hkP, hkPi⟩ := Cond.selects_spec hsel
  cases hcls.symm.trans q1
  cases (State.methodFound?_of_named hnamed hy).symm.trans q2
  cases hnamed.symm.trans q3
  have hselP : selectMethod e.platform s.vm cellB.cls mk = .method mk := by rw [Launch.admits_selectMethod X.admits]; exact q4
  obtain ⟨vm₁, X₁, hstep₁⟩ := X.invokevirtual hexec hown hlink hnamed hmethM hstM hkP hkPi hy (a := b) (cell := cellB) hcell
    (fun z h => by rw [h] at hobj; cases hobj) hselP hmethM habM hkP hkPi (g := g) hg (argsL := argsL) (rest := rest) (hlen _ hsigM) hstack hdg
  rcases hK m meth c ⟨T.setVm vm₁, locs, cells, slots⟩ { g with stack := rest } (.invokevirtual index) mk (Value.ref b :: argsL).toArray X₁ hg hsize hdg hW (X₁.named hnamed) (hpre vm₁ X₁.warmed) with ⟨v, B, X', hpost, hsteps⟩ | ⟨q, B, X', hpost, hsteps⟩
  · exact Or.inl ⟨v, vm₁, B, X₁.warmed, X', hpost, fun target h => hstep₁ _ fun acts => by rw [doInvoke_state]; exact hsteps.trans h⟩
  · exact Or.inr ⟨q, vm₁, B, X₁.warmed, X', hpost, hstep₁ _ fun acts => by rw [doInvoke_state]; exact hsteps⟩
theorem vx_callS (X : Stand p l e R s m args below meth c T locs cells slots) (hexec : p.tables.exec = Jvm.exec) {own : String} {index : Nat} {y : MethodName} {bytes : ByteArray} {maxL : Nat} {ret : Option FieldType}
    (hown : s.vm.findClass own = some m.cls) (hlink : (Cond.methodLink own index y).before args s = true) (hstat : (Cond.static y).before args s = true) (hinit : (Cond.initialized y.cls).before args s = true)
    (hcode : (Cond.code y bytes maxL ret).before args s = true) (hy : y.cls ≠ "java/lang/invoke/MethodHandle" ∧ y.cls ≠ "java/lang/invoke/VarHandle")
    {W9 : Nat} {Pre : Pt → Array Value → Prop} {Post : Pt → Array Value → Option Value → Pt → Prop} {PostX : Pt → Array Value → Addr → Pt → Prop} (hK : vx_Back l R p e below s args y 3 W9 Pre Post PostX)
    {g : JFrame} (hg : g.method = m) (hsize : g.locals.size = c.maxLocals) {argsL rest : List Value} (hlen : ∀ sig, parseMethodDescriptor y.desc = some sig → argsL.length = sig.parameters.length)
    (hstack : g.stack = argsL.reverse ++ rest) (hW : 2 * g.monitorRoom + (rest.map fun v => v.category).sum ≤ W9) (hdg : decode c.code g.pc = .ok (.invokestatic index, 3))
    (hpre : ∀ vm₁, s.WarmedH vm₁ → Pre ⟨T.setVm vm₁, locs, cells, slots⟩ argsL.toArray) :
    (∃ (v : Option Value) (vm₁ : Vm) (B : Pt), s.WarmedH vm₁ ∧ Stand p l e R s m args below meth c B.U B.locs B.cells B.slots ∧ Post ⟨T.setVm vm₁, locs, cells, slots⟩ argsL.toArray v B ∧
      ∀ target, Steps p.tables e below (B.U.setTop { g with pc := g.pc + 3, stack := v.toList ++ rest }) target → Steps p.tables e below (T.setTop g) target) ∨
    (∃ (q : Addr) (vm₁ : Vm) (B : Pt), s.WarmedH vm₁ ∧ Stand p l e R s m args below meth c B.U B.locs B.cells B.slots ∧ PostX ⟨T.setVm vm₁, locs, cells, slots⟩ argsL.toArray q B ∧
      Steps p.tables e below (T.setTop g) ((B.U.setTop { g with stack := rest }).pushFrame (.throwing q))) := by
  obtain ⟨mk, hnamed⟩ := Cond.code_named hcode
  obtain ⟨methM, cM, hmethM, -, -, -, -, -, -, hsigM⟩ := Cond.code_spec hnamed hcode
  have hstatic : methM.isStatic = true := Cond.static_spec hnamed hmethM hstat
  obtain ⟨kP, hkP, -⟩ := className_of_methodNamed hnamed
  have hinitP : kP.init = .initialized := Cond.initialized_spec (findClass_of_methodNamed hnamed) hkP hinit
  obtain ⟨vm₁, X₁, hstep₁⟩ := X.invokestatic hexec hown hlink hnamed hmethM hstatic hkP hinitP hy (g := g) hg (argsL := argsL) (rest := rest) (hlen _ hsigM) hstack hdg
  rcases hK m meth c ⟨T.setVm vm₁, locs, cells, slots⟩ { g with stack := rest } (.invokestatic index) mk argsL.toArray X₁ hg hsize hdg hW (X₁.named hnamed) (hpre vm₁ X₁.warmed) with ⟨v, B, X', hpost, hsteps⟩ | ⟨q, B, X', hpost, hsteps⟩
  · exact Or.inl ⟨v, vm₁, B, X₁.warmed, X', hpost, fun target h => hstep₁ _ fun acts => by rw [doInvoke_state]; exact hsteps.trans h⟩
  · exact Or.inr ⟨q, vm₁, B, X₁.warmed, X', hpost, hstep₁ _ fun acts => by rw [doInvoke_state]; exact hsteps⟩
end Calls
theorem vx_cls {s : State} {T : State} {vm₁ : Vm} {E : String} {k : ClassId} (hW : s.WarmedH vm₁) (h : (T.setVm vm₁).vm.findClass E = some k) : s.vm.findClass E = some k := by
  have h1 : vm₁.findClass E = some k := h
  rw [hW.alike.findClass] at h1
  exact h1
/-- the method's frame g, with q thrown over it -/
def vx_W (p : Program) (l : Launch) (e : Env) (R : Room) (s : State) (m : MethodId) (args : Array Value) (below : List Frame) (meth : Method) (c : Code) (H : Heap) (locs : List Loc) (cells slots : Nat) (Q : State → Prop) (g : JFrame) (q : Addr) : Prop :=
  ∀ T : State, T.heap = H → Stand p l e R s m args below meth c T locs cells slots → ∃ t, Steps p.tables e below ((T.setTop g).pushFrame (.throwing q)) t ∧ Q t
def vx_Run (p : Program) (l : Launch) (e : Env) (R : Room) (s : State) (m : MethodId) (args : Array Value) (below : List Frame) (meth : Method) (c : Code) (H : Heap) (locs : List Loc) (cells slots mc ms : Nat) (g : JFrame) (rest : List Value) (Qa : State → Outcome → State → Prop) (XC : String → State → State → Prop) (free : Addr → Prop) : Prop :=
  ∀ T : State, T.heap = H → Stand p l e R s m args below meth c T locs cells slots →
    (∃ (v : Option Value) (st₀ t T' : State) (L : List Loc), st₀.heap = H ∧ Stand p l e R s m args below meth c T' (locs ++ L) (cells + mc) (slots + ms) ∧ (∀ q ∈ L, free q.base) ∧ T'.heap = t.heap ∧ T'.vm = t.vm ∧ Qa st₀ (.returned v) t ∧
      Goes p e below T g T' { g with pc := g.pc + 3, stack := v.toList ++ rest }) ∨
    (∃ (q : Addr) (st₀ t T' : State) (L : List Loc) (E : String) (ce : Cell), st₀.heap = H ∧ Stand p l e R s m args below meth c T' (locs ++ L) (cells + mc) (slots + ms) ∧ (∀ z ∈ L, free z.base) ∧ T'.heap = t.heap ∧ T'.vm = t.vm ∧ XC E st₀ t ∧ t.heap[q]? = some ce ∧ ce.vm = .none ∧ s.vm.findClass E = some ce.cls ∧
      Steps p.tables e below (T.setTop g) ((T'.setTop { g with stack := rest }).pushFrame (.throwing q)))
def vx_X {S : Type} (px : S → Prop) (B : String → S → State → Prop) (A : Nat → Prop) : String → State → State → Prop := fun E st t => ∃ u : S, px u ∧ B E u t ∧ va_F A st t
section Runs
variable {p : Program} {l : Launch} {e : Env} {R : Room} {s : State} {m : MethodId} {args : Array Value} {below : List Frame} {meth : Method} {c : Code} {H : Heap} {locs : List Loc} {cells slots : Nat}
variable {y : MethodName} {bytes cc : ByteArray} {maxL nL mc ms n index : Nat} {ret : Option FieldType} {ws : List Cond} {rm : Room} {Pc : Array Value → State → Prop} {Qc : Array Value → State → Outcome → State → Prop} {XC : String → State → State → Prop} {free : Addr → Prop} {Ts : List Cond} {own C : String} {b : Addr} {As rest : List Value} {g : JFrame}
theorem vx_callBack (cb : CallB R s args own index y bytes maxL ret ws rm mc ms n) (hM : vx_Met l y ws rm Pc Qc XC mc ms free) (hbl : FrameBlind Pc) : vx_Back l R p e below s args y 3 8 (PreOf R mc ms Pc) (PostOf Qc mc ms free) (vx_Post XC mc ms free) := by
  obtain ⟨hrc, hrs, hfr, hlo, hws, hcw, -, hini, -⟩ := cb
  exact vx_back (bytes := bytes) (maxL := maxL) (ret := ret) hM hbl hrc hrs hfr hlo hws hcw (fun a' U hW => word_at hW (Or.inl (by first | rfl | simp [Cond.onTables, Cond.keeps, Cond.steady])) hini)
theorem vx_runV (S : CallFix p m c cc nL s args Ts own) (hM : vx_Met l y ws rm Pc Qc XC mc ms free) (cw : CallW R s args own C index y bytes maxL ret ws rm mc ms n) (hp : PreV s H C b Pc As)
    (hg : g.method = m) (hn : As.length = n) (hsize : g.locals.size = nL) (hstack : g.stack = As.reverse ++ .ref b :: rest) (hW : 2 * g.monitorRoom + (rest.map fun v => v.category).sum ≤ 8) (hdg : decode cc g.pc = .ok (.invokevirtual index, 3)) (hf : cells + mc ≤ R.cells ∧ slots + ms ≤ R.slots) :
    vx_Run p l e R s m args below meth c H locs cells slots mc ms g rest (Qc (Value.ref b :: As).toArray) XC free := by
  have hK : vx_Back l R p e below s args y 3 8 (PreOf R mc ms Pc) (PostOf Qc mc ms free) (vx_Post XC mc ms free) := vx_callBack cw.1 hM hp.1
  obtain ⟨⟨-, -, -, -, -, -, hcode, -, hy, hlen, hl⟩, hin, hse⟩ := cw
  obtain ⟨hx, hb, hml, ho, -⟩ := S
  obtain ⟨-, ⟨cellB, hcB, hoB, hclB⟩, hPc⟩ := hp
  intro T hT X
  rcases vx_callV X hx (C := C) (bytes := bytes) (maxL := maxL) (ret := ret) ho hl hin hse hcode hy hK (by rw [hT]; exact hcB) hoB hclB hg (hsize.trans hml.symm) (argsL := As) (rest := rest) (fun sig h => hn.trans (hlen sig h)) hstack hW (by rw [hb]; exact hdg)
    (fun vm₁ hW₁ => ⟨hf.1, hf.2, hPc (T.setVm vm₁) hT hW₁⟩) with ⟨v, vm₁, ⟨U', l2, c2, s2⟩, hW₁, X', ⟨g', mk, t, L, e1, e2, hq, h1, hL, h2, h3⟩, st⟩ | ⟨q, vm₁, ⟨U', l2, c2, s2⟩, hW₁, X', ⟨g', mk, t, L, E, ce, e1, e2, hq, hce, hcv, hcl, h1, hL, h2, h3⟩, st⟩
  · dsimp only [Pt.U, Pt.locs, Pt.cells, Pt.slots] at X' e1 e2 h1 h2 h3 st
    subst h1; subst h2; subst h3
    exact Or.inl ⟨v, (T.setVm vm₁).calling g' mk (Value.ref b :: As).toArray, t, U', L, hT, X', hL, e1, e2, hq, st⟩
  · dsimp only [Pt.U, Pt.locs, Pt.cells, Pt.slots] at X' e1 e2 h1 h2 h3 st hcl
    subst h1; subst h2; subst h3
    exact Or.inr ⟨q, (T.setVm vm₁).calling g' mk (Value.ref b :: As).toArray, t, U', L, E, ce, hT, X', hL, e1, e2, hq, hce, hcv, vx_cls hW₁ hcl, st⟩
theorem vx_runS (S : CallFix p m c cc nL s args Ts own) (hM : vx_Met l y ws rm Pc Qc XC mc ms free) (cw : CallB R s args own index y bytes maxL ret ws rm mc ms n ∧ (Cond.static y).before args s = true) (hp : PreS s H Pc As)
    (hg : g.method = m) (hn : As.length = n) (hsize : g.locals.size = nL) (hstack : g.stack = As.reverse ++ rest) (hW : 2 * g.monitorRoom + (rest.map fun v => v.category).sum ≤ 8) (hdg : decode cc g.pc = .ok (.invokestatic index, 3)) (hf : cells + mc ≤ R.cells ∧ slots + ms ≤ R.slots) :
    vx_Run p l e R s m args below meth c H locs cells slots mc ms g rest (Qc As.toArray) XC free := by
  have hK : vx_Back l R p e below s args y 3 8 (PreOf R mc ms Pc) (PostOf Qc mc ms free) (vx_Post XC mc ms free) := vx_callBack cw.1 hM hp.1
  obtain ⟨⟨-, -, -, -, -, -, hcode, hini, hy, hlen, hl⟩, hstt⟩ := cw
  obtain ⟨hx, hb, hml, ho, -⟩ := S
  intro T hT X
  rcases vx_callS X hx (bytes := bytes) (maxL := maxL) (ret := ret) ho hl hstt hini hcode hy hK hg (hsize.trans hml.symm) (argsL := As) (rest := rest) (fun sig h => hn.trans (hlen sig h)) hstack hW (by rw [hb]; exact hdg)
    (fun vm₁ hW₁ => ⟨hf.1, hf.2, hp.2 (T.setVm vm₁) hT hW₁⟩) with ⟨v, vm₁, ⟨U', l2, c2, s2⟩, hW₁, X', ⟨g', mk, t, L, e1, e2, hq, h1, hL, h2, h3⟩, st⟩ | ⟨q, vm₁, ⟨U', l2, c2, s2⟩, hW₁, X', ⟨g', mk, t, L, E, ce, e1, e2, hq, hce, hcv, hcl, h1, hL, h2, h3⟩, st⟩
  · dsimp only [Pt.U, Pt.locs, Pt.cells, Pt.slots] at X' e1 e2 h1 h2 h3 st
    subst h1; subst h2; subst h3
    exact Or.inl ⟨v, (T.setVm vm₁).calling g' mk As.toArray, t, U', L, hT, X', hL, e1, e2, hq, st⟩
  · dsimp only [Pt.U, Pt.locs, Pt.cells, Pt.slots] at X' e1 e2 h1 h2 h3 st hcl
    subst h1; subst h2; subst h3
    exact Or.inr ⟨q, (T.setVm vm₁).calling g' mk As.toArray, t, U', L, E, ce, hT, X', hL, e1, e2, hq, hce, hcv, vx_cls hW₁ hcl, st⟩
end Runs
section Rows
variable {p : Program} {l : Launch} {e : Env} {R : Room} {s : State} {m : MethodId} {args : Array Value} {below : List Frame} {meth : Method} {c : Code} {H : Heap} {locs : List Loc} {cells slots : Nat} {Q : State → Prop}
variable {mc ms : Nat} {free : Addr → Prop} {A0 A1 : Nat → Prop} {H0 : Heap} {a : Array Value} {pc : Nat} {ls : Array Slot} {st0 rest : List Value}
theorem vx_keep {st₀ t T' : State} {L : List Loc} (h0 : st₀.heap = H) (e1 : T'.heap = t.heap) (hS : va_S A0 H0 H locs) (hA : ∀ q, q < H.size → A1 q → A0 q) (hf : ∀ q, free q → A0 q) (hL : ∀ q ∈ L, free q.base) (hF : va_F A1 st₀ t) :
    H.size ≤ T'.heap.size ∧ (∀ q : Nat, q < H.size → ¬ A1 q → T'.heap[q]? = H[q]?) ∧ va_S A0 H0 T'.heap (locs ++ L) := by
  obtain ⟨hz, hk⟩ := hF
  rw [h0] at hz hk
  exact ⟨by rw [e1]; exact hz, fun q h1 h2 => by rw [e1]; exact hk q h1 h2,
    ⟨Nat.le_trans hS.1 (by rw [e1]; exact hz), fun q h1 h2 => by rw [e1, hk q (Nat.lt_of_lt_of_le h1 hS.1) (fun z => h2 (hA q (Nat.lt_of_lt_of_le h1 hS.1) z))]; exact hS.2.1 q h1 h2, fun q hq => by
      rcases List.mem_append.mp hq with h | h
      · exact hS.2.2 q h
      · exact hf _ (hL q h)⟩⟩
theorem vx_calli {S SX : Type} {post : Int32 → S → Prop} {px : SX → Prop} {B : S → State → Prop} {BX : String → SX → State → Prop} {AX : Nat → Prop} (hr : vx_Run p l e R s m args below meth c H locs cells slots mc ms (F0 m pc ls st0) rest (va_Qi post B A1 a) (vx_X px BX AX) free) (hS : va_S A0 H0 H locs) (hA : ∀ q, q < H.size → A1 q → A0 q) (hf : ∀ q, free q → A0 q) (hAX : ∀ q, q < H.size → AX q → A0 q)
    (kx : ∀ (E : String) (ce : Cell) (q9 : Addr) (u : SX) (t : State) (H1 : Heap) (locs1 : List Loc), t.heap = H1 → s.vm.Alike t.vm → px u → BX E u t → H.size ≤ H1.size → (∀ q : Nat, q < H.size → ¬ AX q → H1[q]? = H[q]?) → va_S A0 H0 H1 locs1 → H1[q9]? = some ce → ce.vm = .none → s.vm.findClass E = some ce.cls → vx_W p l e R s m args below meth c H1 locs1 (cells + mc) (slots + ms) Q (F0 m pc ls rest) q9)
    (kk : ∀ (r : Int32) (u : S) (t : State) (H1 : Heap) (locs1 : List Loc), t.heap = H1 → s.vm.Alike t.vm → post r u → B u t → H.size ≤ H1.size → (∀ q : Nat, q < H.size → ¬ A1 q → H1[q]? = H[q]?) → va_S A0 H0 H1 locs1 → W p l e R s m args below meth c H1 locs1 (cells + mc) (slots + ms) Q (F0 m (pc + 3) ls (.int r :: rest))) : W p l e R s m args below meth c H locs cells slots Q (F0 m pc ls st0) := by
  intro T hT X
  rcases hr T hT X with ⟨v, st₀, t, T', L, h0, X', hL, e1, e2, ⟨⟨r, u, hv, hp, hb⟩, hF⟩, st⟩ | ⟨q, st₀, t, T', L, E, ce, h0, X', hL, e1, e2, ⟨u, hp, hb, hF⟩, hce, hcv, hcl, st⟩
  · cases hv
    obtain ⟨k1, k2, k3⟩ := vx_keep h0 e1 hS hA hf hL hF
    obtain ⟨t2, a1, b1⟩ := kk r u t T'.heap (locs ++ L) e1.symm (by rw [← e2]; exact X'.warmed.alike) hp hb k1 k2 k3 T' rfl X'
    exact ⟨t2, st t2 a1, b1⟩
  · obtain ⟨k1, k2, k3⟩ := vx_keep h0 e1 hS hAX hf hL hF
    obtain ⟨t2, a1, b1⟩ := kx E ce q u t T'.heap (locs ++ L) e1.symm (by rw [← e2]; exact X'.warmed.alike) hp hb k1 k2 k3 (by rw [e1]; exact hce) hcv hcl T' rfl X'
    exact ⟨t2, st.trans a1, b1⟩
theorem vx_calll {S SX : Type} {post : Int64 → S → Prop} {px : SX → Prop} {B : S → State → Prop} {BX : String → SX → State → Prop} {AX : Nat → Prop} (hr : vx_Run p l e R s m args below meth c H locs cells slots mc ms (F0 m pc ls st0) rest (va_Ql post B A1 a) (vx_X px BX AX) free) (hS : va_S A0 H0 H locs) (hA : ∀ q, q < H.size → A1 q → A0 q) (hf : ∀ q, free q → A0 q) (hAX : ∀ q, q < H.size → AX q → A0 q)
    (kx : ∀ (E : String) (ce : Cell) (q9 : Addr) (u : SX) (t : State) (H1 : Heap) (locs1 : List Loc), t.heap = H1 → s.vm.Alike t.vm → px u → BX E u t → H.size ≤ H1.size → (∀ q : Nat, q < H.size → ¬ AX q → H1[q]? = H[q]?) → va_S A0 H0 H1 locs1 → H1[q9]? = some ce → ce.vm = .none → s.vm.findClass E = some ce.cls → vx_W p l e R s m args below meth c H1 locs1 (cells + mc) (slots + ms) Q (F0 m pc ls rest) q9)
    (kk : ∀ (r : Int64) (u : S) (t : State) (H1 : Heap) (locs1 : List Loc), t.heap = H1 → s.vm.Alike t.vm → post r u → B u t → H.size ≤ H1.size → (∀ q : Nat, q < H.size → ¬ A1 q → H1[q]? = H[q]?) → va_S A0 H0 H1 locs1 → W p l e R s m args below meth c H1 locs1 (cells + mc) (slots + ms) Q (F0 m (pc + 3) ls (.long r :: rest))) : W p l e R s m args below meth c H locs cells slots Q (F0 m pc ls st0) := by
  intro T hT X
  rcases hr T hT X with ⟨v, st₀, t, T', L, h0, X', hL, e1, e2, ⟨⟨r, u, hv, hp, hb⟩, hF⟩, st⟩ | ⟨q, st₀, t, T', L, E, ce, h0, X', hL, e1, e2, ⟨u, hp, hb, hF⟩, hce, hcv, hcl, st⟩
  · cases hv
    obtain ⟨k1, k2, k3⟩ := vx_keep h0 e1 hS hA hf hL hF
    obtain ⟨t2, a1, b1⟩ := kk r u t T'.heap (locs ++ L) e1.symm (by rw [← e2]; exact X'.warmed.alike) hp hb k1 k2 k3 T' rfl X'
    exact ⟨t2, st t2 a1, b1⟩
  · obtain ⟨k1, k2, k3⟩ := vx_keep h0 e1 hS hAX hf hL hF
    obtain ⟨t2, a1, b1⟩ := kx E ce q u t T'.heap (locs ++ L) e1.symm (by rw [← e2]; exact X'.warmed.alike) hp hb k1 k2 k3 (by rw [e1]; exact hce) hcv hcl T' rfl X'
    exact ⟨t2, st.trans a1, b1⟩
theorem vx_callf {S SX : Type} {post : UInt32 → S → Prop} {px : SX → Prop} {B : S → State → Prop} {BX : String → SX → State → Prop} {AX : Nat → Prop} (hr : vx_Run p l e R s m args below meth c H locs cells slots mc ms (F0 m pc ls st0) rest (va_Qf post B A1 a) (vx_X px BX AX) free) (hS : va_S A0 H0 H locs) (hA : ∀ q, q < H.size → A1 q → A0 q) (hf : ∀ q, free q → A0 q) (hAX : ∀ q, q < H.size → AX q → A0 q)
    (kx : ∀ (E : String) (ce : Cell) (q9 : Addr) (u : SX) (t : State) (H1 : Heap) (locs1 : List Loc), t.heap = H1 → s.vm.Alike t.vm → px u → BX E u t → H.size ≤ H1.size → (∀ q : Nat, q < H.size → ¬ AX q → H1[q]? = H[q]?) → va_S A0 H0 H1 locs1 → H1[q9]? = some ce → ce.vm = .none → s.vm.findClass E = some ce.cls → vx_W p l e R s m args below meth c H1 locs1 (cells + mc) (slots + ms) Q (F0 m pc ls rest) q9)
    (kk : ∀ (r : UInt32) (u : S) (t : State) (H1 : Heap) (locs1 : List Loc), t.heap = H1 → s.vm.Alike t.vm → post r u → B u t → H.size ≤ H1.size → (∀ q : Nat, q < H.size → ¬ A1 q → H1[q]? = H[q]?) → va_S A0 H0 H1 locs1 → W p l e R s m args below meth c H1 locs1 (cells + mc) (slots + ms) Q (F0 m (pc + 3) ls (.float r :: rest))) : W p l e R s m args below meth c H locs cells slots Q (F0 m pc ls st0) := by
  intro T hT X
  rcases hr T hT X with ⟨v, st₀, t, T', L, h0, X', hL, e1, e2, ⟨⟨r, u, hv, hp, hb⟩, hF⟩, st⟩ | ⟨q, st₀, t, T', L, E, ce, h0, X', hL, e1, e2, ⟨u, hp, hb, hF⟩, hce, hcv, hcl, st⟩
  · cases hv
    obtain ⟨k1, k2, k3⟩ := vx_keep h0 e1 hS hA hf hL hF
    obtain ⟨t2, a1, b1⟩ := kk r u t T'.heap (locs ++ L) e1.symm (by rw [← e2]; exact X'.warmed.alike) hp hb k1 k2 k3 T' rfl X'
    exact ⟨t2, st t2 a1, b1⟩
  · obtain ⟨k1, k2, k3⟩ := vx_keep h0 e1 hS hAX hf hL hF
    obtain ⟨t2, a1, b1⟩ := kx E ce q u t T'.heap (locs ++ L) e1.symm (by rw [← e2]; exact X'.warmed.alike) hp hb k1 k2 k3 (by rw [e1]; exact hce) hcv hcl T' rfl X'
    exact ⟨t2, st.trans a1, b1⟩
theorem vx_calld {S SX : Type} {post : UInt64 → S → Prop} {px : SX → Prop} {B : S → State → Prop} {BX : String → SX → State → Prop} {AX : Nat → Prop} (hr : vx_Run p l e R s m args below meth c H locs cells slots mc ms (F0 m pc ls st0) rest (va_Qd post B A1 a) (vx_X px BX AX) free) (hS : va_S A0 H0 H locs) (hA : ∀ q, q < H.size → A1 q → A0 q) (hf : ∀ q, free q → A0 q) (hAX : ∀ q, q < H.size → AX q → A0 q)
    (kx : ∀ (E : String) (ce : Cell) (q9 : Addr) (u : SX) (t : State) (H1 : Heap) (locs1 : List Loc), t.heap = H1 → s.vm.Alike t.vm → px u → BX E u t → H.size ≤ H1.size → (∀ q : Nat, q < H.size → ¬ AX q → H1[q]? = H[q]?) → va_S A0 H0 H1 locs1 → H1[q9]? = some ce → ce.vm = .none → s.vm.findClass E = some ce.cls → vx_W p l e R s m args below meth c H1 locs1 (cells + mc) (slots + ms) Q (F0 m pc ls rest) q9)
    (kk : ∀ (r : UInt64) (u : S) (t : State) (H1 : Heap) (locs1 : List Loc), t.heap = H1 → s.vm.Alike t.vm → post r u → B u t → H.size ≤ H1.size → (∀ q : Nat, q < H.size → ¬ A1 q → H1[q]? = H[q]?) → va_S A0 H0 H1 locs1 → W p l e R s m args below meth c H1 locs1 (cells + mc) (slots + ms) Q (F0 m (pc + 3) ls (.double r :: rest))) : W p l e R s m args below meth c H locs cells slots Q (F0 m pc ls st0) := by
  intro T hT X
  rcases hr T hT X with ⟨v, st₀, t, T', L, h0, X', hL, e1, e2, ⟨⟨r, u, hv, hp, hb⟩, hF⟩, st⟩ | ⟨q, st₀, t, T', L, E, ce, h0, X', hL, e1, e2, ⟨u, hp, hb, hF⟩, hce, hcv, hcl, st⟩
  · cases hv
    obtain ⟨k1, k2, k3⟩ := vx_keep h0 e1 hS hA hf hL hF
    obtain ⟨t2, a1, b1⟩ := kk r u t T'.heap (locs ++ L) e1.symm (by rw [← e2]; exact X'.warmed.alike) hp hb k1 k2 k3 T' rfl X'
    exact ⟨t2, st t2 a1, b1⟩
  · obtain ⟨k1, k2, k3⟩ := vx_keep h0 e1 hS hAX hf hL hF
    obtain ⟨t2, a1, b1⟩ := kx E ce q u t T'.heap (locs ++ L) e1.symm (by rw [← e2]; exact X'.warmed.alike) hp hb k1 k2 k3 (by rw [e1]; exact hce) hcv hcl T' rfl X'
    exact ⟨t2, st.trans a1, b1⟩
theorem vx_callv {S SX : Type} {post : S → Prop} {px : SX → Prop} {B : S → State → Prop} {BX : String → SX → State → Prop} {AX : Nat → Prop} (hr : vx_Run p l e R s m args below meth c H locs cells slots mc ms (F0 m pc ls st0) rest (va_Qv post B A1 a) (vx_X px BX AX) free) (hS : va_S A0 H0 H locs) (hA : ∀ q, q < H.size → A1 q → A0 q) (hf : ∀ q, free q → A0 q) (hAX : ∀ q, q < H.size → AX q → A0 q)
    (kx : ∀ (E : String) (ce : Cell) (q9 : Addr) (u : SX) (t : State) (H1 : Heap) (locs1 : List Loc), t.heap = H1 → s.vm.Alike t.vm → px u → BX E u t → H.size ≤ H1.size → (∀ q : Nat, q < H.size → ¬ AX q → H1[q]? = H[q]?) → va_S A0 H0 H1 locs1 → H1[q9]? = some ce → ce.vm = .none → s.vm.findClass E = some ce.cls → vx_W p l e R s m args below meth c H1 locs1 (cells + mc) (slots + ms) Q (F0 m pc ls rest) q9)
    (kk : ∀ (u : S) (t : State) (H1 : Heap) (locs1 : List Loc), t.heap = H1 → s.vm.Alike t.vm → post u → B u t → H.size ≤ H1.size → (∀ q : Nat, q < H.size → ¬ A1 q → H1[q]? = H[q]?) → va_S A0 H0 H1 locs1 → W p l e R s m args below meth c H1 locs1 (cells + mc) (slots + ms) Q (F0 m (pc + 3) ls (rest))) : W p l e R s m args below meth c H locs cells slots Q (F0 m pc ls st0) := by
  intro T hT X
  rcases hr T hT X with ⟨v, st₀, t, T', L, h0, X', hL, e1, e2, ⟨⟨u, hv, hp, hb⟩, hF⟩, st⟩ | ⟨q, st₀, t, T', L, E, ce, h0, X', hL, e1, e2, ⟨u, hp, hb, hF⟩, hce, hcv, hcl, st⟩
  · cases hv
    obtain ⟨k1, k2, k3⟩ := vx_keep h0 e1 hS hA hf hL hF
    obtain ⟨t2, a1, b1⟩ := kk u t T'.heap (locs ++ L) e1.symm (by rw [← e2]; exact X'.warmed.alike) hp hb k1 k2 k3 T' rfl X'
    exact ⟨t2, st t2 a1, b1⟩
  · obtain ⟨k1, k2, k3⟩ := vx_keep h0 e1 hS hAX hf hL hF
    obtain ⟨t2, a1, b1⟩ := kx E ce q u t T'.heap (locs ++ L) e1.symm (by rw [← e2]; exact X'.warmed.alike) hp hb k1 k2 k3 (by rw [e1]; exact hce) hcv hcl T' rfl X'
    exact ⟨t2, st.trans a1, b1⟩
/-- caught by the first row of this method's table -/
theorem mc_catch {own name : String} {E : String} {ce : Cell} {q : Addr} (hown : s.vm.findClass own = some m.cls) (x : ExceptionTableEntry) (suf : List ExceptionTableEntry) (hsplit : c.exceptionTable.toList = x :: suf)
    (hx : covers x pc = true) (h0 : x.catchType ≠ 0) (hlink : (Cond.classLink own x.catchType name).before args s = true) (hcast : (Cond.castable E name).before args s = true) (hcell : H[q]? = some ce) (hv : ce.vm = .none) (hcl : s.vm.findClass E = some ce.cls)
    (kk : W p l e R s m args below meth c H locs cells slots Q (F0 m x.handlerPc ls [.ref q])) : vx_W p l e R s m args below meth c H locs cells slots Q (F0 m pc ls rest) q := by
  intro T hT X
  have hpl : e.platform.magicAccessors = ({} : Platform).magicAccessors := by rw [X.admits.platform]
  obtain ⟨c3, cT, hc3, hcT, hasg⟩ := Cond.castable_spec hcast
  cases Option.some.inj (hc3.symm.trans hcl)
  obtain ⟨c5, hc5, hln⟩ := Cond.classLink_spec hown hlink e.platform hpl
  cases Option.some.inj (hcT.symm.trans hc5)
  obtain ⟨dk, _, _, kt, hd, _, _, _, _, hkt, _, hopen⟩ := hln.here
  have hlT := X.warmed.classLinks hln
  have hWn : s.WarmedH (T.vm.noted m.cls x.catchType (.cls cT)) := X.warmed.noted hd hopen (State.rightAt_cls hln)
  have hal := X.warmed.alike
  obtain ⟨k9, h9, -⟩ := Vm.findClass_spec hcl
  obtain ⟨kc, hkc, -⟩ := hal.2.2 _ _ h9
  obtain ⟨kt2, hkt2, -⟩ := hal.2.2 _ _ hkt
  have hfit : T.vm.assignable ce.cls cT = true := by rw [hal.assignable]; exact hasg
  have hcT2 : T.heap[q]? = some ce := by rw [hT]; exact hcell
  have hst : ∀ k, ce.vm ≠ .statics k := VmData.ne_statics_of (by rw [hv]; rfl)
  have hal2 : T.vm.Alike (T.vm.noted m.cls x.catchType (.cls cT)) := (Vm.Alike.refl T.vm).noted _ _ _
  obtain ⟨kc3, hkc3, -⟩ := hal2.2.2 _ _ hkc
  obtain ⟨kt3, hkt3, -⟩ := hal2.2.2 _ _ hkt2
  have hfit3 : (T.vm.noted m.cls x.catchType (.cls cT)).assignable ce.cls cT = true := by rw [hal2.assignable]; exact hfit
  obtain ⟨ha, ht⟩ := (resolveClass_links e.toSetting hlT).op (op := VmOp.resolveClass m.cls x.catchType) rfl
  have hm9 : T.vm.method? m = some meth := X.method'
  obtain ⟨S, hSe⟩ : ∃ z, z = (T.setTop (F0 m pc ls rest)).pushFrame (.throwing q) := ⟨_, rfl⟩
  have hSv : S.vm = T.vm := by rw [hSe]; exact Stand.throwing_vm T _ q
  have hSh : S.heap = T.heap := by rw [hSe]; exact Stand.throwing_heap T _ q
  have hfind : ∀ (Q : Handler → Pre) (E : CtlPost) (d : Bool) (acts : List Action), wp (findHandler (F0 m pc ls rest) q) Q E e d acts S ↔ Q (.found x.handlerPc) d acts (S.setVm (T.vm.noted m.cls x.catchType (.cls cT))) := by
    intro Q E d acts
    rw [W.findHandler_eq (meth := meth) (code := c) (by rw [hSv]; exact hm9) X.code, hsplit]
    simp only [covers] at hx
    rw [← hSv] at ha ht hkc3 hkt3 hfit3 ⊢
    rw [← hSh] at hcT2
    simp [findHandler.go, F0, hx, h0, ha, ht, hcT2, hst, hkc3, hkt3, hfit3, VmOp.dirties, VmOp.acts]
  obtain ⟨t, a1, b1⟩ := kk (T.setVm (T.vm.noted m.cls x.catchType (.cls cT))) hT (X.noted hWn)
  refine ⟨t, ?_, b1⟩
  obtain ⟨hgo, hw⟩ := X.here.throwing (g := F0 m pc ls rest) q
  refine Steps.head hgo hw ?_
  obtain ⟨g0, hg0⟩ := Option.isSome_iff_exists.mp X.here.top
  obtain ⟨r, hr⟩ := State.topJava?_eq_some.mp hg0
  have hstep : (stepThrowing e S q (.java (F0 m pc ls rest) :: r)).1 = (S.setVm (T.vm.noted m.cls x.catchType (.cls cT))).setFrames (.java { (F0 m pc ls rest) with pc := x.handlerPc, stack := [.ref q] } :: r) := by
    simp only [stepThrowing, searchFrame, vmDo]
    generalize hres : Sem.go _ e false [] S = res
    obtain ⟨as, rfl, ha9⟩ := Sem.eq_ok_of hres (a := Handler.found x.handlerPc) (s' := S.setVm (T.vm.noted m.cls x.catchType (.cls cT))) (acts' := []) (by simp [hfind _ _ _ _])
    rfl
  rw [stepThread_throwing (frames_entered X.here.top _), hr, List.tail_cons, ← hSe, hstep, hSe]
  have hr2 : (T.setVm (T.vm.noted m.cls x.catchType (.cls cT))).frames = .java g0 :: r := hr
  rw [State.setTop_of_frames _ hr2] at a1
  have hfr : ∀ (u : State) (v : Vm) (F G : List Frame), ((u.setFrames F).setVm v).setFrames G = (u.setVm v).setFrames G := fun u v F G => by
    have h1 : (u.setFrames F).setVm v = (u.setVm v).setFrames F := rfl
    rw [h1, State.setFrames_setFrames]
  rw [State.pushFrame, hfr, State.setTop_of_frames _ hr, hfr]
  exact a1
end Rows
section Ends
variable {p : Program} {l : Launch} {e : Env} {R : Room} {s : State} {m : MethodId} {args : Array Value} {below : List Frame} {meth : Method} {c : Code} {H : Heap} {locs : List Loc} {cells slots : Nat} {Q : State → Prop}
variable {mc ms : Nat} {free : Addr → Prop} {A0 A1 : Nat → Prop} {H0 : Heap} {a : Array Value} {ls : Array Slot} {st0 rest : List Value}
variable {Qc : Array Value → State → Outcome → State → Prop} {XC : String → State → State → Prop}
/-- what a body that may throw owes at its end -/
def vx_MQ (below : List Frame) (Qc : Array Value → State → Outcome → State → Prop) (XC : String → State → State → Prop) (a : Array Value) (s : State) (mc ms : Nat) (free : Addr → Prop) : State → Prop := fun t =>
  ∃ o, t.status = .running ∧ Ended t below o ∧ vx_Q Qc XC mc ms free a s o t
theorem vx_ret {g : JFrame} {mc ms : Nat} (k : W p l e R s m args below meth c H locs cells slots (MQ below Qc args s mc ms free) g) : W p l e R s m args below meth c H locs cells slots (vx_MQ below Qc XC args s mc ms free) g := by
  intro T hT X
  obtain ⟨t, a1, o, b1, b2, b3, b4⟩ := k T hT X
  exact ⟨t, a1, o, b1, b2, Or.inl ⟨b3, b4⟩⟩
/-- not caught here: it goes on to the caller -/
theorem vx_widen {g : JFrame} {q : Addr} {k n : Nat} (h1 : cells ≤ k) (h2 : slots ≤ n) (kk : vx_W p l e R s m args below meth c H locs k n Q g q) : vx_W p l e R s m args below meth c H locs cells slots Q g q := fun T hT X => kk T hT (stand_widen X h1 h2)
theorem vx_out {pc : Nat} {E : String} {ce : Cell} {q : Addr} {mc ms : Nat} (hout : ∀ x ∈ c.exceptionTable.toList, covers x pc = false) (hlocks : meth.locks = false) (hcell : H[q]? = some ce) (hv : ce.vm = .none) (hcl : s.vm.findClass E = some ce.cls)
    (hx : ∀ t : State, t.heap = H → s.vm.Alike t.vm → XC E s t) (hf : ∀ z ∈ locs, free z.base) (hc : cells ≤ mc) (hs : slots ≤ ms) :
    vx_W p l e R s m args below meth c H locs cells slots (vx_MQ below Qc XC args s mc ms free) (F0 m pc ls rest) q := by
  intro T hT X
  obtain ⟨st1, hrun, hend, hW, hsm⟩ := X.leaveThrown q (g := F0 m pc ls rest) rfl rfl rfl hout hlocks
  have hcell9 : (T.setFrames (.throwing q :: below)).heap[q]? = some ce := by
    show T.heap[q]? = some ce
    rw [hT]; exact hcell
  exact ⟨_, st1, .threw q, hrun, hend, Or.inr ⟨q, rfl, E, ce, locs, hx _ hT hW.alike, hcell9, hv, hcl, hW, hsm.mono hc hs, hf⟩⟩
theorem vx_frame {U : State} {k n : Nat} (h : s.sameButNew ({ U with vm := s.vm } : State) locs k n) : s.heap.size ≤ U.heap.size ∧ ∀ q : Nat, q < s.heap.size → (∀ z ∈ locs, z.base ≠ q) → U.heap[q]? = s.heap[q]? := by
  obtain ⟨-, h2, -, -, -, h6⟩ := h
  refine ⟨h2, fun q hq hz => ?_⟩
  obtain ⟨c9, e1, e2, e3, e4⟩ := h6 q _ (Array.getElem?_eq_getElem hq)
  have hs : c9.slots = (s.heap[q]).slots := Array.ext_getElem? fun i => e4 i fun hm => hz _ hm rfl
  have h9 : c9 = s.heap[q] := by
    rw [hs] at e2
    exact e2
  have e5 : U.heap[q]? = some c9 := e1
  rw [e5, h9, Array.getElem?_eq_getElem hq]
/-- the words of a throw but the four that speak of the heap -/
def vx_no (w : Cond) : Bool := decide (w ≠ .isRef (.static Bundle.tN "UNASSIGNED_STACK" Bundle.steD)) && decide (w ≠ .isRef (.static Bundle.tN "SUPPRESSED_SENTINEL" Bundle.listD)) && decide (w ≠ .laysStatic Bundle.tN "UNASSIGNED_STACK" Bundle.steD) && decide (w ≠ .laysStatic Bundle.tN "SUPPRESSED_SENTINEL" Bundle.listD)
def vx_at0 (own : String) (ic : Nat) (X : String) (names : List String) : List Cond := (Bundle.ownAtoms0 own ic X names).filter vx_no
def vx_atS (own : String) (ic : Nat) (X : String) (names : List String) : List Cond := (Bundle.ownAtoms own ic X names).filter vx_no
/-- a word that the tables alone decide, or a good one -/
def vx_ot (w : Cond) : Bool := w.onTables || goodWord w
theorem vx_ot_at {args a' : Array Value} {s U : State} {w : Cond} (hW : s.WarmedH U.vm) (hvm : s.vm = U.vm) (hg : vx_ot w = true) (h : w.before args s = true) : w.before a' U = true := by
  simp only [vx_ot, Bool.or_eq_true] at hg
  rcases hg with hg | hg
  · exact va_tabs hg hvm h
  · exact word_at hW (good_of_word hg) h
/-- a list's words: the good ones out of the method's own list, the others by premises of their own -/
theorem vx_hat {args : Array Value} {s : State} {L B : List Cond} (h1 : ∀ w ∈ L.filter goodWord, w.before args s = true) (h2 : ∀ w ∈ L.filter (fun w => !goodWord w), w ∈ B) (h3 : ∀ w ∈ B, w.before args s = true) : ∀ w ∈ L, w.before args s = true := by
  intro w hw
  by_cases g : goodWord w = true
  · exact h1 w (List.mem_filter.mpr ⟨hw, g⟩)
  · refine h3 w (h2 w (List.mem_filter.mpr ⟨hw, ?_⟩))
    show (!goodWord w) = true
    cases hgw : goodWord w
    · rfl
    · exact absurd hgw g
theorem vx_c {args : Array Value} {s : State} {w : Cond} {B : List Cond} (h : w.before args s = true) (t : ∀ w ∈ B, w.before args s = true) : ∀ w' ∈ w :: B, w'.before args s = true := fun w' h' => (List.mem_cons.mp h').elim (fun e => by rw [e]; exact h) (t w')
theorem vx_n {args : Array Value} {s : State} : ∀ w ∈ ([] : List Cond), w.before args s = true := fun _ h => nomatch h
theorem vx_own {args : Array Value} {s : State} {L : List Cond} (h1 : ∀ w ∈ L.filter vx_no, w.before args s = true)
    (hU : (Cond.isRef (.static Bundle.tN "UNASSIGNED_STACK" Bundle.steD)).before args s = true) (hN : (Cond.isRef (.static Bundle.tN "SUPPRESSED_SENTINEL" Bundle.listD)).before args s = true)
    (lU : (Cond.laysStatic Bundle.tN "UNASSIGNED_STACK" Bundle.steD).before args s = true) (lN : (Cond.laysStatic Bundle.tN "SUPPRESSED_SENTINEL" Bundle.listD).before args s = true) : ∀ w ∈ L, w.before args s = true := by
  intro w hw
  by_cases e1 : w = .isRef (.static Bundle.tN "UNASSIGNED_STACK" Bundle.steD)
  · rw [e1]; exact hU
  · by_cases e2 : w = .isRef (.static Bundle.tN "SUPPRESSED_SENTINEL" Bundle.listD)
    · rw [e2]; exact hN
    · by_cases e3 : w = .laysStatic Bundle.tN "UNASSIGNED_STACK" Bundle.steD
      · rw [e3]; exact lU
      · by_cases e4 : w = .laysStatic Bundle.tN "SUPPRESSED_SENTINEL" Bundle.listD
        · rw [e4]; exact lN
        · exact h1 w (List.mem_filter.mpr ⟨hw, by unfold vx_no; rw [decide_eq_true e1, decide_eq_true e2, decide_eq_true e3, decide_eq_true e4]; rfl⟩)
/-- where a static field lies, its class's statics cell in H -/
def vx_L (C n d : String) (A : Nat → Prop) (U : State) (H : Heap) : Prop := ∃ (c : ClassId) (k : Class) (i : Nat) (f : Field) (a : Nat) (cell : Cell), U.vm.findClass C = some c ∧ U.fieldFound? C n d = some (c, k, i, f) ∧ f.isStatic = true ∧ k.statics = some a ∧ H[a]? = some cell ∧ cell.vm.isStatics = true ∧ cell.cls = c ∧ f.slot < cell.slots.size ∧ k.staticTypes[f.slot]? = some f.type ∧ ¬ A a
theorem vx_L.moved {C n d : String} {A : Nat → Prop} {u U : State} {H : Heap} (hvm : u.vm.Alike U.vm) (h : vx_L C n d A u H) : vx_L C n d A U H := by
  obtain ⟨c, k, i, f, a, cell, h1, h2, h3, h4, h5, h6, h7, h8, h9, h10⟩ := h
  obtain ⟨k', hi', he⟩ := State.fieldFound?_setVm hvm h2
  exact ⟨c, k', i, f, a, cell, by rw [hvm.findClass]; exact h1, hi', h3, by rw [he]; exact h4, h5, h6, h7, h8, by rw [he]; exact h9, h10⟩
theorem vx_L.kept {C n d : String} {A : Nat → Prop} {U : State} {H H1 : Heap} (h : vx_L C n d A U H) (hq : ∀ a : Nat, a < H.size → ¬ A a → H1[a]? = H[a]?) : vx_L C n d A U H1 := by
  obtain ⟨c, k, i, f, a, cell, h1, h2, h3, h4, h5, h6, h7, h8, h9, h10⟩ := h
  exact ⟨c, k, i, f, a, cell, h1, h2, h3, h4, by rw [hq a (Array.getElem?_eq_some_iff.mp h5).1 h10]; exact h5, h6, h7, h8, h9, h10⟩
theorem vx_L.narrow {C n d : String} {A B : Nat → Prop} {U : State} {H : Heap} (h : vx_L C n d A U H) (hAB : ∀ q, B q → A q) : vx_L C n d B U H := by
  obtain ⟨c, k, i, f, a, cell, h1, h2, h3, h4, h5, h6, h7, h8, h9, h10⟩ := h
  exact ⟨c, k, i, f, a, cell, h1, h2, h3, h4, h5, h6, h7, h8, h9, fun z => h10 (hAB _ z)⟩
theorem vx_L.word {C n d : String} {A : Nat → Prop} {s : State} {args : Array Value} (h : vx_L C n d A s s.heap) : (Cond.laysStatic C n d).before args s = true := by
  obtain ⟨c, k, i, f, a, cell, h1, h2, h3, h4, h5, h6, h7, h8, h9, -⟩ := h
  show (Cond.laysStatic C n d).holds args s none s [] = true
  exact Cond.laysStatic_of h1 h2 h3 h4 h5 h6 h7 h8 h9
/-- .. and what it holds: null or some reference -/
def vx_Zq (C n d : String) (A : Nat → Prop) (U : State) (H : Heap) : Prop := va_Zq C n d A U H ∧ vx_L C n d A U H
theorem vx_Zq.moved {C n d : String} {A : Nat → Prop} {u U : State} {H : Heap} (hvm : u.vm.Alike U.vm) (h : vx_Zq C n d A u H) : vx_Zq C n d A U H := ⟨va_Zq.moved hvm h.1, vx_L.moved hvm h.2⟩
theorem vx_Zq.kept {C n d : String} {A : Nat → Prop} {U : State} {H H1 : Heap} (h : vx_Zq C n d A U H) (hq : ∀ a : Nat, a < H.size → ¬ A a → H1[a]? = H[a]?) : vx_Zq C n d A U H1 := ⟨va_Zq.kept h.1 hq, vx_L.kept h.2 hq⟩
theorem vx_Zq.narrow {C n d : String} {A B : Nat → Prop} {U : State} {H : Heap} (h : vx_Zq C n d A U H) (hAB : ∀ q, B q → A q) : vx_Zq C n d B U H := ⟨va_Zq.narrow h.1 hAB, vx_L.narrow h.2 hAB⟩
theorem vx_Zqof {args : Array Value} {s : State} {C n d : String} {A : Nat → Prop} (hl : (Cond.laysStatic C n d).before args s = true) (hini : (Cond.initialized C).before args s = true) (h : (Cond.isRef (.static C n d)).before args s = true) (hA : ∀ a : Nat, a < s.heap.size → ¬ A a) : vx_Zq C n d A s s.heap := by
  refine ⟨va_Zqof hl hini h hA, ?_⟩
  obtain ⟨c, k, i, f, a, cell, h1, h2, h3, h4, h5, h6, h7, h8, h9⟩ := Cond.laysStatic_spec hl
  exact ⟨c, k, i, f, a, cell, h1, h2, h3, h4, h5, h6, h7, h8, h9, hA a (Array.getElem?_eq_some_iff.mp h5).1⟩
theorem vx_isRef {C n d : String} {v : Value} {A : Nat → Prop} {s : State} {args : Array Value} (h : va_Z C n d v A s s.heap) (hv : v.isRef = true) : (Cond.isRef (.static C n d)).before args s = true := by
  obtain ⟨cf, kf, fi, f, a, cell, h1, h2, h3, h4, h5, h6, h7, -⟩ := h
  have he : (Term.static C n d).eval args s none [] s = some v := by
    simp [Term.eval, State.fieldNamed?, h1, h2, h4, h5, h6, h7]
  simp only [Cond.before, Cond.holds, Cond.value, he]
  cases v <;> simp_all [Value.isRef]
theorem vx_isRefq {C n d : String} {A : Nat → Prop} {s : State} {args : Array Value} (h : va_Zq C n d A s s.heap) : (Cond.isRef (.static C n d)).before args s = true := by
  rcases h with h | ⟨t, h⟩
  · exact vx_isRef h rfl
  · exact vx_isRef h rfl
/-- the same frame, seen from here: as if the method were called anew in this heap -/
theorem vx_rebase {T : State} (X : Stand p l e R s m args below meth c T locs cells slots) {R' : Room} (hf : R'.frames ≤ R.frames) (hl : R'.locals ≤ R.locals) (hc : cells + R'.cells ≤ R.cells) (hs : slots + R'.slots ≤ R.slots) :
    Stand p l e R' ((T.setVm s.vm).setFrames (.invoking m args :: below)) m args below meth c T [] 0 0 := by
  have htop : (T.setVm s.vm).topJava?.isSome := X.here.top
  have hF : ((T.setVm s.vm).setFrames (.invoking m args :: below)).frames = .invoking m args :: below := State.frames_setFrames _ (State.cur_lt_of_top htop)
  obtain ⟨g₀, hg0⟩ := Option.isSome_iff_exists.mp htop
  obtain ⟨r, hr⟩ := State.topJava?_eq_some.mp hg0
  have hl9 : e.platform.stackLimits (T.setVm s.vm).me = e.platform.stackLimits s.me := X.limits
  have hb9 : (T.setVm s.vm).me.stackBytes = s.me.stackBytes := X.bytes
  refine ⟨X.admits, X.cas, X.clock, hF, ?_, X.hears, X.method, X.code, X.here, X.tail, X.warmed, ?_, ?_, ?_⟩
  · have h := X.room
    have hU : ((T.setVm s.vm).setFrames (.invoking m args :: below)).localsInUse = s.localsInUse := by
      rw [State.localsInUse_invoking hF (meth := meth) (c := c) X.method X.code, State.localsInUse_invoking X.frames X.method X.code]
    simp only [State.hasRoom, Bool.and_eq_true, decide_eq_true_eq] at h ⊢
    obtain ⟨⟨⟨⟨h1, h2, h3, h4, h5, h6⟩, h7⟩, h8⟩, h9⟩ := h
    rw [X.frames, List.length_cons] at h2 h3
    have q1 := X.heapSize
    have q2 := X.used
    simp only [hF, hU, List.length_cons, State.stackLimits_setFrames, State.stackBytes_setFrames, hl9, hb9]
    refine ⟨⟨⟨⟨by omega, by omega, by omega, by omega, by omega, h6⟩, ?_⟩, ?_⟩, X.book⟩
    · show T.heap.size + R'.cells ≤ e.platform.maxCells
      omega
    · show T.slotsUsed + R'.slots ≤ e.platform.maxSlots
      omega
  · rw [State.stackLimits_setFrames]; rfl
  · rw [State.stackBytes_setFrames]; rfl
  · refine ⟨?_, Nat.le_refl _, Nat.le_refl _, ?_, ?_, fun a c9 h9 => ⟨c9, h9, rfl, rfl, fun _ _ => rfl⟩⟩
    · obtain ⟨t, ht, -⟩ := State.frames_cons hr
      show T.setVm s.vm = { ((T.setVm s.vm).setFrames (.invoking m args :: below)).setFrames (T.setVm s.vm).frames with heap := T.heap, slotsUsed := T.slotsUsed }
      rw [State.setFrames_setFrames, State.setFrames_self ht]
      rfl
    · show T.slotsUsed = T.slotsUsed + ((T.heap.toList.drop T.heap.size).map (·.slots.size)).sum
      rw [List.drop_eq_nil_of_le (Nat.le_of_eq Array.length_toList)]
      rfl
    · show ((T.heap.toList.drop T.heap.size).map (·.slots.size)).sum ≤ 0
      rw [List.drop_eq_nil_of_le (Nat.le_of_eq Array.length_toList)]
      exact Nat.le_refl _
/-- 'throw new E()': new; dup; invokespecial; athrow -/
theorem vx_throw0 {cc : ByteArray} {pc : Nat} (hexec : p.tables.exec = Jvm.exec) (hb : c.code = cc) (hl : l.stackTraces = false) {own cls : String} {names : List String} {ik ic mc ms : Nat} {A : Nat → Prop}
    (hown : s.vm.findClass own = some m.cls) (hcls : Bundle.fit cls = true) (hnames : ∀ n ∈ names, Bundle.fit n = true)
    (hk : (Cond.classLink own ik cls).before args s = true) (hini : (Cond.initialized cls).before args s = true) (hat : ∀ w ∈ vx_at0 own ic cls names, w.before args s = true)
    (hgood : ∀ w ∈ Cond.classLink own ik cls :: Cond.initialized cls :: vx_at0 own ic cls names, vx_ot w = true)
    (hU : vx_Zq Bundle.tN "UNASSIGNED_STACK" Bundle.steD A s s.heap) (hN : vx_Zq Bundle.tN "SUPPRESSED_SENTINEL" Bundle.listD A s s.heap) (hS : va_S A s.heap H locs) (hsize : ls.size = c.maxLocals)
    (d0 : decode cc pc = .ok (.new ik, 3)) (d3 : decode cc (pc + 3) = .ok (.dup, 1)) (d4 : decode cc (pc + 4) = .ok (.invokespecial ic, 3)) (d7 : decode cc (pc + 7) = .ok (.athrow, 1))
    (hout : ∀ x ∈ c.exceptionTable.toList, covers x (pc + 7) = false)
    (hRframes : names.length + 3 < R.frames) (hRlocals : (rest.map fun v => v.category).sum + (13 * (names.length + 1) + 42) ≤ R.locals) (hRcells : cells + 1 ≤ R.cells) (hRslots : slots + 6 ≤ R.slots) (hlocks : meth.locks = false)
    (hx : ∀ t : State, s.vm.Alike t.vm → H.size ≤ t.heap.size → (∀ q : Nat, q < H.size → t.heap[q]? = H[q]?) → XC cls s t)
    (hf : ∀ z ∈ locs, free z.base) (hc : cells + 1 ≤ mc) (hs : slots + 6 ≤ ms) :
    W p l e R s m args below meth c H locs cells slots (vx_MQ below Qc XC args s mc ms free) (F0 m pc ls rest) := by
  intro T hT X
  have htr : e.platform.stackTraces = false := (show e.platform.stackTraces = l.stackTraces by rw [X.admits.platform]).trans hl
  have Y := vx_rebase X (R' := { frames := R.frames, locals := R.locals, cells := 1, slots := 6 }) (Nat.le_refl _) (Nat.le_refl _) hRcells hRslots
  obtain ⟨s', hA⟩ : ∃ z, z = (T.setVm s.vm).setFrames (.invoking m args :: below) := ⟨_, rfl⟩
  rw [← hA] at Y
  have hvm : s'.vm = s.vm := by rw [hA]; rfl
  have hhp : s'.heap = H := by rw [hA]; exact hT
  have hW0 : s.WarmedH s'.vm := by rw [hvm]; exact State.WarmedH.refl s
  have hat' : ∀ w ∈ vx_at0 own ic cls names, w.before args s' = true := fun w hw => vx_ot_at hW0 hvm.symm (hgood w (List.mem_cons_of_mem _ (List.mem_cons_of_mem _ hw))) (hat w hw)
  have hk' : (Cond.classLink own ik cls).before args s' = true := vx_ot_at hW0 hvm.symm (hgood _ List.mem_cons_self) hk
  have hini' : (Cond.initialized cls).before args s' = true := vx_ot_at hW0 hvm.symm (hgood _ (List.mem_cons_of_mem _ List.mem_cons_self)) hini
  have hU' : vx_Zq Bundle.tN "UNASSIGNED_STACK" Bundle.steD A s' s'.heap := by rw [hhp]; exact vx_Zq.moved hW0.alike (hU.kept hS.2.1)
  have hN' : vx_Zq Bundle.tN "SUPPRESSED_SENTINEL" Bundle.listD A s' s'.heap := by rw [hhp]; exact vx_Zq.moved hW0.alike (hN.kept hS.2.1)
  have h : ∀ w ∈ Bundle.ownAtoms0 own ic cls names, w.before args s' = true := vx_own hat' (vx_isRefq hU'.1) (vx_isRefq hN'.1) hU'.2.word hN'.2.word
  have hown' : s'.vm.findClass own = some m.cls := by rw [hvm]; exact hown
  have hins : (Cond.instantiable cls 6).before args s' = true := h _ (by simp [Bundle.ownAtoms0])
  obtain ⟨vm₁, cX, kX, hfX, hkX, -, -, X₁, st1⟩ := Y.newCold hexec (own := own) (C := cls) (index := ik) (n := 6) hown' hk' hins hini'
    (g := F0 m pc ls rest) rfl (by rw [hb]; exact d0) (Nat.le_refl _) (Nat.le_refl _)
  generalize hT1 : (T.setVm vm₁).pushCell { cls := cX, slots := kX.instanceTypes.map defaultValue, vm := .none } = T1 at X₁ st1
  have hcat : (Value.ref T.heap.size).category = 1 := rfl
  have hcellA : T1.heap[T.heap.size]? = some (freshCell cX kX) := by rw [← hT1]; exact State.heap_pushCell_size _ _
  have d3' : decode c.code (pc + 3) = .ok (.dup, 1) := by rw [hb]; exact d3
  obtain ⟨U, hsteps, hrun, hend, hW, hsame, ce, hce, hO⟩ := X₁.ctorThrow0 hexec htr (own := own) (cls := cls) (names := names) (ic := ic) hown' hcls hnames h (fun x hx => nomatch hx) hfX hkX hcellA (by rw [hhp, hT]; exact Nat.le_refl _)
    (g := { method := m, pc := pc + 4, locals := ls, stack := .ref T.heap.size :: .ref T.heap.size :: rest, locked := none }) rfl hsize rfl rfl (rest := rest) rfl
    (by rw [hb]; exact d4) (by rw [hb]; exact d7) hout hRframes (by simp only [List.map_cons, List.sum_cons, hcat]; omega) hlocks
  obtain ⟨f1, f2⟩ := vx_frame hsame
  rw [hhp] at f1 f2
  have hWs : s.WarmedH U.vm := State.WarmedH.trans hW0 hW
  have hcl : s.vm.findClass cls = some ce.cls := by
    have h9 := hO.cls
    rw [hvm] at h9
    exact h9
  have hall : s.sameButNew ({ U with vm := s.vm } : State) locs mc ms := by
    subst hA
    obtain ⟨e1, e2⟩ := hsame
    rw [State.setFrames_setFrames] at e1
    have h2 : (T.setVm s.vm).sameButNew ({ U with vm := s.vm } : State) [] (0 + 1) (0 + 6) := ⟨e1, e2⟩
    have h3 := X.same.trans h2
    rw [List.append_nil] at h3
    exact h3.mono hc hs
  refine ⟨U, ?_, .threw T.heap.size, hrun, hend, Or.inr ⟨T.heap.size, rfl, cls, ce, locs, hx U hWs.alike f1 (fun q hq => f2 q hq (fun z hz => nomatch hz)), hce, hO.vm, hcl, hWs, hall, hf⟩⟩
  refine st1 _ ?_
  show Steps p.tables e below (T1.setTop { method := m, pc := pc + 3, locals := ls, stack := .ref T.heap.size :: rest, locked := none }) _
  jvm_step X₁.here [X₁.here.top, hexec, d3', Value.category]
  exact hsteps
/-- 'throw new E("text")': new; dup; ldc; invokespecial; athrow -/
theorem vx_throwS {cc : ByteArray} {pc : Nat} (hexec : p.tables.exec = Jvm.exec) (hb : c.code = cc) (hl : l.stackTraces = false) {own cls text : String} {names : List String} {ik is ic mc ms sa : Nat} {A : Nat → Prop}
    (hown : s.vm.findClass own = some m.cls) (hcls : Bundle.fit cls = true) (hnames : ∀ n ∈ names, Bundle.fit n = true)
    (hk : (Cond.classLink own ik cls).before args s = true) (hini : (Cond.initialized cls).before args s = true) (hstr : vk_R own is text sa s) (hat : ∀ w ∈ vx_atS own ic cls names, w.before args s = true)
    (hgood : ∀ w ∈ Cond.classLink own ik cls :: Cond.initialized cls :: vx_atS own ic cls names, vx_ot w = true)
    (hU : vx_Zq Bundle.tN "UNASSIGNED_STACK" Bundle.steD A s s.heap) (hN : vx_Zq Bundle.tN "SUPPRESSED_SENTINEL" Bundle.listD A s s.heap) (hS : va_S A s.heap H locs) (hsize : ls.size = c.maxLocals)
    (d0 : decode cc pc = .ok (.new ik, 3)) (d3 : decode cc (pc + 3) = .ok (.dup, 1)) (d4 : decode cc (pc + 4) = .ok (.ldc is, 2)) (d6 : decode cc (pc + 6) = .ok (.invokespecial ic, 3)) (d9 : decode cc (pc + 9) = .ok (.athrow, 1))
    (hout : ∀ x ∈ c.exceptionTable.toList, covers x (pc + 9) = false)
    (hRframes : names.length + 3 < R.frames) (hRlocals : (rest.map fun v => v.category).sum + (13 * (names.length + 1) + 43) ≤ R.locals) (hRcells : cells + 1 ≤ R.cells) (hRslots : slots + 6 ≤ R.slots) (hlocks : meth.locks = false)
    (hx : ∀ t : State, s.vm.Alike t.vm → H.size ≤ t.heap.size → (∀ q : Nat, q < H.size → t.heap[q]? = H[q]?) → XC cls s t)
    (hf : ∀ z ∈ locs, free z.base) (hc : cells + 1 ≤ mc) (hs : slots + 6 ≤ ms) :
    W p l e R s m args below meth c H locs cells slots (vx_MQ below Qc XC args s mc ms free) (F0 m pc ls rest) := by
  intro T hT X
  have htr : e.platform.stackTraces = false := (show e.platform.stackTraces = l.stackTraces by rw [X.admits.platform]).trans hl
  have Y := vx_rebase X (R' := { frames := R.frames, locals := R.locals, cells := 1, slots := 6 }) (Nat.le_refl _) (Nat.le_refl _) hRcells hRslots
  obtain ⟨s', hA⟩ : ∃ z, z = (T.setVm s.vm).setFrames (.invoking m args :: below) := ⟨_, rfl⟩
  rw [← hA] at Y
  have hvm : s'.vm = s.vm := by rw [hA]; rfl
  have hhp : s'.heap = H := by rw [hA]; exact hT
  have hW0 : s.WarmedH s'.vm := by rw [hvm]; exact State.WarmedH.refl s
  have hat' : ∀ w ∈ vx_atS own ic cls names, w.before args s' = true := fun w hw => vx_ot_at hW0 hvm.symm (hgood w (List.mem_cons_of_mem _ (List.mem_cons_of_mem _ hw))) (hat w hw)
  have hk' : (Cond.classLink own ik cls).before args s' = true := vx_ot_at hW0 hvm.symm (hgood _ List.mem_cons_self) hk
  have hini' : (Cond.initialized cls).before args s' = true := vx_ot_at hW0 hvm.symm (hgood _ (List.mem_cons_of_mem _ List.mem_cons_self)) hini
  have hU' : vx_Zq Bundle.tN "UNASSIGNED_STACK" Bundle.steD A s' s'.heap := by rw [hhp]; exact vx_Zq.moved hW0.alike (hU.kept hS.2.1)
  have hN' : vx_Zq Bundle.tN "SUPPRESSED_SENTINEL" Bundle.listD A s' s'.heap := by rw [hhp]; exact vx_Zq.moved hW0.alike (hN.kept hS.2.1)
  have h : ∀ w ∈ Bundle.ownAtoms own ic cls names, w.before args s' = true := vx_own hat' (vx_isRefq hU'.1) (vx_isRefq hN'.1) hU'.2.word hN'.2.word
  have hown' : s'.vm.findClass own = some m.cls := by rw [hvm]; exact hown
  have hins : (Cond.instantiable cls 6).before args s' = true := h _ (by simp [Bundle.ownAtoms])
  obtain ⟨vm₁, cX, kX, hfX, hkX, -, -, X₁, st1⟩ := Y.newCold hexec (own := own) (C := cls) (index := ik) (n := 6) hown' hk' hins hini'
    (g := F0 m pc ls rest) rfl (by rw [hb]; exact d0) (Nat.le_refl _) (Nat.le_refl _)
  generalize hT1 : (T.setVm vm₁).pushCell { cls := cX, slots := kX.instanceTypes.map defaultValue, vm := .none } = T1 at X₁ st1
  have hcat : (Value.ref T.heap.size).category = 1 := rfl
  have hcellA : T1.heap[T.heap.size]? = some (freshCell cX kX) := by rw [← hT1]; exact State.heap_pushCell_size _ _
  have d3' : decode c.code (pc + 3) = .ok (.dup, 1) := by rw [hb]; exact d3
  have d4' : decode c.code (pc + 4) = .ok (.ldc is, 2) := by rw [hb]; exact d4
  have hstr' : vk_R own is text sa s' := vk_R.warm hW0 hstr
  obtain ⟨U, hsteps, hrun, hend, hW, hsame, ce, hce, hO⟩ := X₁.ctorThrowS hexec htr (own := own) (cls := cls) (names := names) (ic := ic) hown' hcls hnames h (fun x hx => nomatch hx) hfX hkX hcellA (by rw [hhp, hT]; exact Nat.le_refl _) (msg := .ref sa) rfl
    (g := { method := m, pc := pc + 6, locals := ls, stack := .ref sa :: .ref T.heap.size :: .ref T.heap.size :: rest, locked := none }) rfl hsize rfl rfl (rest := rest) rfl
    (by rw [hb]; exact d6) (by rw [hb]; exact d9) hout hRframes (by simp only [List.map_cons, List.sum_cons, hcat]; omega) hlocks
  obtain ⟨f1, f2⟩ := vx_frame hsame
  rw [hhp] at f1 f2
  have hWs : s.WarmedH U.vm := State.WarmedH.trans hW0 hW
  have hcl : s.vm.findClass cls = some ce.cls := by
    have h9 := hO.cls
    rw [hvm] at h9
    exact h9
  have hall : s.sameButNew ({ U with vm := s.vm } : State) locs mc ms := by
    subst hA
    obtain ⟨e1, e2⟩ := hsame
    rw [State.setFrames_setFrames] at e1
    have h2 : (T.setVm s.vm).sameButNew ({ U with vm := s.vm } : State) [] (0 + 1) (0 + 6) := ⟨e1, e2⟩
    have h3 := X.same.trans h2
    rw [List.append_nil] at h3
    exact h3.mono hc hs
  refine ⟨U, ?_, .threw T.heap.size, hrun, hend, Or.inr ⟨T.heap.size, rfl, cls, ce, locs, hx U hWs.alike f1 (fun q hq => f2 q hq (fun z hz => nomatch hz)), hce, hO.vm, hcl, hWs, hall, hf⟩⟩
  refine st1 _ ?_
  show Steps p.tables e below (T1.setTop { method := m, pc := pc + 3, locals := ls, stack := .ref T.heap.size :: rest, locked := none }) _
  jvm_step X₁.here [X₁.here.top, hexec, d3', Value.category]
  exact X₁.ldcString hexec (own := own) (text := text) (index := is) (a := sa) hown' hstr'.1 hstr'.2
    (g := { method := m, pc := pc + 4, locals := ls, stack := .ref T.heap.size :: .ref T.heap.size :: rest, locked := none }) rfl d4' _ hsteps
/-- 'throw new E("text")', the text by a wide index -/
theorem vx_throwSW {cc : ByteArray} {pc : Nat} (hexec : p.tables.exec = Jvm.exec) (hb : c.code = cc) (hl : l.stackTraces = false) {own cls text : String} {names : List String} {ik is ic mc ms sa : Nat} {A : Nat → Prop}
    (hown : s.vm.findClass own = some m.cls) (hcls : Bundle.fit cls = true) (hnames : ∀ n ∈ names, Bundle.fit n = true)
    (hk : (Cond.classLink own ik cls).before args s = true) (hini : (Cond.initialized cls).before args s = true) (hstr : vk_R own is text sa s) (hat : ∀ w ∈ vx_atS own ic cls names, w.before args s = true)
    (hgood : ∀ w ∈ Cond.classLink own ik cls :: Cond.initialized cls :: vx_atS own ic cls names, vx_ot w = true)
    (hU : vx_Zq Bundle.tN "UNASSIGNED_STACK" Bundle.steD A s s.heap) (hN : vx_Zq Bundle.tN "SUPPRESSED_SENTINEL" Bundle.listD A s s.heap) (hS : va_S A s.heap H locs) (hsize : ls.size = c.maxLocals)
    (d0 : decode cc pc = .ok (.new ik, 3)) (d3 : decode cc (pc + 3) = .ok (.dup, 1)) (d4 : decode cc (pc + 4) = .ok (.ldc_w is, 3)) (d7 : decode cc (pc + 7) = .ok (.invokespecial ic, 3)) (d10 : decode cc (pc + 10) = .ok (.athrow, 1))
    (hout : ∀ x ∈ c.exceptionTable.toList, covers x (pc + 10) = false)
    (hRframes : names.length + 3 < R.frames) (hRlocals : (rest.map fun v => v.category).sum + (13 * (names.length + 1) + 43) ≤ R.locals) (hRcells : cells + 1 ≤ R.cells) (hRslots : slots + 6 ≤ R.slots) (hlocks : meth.locks = false)
    (hx : ∀ t : State, s.vm.Alike t.vm → H.size ≤ t.heap.size → (∀ q : Nat, q < H.size → t.heap[q]? = H[q]?) → XC cls s t)
    (hf : ∀ z ∈ locs, free z.base) (hc : cells + 1 ≤ mc) (hs : slots + 6 ≤ ms) :
    W p l e R s m args below meth c H locs cells slots (vx_MQ below Qc XC args s mc ms free) (F0 m pc ls rest) := by
  intro T hT X
  have htr : e.platform.stackTraces = false := (show e.platform.stackTraces = l.stackTraces by rw [X.admits.platform]).trans hl
  have Y := vx_rebase X (R' := { frames := R.frames, locals := R.locals, cells := 1, slots := 6 }) (Nat.le_refl _) (Nat.le_refl _) hRcells hRslots
  obtain ⟨s', hA⟩ : ∃ z, z = (T.setVm s.vm).setFrames (.invoking m args :: below) := ⟨_, rfl⟩
  rw [← hA] at Y
  have hvm : s'.vm = s.vm := by rw [hA]; rfl
  have hhp : s'.heap = H := by rw [hA]; exact hT
  have hW0 : s.WarmedH s'.vm := by rw [hvm]; exact State.WarmedH.refl s
  have hat' : ∀ w ∈ vx_atS own ic cls names, w.before args s' = true := fun w hw => vx_ot_at hW0 hvm.symm (hgood w (List.mem_cons_of_mem _ (List.mem_cons_of_mem _ hw))) (hat w hw)
  have hk' : (Cond.classLink own ik cls).before args s' = true := vx_ot_at hW0 hvm.symm (hgood _ List.mem_cons_self) hk
  have hini' : (Cond.initialized cls).before args s' = true := vx_ot_at hW0 hvm.symm (hgood _ (List.mem_cons_of_mem _ List.mem_cons_self)) hini
  have hU' : vx_Zq Bundle.tN "UNASSIGNED_STACK" Bundle.steD A s' s'.heap := by rw [hhp]; exact vx_Zq.moved hW0.alike (hU.kept hS.2.1)
  have hN' : vx_Zq Bundle.tN "SUPPRESSED_SENTINEL" Bundle.listD A s' s'.heap := by rw [hhp]; exact vx_Zq.moved hW0.alike (hN.kept hS.2.1)
  have h : ∀ w ∈ Bundle.ownAtoms own ic cls names, w.before args s' = true := vx_own hat' (vx_isRefq hU'.1) (vx_isRefq hN'.1) hU'.2.word hN'.2.word
  have hown' : s'.vm.findClass own = some m.cls := by rw [hvm]; exact hown
  have hins : (Cond.instantiable cls 6).before args s' = true := h _ (by simp [Bundle.ownAtoms])
  obtain ⟨vm₁, cX, kX, hfX, hkX, -, -, X₁, st1⟩ := Y.newCold hexec (own := own) (C := cls) (index := ik) (n := 6) hown' hk' hins hini'
    (g := F0 m pc ls rest) rfl (by rw [hb]; exact d0) (Nat.le_refl _) (Nat.le_refl _)
  generalize hT1 : (T.setVm vm₁).pushCell { cls := cX, slots := kX.instanceTypes.map defaultValue, vm := .none } = T1 at X₁ st1
  have hcat : (Value.ref T.heap.size).category = 1 := rfl
  have hcellA : T1.heap[T.heap.size]? = some (freshCell cX kX) := by rw [← hT1]; exact State.heap_pushCell_size _ _
  have d3' : decode c.code (pc + 3) = .ok (.dup, 1) := by rw [hb]; exact d3
  have d4' : decode c.code (pc + 4) = .ok (.ldc_w is, 3) := by rw [hb]; exact d4
  have hstr' : vk_R own is text sa s' := vk_R.warm hW0 hstr
  obtain ⟨U, hsteps, hrun, hend, hW, hsame, ce, hce, hO⟩ := X₁.ctorThrowS hexec htr (own := own) (cls := cls) (names := names) (ic := ic) hown' hcls hnames h (fun x hx => nomatch hx) hfX hkX hcellA (by rw [hhp, hT]; exact Nat.le_refl _) (msg := .ref sa) rfl
    (g := { method := m, pc := pc + 7, locals := ls, stack := .ref sa :: .ref T.heap.size :: .ref T.heap.size :: rest, locked := none }) rfl hsize rfl rfl (rest := rest) rfl
    (by rw [hb]; exact d7) (by rw [hb]; exact d10) hout hRframes (by simp only [List.map_cons, List.sum_cons, hcat]; omega) hlocks
  obtain ⟨f1, f2⟩ := vx_frame hsame
  rw [hhp] at f1 f2
  have hWs : s.WarmedH U.vm := State.WarmedH.trans hW0 hW
  have hcl : s.vm.findClass cls = some ce.cls := by
    have h9 := hO.cls
    rw [hvm] at h9
    exact h9
  have hall : s.sameButNew ({ U with vm := s.vm } : State) locs mc ms := by
    subst hA
    obtain ⟨e1, e2⟩ := hsame
    rw [State.setFrames_setFrames] at e1
    have h2 : (T.setVm s.vm).sameButNew ({ U with vm := s.vm } : State) [] (0 + 1) (0 + 6) := ⟨e1, e2⟩
    have h3 := X.same.trans h2
    rw [List.append_nil] at h3
    exact h3.mono hc hs
  refine ⟨U, ?_, .threw T.heap.size, hrun, hend, Or.inr ⟨T.heap.size, rfl, cls, ce, locs, hx U hWs.alike f1 (fun q hq => f2 q hq (fun z hz => nomatch hz)), hce, hO.vm, hcl, hWs, hall, hf⟩⟩
  refine st1 _ ?_
  show Steps p.tables e below (T1.setTop { method := m, pc := pc + 3, locals := ls, stack := .ref T.heap.size :: rest, locked := none }) _
  jvm_step X₁.here [X₁.here.top, hexec, d3', Value.category]
  exact X₁.ldcStringW hexec (own := own) (text := text) (index := is) (a := sa) hown' hstr'.1 hstr'.2
    (g := { method := m, pc := pc + 4, locals := ls, stack := .ref T.heap.size :: .ref T.heap.size :: rest, locked := none }) rfl d4' _ hsteps
end Ends
section Bodies
variable {l : Launch}
theorem vx_ofW {y : MethodName} {ws ws' : List Cond} {rm : Room} {Pc : Array Value → State → Prop} {Qc : Array Value → State → Outcome → State → Prop} {XC : String → State → State → Prop} {mc ms : Nat} {free : Addr → Prop} {cc : ByteArray} {maxL : Nat} {ret : Option FieldType}
    (hy : plainName y.cls = true) (hw : ws = Cond.code y cc maxL ret :: ws')
    (body : ∀ p e s m args below meth c s₁, BodyLoose p l y (headSpec ws rm) cc maxL ret e s m args below meth c s₁ → c.maxLocals = maxL → (∀ x ∈ c.exceptionTable.toList, False) → Pc args s →
      W p l e (headSpec ws rm).room s m args below meth c s.heap [] 0 0 (vx_MQ below Qc XC args s mc ms free) (entryFrame m args maxL)) : vx_Met l y ws rm Pc Qc XC mc ms free := by
  refine MetFree.of_bodyS (code := cc) (maxLocals := maxL) (ret := ret) hy ?_ ?_
  · intro args s m h hn
    obtain ⟨meth, c, h1, h2, h3, h4, h5, h6, -, -⟩ := Cond.code_spec hn (atoms_spec (ws := ws) h _ (by rw [hw]; exact List.mem_cons_self))
    exact ⟨meth, c, h1, h2, h3, h4, h5, h6⟩
  · intro p e s m args below meth c s₁ B hml hP _
    have hh0 : s₁.heap = s.heap := by rw [B.state]; rfl
    have ht : ∀ x ∈ c.exceptionTable.toList, False := by
      obtain ⟨meth9, c9, h1, h2, -, -, -, -, h7, -⟩ := Cond.code_spec B.named (atoms_spec (ws := ws) B.pre _ (by rw [hw]; exact List.mem_cons_self))
      cases Option.some.inj (h1.symm.trans B.method)
      cases Option.some.inj (h2.symm.trans (Stand.of_body B).code)
      intro x hx
      rw [Array.isEmpty_iff.mp h7] at hx
      cases hx
    obtain ⟨t, a1, o, b1, b2, b3⟩ := body p e s m args below meth c s₁ B hml ht hP s₁ hh0 (Stand.of_body B)
    exact ⟨t, o, a1, b1, b2, b3⟩
/-- the table of a body with handlers -/
theorem vx_table {p : Program} {x y : MethodName} {S : Spec} {cc bytes : ByteArray} {maxL maxL' : Nat} {ret ret' : Option FieldType} {e : Env} {s s₁ : State} {m : MethodId} {args : Array Value} {below : List Frame} {meth : Method} {c : Code} {hh : List (Nat × Nat × Nat × Nat)}
    (B : BodyLoose p l y S cc maxL ret e s m args below meth c s₁) (h : (Cond.codeWith y bytes maxL' ret' hh).before args s = true) : c.exceptionTable.toList = tableOf hh := by
  obtain ⟨m9, meth9, c9, hn9, h1, h2, -, -, h6, -⟩ := Cond.codeWith_spec h
  cases Option.some.inj (hn9.symm.trans B.named)
  cases Option.some.inj (h1.symm.trans B.method)
  cases Option.some.inj (h2.symm.trans (Stand.of_body B).code)
  rw [← h6, table_eq]
end Bodies
end VXA
/-! ===== END ===== -/
/-! ===== BEGIN a static call of a method with an exception table ===== -/
section VXS
variable {p : Program} {l : Launch} {e : Env} {R : Room} {s : State} {m : MethodId} {args : Array Value} {below : List Frame} {meth : Method} {c : Code} {T : State} {H : Heap} {locs : List Loc} {cells slots : Nat}
abbrev vx_CSW (R : Room) (s : State) (args : Array Value) (own : String) (index : Nat) (y : MethodName) (bytes : ByteArray) (maxL : Nat) (ret : Option FieldType) (hh : List (Nat × Nat × Nat × Nat)) (ws : List Cond) (rm : Room) (mc ms n : Nat) : Prop :=
  (rm.cells = mc ∧ rm.slots = ms ∧ rm.frames + 1 ≤ R.frames ∧ 8 + (maxL + 11) + rm.locals ≤ R.locals ∧ (∀ w ∈ ws, ∀ (a' : Array Value) (U : State), s.WarmedH U.vm → w.before a' U = true) ∧ Cond.codeWith y bytes maxL ret hh ∈ ws) ∧
  (Cond.codeWith y bytes maxL ret hh).before args s = true ∧ (Cond.initialized y.cls).before args s = true ∧ (y.cls ≠ "java/lang/invoke/MethodHandle" ∧ y.cls ≠ "java/lang/invoke/VarHandle") ∧
  (∀ sig, parseMethodDescriptor y.desc = some sig → n = sig.parameters.length) ∧ (Cond.methodLink own index y).before args s = true ∧ (Cond.static y).before args s = true
theorem vx_cwSW {own : String} {index maxL mc ms : Nat} {y : MethodName} {bytes : ByteArray} {ret : Option FieldType} {hh : List (Nat × Nat × Nat × Nat)} {Ts ws ws' : List Cond} {rm : Room} (n : Nat) (ht : ∀ w ∈ Ts, w.before args s = true) (hT : GoodIn Ts (va_wsS own index y ws)) (hw : ws = Cond.codeWith y bytes maxL ret hh :: ws') (hrc : rm.cells = mc) (hrs : rm.slots = ms)
    (hd : y.cls ≠ "java/lang/invoke/MethodHandle" ∧ y.cls ≠ "java/lang/invoke/VarHandle" ∧ (parseMethodDescriptor y.desc).map (fun d => d.parameters.length) = some n) (hR : rm.frames + 1 ≤ R.frames ∧ 8 + (maxL + 11) + rm.locals ≤ R.locals) :
    vx_CSW R s args own index y bytes maxL ret hh ws rm mc ms n := by
  have ok : ∀ w ∈ va_wsS own index y ws, w.before args s = true := fun w h => ht w (hT w h).1
  have hG : GoodIn Ts ws := fun w h => hT w (by unfold va_wsS; exact List.mem_append_right _ h)
  have hc : Cond.codeWith y bytes maxL ret hh ∈ ws := by rw [hw]; exact List.mem_cons_self
  refine ⟨⟨hrc, hrs, hR.1, hR.2, pay_in ht hG, hc⟩, ht _ (hG _ hc).1, ok _ (by simp [va_wsS]), ⟨hd.1, hd.2.1⟩, fun sig h => ?_, ok _ (by simp [va_wsS]), ok _ (by simp [va_wsS])⟩
  have h2 := hd.2.2
  rw [h] at h2
  exact (Option.some.inj h2).symm
theorem vx_callSW (X : Stand p l e R s m args below meth c T locs cells slots) (hexec : p.tables.exec = Jvm.exec) {own : String} {index : Nat} {y : MethodName} {bytes : ByteArray} {maxL : Nat} {ret : Option FieldType} {hh : List (Nat × Nat × Nat × Nat)}
    (hown : s.vm.findClass own = some m.cls) (hlink : (Cond.methodLink own index y).before args s = true) (hstat : (Cond.static y).before args s = true) (hinit : (Cond.initialized y.cls).before args s = true)
    (hcode : (Cond.codeWith y bytes maxL ret hh).before args s = true) (hy : y.cls ≠ "java/lang/invoke/MethodHandle" ∧ y.cls ≠ "java/lang/invoke/VarHandle")
    {W9 : Nat} {Pre : Pt → Array Value → Prop} {Post : Pt → Array Value → Option Value → Pt → Prop} (hK : Back l R p e below s args y 3 W9 Pre Post)
    {g : JFrame} (hg : g.method = m) (hsize : g.locals.size = c.maxLocals) {argsL rest : List Value} (hlen : ∀ sig, parseMethodDescriptor y.desc = some sig → argsL.length = sig.parameters.length)
    (hstack : g.stack = argsL.reverse ++ rest) (hW : 2 * g.monitorRoom + (rest.map fun v => v.category).sum ≤ W9) (hdg : decode c.code g.pc = .ok (.invokestatic index, 3))
    (hpre : ∀ vm₁, s.WarmedH vm₁ → Pre ⟨T.setVm vm₁, locs, cells, slots⟩ argsL.toArray) :
    ∃ (v : Option Value) (vm₁ : Vm) (B : Pt), s.WarmedH vm₁ ∧ Stand p l e R s m args below meth c B.U B.locs B.cells B.slots ∧ Post ⟨T.setVm vm₁, locs, cells, slots⟩ argsL.toArray v B ∧
      ∀ target, Steps p.tables e below (B.U.setTop { g with pc := g.pc + 3, stack := v.toList ++ rest }) target → Steps p.tables e below (T.setTop g) target := by
  obtain ⟨mk, methM, cM, hnamed, hmethM, -, -, -, -, -, -, hsigM⟩ := Cond.codeWith_spec hcode
  have hstatic : methM.isStatic = true := Cond.static_spec hnamed hmethM hstat
  obtain ⟨kP, hkP, -⟩ := className_of_methodNamed hnamed
  have hinitP : kP.init = .initialized := Cond.initialized_spec (findClass_of_methodNamed hnamed) hkP hinit
  obtain ⟨vm₁, X₁, hstep₁⟩ := X.invokestatic hexec hown hlink hnamed hmethM hstatic hkP hinitP hy (g := g) hg (argsL := argsL) (rest := rest) (hlen _ hsigM) hstack hdg
  obtain ⟨v, B, X', hpost, hsteps⟩ := hK m meth c ⟨T.setVm vm₁, locs, cells, slots⟩ { g with stack := rest } (.invokestatic index) mk argsL.toArray X₁ hg hsize hdg hW (X₁.named hnamed) (hpre vm₁ X₁.warmed)
  exact ⟨v, vm₁, B, X₁.warmed, X', hpost, fun target h => hstep₁ _ fun acts => by rw [doInvoke_state]; exact hsteps.trans h⟩
theorem vx_runSW {y : MethodName} {bytes cc : ByteArray} {maxL nL mc ms n index : Nat} {ret : Option FieldType} {hh : List (Nat × Nat × Nat × Nat)} {ws : List Cond} {rm : Room} {Pc : Array Value → State → Prop} {Qc : Array Value → State → Outcome → State → Prop} {free : Addr → Prop} {Ts : List Cond} {own : String} {As rest : List Value} {g : JFrame}
    (S : CallFix p m c cc nL s args Ts own) (hM : Met l y ws rm Pc Qc mc ms free) (cw : vx_CSW R s args own index y bytes maxL ret hh ws rm mc ms n) (hp : PreS s H Pc As)
    (hg : g.method = m) (hn : As.length = n) (hsize : g.locals.size = nL) (hstack : g.stack = As.reverse ++ rest) (hW : 2 * g.monitorRoom + (rest.map fun v => v.category).sum ≤ 8) (hdg : decode cc g.pc = .ok (.invokestatic index, 3)) (hf : cells + mc ≤ R.cells ∧ slots + ms ≤ R.slots) :
    va_Run p l e R s m args below meth c H locs cells slots mc ms g rest (Qc As.toArray) (free) := by
  obtain ⟨⟨hrc, hrs, hfr, hlo, hws, hcw⟩, hcode, hini, hy, hlen, hl, hstt⟩ := cw
  have hK : Back l R p e below s args y 3 8 (PreOf R mc ms Pc) (PostOf Qc mc ms free) := va_backW (hh := hh) (bytes := bytes) (maxL := maxL) (ret := ret) hM hp.1 hrc hrs hfr hlo hws hcw (fun a' U hW => word_at hW (Or.inl (by first | rfl | simp [Cond.onTables, Cond.keeps, Cond.steady])) hini)
  obtain ⟨hx, hb, hml, ho, -⟩ := S
  intro T hT X
  obtain ⟨v, vm₁, ⟨U', l2, c2, s2⟩, hW₁, X', ⟨g', mk, t, L, e1, e2, hq, h1, hL, h2, h3⟩, st⟩ := vx_callSW X hx (hh := hh) (bytes := bytes) (maxL := maxL) (ret := ret) ho hl hstt hini hcode hy hK hg (hsize.trans hml.symm) (argsL := As) (rest := rest) (fun sig h => hn.trans (hlen sig h)) hstack hW (by rw [hb]; exact hdg)
    (fun vm₁ hW₁ => ⟨hf.1, hf.2, hp.2 (T.setVm vm₁) hT hW₁⟩)
  dsimp only [Pt.U, Pt.locs, Pt.cells, Pt.slots] at X' e1 e2 h1 h2 h3 st
  subst h1; subst h2; subst h3
  exact ⟨v, (T.setVm vm₁).calling g' mk As.toArray, t, U', L, hT, X', hL, e1, e2, hq, st⟩
/-- a thing of a world lies in the heap -/
theorem vx_lt {D : va_G} {cl : List vw_C} {ws : va_W} {H1 : Heap} (h : va_P D cl ws H1) {k : Nat} {q : Nat × va_E} (hk : ws[k]? = some q) : q.1 < H1.size := (h k q hk).lt
end VXS
/-! ===== END ===== -/
/-! ===== BEGIN methods with a table of their own: called by a name, returning or throwing ===== -/
section VXH
/-! vx_backW, vx_callVX, vx_callSX, vx_callVW, vx_runVW, vx_runVX, vx_runSX, vx_ofWH follow the same proofs as their sisters above (Free/Laws.lean, Shelf42/LK1.lean); vx_outP calls Shelf42/NT130.lean (outThrough). -/
section
variable {l : Launch} {R : Room} {p : Program} {e : Env} {below : List Frame} {s : State} {sargs : Array Value} {y : MethodName} {len W9 : Nat}
theorem vx_backW {ws : List Cond} {rm : Room} {Pc : Array Value → State → Prop} {Qc : Array Value → State → Outcome → State → Prop} {XC : String → State → State → Prop} {mc ms : Nat} {free : Addr → Prop} {bytes : ByteArray} {maxL : Nat} {ret : Option FieldType} {hh : List (Nat × Nat × Nat × Nat)}
    (hM : vx_Met l y ws rm Pc Qc XC mc ms free) (hblind : FrameBlind Pc) (hrc : rm.cells = mc) (hrs : rm.slots = ms)
    (hframes : rm.frames + 1 ≤ R.frames) (hlocals : W9 + (maxL + 11) + rm.locals ≤ R.locals)
    (hws : ∀ w ∈ ws, ∀ a' U, s.WarmedH U.vm → w.before a' U = true) (hcode : Cond.codeWith y bytes maxL ret hh ∈ ws) (hinit : ∀ a' U, s.WarmedH U.vm → (Cond.initialized y.cls).before a' U = true) :
    vx_Back l R p e below s sargs y len W9 (PreOf R mc ms Pc) (PostOf Qc mc ms free) (vx_Post XC mc ms free) := by
  intro m meth c A g ig mk a X hg hsize hdg hW hn hp
  have h1 : (headSpec ws rm).pre.before a A.U = true := atoms_intro fun w hw => hws w hw _ _ X.warmed
  have h2 : (Cond.codeWith y bytes maxL ret hh).before a A.U = true := hws _ hcode _ _ X.warmed
  have h3 : (Cond.initialized y.cls).before a A.U = true := hinit _ _ X.warmed
  have h4 : A.cells + (headSpec ws rm).room.cells ≤ R.cells := by rw [show (headSpec ws rm).room.cells = mc from hrc]; exact hp.1
  have h5 : A.slots + (headSpec ws rm).room.slots ≤ R.slots := by rw [show (headSpec ws rm).room.slots = ms from hrs]; exact hp.2.1
  have hPc : Pc a (A.U.calling g mk a) := hblind _ _ _ _ hp.2.2
  obtain ⟨U, Ls, c0, s0⟩ := A
  dsimp only [Pt.U, Pt.locs, Pt.cells, Pt.slots] at h1 h2 h3 h4 h5 X hn hPc ⊢
  obtain ⟨m9, methY, cY, hn9, hmY, hcY, -, hlY, -⟩ := Cond.codeWith_spec h2
  cases Option.some.inj (hn9.symm.trans hn)
  obtain ⟨kY, hkY, -⟩ := className_of_methodNamed hn
  have hinitY : kY.init = .initialized := Cond.initialized_spec (findClass_of_methodNamed hn) hkY h3
  have h : At U g.method c below := by rw [hg]; exact X.here
  have hlocals9 : W9 + (maxL + 11) + (headSpec ws rm).room.locals ≤ R.locals := hlocals
  have happ : (headSpec ws rm).appliesLoose y e.platform (U.calling g mk a) = true :=
    Spec.appliesLoose_calling (g := g) h hdg hn hkY hinitY
      (X.room_calling (g := g) (R' := (headSpec ws rm).room) hsize hmY hcY hframes (by rw [hlY]; omega) h4 h5) h1
  obtain ⟨mid, hmid⟩ := h.above
  have hfr : (U.setTop g).frames = (.java g :: mid) ++ below := by rw [State.frames_setTop' g h.top, hmid]; rfl
  obtain ⟨o, s₂, hsteps, -, hend, hq⟩ := Steps.callFree hM p X.admits X.cas X.clock (acts := []) hfr happ hPc trivial
  have hq' : vx_Q Qc XC mc ms free a (U.calling g mk a) o s₂ := hq
  rw [State.frames_setTop' g h.top] at hend
  obtain ⟨g₀, hg0⟩ := Option.isSome_iff_exists.mp h.top
  obtain ⟨r, hr⟩ := State.topJava?_eq_some.mp hg0
  have hr' : (({ U with heap := s₂.heap, slotsUsed := s₂.slotsUsed } : State).setVm s₂.vm).frames = .java g₀ :: r := hr
  rcases hq' with ⟨hqc, L, hfe, hL⟩ | ⟨q, rfl, E, ce, L, hx, hce, hcv, hcl, hW₂, hsm, hL⟩
  · obtain ⟨⟨v, rfl⟩, hW₂, e2, q2, q3, q4, q5, q6⟩ := id hfe
    have e3 : s₂ = ({ (U.calling g mk a).setFrames s₂.frames with heap := s₂.heap, slotsUsed := s₂.slotsUsed } : State).setVm s₂.vm := by
      have : s₂ = ({ s₂ with vm := (U.calling g mk a).vm } : State).setVm s₂.vm := rfl
      rw [e2] at this
      exact this
    obtain ⟨c₂, i₂, len₂, hc₂, hd₂, hf₂⟩ := hend
    have hW' : U.WarmedH s₂.vm := hW₂
    have hcc : c₂ = c := by
      have h1 : s₂.code? g.method = U.code? g.method := by
        rw [State.code?_eq, State.code?_eq, hW'.alike.method?]
      exact Option.some.inj (hc₂.symm.trans (h1.trans h.code))
    subst hcc
    have hlen : len₂ = len := by rw [hdg] at hd₂; cases hd₂; rfl
    subst hlen
    have hs₂ : s₂ = (({ U with heap := s₂.heap, slotsUsed := s₂.slotsUsed } : State).setVm s₂.vm).setTop { g with pc := g.pc + len₂, stack := v.toList ++ g.stack } := by
      refine e3.trans ?_
      rw [hf₂, State.calling_eq h.top, State.setFrames_setFrames, State.setTop_of_frames _ hr', hr]
      rfl
    have hsame : U.sameButNew ({ U with heap := s₂.heap, slotsUsed := s₂.slotsUsed } : State) L mc ms := by
      refine ⟨?_, q2, q3, q4, q5, q6⟩
      obtain ⟨t, ht, -⟩ := State.frames_cons hr
      show ({ U with heap := s₂.heap, slotsUsed := s₂.slotsUsed } : State) = { U.setFrames U.frames with heap := s₂.heap, slotsUsed := s₂.slotsUsed }
      rw [State.setFrames_self ht]
    subst hg
    refine Or.inl ⟨v, ⟨(({ U with heap := s₂.heap, slotsUsed := s₂.slotsUsed } : State).setVm s₂.vm), Ls ++ L, c0 + mc, s0 + ms⟩,
      ⟨X.admits, X.cas, X.clock, X.frames, X.room, X.hears, X.method, X.code, (X.here.setHeapUsed s₂.heap s₂.slotsUsed).setVm hW'.alike, X.tail, State.WarmedH.trans X.warmed hW', X.limits, X.bytes, X.same.trans (hsame.setVm s.vm)⟩,
      ⟨g, mk, s₂, L, rfl, rfl, hqc, rfl, hL, rfl, rfl⟩, ?_⟩
    show Steps p.tables e below _ ((({ U with heap := s₂.heap, slotsUsed := s₂.slotsUsed } : State).setVm s₂.vm).setTop { g with pc := g.pc + len₂, stack := v.toList ++ g.stack })
    rw [← hs₂]
    exact hsteps
  · obtain ⟨e2, q2, q3, q4, q5, q6⟩ := id hsm
    have e3 : s₂ = ({ (U.calling g mk a).setFrames s₂.frames with heap := s₂.heap, slotsUsed := s₂.slotsUsed } : State).setVm s₂.vm := by
      have : s₂ = ({ s₂ with vm := (U.calling g mk a).vm } : State).setVm s₂.vm := rfl
      rw [e2] at this
      exact this
    have hf₂ : s₂.frames = .throwing q :: .java g :: U.frames.tail := hend
    have hW' : U.WarmedH s₂.vm := hW₂
    have hs₂ : s₂ = ((({ U with heap := s₂.heap, slotsUsed := s₂.slotsUsed } : State).setVm s₂.vm).setTop g).pushFrame (.throwing q) := by
      refine e3.trans ?_
      rw [hf₂, State.calling_eq h.top, State.setFrames_setFrames, State.pushFrame, State.frames_setTop _ hr', State.setTop_of_frames _ hr', State.setFrames_setFrames, hr]
      rfl
    have hsame : U.sameButNew ({ U with heap := s₂.heap, slotsUsed := s₂.slotsUsed } : State) L mc ms := by
      refine ⟨?_, q2, q3, q4, q5, q6⟩
      obtain ⟨t, ht, -⟩ := State.frames_cons hr
      show ({ U with heap := s₂.heap, slotsUsed := s₂.slotsUsed } : State) = { U.setFrames U.frames with heap := s₂.heap, slotsUsed := s₂.slotsUsed }
      rw [State.setFrames_self ht]
    subst hg
    refine Or.inr ⟨q, ⟨(({ U with heap := s₂.heap, slotsUsed := s₂.slotsUsed } : State).setVm s₂.vm), Ls ++ L, c0 + mc, s0 + ms⟩,
      ⟨X.admits, X.cas, X.clock, X.frames, X.room, X.hears, X.method, X.code, (X.here.setHeapUsed s₂.heap s₂.slotsUsed).setVm hW'.alike, X.tail, State.WarmedH.trans X.warmed hW', X.limits, X.bytes, X.same.trans (hsame.setVm s.vm)⟩,
      ⟨g, mk, s₂, L, E, ce, rfl, rfl, hx, hce, hcv, hcl, rfl, hL, rfl, rfl⟩, ?_⟩
    show Steps p.tables e below _ (((({ U with heap := s₂.heap, slotsUsed := s₂.slotsUsed } : State).setVm s₂.vm).setTop g).pushFrame (.throwing q))
    rw [← hs₂]
    exact hsteps
end
variable {p : Program} {l : Launch} {e : Env} {R : Room} {s : State} {m : MethodId} {args : Array Value} {below : List Frame} {meth : Method} {c : Code} {T : State} {H : Heap} {locs : List Loc} {cells slots : Nat}
theorem vx_callVX (X : Stand p l e R s m args below meth c T locs cells slots) (hexec : p.tables.exec = Jvm.exec) {own C : String} {index : Nat} {y : MethodName} {bytes : ByteArray} {maxL : Nat} {ret : Option FieldType} {hh : List (Nat × Nat × Nat × Nat)}
    (hown : s.vm.findClass own = some m.cls) (hlink : (Cond.methodLink own index y).before args s = true) (hinst : (Cond.instanceMethod y).before args s = true) (hsel : (Cond.selects C y y).before args s = true)
    (hcode : (Cond.codeWith y bytes maxL ret hh).before args s = true) (hy : y.cls ≠ "java/lang/invoke/MethodHandle" ∧ y.cls ≠ "java/lang/invoke/VarHandle")
    {W9 : Nat} {Pre : Pt → Array Value → Prop} {Post : Pt → Array Value → Option Value → Pt → Prop} {PostX : Pt → Array Value → Addr → Pt → Prop} (hK : vx_Back l R p e below s args y 3 W9 Pre Post PostX)
    {b : Addr} {cellB : Cell} (hcell : T.heap[b]? = some cellB) (hobj : cellB.vm.isStatics = false) (hcls : s.vm.findClass C = some cellB.cls)
    {g : JFrame} (hg : g.method = m) (hsize : g.locals.size = c.maxLocals) {argsL rest : List Value} (hlen : ∀ sig, parseMethodDescriptor y.desc = some sig → argsL.length = sig.parameters.length)
    (hstack : g.stack = argsL.reverse ++ .ref b :: rest) (hW : 2 * g.monitorRoom + (rest.map fun v => v.category).sum ≤ W9) (hdg : decode c.code g.pc = .ok (.invokevirtual index, 3))
    (hpre : ∀ vm₁, s.WarmedH vm₁ → Pre ⟨T.setVm vm₁, locs, cells, slots⟩ (Value.ref b :: argsL).toArray) :
    (∃ (v : Option Value) (vm₁ : Vm) (B : Pt), s.WarmedH vm₁ ∧ Stand p l e R s m args below meth c B.U B.locs B.cells B.slots ∧ Post ⟨T.setVm vm₁, locs, cells, slots⟩ (Value.ref b :: argsL).toArray v B ∧
      ∀ target, Steps p.tables e below (B.U.setTop { g with pc := g.pc + 3, stack := v.toList ++ rest }) target → Steps p.tables e below (T.setTop g) target) ∨
    (∃ (q : Addr) (vm₁ : Vm) (B : Pt), s.WarmedH vm₁ ∧ Stand p l e R s m args below meth c B.U B.locs B.cells B.slots ∧ PostX ⟨T.setVm vm₁, locs, cells, slots⟩ (Value.ref b :: argsL).toArray q B ∧
      Steps p.tables e below (T.setTop g) ((B.U.setTop { g with stack := rest }).pushFrame (.throwing q))) := by
  obtain ⟨mk, methM, hnamed, hmethM, hstM, habM⟩ := Cond.instanceMethod_spec hinst
  obtain ⟨m8, methM', cM, hn8, hmethM', -, -, -, -, -, -, hsigM⟩ := Cond.codeWith_spec hcode
  cases Option.some.inj (hn8.symm.trans hnamed)
  cases hmethM.symm.trans hmethM'
  obtain ⟨c2, r2, m2, q1, q2, q3, q4, kP, hkP, hkPi⟩ := Cond.selects_spec hsel
  cases hcls.symm.trans q1
  cases (State.methodFound?_of_named hnamed hy).symm.trans q2
  cases hnamed.symm.trans q3
  have hselP : selectMethod e.platform s.vm cellB.cls mk = .method mk := by rw [Launch.admits_selectMethod X.admits]; exact q4
  obtain ⟨vm₁, X₁, hstep₁⟩ := X.invokevirtual hexec hown hlink hnamed hmethM hstM hkP hkPi hy (a := b) (cell := cellB) hcell
    (fun z h => by rw [h] at hobj; cases hobj) hselP hmethM habM hkP hkPi (g := g) hg (argsL := argsL) (rest := rest) (hlen _ hsigM) hstack hdg
  rcases hK m meth c ⟨T.setVm vm₁, locs, cells, slots⟩ { g with stack := rest } (.invokevirtual index) mk (Value.ref b :: argsL).toArray X₁ hg hsize hdg hW (X₁.named hnamed) (hpre vm₁ X₁.warmed) with ⟨v, B, X', hpost, hsteps⟩ | ⟨q, B, X', hpost, hsteps⟩
  · exact Or.inl ⟨v, vm₁, B, X₁.warmed, X', hpost, fun target h => hstep₁ _ fun acts => by rw [doInvoke_state]; exact hsteps.trans h⟩
  · exact Or.inr ⟨q, vm₁, B, X₁.warmed, X', hpost, hstep₁ _ fun acts => by rw [doInvoke_state]; exact hsteps⟩
theorem vx_callSX (X : Stand p l e R s m args below meth c T locs cells slots) (hexec : p.tables.exec = Jvm.exec) {own : String} {index : Nat} {y : MethodName} {bytes : ByteArray} {maxL : Nat} {ret : Option FieldType} {hh : List (Nat × Nat × Nat × Nat)}
    (hown : s.vm.findClass own = some m.cls) (hlink : (Cond.methodLink own index y).before args s = true) (hstat : (Cond.static y).before args s = true) (hinit : (Cond.initialized y.cls).before args s = true)
    (hcode : (Cond.codeWith y bytes maxL ret hh).before args s = true) (hy : y.cls ≠ "java/lang/invoke/MethodHandle" ∧ y.cls ≠ "java/lang/invoke/VarHandle")
    {W9 : Nat} {Pre : Pt → Array Value → Prop} {Post : Pt → Array Value → Option Value → Pt → Prop} {PostX : Pt → Array Value → Addr → Pt → Prop} (hK : vx_Back l R p e below s args y 3 W9 Pre Post PostX)
    {g : JFrame} (hg : g.method = m) (hsize : g.locals.size = c.maxLocals) {argsL rest : List Value} (hlen : ∀ sig, parseMethodDescriptor y.desc = some sig → argsL.length = sig.parameters.length)
    (hstack : g.stack = argsL.reverse ++ rest) (hW : 2 * g.monitorRoom + (rest.map fun v => v.category).sum ≤ W9) (hdg : decode c.code g.pc = .ok (.invokestatic index, 3))
    (hpre : ∀ vm₁, s.WarmedH vm₁ → Pre ⟨T.setVm vm₁, locs, cells, slots⟩ argsL.toArray) :
    (∃ (v : Option Value) (vm₁ : Vm) (B : Pt), s.WarmedH vm₁ ∧ Stand p l e R s m args below meth c B.U B.locs B.cells B.slots ∧ Post ⟨T.setVm vm₁, locs, cells, slots⟩ argsL.toArray v B ∧
      ∀ target, Steps p.tables e below (B.U.setTop { g with pc := g.pc + 3, stack := v.toList ++ rest }) target → Steps p.tables e below (T.setTop g) target) ∨
    (∃ (q : Addr) (vm₁ : Vm) (B : Pt), s.WarmedH vm₁ ∧ Stand p l e R s m args below meth c B.U B.locs B.cells B.slots ∧ PostX ⟨T.setVm vm₁, locs, cells, slots⟩ argsL.toArray q B ∧
      Steps p.tables e below (T.setTop g) ((B.U.setTop { g with stack := rest }).pushFrame (.throwing q))) := by
  obtain ⟨mk, methM, cM, hnamed, hmethM, -, -, -, -, -, -, hsigM⟩ := Cond.codeWith_spec hcode
  have hstatic : methM.isStatic = true := Cond.static_spec hnamed hmethM hstat
  obtain ⟨kP, hkP, -⟩ := className_of_methodNamed hnamed
  have hinitP : kP.init = .initialized := Cond.initialized_spec (findClass_of_methodNamed hnamed) hkP hinit
  obtain ⟨vm₁, X₁, hstep₁⟩ := X.invokestatic hexec hown hlink hnamed hmethM hstatic hkP hinitP hy (g := g) hg (argsL := argsL) (rest := rest) (hlen _ hsigM) hstack hdg
  rcases hK m meth c ⟨T.setVm vm₁, locs, cells, slots⟩ { g with stack := rest } (.invokestatic index) mk argsL.toArray X₁ hg hsize hdg hW (X₁.named hnamed) (hpre vm₁ X₁.warmed) with ⟨v, B, X', hpost, hsteps⟩ | ⟨q, B, X', hpost, hsteps⟩
  · exact Or.inl ⟨v, vm₁, B, X₁.warmed, X', hpost, fun target h => hstep₁ _ fun acts => by rw [doInvoke_state]; exact hsteps.trans h⟩
  · exact Or.inr ⟨q, vm₁, B, X₁.warmed, X', hpost, hstep₁ _ fun acts => by rw [doInvoke_state]; exact hsteps⟩
theorem vx_callVW (X : Stand p l e R s m args below meth c T locs cells slots) (hexec : p.tables.exec = Jvm.exec) {own C : String} {index : Nat} {y : MethodName} {bytes : ByteArray} {maxL : Nat} {ret : Option FieldType} {hh : List (Nat × Nat × Nat × Nat)}
    (hown : s.vm.findClass own = some m.cls) (hlink : (Cond.methodLink own index y).before args s = true) (hinst : (Cond.instanceMethod y).before args s = true) (hsel : (Cond.selects C y y).before args s = true)
    (hcode : (Cond.codeWith y bytes maxL ret hh).before args s = true) (hy : y.cls ≠ "java/lang/invoke/MethodHandle" ∧ y.cls ≠ "java/lang/invoke/VarHandle")
    {W9 : Nat} {Pre : Pt → Array Value → Prop} {Post : Pt → Array Value → Option Value → Pt → Prop} (hK : Back l R p e below s args y 3 W9 Pre Post)
    {b : Addr} {cellB : Cell} (hcell : T.heap[b]? = some cellB) (hobj : cellB.vm.isStatics = false) (hcls : s.vm.findClass C = some cellB.cls)
    {g : JFrame} (hg : g.method = m) (hsize : g.locals.size = c.maxLocals) {argsL rest : List Value} (hlen : ∀ sig, parseMethodDescriptor y.desc = some sig → argsL.length = sig.parameters.length)
    (hstack : g.stack = argsL.reverse ++ .ref b :: rest) (hW : 2 * g.monitorRoom + (rest.map fun v => v.category).sum ≤ W9) (hdg : decode c.code g.pc = .ok (.invokevirtual index, 3))
    (hpre : ∀ vm₁, s.WarmedH vm₁ → Pre ⟨T.setVm vm₁, locs, cells, slots⟩ (Value.ref b :: argsL).toArray) :
    ∃ (v : Option Value) (vm₁ : Vm) (B : Pt), s.WarmedH vm₁ ∧ Stand p l e R s m args below meth c B.U B.locs B.cells B.slots ∧ Post ⟨T.setVm vm₁, locs, cells, slots⟩ (Value.ref b :: argsL).toArray v B ∧
      ∀ target, Steps p.tables e below (B.U.setTop { g with pc := g.pc + 3, stack := v.toList ++ rest }) target → Steps p.tables e below (T.setTop g) target := by
  obtain ⟨mk, methM, hnamed, hmethM, hstM, habM⟩ := Cond.instanceMethod_spec hinst
  obtain ⟨m8, methM', cM, hn8, hmethM', -, -, -, -, -, -, hsigM⟩ := Cond.codeWith_spec hcode
  cases Option.some.inj (hn8.symm.trans hnamed)
  cases hmethM.symm.trans hmethM'
  obtain ⟨c2, r2, m2, q1, q2, q3, q4, kP, hkP, hkPi⟩ := Cond.selects_spec hsel
  cases hcls.symm.trans q1
  cases (State.methodFound?_of_named hnamed hy).symm.trans q2
  cases hnamed.symm.trans q3
  have hselP : selectMethod e.platform s.vm cellB.cls mk = .method mk := by rw [Launch.admits_selectMethod X.admits]; exact q4
  obtain ⟨vm₁, X₁, hstep₁⟩ := X.invokevirtual hexec hown hlink hnamed hmethM hstM hkP hkPi hy (a := b) (cell := cellB) hcell
    (fun z h => by rw [h] at hobj; cases hobj) hselP hmethM habM hkP hkPi (g := g) hg (argsL := argsL) (rest := rest) (hlen _ hsigM) hstack hdg
  obtain ⟨v, B, X', hpost, hsteps⟩ := hK m meth c ⟨T.setVm vm₁, locs, cells, slots⟩ { g with stack := rest } (.invokevirtual index) mk (Value.ref b :: argsL).toArray X₁ hg hsize hdg hW (X₁.named hnamed) (hpre vm₁ X₁.warmed)
  exact ⟨v, vm₁, B, X₁.warmed, X', hpost, fun target h => hstep₁ _ fun acts => by rw [doInvoke_state]; exact hsteps.trans h⟩
abbrev vx_CVW (R : Room) (s : State) (args : Array Value) (own C : String) (index : Nat) (y : MethodName) (bytes : ByteArray) (maxL : Nat) (ret : Option FieldType) (hh : List (Nat × Nat × Nat × Nat)) (ws : List Cond) (rm : Room) (mc ms n : Nat) : Prop :=
  (rm.cells = mc ∧ rm.slots = ms ∧ rm.frames + 1 ≤ R.frames ∧ 8 + (maxL + 11) + rm.locals ≤ R.locals ∧ (∀ w ∈ ws, ∀ (a' : Array Value) (U : State), s.WarmedH U.vm → w.before a' U = true) ∧ Cond.codeWith y bytes maxL ret hh ∈ ws) ∧
  (Cond.codeWith y bytes maxL ret hh).before args s = true ∧ (Cond.initialized y.cls).before args s = true ∧ (y.cls ≠ "java/lang/invoke/MethodHandle" ∧ y.cls ≠ "java/lang/invoke/VarHandle") ∧
  (∀ sig, parseMethodDescriptor y.desc = some sig → n = sig.parameters.length) ∧ (Cond.methodLink own index y).before args s = true ∧ (Cond.instanceMethod y).before args s = true ∧ (Cond.selects C y y).before args s = true
theorem vx_cwVW {own C : String} {index maxL mc ms : Nat} {y : MethodName} {bytes : ByteArray} {ret : Option FieldType} {hh : List (Nat × Nat × Nat × Nat)} {Ts ws ws' : List Cond} {rm : Room} (n : Nat) (ht : ∀ w ∈ Ts, w.before args s = true) (hT : GoodIn Ts (wsV own index C y ws)) (hw : ws = Cond.codeWith y bytes maxL ret hh :: ws') (hrc : rm.cells = mc) (hrs : rm.slots = ms)
    (hd : y.cls = C ∧ y.cls ≠ "java/lang/invoke/MethodHandle" ∧ y.cls ≠ "java/lang/invoke/VarHandle" ∧ (parseMethodDescriptor y.desc).map (fun d => d.parameters.length) = some n) (hR : rm.frames + 1 ≤ R.frames ∧ 8 + (maxL + 11) + rm.locals ≤ R.locals) :
    vx_CVW R s args own C index y bytes maxL ret hh ws rm mc ms n := by
  obtain ⟨hC, hd⟩ := hd
  subst hC
  have ok : ∀ w ∈ wsV own index y.cls y ws, w.before args s = true := fun w h => ht w (hT w h).1
  have hG : GoodIn Ts ws := fun w h => hT w (by unfold wsV; exact List.mem_append_right _ h)
  have hc : Cond.codeWith y bytes maxL ret hh ∈ ws := by rw [hw]; exact List.mem_cons_self
  refine ⟨⟨hrc, hrs, hR.1, hR.2, pay_in ht hG, hc⟩, ht _ (hG _ hc).1, ok _ (by simp [wsV]), ⟨hd.1, hd.2.1⟩, fun sig h => ?_, ok _ (by simp [wsV]), ok _ (by simp [wsV]), ok _ (by simp [wsV])⟩
  have h2 := hd.2.2
  rw [h] at h2
  exact (Option.some.inj h2).symm
theorem vx_runVW {y : MethodName} {bytes cc : ByteArray} {maxL nL mc ms n index : Nat} {ret : Option FieldType} {hh : List (Nat × Nat × Nat × Nat)} {ws : List Cond} {rm : Room} {Pc : Array Value → State → Prop} {Qc : Array Value → State → Outcome → State → Prop} {free : Addr → Prop} {Ts : List Cond} {own C : String} {b : Addr} {As rest : List Value} {g : JFrame}
    (S : CallFix p m c cc nL s args Ts own) (hM : Met l y ws rm Pc Qc mc ms free) (cw : vx_CVW R s args own C index y bytes maxL ret hh ws rm mc ms n) (hp : PreV s H C b Pc As)
    (hg : g.method = m) (hn : As.length = n) (hsize : g.locals.size = nL) (hstack : g.stack = As.reverse ++ .ref b :: rest) (hW : 2 * g.monitorRoom + (rest.map fun v => v.category).sum ≤ 8) (hdg : decode cc g.pc = .ok (.invokevirtual index, 3)) (hf : cells + mc ≤ R.cells ∧ slots + ms ≤ R.slots) :
    va_Run p l e R s m args below meth c H locs cells slots mc ms g rest (Qc (Value.ref b :: As).toArray) free := by
  obtain ⟨⟨hrc, hrs, hfr, hlo, hws, hcw⟩, hcode, hini, hy, hlen, hl, hin, hse⟩ := cw
  have hK : Back l R p e below s args y 3 8 (PreOf R mc ms Pc) (PostOf Qc mc ms free) := va_backW (hh := hh) (bytes := bytes) (maxL := maxL) (ret := ret) hM hp.1 hrc hrs hfr hlo hws hcw (fun a' U hW => word_at hW (Or.inl (by first | rfl | simp [Cond.onTables, Cond.keeps, Cond.steady])) hini)
  obtain ⟨hx, hb, hml, ho, -⟩ := S
  obtain ⟨-, ⟨cellB, hcB, hoB, hclB⟩, hPc⟩ := hp
  intro T hT X
  obtain ⟨v, vm₁, ⟨U', l2, c2, s2⟩, hW₁, X', ⟨g', mk, t, L, e1, e2, hq, h1, hL, h2, h3⟩, st⟩ := vx_callVW X hx (C := C) (hh := hh) (bytes := bytes) (maxL := maxL) (ret := ret) ho hl hin hse hcode hy hK (by rw [hT]; exact hcB) hoB hclB hg (hsize.trans hml.symm) (argsL := As) (rest := rest) (fun sig h => hn.trans (hlen sig h)) hstack hW (by rw [hb]; exact hdg)
    (fun vm₁ hW₁ => ⟨hf.1, hf.2, hPc (T.setVm vm₁) hT hW₁⟩)
  dsimp only [Pt.U, Pt.locs, Pt.cells, Pt.slots] at X' e1 e2 h1 h2 h3 st
  subst h1; subst h2; subst h3
  exact ⟨v, (T.setVm vm₁).calling g' mk (Value.ref b :: As).toArray, t, U', L, hT, X', hL, e1, e2, hq, st⟩
section
variable {y : MethodName} {bytes cc : ByteArray} {maxL nL mc ms n index : Nat} {ret : Option FieldType} {ws : List Cond} {rm : Room} {Pc : Array Value → State → Prop} {Qc : Array Value → State → Outcome → State → Prop} {XC : String → State → State → Prop} {free : Addr → Prop} {Ts : List Cond} {own C : String} {b : Addr} {As rest : List Value} {g : JFrame}
theorem vx_runVX {hh : List (Nat × Nat × Nat × Nat)} (S : CallFix p m c cc nL s args Ts own) (hM : vx_Met l y ws rm Pc Qc XC mc ms free) (cw : vx_CVW R s args own C index y bytes maxL ret hh ws rm mc ms n) (hp : PreV s H C b Pc As)
    (hg : g.method = m) (hn : As.length = n) (hsize : g.locals.size = nL) (hstack : g.stack = As.reverse ++ .ref b :: rest) (hW : 2 * g.monitorRoom + (rest.map fun v => v.category).sum ≤ 8) (hdg : decode cc g.pc = .ok (.invokevirtual index, 3)) (hf : cells + mc ≤ R.cells ∧ slots + ms ≤ R.slots) :
    vx_Run p l e R s m args below meth c H locs cells slots mc ms g rest (Qc (Value.ref b :: As).toArray) XC free := by
  obtain ⟨⟨hrc, hrs, hfr, hlo, hws, hcw⟩, hcode, hini, hy, hlen, hl, hin, hse⟩ := cw
  have hK : vx_Back l R p e below s args y 3 8 (PreOf R mc ms Pc) (PostOf Qc mc ms free) (vx_Post XC mc ms free) := vx_backW (hh := hh) (bytes := bytes) (maxL := maxL) (ret := ret) hM hp.1 hrc hrs hfr hlo hws hcw (fun a' U hW => word_at hW (Or.inl (by first | rfl | simp [Cond.onTables, Cond.keeps, Cond.steady])) hini)
  obtain ⟨hx, hb, hml, ho, -⟩ := S
  obtain ⟨-, ⟨cellB, hcB, hoB, hclB⟩, hPc⟩ := hp
  intro T hT X
  rcases vx_callVX X hx (C := C) (hh := hh) (bytes := bytes) (maxL := maxL) (ret := ret) ho hl hin hse hcode hy hK (by rw [hT]; exact hcB) hoB hclB hg (hsize.trans hml.symm) (argsL := As) (rest := rest) (fun sig h => hn.trans (hlen sig h)) hstack hW (by rw [hb]; exact hdg)
    (fun vm₁ hW₁ => ⟨hf.1, hf.2, hPc (T.setVm vm₁) hT hW₁⟩) with ⟨v, vm₁, ⟨U', l2, c2, s2⟩, hW₁, X', ⟨g', mk, t, L, e1, e2, hq, h1, hL, h2, h3⟩, st⟩ | ⟨q, vm₁, ⟨U', l2, c2, s2⟩, hW₁, X', ⟨g', mk, t, L, E, ce, e1, e2, hq, hce, hcv, hcl, h1, hL, h2, h3⟩, st⟩
  · dsimp only [Pt.U, Pt.locs, Pt.cells, Pt.slots] at X' e1 e2 h1 h2 h3 st
    subst h1; subst h2; subst h3
    exact Or.inl ⟨v, (T.setVm vm₁).calling g' mk (Value.ref b :: As).toArray, t, U', L, hT, X', hL, e1, e2, hq, st⟩
  · dsimp only [Pt.U, Pt.locs, Pt.cells, Pt.slots] at X' e1 e2 h1 h2 h3 st hcl
    subst h1; subst h2; subst h3
    exact Or.inr ⟨q, (T.setVm vm₁).calling g' mk (Value.ref b :: As).toArray, t, U', L, E, ce, hT, X', hL, e1, e2, hq, hce, hcv, vx_cls hW₁ hcl, st⟩
theorem vx_runSX {hh : List (Nat × Nat × Nat × Nat)} (S : CallFix p m c cc nL s args Ts own) (hM : vx_Met l y ws rm Pc Qc XC mc ms free) (cw : vx_CSW R s args own index y bytes maxL ret hh ws rm mc ms n) (hp : PreS s H Pc As)
    (hg : g.method = m) (hn : As.length = n) (hsize : g.locals.size = nL) (hstack : g.stack = As.reverse ++ rest) (hW : 2 * g.monitorRoom + (rest.map fun v => v.category).sum ≤ 8) (hdg : decode cc g.pc = .ok (.invokestatic index, 3)) (hf : cells + mc ≤ R.cells ∧ slots + ms ≤ R.slots) :
    vx_Run p l e R s m args below meth c H locs cells slots mc ms g rest (Qc As.toArray) XC free := by
  obtain ⟨⟨hrc, hrs, hfr, hlo, hws, hcw⟩, hcode, hini, hy, hlen, hl, hstt⟩ := cw
  have hK : vx_Back l R p e below s args y 3 8 (PreOf R mc ms Pc) (PostOf Qc mc ms free) (vx_Post XC mc ms free) := vx_backW (hh := hh) (bytes := bytes) (maxL := maxL) (ret := ret) hM hp.1 hrc hrs hfr hlo hws hcw (fun a' U hW => word_at hW (Or.inl (by first | rfl | simp [Cond.onTables, Cond.keeps, Cond.steady])) hini)
  obtain ⟨hx, hb, hml, ho, -⟩ := S
  intro T hT X
  rcases vx_callSX X hx (hh := hh) (bytes := bytes) (maxL := maxL) (ret := ret) ho hl hstt hini hcode hy hK hg (hsize.trans hml.symm) (argsL := As) (rest := rest) (fun sig h => hn.trans (hlen sig h)) hstack hW (by rw [hb]; exact hdg)
    (fun vm₁ hW₁ => ⟨hf.1, hf.2, hp.2 (T.setVm vm₁) hT hW₁⟩) with ⟨v, vm₁, ⟨U', l2, c2, s2⟩, hW₁, X', ⟨g', mk, t, L, e1, e2, hq, h1, hL, h2, h3⟩, st⟩ | ⟨q, vm₁, ⟨U', l2, c2, s2⟩, hW₁, X', ⟨g', mk, t, L, E, ce, e1, e2, hq, hce, hcv, hcl, h1, hL, h2, h3⟩, st⟩
  · dsimp only [Pt.U, Pt.locs, Pt.cells, Pt.slots] at X' e1 e2 h1 h2 h3 st
    subst h1; subst h2; subst h3
    exact Or.inl ⟨v, (T.setVm vm₁).calling g' mk As.toArray, t, U', L, hT, X', hL, e1, e2, hq, st⟩
  · dsimp only [Pt.U, Pt.locs, Pt.cells, Pt.slots] at X' e1 e2 h1 h2 h3 st hcl
    subst h1; subst h2; subst h3
    exact Or.inr ⟨q, (T.setVm vm₁).calling g' mk As.toArray, t, U', L, E, ce, hT, X', hL, e1, e2, hq, hce, hcv, vx_cls hW₁ hcl, st⟩
end
end VXH
theorem vx_ofWH {l : Launch} {y : MethodName} {ws ws' : List Cond} {rm : Room} {Pc : Array Value → State → Prop} {Qc : Array Value → State → Outcome → State → Prop} {XC : String → State → State → Prop} {mc ms : Nat} {free : Addr → Prop} {cc : ByteArray} {maxL : Nat} {ret : Option FieldType} {hh : List (Nat × Nat × Nat × Nat)}
    (hy : plainName y.cls = true) (hw : ws = Cond.codeWith y cc maxL ret hh :: ws')
    (body : ∀ p e s m args below meth c s₁, BodyLoose p l y (headSpec ws rm) cc maxL ret e s m args below meth c s₁ → c.maxLocals = maxL → Pc args s →
      W p l e (headSpec ws rm).room s m args below meth c s.heap [] 0 0 (vx_MQ below Qc XC args s mc ms free) (entryFrame m args maxL)) : vx_Met l y ws rm Pc Qc XC mc ms free := by
  refine MetFree.of_bodyS (code := cc) (maxLocals := maxL) (ret := ret) hy ?_ ?_
  · intro args s m h hn
    obtain ⟨m9, meth, c, hn9, h1, h2, h3, h4, -, h5, h6, -⟩ := Cond.codeWith_spec (atoms_spec (ws := ws) h _ (by rw [hw]; exact List.mem_cons_self))
    cases hn.symm.trans hn9
    exact ⟨meth, c, h1, h2, h3, h4, h5, h6⟩
  · intro p e s m args below meth c s₁ B hml hP _
    have hh0 : s₁.heap = s.heap := by rw [B.state]; rfl
    obtain ⟨t, a1, o, b1, b2, b3⟩ := body p e s m args below meth c s₁ B hml hP s₁ hh0 (Stand.of_body B)
    exact ⟨t, o, a1, b1, b2, b3⟩
/-! ===== END ===== -/
end
section
def RX12 : String := "WiredBeans"
def TX12 : u_T := fun k => match k with
  | 0 => ("WiredBeans", "classes", "[LWiredBeans$DeclaredClass;", true)
  | 1 => ("WiredBeans", "typed", "[C", true)
  | 2 => ("WiredBeans", "paper", "LWiredBeans$Paper;", true)
  | 3 => ("WiredBeans", "reader", "LWiredBeans$Reader;", true)
  | 4 => ("WiredBeans", "structure", "LWiredBeans$Structure;", true)
  | 5 => ("WiredBeans", "wiring", "LWiredBeans$Wiring;", true)
  | 6 => ("WiredBeans", "row", "LWiredBeans$EventRow;", true)
  | 7 => ("WiredBeans", "maker", "LWiredBeans$Maker;", true)
  | 8 => ("WiredBeans", "typedLength", "I", false)
  | 9 => ("WiredBeans", "hasDocument", "Z", false)
  | 10 => ("WiredBeans", "faultNumber", "I", false)
  | _ => ("WiredBeans", "faultPlace", "I", false)
def tyX12 : Nat → FieldType := fun k => match k with
  | 0 => .array (.object "WiredBeans$DeclaredClass")
  | 1 => .array .char
  | 2 => .object "WiredBeans$Paper"
  | 3 => .object "WiredBeans$Reader"
  | 4 => .object "WiredBeans$Structure"
  | 5 => .object "WiredBeans$Wiring"
  | 6 => .object "WiredBeans$EventRow"
  | 7 => .object "WiredBeans$Maker"
  | 8 => .int
  | 9 => .boolean
  | 10 => .int
  | _ => .int
abbrev wsX120 : List Cond := u_ws RX12 TX12 12
theorem nmX12 : ∀ a, a < 12 → ∀ b, b < 12 → a ≠ b → (TX12 a).2.1 ≠ (TX12 b).2.1 := by decide +kernel
theorem tyX12_ok : ∀ k, k < 12 → parseFieldDescriptor (TX12 k).2.2.1 = some (tyX12 k) := by decide +kernel
def RX8 : String := "WiredBeans$Signature"
def TX8 : u_T := fun k => match k with
  | 0 => ("WiredBeans$Signature", "owner", "I", true)
  | 1 => ("WiredBeans$Signature", "number", "I", true)
  | 2 => ("WiredBeans$Signature", "types", "[I", true)
  | 3 => ("WiredBeans$Signature", "count", "I", false)
  | 4 => ("WiredBeans$Signature", "name", "I", false)
  | 5 => ("WiredBeans$Signature", "isStatic", "Z", false)
  | _ => ("WiredBeans$Signature", "result", "I", false)
def tyX8 : Nat → FieldType := fun k => match k with
  | 0 => .int
  | 1 => .int
  | 2 => .array .int
  | 3 => .int
  | 4 => .int
  | 5 => .boolean
  | _ => .int
abbrev wsX80 : List Cond := u_ws RX8 TX8 7
theorem nmX8 : ∀ a, a < 7 → ∀ b, b < 7 → a ≠ b → (TX8 a).2.1 ≠ (TX8 b).2.1 := by decide +kernel
theorem tyX8_ok : ∀ k, k < 7 → parseFieldDescriptor (TX8 k).2.2.1 = some (tyX8 k) := by decide +kernel
def RX2 : String := "WiredBeans$DeclaredClass"
def TX2 : u_T := fun k => match k with
  | 0 => ("WiredBeans$DeclaredClass", "constructors", "[LWiredBeans$Signature;", true)
  | 1 => ("WiredBeans$DeclaredClass", "factories", "[LWiredBeans$Signature;", true)
  | 2 => ("WiredBeans$DeclaredClass", "constructorCount", "I", false)
  | 3 => ("WiredBeans$DeclaredClass", "factoryCount", "I", false)
  | 4 => ("WiredBeans$DeclaredClass", "number", "I", true)
  | 5 => ("WiredBeans$DeclaredClass", "setterTypes", "[I", true)
  | 6 => ("WiredBeans$DeclaredClass", "setterCount", "I", false)
  | _ => ("WiredBeans$DeclaredClass", "parent", "LWiredBeans$DeclaredClass;", false)
def tyX2 : Nat → FieldType := fun k => match k with
  | 0 => .array (.object "WiredBeans$Signature")
  | 1 => .array (.object "WiredBeans$Signature")
  | 2 => .int
  | 3 => .int
  | 4 => .int
  | 5 => .array .int
  | 6 => .int
  | _ => .object "WiredBeans$DeclaredClass"
abbrev wsX20 : List Cond := u_ws RX2 TX2 8
theorem nmX2 : ∀ a, a < 8 → ∀ b, b < 8 → a ≠ b → (TX2 a).2.1 ≠ (TX2 b).2.1 := by decide +kernel
theorem tyX2_ok : ∀ k, k < 8 → parseFieldDescriptor (TX2 k).2.2.1 = some (tyX2 k) := by decide +kernel
def RX3 : String := "WiredBeans$Element"
def TX3 : u_T := fun k => match k with
  | 0 => ("WiredBeans$Element", "text", "[C", true)
  | 1 => ("WiredBeans$Element", "textLength", "I", false)
  | 2 => ("WiredBeans$Element", "textEnd", "I", false)
  | 3 => ("WiredBeans$Element", "place", "I", false)
  | 4 => ("WiredBeans$Element", "word", "LWiredBeans$Word;", false)
  | 5 => ("WiredBeans$Element", "outer", "LWiredBeans$Element;", false)
  | 6 => ("WiredBeans$Element", "firstInner", "LWiredBeans$Element;", false)
  | 7 => ("WiredBeans$Element", "next", "LWiredBeans$Element;", false)
  | 8 => ("WiredBeans$Element", "innerCount", "I", false)
  | 9 => ("WiredBeans$Element", "firstAttribute", "I", false)
  | 10 => ("WiredBeans$Element", "attributeCount", "I", false)
  | 11 => ("WiredBeans$Element", "name", "J", false)
  | 12 => ("WiredBeans$Element", "target", "J", false)
  | 13 => ("WiredBeans$Element", "number", "J", false)
  | 14 => ("WiredBeans$Element", "truth", "I", false)
  | 15 => ("WiredBeans$Element", "letter", "I", false)
  | 16 => ("WiredBeans$Element", "at", "I", false)
  | 17 => ("WiredBeans$Element", "type", "I", false)
  | 18 => ("WiredBeans$Element", "kind", "LWiredBeans$Word;", false)
  | 19 => ("WiredBeans$Element", "content", "LWiredBeans$Element;", false)
  | _ => ("WiredBeans$Element", "bean", "LWiredBeans$Bean;", false)
def tyX3 : Nat → FieldType := fun k => match k with
  | 0 => .array .char
  | 1 => .int
  | 2 => .int
  | 3 => .int
  | 4 => .object "WiredBeans$Word"
  | 5 => .object "WiredBeans$Element"
  | 6 => .object "WiredBeans$Element"
  | 7 => .object "WiredBeans$Element"
  | 8 => .int
  | 9 => .int
  | 10 => .int
  | 11 => .long
  | 12 => .long
  | 13 => .long
  | 14 => .int
  | 15 => .int
  | 16 => .int
  | 17 => .int
  | 18 => .object "WiredBeans$Word"
  | 19 => .object "WiredBeans$Element"
  | _ => .object "WiredBeans$Bean"
abbrev wsX30 : List Cond := u_ws RX3 TX3 21
theorem nmX3 : ∀ a, a < 21 → ∀ b, b < 21 → a ≠ b → (TX3 a).2.1 ≠ (TX3 b).2.1 := by decide +kernel
theorem tyX3_ok : ∀ k, k < 21 → parseFieldDescriptor (TX3 k).2.2.1 = some (tyX3 k) := by decide +kernel
def RX6 : String := "WiredBeans$Paper"
def TX6 : u_T := fun k => match k with
  | 0 => ("WiredBeans$Paper", "elements", "[LWiredBeans$Element;", true)
  | 1 => ("WiredBeans$Paper", "attributeKeys", "[J", true)
  | 2 => ("WiredBeans$Paper", "valueStarts", "[I", true)
  | 3 => ("WiredBeans$Paper", "valueLengths", "[I", true)
  | 4 => ("WiredBeans$Paper", "values", "[C", true)
  | 5 => ("WiredBeans$Paper", "count", "I", false)
  | 6 => ("WiredBeans$Paper", "attributes", "I", false)
  | _ => ("WiredBeans$Paper", "valuesEnd", "I", false)
def tyX6 : Nat → FieldType := fun k => match k with
  | 0 => .array (.object "WiredBeans$Element")
  | 1 => .array .long
  | 2 => .array .int
  | 3 => .array .int
  | 4 => .array .char
  | 5 => .int
  | 6 => .int
  | _ => .int
abbrev wsX60 : List Cond := u_ws RX6 TX6 8
theorem nmX6 : ∀ a, a < 8 → ∀ b, b < 8 → a ≠ b → (TX6 a).2.1 ≠ (TX6 b).2.1 := by decide +kernel
theorem tyX6_ok : ∀ k, k < 8 → parseFieldDescriptor (TX6 k).2.2.1 = some (tyX6 k) := by decide +kernel
def RX7 : String := "WiredBeans$Reader"
def TX7 : u_T := fun k => match k with
  | 0 => ("WiredBeans$Reader", "paper", "LWiredBeans$Paper;", true)
  | 1 => ("WiredBeans$Reader", "text", "[C", false)
  | 2 => ("WiredBeans$Reader", "length", "I", false)
  | 3 => ("WiredBeans$Reader", "at", "I", false)
  | 4 => ("WiredBeans$Reader", "depth", "I", false)
  | _ => ("WiredBeans$Reader", "open", "LWiredBeans$Element;", false)
def tyX7 : Nat → FieldType := fun k => match k with
  | 0 => .object "WiredBeans$Paper"
  | 1 => .array .char
  | 2 => .int
  | 3 => .int
  | 4 => .int
  | _ => .object "WiredBeans$Element"
abbrev wsX70 : List Cond := u_ws RX7 TX7 6
theorem nmX7 : ∀ a, a < 6 → ∀ b, b < 6 → a ≠ b → (TX7 a).2.1 ≠ (TX7 b).2.1 := by decide +kernel
theorem tyX7_ok : ∀ k, k < 6 → parseFieldDescriptor (TX7 k).2.2.1 = some (tyX7 k) := by decide +kernel
def RX9 : String := "WiredBeans$Structure"
def TX9 : u_T := fun k => match k with
  | _ => ("WiredBeans$Structure", "paper", "LWiredBeans$Paper;", true)
def tyX9 : Nat → FieldType := fun k => match k with
  | _ => .object "WiredBeans$Paper"
abbrev wsX90 : List Cond := u_ws RX9 TX9 1
theorem nmX9 : ∀ a, a < 1 → ∀ b, b < 1 → a ≠ b → (TX9 a).2.1 ≠ (TX9 b).2.1 := by decide +kernel
theorem tyX9_ok : ∀ k, k < 1 → parseFieldDescriptor (TX9 k).2.2.1 = some (tyX9 k) := by decide +kernel
def RX1 : String := "WiredBeans$Bean"
def TX1 : u_T := fun k => match k with
  | 0 => ("WiredBeans$Bean", "number", "I", true)
  | 1 => ("WiredBeans$Bean", "args", "Ljava/util/ArrayList;", true)
  | 2 => ("WiredBeans$Bean", "sets", "Ljava/util/ArrayList;", true)
  | 3 => ("WiredBeans$Bean", "lookups", "Ljava/util/ArrayList;", true)
  | 4 => ("WiredBeans$Bean", "element", "LWiredBeans$Element;", false)
  | 5 => ("WiredBeans$Bean", "id", "J", false)
  | 6 => ("WiredBeans$Bean", "parent", "J", false)
  | 7 => ("WiredBeans$Bean", "depends", "J", false)
  | 8 => ("WiredBeans$Bean", "factory", "J", false)
  | 9 => ("WiredBeans$Bean", "classNumber", "I", false)
  | 10 => ("WiredBeans$Bean", "method", "I", false)
  | 11 => ("WiredBeans$Bean", "init", "I", false)
  | 12 => ("WiredBeans$Bean", "destroy", "I", false)
  | 13 => ("WiredBeans$Bean", "isAbstract", "Z", false)
  | 14 => ("WiredBeans$Bean", "isMany", "Z", false)
  | 15 => ("WiredBeans$Bean", "isLazy", "Z", false)
  | 16 => ("WiredBeans$Bean", "isBeingMade", "Z", false)
  | 17 => ("WiredBeans$Bean", "isMade", "Z", false)
  | _ => ("WiredBeans$Bean", "madeObject", "I", false)
def tyX1 : Nat → FieldType := fun k => match k with
  | 0 => .int
  | 1 => .object "java/util/ArrayList"
  | 2 => .object "java/util/ArrayList"
  | 3 => .object "java/util/ArrayList"
  | 4 => .object "WiredBeans$Element"
  | 5 => .long
  | 6 => .long
  | 7 => .long
  | 8 => .long
  | 9 => .int
  | 10 => .int
  | 11 => .int
  | 12 => .int
  | 13 => .boolean
  | 14 => .boolean
  | 15 => .boolean
  | 16 => .boolean
  | 17 => .boolean
  | _ => .int
abbrev wsX10 : List Cond := u_ws RX1 TX1 19
theorem nmX1 : ∀ a, a < 19 → ∀ b, b < 19 → a ≠ b → (TX1 a).2.1 ≠ (TX1 b).2.1 := by decide +kernel
theorem tyX1_ok : ∀ k, k < 19 → parseFieldDescriptor (TX1 k).2.2.1 = some (tyX1 k) := by decide +kernel
def RX10 : String := "WiredBeans$Wiring"
def TX10 : u_T := fun k => match k with
  | 0 => ("WiredBeans$Wiring", "paper", "LWiredBeans$Paper;", true)
  | 1 => ("WiredBeans$Wiring", "beans", "[LWiredBeans$Bean;", true)
  | 2 => ("WiredBeans$Wiring", "chain", "[LWiredBeans$Bean;", true)
  | _ => ("WiredBeans$Wiring", "count", "I", false)
def tyX10 : Nat → FieldType := fun k => match k with
  | 0 => .object "WiredBeans$Paper"
  | 1 => .array (.object "WiredBeans$Bean")
  | 2 => .array (.object "WiredBeans$Bean")
  | _ => .int
abbrev wsX100 : List Cond := u_ws RX10 TX10 4
theorem nmX10 : ∀ a, a < 4 → ∀ b, b < 4 → a ≠ b → (TX10 a).2.1 ≠ (TX10 b).2.1 := by decide +kernel
theorem tyX10_ok : ∀ k, k < 4 → parseFieldDescriptor (TX10 k).2.2.1 = some (tyX10 k) := by decide +kernel
def RX4 : String := "WiredBeans$EventRow"
def TX4 : u_T := fun k => match k with
  | 0 => ("WiredBeans$EventRow", "numbers", "[I", true)
  | _ => ("WiredBeans$EventRow", "count", "I", false)
def tyX4 : Nat → FieldType := fun k => match k with
  | 0 => .array .int
  | _ => .int
abbrev wsX40 : List Cond := u_ws RX4 TX4 2
theorem nmX4 : ∀ a, a < 2 → ∀ b, b < 2 → a ≠ b → (TX4 a).2.1 ≠ (TX4 b).2.1 := by decide +kernel
theorem tyX4_ok : ∀ k, k < 2 → parseFieldDescriptor (TX4 k).2.2.1 = some (tyX4 k) := by decide +kernel
def RX5 : String := "WiredBeans$Maker"
def TX5 : u_T := fun k => match k with
  | 0 => ("WiredBeans$Maker", "wiring", "LWiredBeans$Wiring;", true)
  | 1 => ("WiredBeans$Maker", "classes", "[LWiredBeans$DeclaredClass;", true)
  | 2 => ("WiredBeans$Maker", "row", "LWiredBeans$EventRow;", true)
  | 3 => ("WiredBeans$Maker", "objectClasses", "[I", true)
  | 4 => ("WiredBeans$Maker", "objectBeans", "[I", true)
  | 5 => ("WiredBeans$Maker", "objectCount", "I", false)
  | 6 => ("WiredBeans$Maker", "finished", "[LWiredBeans$Bean;", true)
  | 7 => ("WiredBeans$Maker", "finishedCount", "I", false)
  | 8 => ("WiredBeans$Maker", "worked", "[I", true)
  | 9 => ("WiredBeans$Maker", "argAtPlace", "[I", true)
  | 10 => ("WiredBeans$Maker", "innermost", "LWiredBeans$Bean;", false)
  | 11 => ("WiredBeans$Maker", "failure", "I", false)
  | _ => ("WiredBeans$Maker", "failureBean", "I", false)
def tyX5 : Nat → FieldType := fun k => match k with
  | 0 => .object "WiredBeans$Wiring"
  | 1 => .array (.object "WiredBeans$DeclaredClass")
  | 2 => .object "WiredBeans$EventRow"
  | 3 => .array .int
  | 4 => .array .int
  | 5 => .int
  | 6 => .array (.object "WiredBeans$Bean")
  | 7 => .int
  | 8 => .array .int
  | 9 => .array .int
  | 10 => .object "WiredBeans$Bean"
  | 11 => .int
  | _ => .int
abbrev wsX50 : List Cond := u_ws RX5 TX5 13
theorem nmX5 : ∀ a, a < 13 → ∀ b, b < 13 → a ≠ b → (TX5 a).2.1 ≠ (TX5 b).2.1 := by decide +kernel
theorem tyX5_ok : ∀ k, k < 13 → parseFieldDescriptor (TX5 k).2.2.1 = some (tyX5 k) := by decide +kernel
def RJx4a65c : String := "java/util/ArrayList"
def TJx4a65c : u_T := fun k => match k with
  | 0 => ("java/util/AbstractList", "modCount", "I", false)
  | 1 => ("java/util/ArrayList", "elementData", "[Ljava/lang/Object;", false)
  | _ => ("java/util/ArrayList", "size", "I", false)
def tyJx4a65c : Nat → FieldType := fun k => match k with
  | 0 => .int
  | 1 => .array (.object "java/lang/Object")
  | _ => .int
abbrev wsJx4a65c0 : List Cond := u_ws RJx4a65c TJx4a65c 3
theorem nmJx4a65c : ∀ a, a < 3 → ∀ b, b < 3 → a ≠ b → (TJx4a65c a).2.1 ≠ (TJx4a65c b).2.1 := by decide +kernel
theorem tyJx4a65c_ok : ∀ k, k < 3 → parseFieldDescriptor (TJx4a65c k).2.2.1 = some (tyJx4a65c k) := by decide +kernel
def RJxc12de : String := "java/util/AbstractList"
def RJxa1e45 : String := "java/util/AbstractCollection"
def RX13 : String := "WiredBeansModel"
def TX13 : u_T := fun k => match k with
  | 0 => ("WiredBeansModel", "elementNames", "[J", true)
  | 1 => ("WiredBeansModel", "words", "[J", true)
  | 2 => ("WiredBeansModel", "entities", "[J", true)
  | 3 => ("WiredBeansModel", "entityLengths", "[I", true)
  | 4 => ("WiredBeansModel", "entitySigns", "[I", true)
  | 5 => ("WiredBeansModel", "thrown", "I", false)
  | 6 => ("WiredBeansModel", "parents", "[I", true)
  | 7 => ("WiredBeansModel", "makers", "[I", true)
  | 8 => ("WiredBeansModel", "makerSize", "[I", true)
  | 9 => ("WiredBeansModel", "makerType", "[I", true)
  | 10 => ("WiredBeansModel", "setters", "[I", true)
  | 11 => ("WiredBeansModel", "setterName", "[I", true)
  | 12 => ("WiredBeansModel", "setterType", "[I", true)
  | 13 => ("WiredBeansModel", "factories", "[I", true)
  | 14 => ("WiredBeansModel", "factoryName", "[I", true)
  | 15 => ("WiredBeansModel", "factoryResult", "[I", true)
  | 16 => ("WiredBeansModel", "factorySize", "[I", true)
  | 17 => ("WiredBeansModel", "factoryType", "[I", true)
  | 18 => ("WiredBeansModel", "factoryStatic", "[Z", true)
  | 19 => ("WiredBeansModel", "text", "[B", true)
  | 20 => ("WiredBeansModel", "size", "I", false)
  | 21 => ("WiredBeansModel", "at", "I", false)
  | 22 => ("WiredBeansModel", "fault", "I", false)
  | 23 => ("WiredBeansModel", "faultPlace", "I", false)
  | 24 => ("WiredBeansModel", "elements", "I", false)
  | 25 => ("WiredBeansModel", "pool", "I", false)
  | 26 => ("WiredBeansModel", "kinds", "[I", true)
  | 27 => ("WiredBeansModel", "places", "[I", true)
  | 28 => ("WiredBeansModel", "above", "[I", true)
  | 29 => ("WiredBeansModel", "within", "[I", true)
  | 30 => ("WiredBeansModel", "attributes", "[I", true)
  | 31 => ("WiredBeansModel", "textSize", "[I", true)
  | 32 => ("WiredBeansModel", "pending", "[I", true)
  | 33 => ("WiredBeansModel", "textAt", "[I", true)
  | 34 => ("WiredBeansModel", "names", "[J", true)
  | 35 => ("WiredBeansModel", "attributeName", "[J", true)
  | 36 => ("WiredBeansModel", "attributeAt", "[I", true)
  | 37 => ("WiredBeansModel", "attributeSize", "[I", true)
  | 38 => ("WiredBeansModel", "characters", "[B", true)
  | 39 => ("WiredBeansModel", "texts", "[B", true)
  | 40 => ("WiredBeansModel", "document", "Z", false)
  | 41 => ("WiredBeansModel", "beans", "I", false)
  | 42 => ("WiredBeansModel", "beanElement", "[I", true)
  | 43 => ("WiredBeansModel", "beanOf", "[I", true)
  | 44 => ("WiredBeansModel", "setMany", "[I", true)
  | 45 => ("WiredBeansModel", "setElement", "[I", true)
  | 46 => ("WiredBeansModel", "lookupMany", "[I", true)
  | 47 => ("WiredBeansModel", "lookupElement", "[I", true)
  | 48 => ("WiredBeansModel", "objects", "I", false)
  | 49 => ("WiredBeansModel", "events", "I", false)
  | 50 => ("WiredBeansModel", "made", "I", false)
  | 51 => ("WiredBeansModel", "failure", "I", false)
  | 52 => ("WiredBeansModel", "failureBean", "I", false)
  | 53 => ("WiredBeansModel", "objectClass", "[I", true)
  | 54 => ("WiredBeansModel", "objectBean", "[I", true)
  | 55 => ("WiredBeansModel", "eventKind", "[I", true)
  | 56 => ("WiredBeansModel", "eventObject", "[I", true)
  | 57 => ("WiredBeansModel", "eventSecond", "[I", true)
  | 58 => ("WiredBeansModel", "eventThird", "[I", true)
  | 59 => ("WiredBeansModel", "madeOrder", "[I", true)
  | 60 => ("WiredBeansModel", "own", "[I", true)
  | 61 => ("WiredBeansModel", "isMade", "[Z", true)
  | 62 => ("WiredBeansModel", "making", "[Z", true)
  | 63 => ("WiredBeansModel", "high", "I", false)
  | 64 => ("WiredBeansModel", "pileBean", "[I", true)
  | 65 => ("WiredBeansModel", "pilePhase", "[I", true)
  | 66 => ("WiredBeansModel", "pileIndex", "[I", true)
  | 67 => ("WiredBeansModel", "pileItem", "[I", true)
  | 68 => ("WiredBeansModel", "pileFactory", "[I", true)
  | 69 => ("WiredBeansModel", "pileObject", "[I", true)
  | 70 => ("WiredBeansModel", "valueKind", "[I", true)
  | 71 => ("WiredBeansModel", "value", "[I", true)
  | 72 => ("WiredBeansModel", "itemKind", "[I", true)
  | 73 => ("WiredBeansModel", "item", "[I", true)
  | 74 => ("WiredBeansModel", "got", "I", false)
  | 75 => ("WiredBeansModel", "spot", "[I", true)
  | _ => ("WiredBeansModel", "closed", "Z", false)
def tyX13 : Nat → FieldType := fun k => match k with
  | 0 => .array .long
  | 1 => .array .long
  | 2 => .array .long
  | 3 => .array .int
  | 4 => .array .int
  | 5 => .int
  | 6 => .array .int
  | 7 => .array .int
  | 8 => .array .int
  | 9 => .array .int
  | 10 => .array .int
  | 11 => .array .int
  | 12 => .array .int
  | 13 => .array .int
  | 14 => .array .int
  | 15 => .array .int
  | 16 => .array .int
  | 17 => .array .int
  | 18 => .array .boolean
  | 19 => .array .byte
  | 20 => .int
  | 21 => .int
  | 22 => .int
  | 23 => .int
  | 24 => .int
  | 25 => .int
  | 26 => .array .int
  | 27 => .array .int
  | 28 => .array .int
  | 29 => .array .int
  | 30 => .array .int
  | 31 => .array .int
  | 32 => .array .int
  | 33 => .array .int
  | 34 => .array .long
  | 35 => .array .long
  | 36 => .array .int
  | 37 => .array .int
  | 38 => .array .byte
  | 39 => .array .byte
  | 40 => .boolean
  | 41 => .int
  | 42 => .array .int
  | 43 => .array .int
  | 44 => .array .int
  | 45 => .array .int
  | 46 => .array .int
  | 47 => .array .int
  | 48 => .int
  | 49 => .int
  | 50 => .int
  | 51 => .int
  | 52 => .int
  | 53 => .array .int
  | 54 => .array .int
  | 55 => .array .int
  | 56 => .array .int
  | 57 => .array .int
  | 58 => .array .int
  | 59 => .array .int
  | 60 => .array .int
  | 61 => .array .boolean
  | 62 => .array .boolean
  | 63 => .int
  | 64 => .array .int
  | 65 => .array .int
  | 66 => .array .int
  | 67 => .array .int
  | 68 => .array .int
  | 69 => .array .int
  | 70 => .array .int
  | 71 => .array .int
  | 72 => .array .int
  | 73 => .array .int
  | 74 => .int
  | 75 => .array .int
  | _ => .boolean
abbrev wsX130 : List Cond := u_ws RX13 TX13 77
theorem nmX13 : ∀ a, a < 77 → ∀ b, b < 77 → a ≠ b → (TX13 a).2.1 ≠ (TX13 b).2.1 := by decide +kernel
theorem tyX13_ok : ∀ k, k < 77 → parseFieldDescriptor (TX13 k).2.2.1 = some (tyX13 k) := by decide +kernel
def RL : String := "WiredBeansLaw"
abbrev cX12_init : ByteArray := prog_1_method_1_code
def yX12_init : MethodName := ⟨RX12, "<init>", "()V"⟩
abbrev cX12_declare : ByteArray := prog_1_method_2_code
def yX12_declare : MethodName := ⟨RX12, "declare", "(II)Z"⟩
abbrev cX12_constructor : ByteArray := prog_1_method_3_code
def yX12_constructor : MethodName := ⟨RX12, "constructor", "(IIIII)Z"⟩
abbrev cX12_setter : ByteArray := prog_1_method_4_code
def yX12_setter : MethodName := ⟨RX12, "setter", "(III)Z"⟩
abbrev cX12_factory : ByteArray := prog_1_method_5_code
def yX12_factory : MethodName := ⟨RX12, "factory", "(IIZIIIII)Z"⟩
abbrev cX12_type : ByteArray := prog_1_method_6_code
def yX12_type : MethodName := ⟨RX12, "type", "(IIIII)I"⟩
abbrev cX12_read : ByteArray := prog_1_method_7_code
def yX12_read : MethodName := ⟨RX12, "read", "()I"⟩
abbrev cX12_fault : ByteArray := prog_1_method_8_code
def yX12_fault : MethodName := ⟨RX12, "fault", "(I)I"⟩
abbrev cX12_refresh : ByteArray := prog_1_method_9_code
def yX12_refresh : MethodName := ⟨RX12, "refresh", "()I"⟩
abbrev cX12_get : ByteArray := prog_1_method_10_code
def yX12_get : MethodName := ⟨RX12, "get", "(J)I"⟩
abbrev cX12_call : ByteArray := prog_1_method_11_code
def yX12_call : MethodName := ⟨RX12, "call", "(II)I"⟩
abbrev cX12_close : ByteArray := prog_1_method_12_code
def yX12_close : MethodName := ⟨RX12, "close", "()I"⟩
abbrev cX12_events : ByteArray := prog_1_method_13_code
def yX12_events : MethodName := ⟨RX12, "events", "()I"⟩
abbrev cX12_event : ByteArray := prog_1_method_14_code
def yX12_event : MethodName := ⟨RX12, "event", "(II)I"⟩
abbrev cX12_object : ByteArray := prog_1_method_15_code
def yX12_object : MethodName := ⟨RX12, "object", "(II)I"⟩
abbrev cX12_bean : ByteArray := prog_1_method_16_code
def yX12_bean : MethodName := ⟨RX12, "bean", "(II)I"⟩
abbrev cX12_isClass : ByteArray := prog_1_method_17_code
def yX12_isClass : MethodName := ⟨RX12, "isClass", "(I)Z"⟩
abbrev cX12_isLetter : ByteArray := prog_1_method_18_code
def yX12_isLetter : MethodName := ⟨RX12, "isLetter", "(I)Z"⟩
abbrev cX12_isType : ByteArray := prog_1_method_19_code
def yX12_isType : MethodName := ⟨RX12, "isType", "(I)Z"⟩
abbrev cX12_areTypes : ByteArray := prog_1_method_20_code
def yX12_areTypes : MethodName := ⟨RX12, "areTypes", "(IIII)Z"⟩
abbrev cX12_typedBehind : ByteArray := prog_1_method_21_code
def yX12_typedBehind : MethodName := ⟨RX12, "typedBehind", "(II)I"⟩
abbrev cX8_init : ByteArray := prog_10_method_1_code
def yX8_init : MethodName := ⟨RX8, "<init>", "(II)V"⟩
abbrev cX8_describe : ByteArray := prog_10_method_2_code
def yX8_describe : MethodName := ⟨RX8, "describe", "(IZI)V"⟩
abbrev cX8_setTypes : ByteArray := prog_10_method_3_code
def yX8_setTypes : MethodName := ⟨RX8, "setTypes", "(IIII)V"⟩
abbrev cX2_init : ByteArray := prog_4_method_1_code
def yX2_init : MethodName := ⟨RX2, "<init>", "(I)V"⟩
abbrev cX2_begin : ByteArray := prog_4_method_2_code
def yX2_begin : MethodName := ⟨RX2, "begin", "(LWiredBeans$DeclaredClass;)V"⟩
abbrev cX2_addConstructor : ByteArray := prog_4_method_3_code
def yX2_addConstructor : MethodName := ⟨RX2, "addConstructor", "(IIII)Z"⟩
abbrev cX2_addFactory : ByteArray := prog_4_method_4_code
def yX2_addFactory : MethodName := ⟨RX2, "addFactory", "(IZIIIII)Z"⟩
abbrev cX2_addSetter : ByteArray := prog_4_method_5_code
def yX2_addSetter : MethodName := ⟨RX2, "addSetter", "(II)Z"⟩
abbrev cX3_init : ByteArray := prog_5_method_1_code
def yX3_init : MethodName := ⟨RX3, "<init>", "()V"⟩
abbrev cX6_init : ByteArray := prog_8_method_1_code
def yX6_init : MethodName := ⟨RX6, "<init>", "(I)V"⟩
abbrev cX6_clear : ByteArray := prog_8_method_2_code
def yX6_clear : MethodName := ⟨RX6, "clear", "()V"⟩
abbrev cX7_init : ByteArray := prog_9_method_1_code
def yX7_init : MethodName := ⟨RX7, "<init>", "(LWiredBeans$Paper;)V"⟩
abbrev cX7_firstWrongPlace : ByteArray := prog_9_method_2_code
def yX7_firstWrongPlace : MethodName := ⟨RX7, "firstWrongPlace", "([CI)I"⟩
abbrev cX7_skipAround : ByteArray := prog_9_method_8_code
def yX7_skipAround : MethodName := ⟨RX7, "skipAround", "()V"⟩
abbrev cX7_skipsWhite : ByteArray := prog_9_method_7_code
def yX7_skipsWhite : MethodName := ⟨RX7, "skipsWhite", "()Z"⟩
abbrev cX7_openElement : ByteArray := prog_9_method_11_code
def yX7_openElement : MethodName := ⟨RX7, "openElement", "()V"⟩
abbrev cX7_expect : ByteArray := prog_9_method_5_code
def yX7_expect : MethodName := ⟨RX7, "expect", "(C)V"⟩
abbrev cX9_init : ByteArray := prog_11_method_1_code
def yX9_init : MethodName := ⟨RX9, "<init>", "(LWiredBeans$Paper;)V"⟩
abbrev cX1_init : ByteArray := prog_3_method_1_code
def yX1_init : MethodName := ⟨RX1, "<init>", "(I)V"⟩
abbrev cX10_init : ByteArray := prog_12_method_1_code
def yX10_init : MethodName := ⟨RX10, "<init>", "(LWiredBeans$Paper;)V"⟩
abbrev cX10_count : ByteArray := prog_12_method_3_code
def yX10_count : MethodName := ⟨RX10, "count", "()I"⟩
abbrev cX10_forgetBeans : ByteArray := prog_12_method_2_code
def yX10_forgetBeans : MethodName := ⟨RX10, "forgetBeans", "()V"⟩
abbrev cX4_init : ByteArray := prog_6_method_1_code
def yX4_init : MethodName := ⟨RX4, "<init>", "()V"⟩
abbrev cX4_clear : ByteArray := prog_6_method_2_code
def yX4_clear : MethodName := ⟨RX4, "clear", "()V"⟩
abbrev cX4_count : ByteArray := prog_6_method_3_code
def yX4_count : MethodName := ⟨RX4, "count", "()I"⟩
abbrev cX4_number : ByteArray := prog_6_method_5_code
def yX4_number : MethodName := ⟨RX4, "number", "(II)I"⟩
abbrev cX5_init : ByteArray := prog_7_method_1_code
def yX5_init : MethodName := ⟨RX5, "<init>", "(LWiredBeans$Wiring;[LWiredBeans$DeclaredClass;LWiredBeans$EventRow;)V"⟩
abbrev cX5_startAfresh : ByteArray := prog_7_method_2_code
def yX5_startAfresh : MethodName := ⟨RX5, "startAfresh", "()V"⟩
abbrev cX5_forgetMade : ByteArray := prog_7_method_11_code
def yX5_forgetMade : MethodName := ⟨RX5, "forgetMade", "()V"⟩
abbrev cX5_forgetFailure : ByteArray := prog_7_method_3_code
def yX5_forgetFailure : MethodName := ⟨RX5, "forgetFailure", "()V"⟩
abbrev cX5_failure : ByteArray := prog_7_method_4_code
def yX5_failure : MethodName := ⟨RX5, "failure", "()I"⟩
abbrev cX5_failureBean : ByteArray := prog_7_method_5_code
def yX5_failureBean : MethodName := ⟨RX5, "failureBean", "()I"⟩
abbrev cX5_destroyAll : ByteArray := prog_7_method_12_code
def yX5_destroyAll : MethodName := ⟨RX5, "destroyAll", "()V"⟩
abbrev cX5_classOfObject : ByteArray := prog_7_method_8_code
def yX5_classOfObject : MethodName := ⟨RX5, "classOfObject", "(I)I"⟩
abbrev cX5_beanOfObject : ByteArray := prog_7_method_9_code
def yX5_beanOfObject : MethodName := ⟨RX5, "beanOfObject", "(I)I"⟩
abbrev cX5_isObject : ByteArray := prog_7_method_7_code
def yX5_isObject : MethodName := ⟨RX5, "isObject", "(I)Z"⟩
abbrev cJx4a65c_init_da8c8 : ByteArray := prog_34_method_2_code
def yJx4a65c_init_da8c8 : MethodName := ⟨RJx4a65c, "<init>", "()V"⟩
abbrev cJxc12de_init_da8c8 : ByteArray := prog_33_method_1_code
def yJxc12de_init_da8c8 : MethodName := ⟨RJxc12de, "<init>", "()V"⟩
abbrev cJxa1e45_init_da8c8 : ByteArray := prog_32_method_1_code
def yJxa1e45_init_da8c8 : MethodName := ⟨RJxa1e45, "<init>", "()V"⟩
abbrev cX13_init : ByteArray := prog_15_method_1_code
def yX13_init : MethodName := ⟨RX13, "<init>", "()V"⟩
abbrev cX13_thrown : ByteArray := prog_15_method_2_code
def yX13_thrown : MethodName := ⟨RX13, "thrown", "()I"⟩
abbrev cX13_isClass : ByteArray := prog_15_method_3_code
def yX13_isClass : MethodName := ⟨RX13, "isClass", "(I)Z"⟩
abbrev cX13_isType : ByteArray := prog_15_method_4_code
def yX13_isType : MethodName := ⟨RX13, "isType", "(I)Z"⟩
abbrev cX13_areTypes : ByteArray := prog_15_method_5_code
def yX13_areTypes : MethodName := ⟨RX13, "areTypes", "(IIII)Z"⟩
abbrev cX13_isLetter : ByteArray := prog_15_method_6_code
def yX13_isLetter : MethodName := ⟨RX13, "isLetter", "(I)Z"⟩
abbrev cX13_declare : ByteArray := prog_15_method_7_code
def yX13_declare : MethodName := ⟨RX13, "declare", "(II)Z"⟩
abbrev cX13_constructor : ByteArray := prog_15_method_8_code
def yX13_constructor : MethodName := ⟨RX13, "constructor", "(IIIII)Z"⟩
abbrev cX13_setter : ByteArray := prog_15_method_9_code
def yX13_setter : MethodName := ⟨RX13, "setter", "(III)Z"⟩
abbrev cX13_factory : ByteArray := prog_15_method_10_code
def yX13_factory : MethodName := ⟨RX13, "factory", "(IIZIIIII)Z"⟩
abbrev cX13_type : ByteArray := prog_15_method_14_code
def yX13_type : MethodName := ⟨RX13, "type", "(IIIII)I"⟩
abbrev cX13_bad : ByteArray := prog_15_method_15_code
def yX13_bad : MethodName := ⟨RX13, "bad", "(I)V"⟩
abbrev cX13_here : ByteArray := prog_15_method_16_code
def yX13_here : MethodName := ⟨RX13, "here", "(I)I"⟩
abbrev cX13_isWhite : ByteArray := prog_15_method_18_code
def yX13_isWhite : MethodName := ⟨RX13, "isWhite", "(I)Z"⟩
abbrev cX13_white : ByteArray := prog_15_method_19_code
def yX13_white : MethodName := ⟨RX13, "white", "()I"⟩
abbrev cX13_between : ByteArray := prog_15_method_22_code
def yX13_between : MethodName := ⟨RX13, "between", "()V"⟩
abbrev cX13_begin : ByteArray := prog_15_method_30_code
def yX13_begin : MethodName := ⟨RX13, "begin", "(II)I"⟩
abbrev cX13_readDocument : ByteArray := prog_15_method_32_code
def yX13_readDocument : MethodName := ⟨RX13, "readDocument", "()V"⟩
abbrev cX13_clear : ByteArray := prog_15_method_61_code
def yX13_clear : MethodName := ⟨RX13, "clear", "()V"⟩
abbrev cX13_read : ByteArray := prog_15_method_62_code
def yX13_read : MethodName := ⟨RX13, "read", "()I"⟩
abbrev cX13_fault : ByteArray := prog_15_method_63_code
def yX13_fault : MethodName := ⟨RX13, "fault", "(I)I"⟩
abbrev cX13_refresh : ByteArray := prog_15_method_90_code
def yX13_refresh : MethodName := ⟨RX13, "refresh", "()I"⟩
abbrev cX13_get : ByteArray := prog_15_method_92_code
def yX13_get : MethodName := ⟨RX13, "get", "(J)I"⟩
abbrev cX13_call : ByteArray := prog_15_method_93_code
def yX13_call : MethodName := ⟨RX13, "call", "(II)I"⟩
abbrev cX13_close : ByteArray := prog_15_method_95_code
def yX13_close : MethodName := ⟨RX13, "close", "()I"⟩
abbrev cX13_events : ByteArray := prog_15_method_96_code
def yX13_events : MethodName := ⟨RX13, "events", "()I"⟩
abbrev cX13_event : ByteArray := prog_15_method_97_code
def yX13_event : MethodName := ⟨RX13, "event", "(II)I"⟩
abbrev cX13_object : ByteArray := prog_15_method_98_code
def yX13_object : MethodName := ⟨RX13, "object", "(II)I"⟩
abbrev cX13_bean : ByteArray := prog_15_method_99_code
def yX13_bean : MethodName := ⟨RX13, "bean", "(II)I"⟩
abbrev cL_law : ByteArray := code
def yL_law : MethodName := ⟨RL, "law", "([I)Z"⟩
abbrev cL_read : ByteArray := method_3_code
def yL_read : MethodName := ⟨RL, "read", "(LWiredBeans;[J)I"⟩
abbrev cL_refresh : ByteArray := method_4_code
def yL_refresh : MethodName := ⟨RL, "refresh", "(LWiredBeans;[J)I"⟩
abbrev cL_get : ByteArray := method_5_code
def yL_get : MethodName := ⟨RL, "get", "(LWiredBeans;J[J)I"⟩
abbrev cL_call : ByteArray := method_6_code
def yL_call : MethodName := ⟨RL, "call", "(LWiredBeans;II[J)I"⟩
abbrev vwCl : List vw_C := [(RJx4a65c, TJx4a65c, 3), (RX1, TX1, 19), (RX2, TX2, 8), (RX3, TX3, 21), (RX4, TX4, 2), (RX5, TX5, 13), (RX6, TX6, 8), (RX7, TX7, 6), (RX8, TX8, 7), (RX9, TX9, 1), (RX10, TX10, 4), (RX12, TX12, 12), (RX13, TX13, 77)]
abbrev nvJx4a65c : List Value := [.int 0, .null, .int 0]
theorem nwJx4a65c : ∀ j, j < 3 → defaultValue (tyJx4a65c j) = vp_V nvJx4a65c j := by
  intro j hj
  match j, hj with
  | 0, _ => rfl
  | 1, _ => rfl
  | 2, _ => rfl
  | n + 3, h => exact absurd h (by omega)
abbrev nvX1 : List Value := [.int 0, .null, .null, .null, .null, .long 0, .long 0, .long 0, .long 0, .int 0, .int 0, .int 0, .int 0, .int 0, .int 0, .int 0, .int 0, .int 0, .int 0]
theorem nwX1 : ∀ j, j < 19 → defaultValue (tyX1 j) = vp_V nvX1 j := by
  intro j hj
  match j, hj with
  | 0, _ => rfl
  | 1, _ => rfl
  | 2, _ => rfl
  | 3, _ => rfl
  | 4, _ => rfl
  | 5, _ => rfl
  | 6, _ => rfl
  | 7, _ => rfl
  | 8, _ => rfl
  | 9, _ => rfl
  | 10, _ => rfl
  | 11, _ => rfl
  | 12, _ => rfl
  | 13, _ => rfl
  | 14, _ => rfl
  | 15, _ => rfl
  | 16, _ => rfl
  | 17, _ => rfl
  | 18, _ => rfl
  | n + 19, h => exact absurd h (by omega)
abbrev nvX2 : List Value := [.null, .null, .int 0, .int 0, .int 0, .null, .int 0, .null]
theorem nwX2 : ∀ j, j < 8 → defaultValue (tyX2 j) = vp_V nvX2 j := by
  intro j hj
  match j, hj with
  | 0, _ => rfl
  | 1, _ => rfl
  | 2, _ => rfl
  | 3, _ => rfl
  | 4, _ => rfl
  | 5, _ => rfl
  | 6, _ => rfl
  | 7, _ => rfl
  | n + 8, h => exact absurd h (by omega)
abbrev nvX3 : List Value := [.null, .int 0, .int 0, .int 0, .null, .null, .null, .null, .int 0, .int 0, .int 0, .long 0, .long 0, .long 0, .int 0, .int 0, .int 0, .int 0, .null, .null, .null]
theorem nwX3 : ∀ j, j < 21 → defaultValue (tyX3 j) = vp_V nvX3 j := by
  intro j hj
  match j, hj with
  | 0, _ => rfl
  | 1, _ => rfl
  | 2, _ => rfl
  | 3, _ => rfl
  | 4, _ => rfl
  | 5, _ => rfl
  | 6, _ => rfl
  | 7, _ => rfl
  | 8, _ => rfl
  | 9, _ => rfl
  | 10, _ => rfl
  | 11, _ => rfl
  | 12, _ => rfl
  | 13, _ => rfl
  | 14, _ => rfl
  | 15, _ => rfl
  | 16, _ => rfl
  | 17, _ => rfl
  | 18, _ => rfl
  | 19, _ => rfl
  | 20, _ => rfl
  | n + 21, h => exact absurd h (by omega)
abbrev nvX4 : List Value := [.null, .int 0]
theorem nwX4 : ∀ j, j < 2 → defaultValue (tyX4 j) = vp_V nvX4 j := by
  intro j hj
  match j, hj with
  | 0, _ => rfl
  | 1, _ => rfl
  | n + 2, h => exact absurd h (by omega)
abbrev nvX5 : List Value := [.null, .null, .null, .null, .null, .int 0, .null, .int 0, .null, .null, .null, .int 0, .int 0]
theorem nwX5 : ∀ j, j < 13 → defaultValue (tyX5 j) = vp_V nvX5 j := by
  intro j hj
  match j, hj with
  | 0, _ => rfl
  | 1, _ => rfl
  | 2, _ => rfl
  | 3, _ => rfl
  | 4, _ => rfl
  | 5, _ => rfl
  | 6, _ => rfl
  | 7, _ => rfl
  | 8, _ => rfl
  | 9, _ => rfl
  | 10, _ => rfl
  | 11, _ => rfl
  | 12, _ => rfl
  | n + 13, h => exact absurd h (by omega)
abbrev nvX6 : List Value := [.null, .null, .null, .null, .null, .int 0, .int 0, .int 0]
theorem nwX6 : ∀ j, j < 8 → defaultValue (tyX6 j) = vp_V nvX6 j := by
  intro j hj
  match j, hj with
  | 0, _ => rfl
  | 1, _ => rfl
  | 2, _ => rfl
  | 3, _ => rfl
  | 4, _ => rfl
  | 5, _ => rfl
  | 6, _ => rfl
  | 7, _ => rfl
  | n + 8, h => exact absurd h (by omega)
abbrev nvX7 : List Value := [.null, .null, .int 0, .int 0, .int 0, .null]
theorem nwX7 : ∀ j, j < 6 → defaultValue (tyX7 j) = vp_V nvX7 j := by
  intro j hj
  match j, hj with
  | 0, _ => rfl
  | 1, _ => rfl
  | 2, _ => rfl
  | 3, _ => rfl
  | 4, _ => rfl
  | 5, _ => rfl
  | n + 6, h => exact absurd h (by omega)
abbrev nvX8 : List Value := [.int 0, .int 0, .null, .int 0, .int 0, .int 0, .int 0]
theorem nwX8 : ∀ j, j < 7 → defaultValue (tyX8 j) = vp_V nvX8 j := by
  intro j hj
  match j, hj with
  | 0, _ => rfl
  | 1, _ => rfl
  | 2, _ => rfl
  | 3, _ => rfl
  | 4, _ => rfl
  | 5, _ => rfl
  | 6, _ => rfl
  | n + 7, h => exact absurd h (by omega)
abbrev nvX9 : List Value := [.null]
theorem nwX9 : ∀ j, j < 1 → defaultValue (tyX9 j) = vp_V nvX9 j := by
  intro j hj
  match j, hj with
  | 0, _ => rfl
  | n + 1, h => exact absurd h (by omega)
abbrev nvX10 : List Value := [.null, .null, .null, .int 0]
theorem nwX10 : ∀ j, j < 4 → defaultValue (tyX10 j) = vp_V nvX10 j := by
  intro j hj
  match j, hj with
  | 0, _ => rfl
  | 1, _ => rfl
  | 2, _ => rfl
  | 3, _ => rfl
  | n + 4, h => exact absurd h (by omega)
abbrev nvX12 : List Value := [.null, .null, .null, .null, .null, .null, .null, .null, .int 0, .int 0, .int 0, .int 0]
theorem nwX12 : ∀ j, j < 12 → defaultValue (tyX12 j) = vp_V nvX12 j := by
  intro j hj
  match j, hj with
  | 0, _ => rfl
  | 1, _ => rfl
  | 2, _ => rfl
  | 3, _ => rfl
  | 4, _ => rfl
  | 5, _ => rfl
  | 6, _ => rfl
  | 7, _ => rfl
  | 8, _ => rfl
  | 9, _ => rfl
  | 10, _ => rfl
  | 11, _ => rfl
  | n + 12, h => exact absurd h (by omega)
abbrev nvX13 : List Value := [.null, .null, .null, .null, .null, .int 0, .null, .null, .null, .null, .null, .null, .null, .null, .null, .null, .null, .null, .null, .null, .int 0, .int 0, .int 0, .int 0, .int 0, .int 0, .null, .null, .null, .null, .null, .null, .null, .null, .null, .null, .null, .null, .null, .null, .int 0, .int 0, .null, .null, .null, .null, .null, .null, .int 0, .int 0, .int 0, .int 0, .int 0, .null, .null, .null, .null, .null, .null, .null, .null, .null, .null, .int 0, .null, .null, .null, .null, .null, .null, .null, .null, .null, .null, .int 0, .null, .int 0]
theorem nwX13 : ∀ j, j < 77 → defaultValue (tyX13 j) = vp_V nvX13 j := by
  intro j hj
  match j, hj with
  | 0, _ => rfl
  | 1, _ => rfl
  | 2, _ => rfl
  | 3, _ => rfl
  | 4, _ => rfl
  | 5, _ => rfl
  | 6, _ => rfl
  | 7, _ => rfl
  | 8, _ => rfl
  | 9, _ => rfl
  | 10, _ => rfl
  | 11, _ => rfl
  | 12, _ => rfl
  | 13, _ => rfl
  | 14, _ => rfl
  | 15, _ => rfl
  | 16, _ => rfl
  | 17, _ => rfl
  | 18, _ => rfl
  | 19, _ => rfl
  | 20, _ => rfl
  | 21, _ => rfl
  | 22, _ => rfl
  | 23, _ => rfl
  | 24, _ => rfl
  | 25, _ => rfl
  | 26, _ => rfl
  | 27, _ => rfl
  | 28, _ => rfl
  | 29, _ => rfl
  | 30, _ => rfl
  | 31, _ => rfl
  | 32, _ => rfl
  | 33, _ => rfl
  | 34, _ => rfl
  | 35, _ => rfl
  | 36, _ => rfl
  | 37, _ => rfl
  | 38, _ => rfl
  | 39, _ => rfl
  | 40, _ => rfl
  | 41, _ => rfl
  | 42, _ => rfl
  | 43, _ => rfl
  | 44, _ => rfl
  | 45, _ => rfl
  | 46, _ => rfl
  | 47, _ => rfl
  | 48, _ => rfl
  | 49, _ => rfl
  | 50, _ => rfl
  | 51, _ => rfl
  | 52, _ => rfl
  | 53, _ => rfl
  | 54, _ => rfl
  | 55, _ => rfl
  | 56, _ => rfl
  | 57, _ => rfl
  | 58, _ => rfl
  | 59, _ => rfl
  | 60, _ => rfl
  | 61, _ => rfl
  | 62, _ => rfl
  | 63, _ => rfl
  | 64, _ => rfl
  | 65, _ => rfl
  | 66, _ => rfl
  | 67, _ => rfl
  | 68, _ => rfl
  | 69, _ => rfl
  | 70, _ => rfl
  | 71, _ => rfl
  | 72, _ => rfl
  | 73, _ => rfl
  | 74, _ => rfl
  | 75, _ => rfl
  | 76, _ => rfl
  | n + 77, h => exact absurd h (by omega)
def tbA_0 : List Cond := [.methodLink RX12 1 objectInit, .instanceMethod objectInit, .classLink RX12 9 RX2, .fieldLink RX12 11 "WiredBeans" "classes" "[LWiredBeans$DeclaredClass;", .initialized RX2, .instantiable RX2 8, .methodLink RX12 15 yX2_init, .instanceMethod yX2_init, .arrayClass .char, .fieldLink RX12 18 "WiredBeans" "typed" "[C", .classLink RX12 22 RX6, .initialized RX6, .instantiable RX6 8, .methodLink RX12 24 yX6_init, .instanceMethod yX6_init, .fieldLink RX12 25 "WiredBeans" "paper" "LWiredBeans$Paper;", .classLink RX12 29 RX7, .initialized RX7, .instantiable RX7 6, .methodLink RX12 31 yX7_init, .instanceMethod yX7_init, .fieldLink RX12 34 "WiredBeans" "reader" "LWiredBeans$Reader;", .classLink RX12 38 RX9, .initialized RX9]
def tbA_1 : List Cond := [.instantiable RX9 1, .methodLink RX12 40 yX9_init, .instanceMethod yX9_init, .fieldLink RX12 41 "WiredBeans" "structure" "LWiredBeans$Structure;", .classLink RX12 45 RX10, .initialized RX10, .instantiable RX10 4, .methodLink RX12 47 yX10_init, .instanceMethod yX10_init, .fieldLink RX12 48 "WiredBeans" "wiring" "LWiredBeans$Wiring;", .classLink RX12 52 RX4, .initialized RX4, .instantiable RX4 2, .methodLink RX12 54 yX4_init, .instanceMethod yX4_init, .fieldLink RX12 55 "WiredBeans" "row" "LWiredBeans$EventRow;", .classLink RX12 59 RX5, .initialized RX5, .instantiable RX5 13, .methodLink RX12 61 yX5_init, .instanceMethod yX5_init, .fieldLink RX12 64 "WiredBeans" "maker" "LWiredBeans$Maker;", .fieldLink RX12 68 "WiredBeans" "faultPlace" "I", .methodLink RX12 72 yX12_isClass]
def tbA_2 : List Cond := [.static yX12_isClass, .initialized RX12, .methodLink RX12 76 yX2_begin, .instanceMethod yX2_begin, .selects RX2 yX2_begin yX2_begin, .methodLink RX12 80 yX12_areTypes, .static yX12_areTypes, .methodLink RX12 84 yX2_addConstructor, .instanceMethod yX2_addConstructor, .selects RX2 yX2_addConstructor yX2_addConstructor, .methodLink RX12 87 yX12_isLetter, .static yX12_isLetter, .methodLink RX12 90 yX12_isType, .static yX12_isType, .methodLink RX12 93 yX2_addSetter, .instanceMethod yX2_addSetter, .selects RX2 yX2_addSetter yX2_addSetter, .methodLink RX12 97 yX2_addFactory, .instanceMethod yX2_addFactory, .selects RX2 yX2_addFactory yX2_addFactory, .fieldLink RX12 101 "WiredBeans" "typedLength" "I", .methodLink RX12 104 yX12_typedBehind, .instanceMethod yX12_typedBehind, .selects RX12 yX12_typedBehind yX12_typedBehind]
def tbA_3 : List Cond := [.methodLink RX12 108 yX5_startAfresh, .instanceMethod yX5_startAfresh, .selects RX5 yX5_startAfresh yX5_startAfresh, .fieldLink RX12 111 "WiredBeans" "faultNumber" "I", .methodLink RX12 114 yX7_firstWrongPlace, .instanceMethod yX7_firstWrongPlace, .selects RX7 yX7_firstWrongPlace yX7_firstWrongPlace, .fieldLink RX12 122 "WiredBeans" "hasDocument" "Z", .methodLink RX12 126 yX10_forgetBeans, .instanceMethod yX10_forgetBeans, .selects RX10 yX10_forgetBeans yX10_forgetBeans, .classLink RX12 129 "java/lang/IllegalArgumentException", .initialized "java/lang/IllegalArgumentException", .methodLink RX12 132 yX10_count, .instanceMethod yX10_count, .selects RX10 yX10_count yX10_count, .methodLink RX12 135 yX5_failure, .instanceMethod yX5_failure, .selects RX5 yX5_failure yX5_failure, .methodLink RX12 138 yX5_failureBean, .instanceMethod yX5_failureBean, .selects RX5 yX5_failureBean yX5_failureBean, .methodLink RX12 141 yX5_forgetFailure, .instanceMethod yX5_forgetFailure]
def tbA_4 : List Cond := [.selects RX5 yX5_forgetFailure yX5_forgetFailure, .classLink RX12 144 "java/lang/IllegalStateException", .initialized "java/lang/IllegalStateException", .classLink RX12 151 "java/lang/UnsupportedOperationException", .initialized "java/lang/UnsupportedOperationException", .classLink RX12 169 "java/lang/IndexOutOfBoundsException", .initialized "java/lang/IndexOutOfBoundsException", .fieldLink RX12 172 "WiredBeans$Element" "target" "J", .methodLink RX12 178 yX5_destroyAll, .instanceMethod yX5_destroyAll, .selects RX5 yX5_destroyAll yX5_destroyAll, .methodLink RX12 181 yX4_count, .instanceMethod yX4_count, .selects RX4 yX4_count yX4_count, .methodLink RX12 182 yX4_number, .instanceMethod yX4_number, .selects RX4 yX4_number yX4_number, .methodLink RX12 185 yX5_classOfObject, .instanceMethod yX5_classOfObject, .selects RX5 yX5_classOfObject yX5_classOfObject, .methodLink RX12 189 yX5_beanOfObject, .instanceMethod yX5_beanOfObject, .selects RX5 yX5_beanOfObject yX5_beanOfObject, .methodLink RX8 3 objectInit]
def tbA_5 : List Cond := [.fieldLink RX8 9 "WiredBeans$Signature" "owner" "I", .fieldLink RX8 15 "WiredBeans$Signature" "number" "I", .arrayClass .int, .fieldLink RX8 18 "WiredBeans$Signature" "types" "[I", .fieldLink RX8 22 "WiredBeans$Signature" "name" "I", .fieldLink RX8 25 "WiredBeans$Signature" "isStatic" "Z", .fieldLink RX8 29 "WiredBeans$Signature" "result" "I", .fieldLink RX8 32 "WiredBeans$Signature" "count" "I", .methodLink RX2 3 objectInit, .fieldLink RX2 9 "WiredBeans$DeclaredClass" "number" "I", .classLink RX2 15 RX8, .fieldLink RX2 17 "WiredBeans$DeclaredClass" "constructors" "[LWiredBeans$Signature;", .fieldLink RX2 21 "WiredBeans$DeclaredClass" "factories" "[LWiredBeans$Signature;", .initialized RX8, .instantiable RX8 7, .methodLink RX2 24 yX8_init, .instanceMethod yX8_init, .fieldLink RX2 27 "WiredBeans$DeclaredClass" "setterTypes" "[I", .fieldLink RX2 31 "WiredBeans$DeclaredClass" "parent" "LWiredBeans$DeclaredClass;", .fieldLink RX2 35 "WiredBeans$DeclaredClass" "constructorCount" "I", .fieldLink RX2 38 "WiredBeans$DeclaredClass" "factoryCount" "I", .fieldLink RX2 41 "WiredBeans$DeclaredClass" "setterCount" "I", .methodLink RX2 44 yX8_describe, .instanceMethod yX8_describe]
def tbA_6 : List Cond := [.selects RX8 yX8_describe yX8_describe, .methodLink RX2 48 yX8_setTypes, .instanceMethod yX8_setTypes, .selects RX8 yX8_setTypes yX8_setTypes, .methodLink RX3 3 objectInit, .fieldLink RX3 11 "WiredBeans$Element" "text" "[C", .methodLink RX6 3 objectInit, .classLink RX6 11 RX3, .fieldLink RX6 13 "WiredBeans$Paper" "elements" "[LWiredBeans$Element;", .initialized RX3, .instantiable RX3 21, .methodLink RX6 17 yX3_init, .instanceMethod yX3_init, .arrayClass .long, .fieldLink RX6 18 "WiredBeans$Paper" "attributeKeys" "[J", .fieldLink RX6 22 "WiredBeans$Paper" "valueStarts" "[I", .fieldLink RX6 26 "WiredBeans$Paper" "valueLengths" "[I", .fieldLink RX6 29 "WiredBeans$Paper" "values" "[C", .fieldLink RX6 33 "WiredBeans$Paper" "count" "I", .fieldLink RX6 37 "WiredBeans$Paper" "attributes" "I", .fieldLink RX6 40 "WiredBeans$Paper" "valuesEnd" "I", .methodLink RX7 3 objectInit, .fieldLink RX7 9 "WiredBeans$Reader" "paper" "LWiredBeans$Paper;", .fieldLink RX7 15 "WiredBeans$Reader" "text" "[C"]
def tbA_7 : List Cond := [.fieldLink RX7 19 "WiredBeans$Reader" "length" "I", .fieldLink RX7 23 "WiredBeans$Reader" "at" "I", .fieldLink RX7 26 "WiredBeans$Reader" "depth" "I", .fieldLink RX7 29 "WiredBeans$Reader" "open" "LWiredBeans$Element;", .methodLink RX7 33 yX6_clear, .instanceMethod yX6_clear, .selects RX6 yX6_clear yX6_clear, .methodLink RX7 38 yX7_skipAround, .instanceMethod yX7_skipAround, .selects RX7 yX7_skipAround yX7_skipAround, .methodLink RX7 41 yX7_openElement, .instanceMethod yX7_openElement, .selects RX7 yX7_openElement yX7_openElement, .classLink RX7 50 "java/lang/IllegalArgumentException", .methodLink RX7 53 yX7_skipsWhite, .instanceMethod yX7_skipsWhite, .selects RX7 yX7_skipsWhite yX7_skipsWhite, .methodLink RX7 64 yX7_expect, .instanceMethod yX7_expect, .selects RX7 yX7_expect yX7_expect, .fieldLink RX7 101 "WiredBeans$Element" "word" "LWiredBeans$Word;", .methodLink RX9 3 objectInit, .fieldLink RX9 9 "WiredBeans$Structure" "paper" "LWiredBeans$Paper;", .methodLink RX1 3 objectInit]
def tbA_8 : List Cond := [.fieldLink RX1 9 "WiredBeans$Bean" "number" "I", .classLink RX1 15 RJx4a65c, .initialized RJx4a65c, .instantiable RJx4a65c 3, .methodLink RX1 17 yJx4a65c_init_da8c8, .instanceMethod yJx4a65c_init_da8c8, .fieldLink RX1 18 "WiredBeans$Bean" "args" "Ljava/util/ArrayList;", .fieldLink RX1 22 "WiredBeans$Bean" "sets" "Ljava/util/ArrayList;", .fieldLink RX1 25 "WiredBeans$Bean" "lookups" "Ljava/util/ArrayList;", .methodLink RX10 3 objectInit, .fieldLink RX10 9 "WiredBeans$Wiring" "paper" "LWiredBeans$Paper;", .classLink RX10 17 RX1, .fieldLink RX10 19 "WiredBeans$Wiring" "beans" "[LWiredBeans$Bean;", .initialized RX1, .instantiable RX1 19, .methodLink RX10 23 yX1_init, .instanceMethod yX1_init, .fieldLink RX10 26 "WiredBeans$Wiring" "chain" "[LWiredBeans$Bean;", .fieldLink RX10 29 "WiredBeans$Wiring" "count" "I", .methodLink RX4 3 objectInit, .fieldLink RX4 11 "WiredBeans$EventRow" "numbers" "[I", .fieldLink RX4 15 "WiredBeans$EventRow" "count" "I", .methodLink RX5 7 objectInit, .fieldLink RX5 13 "WiredBeans$Maker" "wiring" "LWiredBeans$Wiring;"]
def tbA_9 : List Cond := [.fieldLink RX5 17 "WiredBeans$Maker" "classes" "[LWiredBeans$DeclaredClass;", .fieldLink RX5 21 "WiredBeans$Maker" "row" "LWiredBeans$EventRow;", .fieldLink RX5 25 "WiredBeans$Maker" "objectClasses" "[I", .fieldLink RX5 29 "WiredBeans$Maker" "objectBeans" "[I", .classLink RX5 34 RX1, .fieldLink RX5 36 "WiredBeans$Maker" "finished" "[LWiredBeans$Bean;", .fieldLink RX5 40 "WiredBeans$Maker" "worked" "[I", .fieldLink RX5 43 "WiredBeans$Maker" "argAtPlace" "[I", .fieldLink RX5 46 "WiredBeans$Maker" "failureBean" "I", .fieldLink RX5 50 "WiredBeans$Maker" "objectCount" "I", .methodLink RX5 53 yX5_forgetMade, .instanceMethod yX5_forgetMade, .selects RX5 yX5_forgetMade yX5_forgetMade, .methodLink RX5 56 yX4_clear, .instanceMethod yX4_clear, .selects RX4 yX4_clear yX4_clear, .methodLink RX5 78 yX10_count, .fieldLink RX5 82 "WiredBeans$Bean" "isMade" "Z", .fieldLink RX5 86 "WiredBeans$Maker" "finishedCount" "I", .fieldLink RX5 61 "WiredBeans$Maker" "failure" "I", .fieldLink RX5 89 "WiredBeans$Bean" "destroy" "I", .fieldLink RX5 92 "WiredBeans$Bean" "madeObject" "I", .methodLink RX5 64 yX5_isObject, .instanceMethod yX5_isObject]
def tbA_10 : List Cond := [.selects RX5 yX5_isObject yX5_isObject, .methodLink RJx4a65c 1 yJxc12de_init_da8c8, .instanceMethod yJxc12de_init_da8c8, .initialized RJxc12de, .fieldLink RJx4a65c 39 "java/util/ArrayList" "DEFAULTCAPACITY_EMPTY_ELEMENTDATA" "[Ljava/lang/Object;", .fieldLink RJx4a65c 9 "java/util/ArrayList" "elementData" "[Ljava/lang/Object;", .methodLink RJxc12de 1 yJxa1e45_init_da8c8, .instanceMethod yJxa1e45_init_da8c8, .initialized RJxa1e45, .fieldLink RJxc12de 7 "java/util/AbstractList" "modCount" "I", .methodLink RJxa1e45 1 objectInit, .methodLink RX13 1 objectInit, .constantLong RX13 7 (422607679091), .constantLong RX13 9 (418430673267), .constantLong RX13 11 (1650811246), .constantLong RX13 13 (6386279), .constantLong RX13 15 (7562612), .constantLong RX13 17 (1818850164), .constantLong RX13 19 (508440638821), .constantLong RX13 21 (7497062), .constantLong RX13 23 (1853189228), .constantLong RX13 25 (119225866483056), .fieldLink RX13 27 "WiredBeansModel" "elementNames" "[J", .constantLong RX13 33 (7955827)]
def tbA_11 : List Cond := [.constantLong RX13 35 (28271), .constantLong RX13 37 (7302757), .constantLong RX13 39 (1835101817), .constantLong RX13 41 (6909556), .constantLong RX13 43 (500136506472), .constantLong RX13 45 (1667785074), .constantLong RX13 47 (1952807028), .constantLong RX13 49 (7499639), .constantLong RX13 51 (1953658213), .constantLong RX13 53 (439721161573), .fieldLink RX13 55 "WiredBeansModel" "words" "[J", .constantLong RX13 58 (7107643), .constantLong RX13 60 (6779963), .constantLong RX13 62 (1634562107), .constantLong RX13 64 (487301542971), .constantLong RX13 66 (418498179899), .fieldLink RX13 68 "WiredBeansModel" "entities" "[J", .fieldLink RX13 71 "WiredBeansModel" "entityLengths" "[I", .fieldLink RX13 75 "WiredBeansModel" "entitySigns" "[I", .fieldLink RX13 78 "WiredBeansModel" "parents" "[I", .fieldLink RX13 81 "WiredBeansModel" "makers" "[I", .fieldLink RX13 84 "WiredBeansModel" "makerSize" "[I", .fieldLink RX13 87 "WiredBeansModel" "makerType" "[I", .fieldLink RX13 90 "WiredBeansModel" "setters" "[I"]
def tbA_12 : List Cond := [.fieldLink RX13 93 "WiredBeansModel" "setterName" "[I", .fieldLink RX13 96 "WiredBeansModel" "setterType" "[I", .fieldLink RX13 99 "WiredBeansModel" "factories" "[I", .fieldLink RX13 102 "WiredBeansModel" "factoryName" "[I", .fieldLink RX13 105 "WiredBeansModel" "factoryResult" "[I", .fieldLink RX13 108 "WiredBeansModel" "factorySize" "[I", .fieldLink RX13 111 "WiredBeansModel" "factoryType" "[I", .arrayClass .boolean, .fieldLink RX13 114 "WiredBeansModel" "factoryStatic" "[Z", .arrayClass .byte, .fieldLink RX13 118 "WiredBeansModel" "text" "[B", .fieldLink RX13 122 "WiredBeansModel" "faultPlace" "I", .fieldLink RX13 126 "WiredBeansModel" "kinds" "[I", .fieldLink RX13 129 "WiredBeansModel" "places" "[I", .fieldLink RX13 132 "WiredBeansModel" "above" "[I", .fieldLink RX13 135 "WiredBeansModel" "within" "[I", .fieldLink RX13 138 "WiredBeansModel" "attributes" "[I", .fieldLink RX13 141 "WiredBeansModel" "textSize" "[I", .fieldLink RX13 144 "WiredBeansModel" "pending" "[I", .fieldLink RX13 147 "WiredBeansModel" "textAt" "[I", .fieldLink RX13 150 "WiredBeansModel" "names" "[J", .fieldLink RX13 153 "WiredBeansModel" "attributeName" "[J", .fieldLink RX13 156 "WiredBeansModel" "attributeAt" "[I", .fieldLink RX13 159 "WiredBeansModel" "attributeSize" "[I"]
def tbA_13 : List Cond := [.fieldLink RX13 162 "WiredBeansModel" "characters" "[B", .fieldLink RX13 165 "WiredBeansModel" "texts" "[B", .fieldLink RX13 168 "WiredBeansModel" "beanElement" "[I", .fieldLink RX13 171 "WiredBeansModel" "beanOf" "[I", .fieldLink RX13 174 "WiredBeansModel" "setMany" "[I", .fieldLink RX13 177 "WiredBeansModel" "setElement" "[I", .fieldLink RX13 180 "WiredBeansModel" "lookupMany" "[I", .fieldLink RX13 183 "WiredBeansModel" "lookupElement" "[I", .fieldLink RX13 186 "WiredBeansModel" "failureBean" "I", .fieldLink RX13 189 "WiredBeansModel" "objectClass" "[I", .fieldLink RX13 192 "WiredBeansModel" "objectBean" "[I", .fieldLink RX13 195 "WiredBeansModel" "eventKind" "[I", .fieldLink RX13 198 "WiredBeansModel" "eventObject" "[I", .fieldLink RX13 201 "WiredBeansModel" "eventSecond" "[I", .fieldLink RX13 204 "WiredBeansModel" "eventThird" "[I", .fieldLink RX13 207 "WiredBeansModel" "madeOrder" "[I", .fieldLink RX13 210 "WiredBeansModel" "own" "[I", .fieldLink RX13 213 "WiredBeansModel" "isMade" "[Z", .fieldLink RX13 216 "WiredBeansModel" "making" "[Z", .fieldLink RX13 219 "WiredBeansModel" "pileBean" "[I", .fieldLink RX13 222 "WiredBeansModel" "pilePhase" "[I", .fieldLink RX13 225 "WiredBeansModel" "pileIndex" "[I", .fieldLink RX13 228 "WiredBeansModel" "pileItem" "[I", .fieldLink RX13 231 "WiredBeansModel" "pileFactory" "[I"]
def tbA_14 : List Cond := [.fieldLink RX13 234 "WiredBeansModel" "pileObject" "[I", .fieldLink RX13 237 "WiredBeansModel" "valueKind" "[I", .fieldLink RX13 240 "WiredBeansModel" "value" "[I", .fieldLink RX13 243 "WiredBeansModel" "itemKind" "[I", .fieldLink RX13 246 "WiredBeansModel" "item" "[I", .fieldLink RX13 249 "WiredBeansModel" "spot" "[I", .fieldLink RX13 252 "WiredBeansModel" "thrown" "I", .methodLink RX13 255 yX13_isType, .static yX13_isType, .initialized RX13, .methodLink RX13 259 yX13_isClass, .static yX13_isClass, .methodLink RX13 262 yX13_areTypes, .static yX13_areTypes, .methodLink RX13 266 yX13_isLetter, .static yX13_isLetter, .fieldLink RX13 273 "WiredBeansModel" "size" "I", .fieldLink RX13 276 "WiredBeansModel" "fault" "I", .fieldLink RX13 279 "WiredBeansModel" "at" "I", .methodLink RX13 282 yX13_here, .instanceMethod yX13_here, .selects RX13 yX13_here yX13_here, .methodLink RX13 286 yX13_isWhite, .instanceMethod yX13_isWhite]
def tbA_15 : List Cond := [.selects RX13 yX13_isWhite yX13_isWhite, .methodLink RX13 296 yX13_white, .instanceMethod yX13_white, .selects RX13 yX13_white yX13_white, .fieldLink RX13 329 "WiredBeansModel" "elements" "I", .methodLink RX13 289 yX13_bad, .instanceMethod yX13_bad, .selects RX13 yX13_bad yX13_bad, .fieldLink RX13 335 "WiredBeansModel" "closed" "Z", .methodLink RX13 339 yX13_between, .instanceMethod yX13_between, .selects RX13 yX13_between yX13_between, .methodLink RX13 342 yX13_begin, .instanceMethod yX13_begin, .selects RX13 yX13_begin yX13_begin, .fieldLink RX13 471 "WiredBeansModel" "events" "I", .fieldLink RX13 474 "WiredBeansModel" "made" "I", .fieldLink RX13 323 "WiredBeansModel" "pool" "I", .fieldLink RX13 439 "WiredBeansModel" "beans" "I", .fieldLink RX13 477 "WiredBeansModel" "document" "Z", .fieldLink RX13 480 "WiredBeansModel" "objects" "I", .methodLink RX13 483 yX13_clear, .instanceMethod yX13_clear, .selects RX13 yX13_clear yX13_clear]
def tbA_16 : List Cond := [.methodLink RX13 486 yX13_readDocument, .instanceMethod yX13_readDocument, .selects RX13 yX13_readDocument yX13_readDocument, .fieldLink RX13 498 "WiredBeansModel" "failure" "I", .constantLong RX13 394 (1818327673), .fieldLink RX13 513 "WiredBeansModel" "got" "I", .constantLong RX13 380 (1851878757), .constantLong RX13 398 (120282512125796), .constantLong RX13 400 (1768843636), .constantLong RX13 402 (28259044220366713), .constantLong RX13 392 (495589486693), .classLink RL 8 RX12, .instantiable RX12 12, .methodLink RL 32 yX12_init, .instanceMethod yX12_init, .classLink RL 33 RX13, .instantiable RX13 77, .methodLink RL 35 yX13_init, .instanceMethod yX13_init, .methodLink RL 36 yX12_declare, .instanceMethod yX12_declare, .selects RX12 yX12_declare yX12_declare, .methodLink RL 40 yX13_declare, .instanceMethod yX13_declare]
def tbA_17 : List Cond := [.selects RX13 yX13_declare yX13_declare, .methodLink RL 41 yX12_constructor, .instanceMethod yX12_constructor, .selects RX12 yX12_constructor yX12_constructor, .methodLink RL 45 yX13_constructor, .instanceMethod yX13_constructor, .selects RX13 yX13_constructor yX13_constructor, .methodLink RL 46 yX12_setter, .instanceMethod yX12_setter, .selects RX12 yX12_setter yX12_setter, .methodLink RL 50 yX13_setter, .instanceMethod yX13_setter, .selects RX13 yX13_setter yX13_setter, .methodLink RL 51 yX12_factory, .instanceMethod yX12_factory, .selects RX12 yX12_factory yX12_factory, .methodLink RL 55 yX13_factory, .instanceMethod yX13_factory, .selects RX13 yX13_factory yX13_factory, .methodLink RL 56 yX12_type, .instanceMethod yX12_type, .selects RX12 yX12_type yX12_type, .methodLink RL 60 yX13_type, .instanceMethod yX13_type]
def tbA_18 : List Cond := [.selects RX13 yX13_type yX13_type, .methodLink RL 61 yL_read, .static yL_read, .initialized RL, .methodLink RL 66 yX13_read, .instanceMethod yX13_read, .selects RX13 yX13_read yX13_read, .methodLink RL 67 yX13_thrown, .instanceMethod yX13_thrown, .selects RX13 yX13_thrown yX13_thrown, .methodLink RL 70 yX12_fault, .instanceMethod yX12_fault, .selects RX12 yX12_fault yX12_fault, .methodLink RL 74 yX13_fault, .instanceMethod yX13_fault, .selects RX13 yX13_fault yX13_fault, .methodLink RL 75 yL_refresh, .static yL_refresh, .methodLink RL 77 yX13_refresh, .instanceMethod yX13_refresh, .selects RX13 yX13_refresh yX13_refresh, .constantLong RL 78 (4294967295), .methodLink RL 80 yL_get, .static yL_get]
def tbA_19 : List Cond := [.methodLink RL 83 yX13_get, .instanceMethod yX13_get, .selects RX13 yX13_get yX13_get, .methodLink RL 84 yL_call, .static yL_call, .methodLink RL 87 yX13_call, .instanceMethod yX13_call, .selects RX13 yX13_call yX13_call, .methodLink RL 88 yX12_close, .instanceMethod yX12_close, .selects RX12 yX12_close yX12_close, .methodLink RL 91 yX13_close, .instanceMethod yX13_close, .selects RX13 yX13_close yX13_close, .methodLink RL 92 yX12_events, .instanceMethod yX12_events, .selects RX12 yX12_events yX12_events, .methodLink RL 95 yX13_events, .instanceMethod yX13_events, .selects RX13 yX13_events yX13_events, .methodLink RL 96 yX12_event, .instanceMethod yX12_event, .selects RX12 yX12_event yX12_event, .methodLink RL 99 yX13_event]
def tbA_20 : List Cond := [.instanceMethod yX13_event, .selects RX13 yX13_event yX13_event, .methodLink RL 100 yX12_object, .instanceMethod yX12_object, .selects RX12 yX12_object yX12_object, .methodLink RL 103 yX13_object, .instanceMethod yX13_object, .selects RX13 yX13_object yX13_object, .methodLink RL 104 yX12_bean, .instanceMethod yX12_bean, .selects RX12 yX12_bean yX12_bean, .methodLink RL 107 yX13_bean, .instanceMethod yX13_bean, .selects RX13 yX13_bean yX13_bean, .methodLink RL 7 yX12_read, .instanceMethod yX12_read, .selects RX12 yX12_read yX12_read, .classLink RL 13 "java/lang/IllegalArgumentException", .methodLink RL 15 yX12_refresh, .instanceMethod yX12_refresh, .selects RX12 yX12_refresh yX12_refresh, .classLink RL 18 "java/lang/IllegalStateException", .classLink RL 20 "java/lang/UnsupportedOperationException", .methodLink RL 22 yX12_get]
def tbA_21 : List Cond := [.instanceMethod yX12_get, .selects RX12 yX12_get yX12_get, .methodLink RL 26 yX12_call, .instanceMethod yX12_call, .selects RX12 yX12_call yX12_call, .classLink RL 30 "java/lang/IndexOutOfBoundsException", .methodLink RX12 1 objectInit, .methodLink RX12 1 objectInit, .methodLink RX12 1 objectInit, .methodLink RX12 1 objectInit, .methodLink RX12 1 objectInit, .methodLink RX12 1 objectInit, .methodLink RX12 1 objectInit, .methodLink RX12 1 objectInit, .methodLink RX12 1 objectInit, .methodLink RX12 1 objectInit, .methodLink RX12 1 objectInit, .methodLink RX12 1 objectInit, .methodLink RX12 1 objectInit, .methodLink RX12 1 objectInit, .methodLink RX12 1 objectInit, .methodLink RX12 1 objectInit, .methodLink RX12 1 objectInit, .methodLink RX12 1 objectInit]
def tbA_22 : List Cond := [.code objectInit ⟨#[0xb1]⟩ 1 none, .code yX2_init cX2_init 3 none, .code yX6_init cX6_init 3 none, .code yX7_init cX7_init 2 none, .code yX9_init cX9_init 2 none, .code yX10_init cX10_init 3 none, .code yX4_init cX4_init 1 none, .code yX5_init cX5_init 4 none, .code yX12_isClass cX12_isClass 1 (some .boolean), .code yX2_begin cX2_begin 3 none, .code yX12_areTypes cX12_areTypes 4 (some .boolean), .code yX2_addConstructor cX2_addConstructor 5 (some .boolean), .code yX12_isLetter cX12_isLetter 1 (some .boolean), .code yX12_isType cX12_isType 1 (some .boolean), .code yX2_addSetter cX2_addSetter 3 (some .boolean), .code yX2_addFactory cX2_addFactory 8 (some .boolean), .code yX12_typedBehind cX12_typedBehind 6 (some .int), .code yX5_startAfresh cX5_startAfresh 1 none, .codeWith yX7_firstWrongPlace cX7_firstWrongPlace 4 (some .int) [(32, 75, 78, 50)], .code yX10_forgetBeans cX10_forgetBeans 1 none, .code yX10_count cX10_count 1 (some .int), .code yX5_failure cX5_failure 1 (some .int), .code yX5_failureBean cX5_failureBean 1 (some .int), .code yX5_forgetFailure cX5_forgetFailure 1 none]
def tbA_23 : List Cond := [.code yX5_destroyAll cX5_destroyAll 2 none, .code yX4_count cX4_count 1 (some .int), .code yX4_number cX4_number 3 (some .int), .code yX5_classOfObject cX5_classOfObject 2 (some .int), .code yX5_beanOfObject cX5_beanOfObject 2 (some .int), .code yX8_init cX8_init 3 none, .code yX8_describe cX8_describe 4 none, .code yX8_setTypes cX8_setTypes 5 none, .code yX3_init cX3_init 1 none, .code yX6_clear cX6_clear 1 none, .code yX7_skipAround cX7_skipAround 2 none, .code yX7_openElement cX7_openElement 5 none, .code yX7_skipsWhite cX7_skipsWhite 2 (some .boolean), .code yX7_expect cX7_expect 2 none, .code yJx4a65c_init_da8c8 cJx4a65c_init_da8c8 1 none, .code yX1_init cX1_init 2 none, .code yX5_forgetMade cX5_forgetMade 2 none, .code yX4_clear cX4_clear 1 none, .code yX5_isObject cX5_isObject 2 (some .boolean), .code yJxc12de_init_da8c8 cJxc12de_init_da8c8 1 none, .code yJxa1e45_init_da8c8 cJxa1e45_init_da8c8 1 none, .code yX13_isType cX13_isType 1 (some .boolean), .code yX13_isClass cX13_isClass 1 (some .boolean), .code yX13_areTypes cX13_areTypes 4 (some .boolean)]
def tbA_24 : List Cond := [.code yX13_isLetter cX13_isLetter 1 (some .boolean), .code yX13_here cX13_here 2 (some .int), .code yX13_isWhite cX13_isWhite 2 (some .boolean), .code yX13_white cX13_white 2 (some .int), .code yX13_bad cX13_bad 2 none, .code yX13_between cX13_between 2 none, .code yX13_begin cX13_begin 6 (some .int), .code yX13_clear cX13_clear 2 none, .code yX13_readDocument cX13_readDocument 5 none, .code yX12_init cX12_init 2 none, .code yX13_init cX13_init 2 none, .code yX12_declare cX12_declare 3 (some .boolean), .code yX13_declare cX13_declare 3 (some .boolean), .code yX12_constructor cX12_constructor 6 (some .boolean), .code yX13_constructor cX13_constructor 7 (some .boolean), .code yX12_setter cX12_setter 4 (some .boolean), .code yX13_setter cX13_setter 5 (some .boolean), .code yX12_factory cX12_factory 9 (some .boolean), .code yX13_factory cX13_factory 10 (some .boolean), .code yX12_type cX12_type 7 (some .int), .code yX13_type cX13_type 10 (some .int), .codeWith yL_read cL_read 3 (some .int) [(0, 8, 11, 13)], .code yX13_read cX13_read 4 (some .int), .code yX13_thrown cX13_thrown 1 (some .int)]
def tbA_25 : List Cond := [.code yX12_fault cX12_fault 2 (some .int), .code yX13_fault cX13_fault 2 (some .int), .codeWith yL_refresh cL_refresh 3 (some .int) [(0, 8, 11, 18), (0, 8, 14, 20)], .code yX13_refresh cX13_refresh 4 (some .int), .codeWith yL_get cL_get 5 (some .int) [(0, 9, 12, 18), (0, 9, 16, 20)], .code yX13_get cX13_get 3 (some .int), .codeWith yL_call cL_call 5 (some .int) [(0, 10, 13, 18), (0, 10, 17, 30), (0, 10, 21, 20)], .code yX13_call cX13_call 7 (some .int), .code yX12_close cX12_close 1 (some .int), .code yX13_close cX13_close 1 (some .int), .code yX12_events cX12_events 1 (some .int), .code yX13_events cX13_events 1 (some .int), .code yX12_event cX12_event 3 (some .int), .code yX13_event cX13_event 3 (some .int), .code yX12_object cX12_object 3 (some .int), .code yX13_object cX13_object 3 (some .int), .code yX12_bean cX12_bean 3 (some .int), .code yX13_bean cX13_bean 4 (some .int), .code yX12_read cX12_read 1 (some .int), .code yX12_refresh cX12_refresh 1 (some .int), .code yX12_get cX12_get 4 (some .int), .code yX12_call cX12_call 5 (some .int)]
def tbA : List Cond := tbA_0 ++ (tbA_1 ++ (tbA_2 ++ (tbA_3 ++ (tbA_4 ++ (tbA_5 ++ (tbA_6 ++ (tbA_7 ++ (tbA_8 ++ (tbA_9 ++ (tbA_10 ++ (tbA_11 ++ (tbA_12 ++ (tbA_13 ++ (tbA_14 ++ (tbA_15 ++ (tbA_16 ++ (tbA_17 ++ (tbA_18 ++ (tbA_19 ++ (tbA_20 ++ (tbA_21 ++ (tbA_22 ++ (tbA_23 ++ (tbA_24 ++ (tbA_25)))))))))))))))))))))))))
def tbF : List Cond := wsJx4a65c0 ++ (wsX10 ++ (wsX20 ++ (wsX30 ++ (wsX40 ++ (wsX50 ++ (wsX60 ++ (wsX70 ++ (wsX80 ++ (wsX90 ++ (wsX100 ++ (wsX120 ++ (wsX130))))))))))))
def tbX : List Cond := (vx_at0 RX12 131 "java/lang/IllegalArgumentException" ["java/lang/RuntimeException", "java/lang/Exception"]).filter goodWord ++ ((vx_at0 RX12 146 "java/lang/IllegalStateException" ["java/lang/RuntimeException", "java/lang/Exception"]).filter goodWord ++ ((vx_at0 RX7 52 "java/lang/IllegalArgumentException" ["java/lang/RuntimeException", "java/lang/Exception"]).filter goodWord))
def tb : List Cond := tbA ++ (tbF ++ tbX)
theorem inA_0 : ∀ w ∈ tbA_0, w ∈ tb := fun _ h => List.mem_append_left _ (List.mem_append_left _ h)
theorem inA_1 : ∀ w ∈ tbA_1, w ∈ tb := fun _ h => List.mem_append_left _ (List.mem_append_right _ (List.mem_append_left _ h))
theorem inA_2 : ∀ w ∈ tbA_2, w ∈ tb := fun _ h => List.mem_append_left _ (List.mem_append_right _ (List.mem_append_right _ (List.mem_append_left _ h)))
theorem inA_3 : ∀ w ∈ tbA_3, w ∈ tb := fun _ h => List.mem_append_left _ (List.mem_append_right _ (List.mem_append_right _ (List.mem_append_right _ (List.mem_append_left _ h))))
theorem inA_4 : ∀ w ∈ tbA_4, w ∈ tb := fun _ h => List.mem_append_left _ (List.mem_append_right _ (List.mem_append_right _ (List.mem_append_right _ (List.mem_append_right _ (List.mem_append_left _ h)))))
theorem inA_5 : ∀ w ∈ tbA_5, w ∈ tb := fun _ h => List.mem_append_left _ (List.mem_append_right _ (List.mem_append_right _ (List.mem_append_right _ (List.mem_append_right _ (List.mem_append_right _ (List.mem_append_left _ h))))))
theorem inA_6 : ∀ w ∈ tbA_6, w ∈ tb := fun _ h => List.mem_append_left _ (List.mem_append_right _ (List.mem_append_right _ (List.mem_append_right _ (List.mem_append_right _ (List.mem_append_right _ (List.mem_append_right _ (List.mem_append_left _ h)))))))
theorem inA_7 : ∀ w ∈ tbA_7, w ∈ tb := fun _ h => List.mem_append_left _ (List.mem_append_right _ (List.mem_append_right _ (List.mem_append_right _ (List.mem_append_right _ (List.mem_append_right _ (List.mem_append_right _ (List.mem_append_right _ (List.mem_append_left _ h))))))))
theorem inA_8 : ∀ w ∈ tbA_8, w ∈ tb := fun _ h => List.mem_append_left _ (List.mem_append_right _ (List.mem_append_right _ (List.mem_append_right _ (List.mem_append_right _ (List.mem_append_right _ (List.mem_append_right _ (List.mem_append_right _ (List.mem_append_right _ (List.mem_append_left _ h)))))))))
theorem inA_9 : ∀ w ∈ tbA_9, w ∈ tb := fun _ h => List.mem_append_left _ (List.mem_append_right _ (List.mem_append_right _ (List.mem_append_right _ (List.mem_append_right _ (List.mem_append_right _ (List.mem_append_right _ (List.mem_append_right _ (List.mem_append_right _ (List.mem_append_right _ (List.mem_append_left _ h))))))))))
theorem inA_10 : ∀ w ∈ tbA_10, w ∈ tb := fun _ h => List.mem_append_left _ (List.mem_append_right _ (List.mem_append_right _ (List.mem_append_right _ (List.mem_append_right _ (List.mem_append_right _ (List.mem_append_right _ (List.mem_append_right _ (List.mem_append_right _ (List.mem_append_right _ (List.mem_append_right _ (List.mem_append_left _ h)))))))))))
theorem inA_11 : ∀ w ∈ tbA_11, w ∈ tb := fun _ h => List.mem_append_left _ (List.mem_append_right _ (List.mem_append_right _ (List.mem_append_right _ (List.mem_append_right _ (List.mem_append_right _ (List.mem_append_right _ (List.mem_append_right _ (List.mem_append_right _ (List.mem_append_right _ (List.mem_append_right _ (List.mem_append_right _ (List.mem_append_left _ h))))))))))))
theorem inA_12 : ∀ w ∈ tbA_12, w ∈ tb := fun _ h => List.mem_append_left _ (List.mem_append_right _ (List.mem_append_right _ (List.mem_append_right _ (List.mem_append_right _ (List.mem_append_right _ (List.mem_append_right _ (List.mem_append_right _ (List.mem_append_right _ (List.mem_append_right _ (List.mem_append_right _ (List.mem_append_right _ (List.mem_append_right _ (List.mem_append_left _ h)))))))))))))
theorem inA_13 : ∀ w ∈ tbA_13, w ∈ tb := fun _ h => List.mem_append_left _ (List.mem_append_right _ (List.mem_append_right _ (List.mem_append_right _ (List.mem_append_right _ (List.mem_append_right _ (List.mem_append_right _ (List.mem_append_right _ (List.mem_append_right _ (List.mem_append_right _ (List.mem_append_right _ (List.mem_append_right _ (List.mem_append_right _ (List.mem_append_right _ (List.mem_append_left _ h))))))))))))))
theorem inA_14 : ∀ w ∈ tbA_14, w ∈ tb := fun _ h => List.mem_append_left _ (List.mem_append_right _ (List.mem_append_right _ (List.mem_append_right _ (List.mem_append_right _ (List.mem_append_right _ (List.mem_append_right _ (List.mem_append_right _ (List.mem_append_right _ (List.mem_append_right _ (List.mem_append_right _ (List.mem_append_right _ (List.mem_append_right _ (List.mem_append_right _ (List.mem_append_right _ (List.mem_append_left _ h)))))))))))))))
theorem inA_15 : ∀ w ∈ tbA_15, w ∈ tb := fun _ h => List.mem_append_left _ (List.mem_append_right _ (List.mem_append_right _ (List.mem_append_right _ (List.mem_append_right _ (List.mem_append_right _ (List.mem_append_right _ (List.mem_append_right _ (List.mem_append_right _ (List.mem_append_right _ (List.mem_append_right _ (List.mem_append_right _ (List.mem_append_right _ (List.mem_append_right _ (List.mem_append_right _ (List.mem_append_right _ (List.mem_append_left _ h))))))))))))))))
theorem inA_16 : ∀ w ∈ tbA_16, w ∈ tb := fun _ h => List.mem_append_left _ (List.mem_append_right _ (List.mem_append_right _ (List.mem_append_right _ (List.mem_append_right _ (List.mem_append_right _ (List.mem_append_right _ (List.mem_append_right _ (List.mem_append_right _ (List.mem_append_right _ (List.mem_append_right _ (List.mem_append_right _ (List.mem_append_right _ (List.mem_append_right _ (List.mem_append_right _ (List.mem_append_right _ (List.mem_append_right _ (List.mem_append_left _ h)))))))))))))))))
theorem inA_17 : ∀ w ∈ tbA_17, w ∈ tb := fun _ h => List.mem_append_left _ (List.mem_append_right _ (List.mem_append_right _ (List.mem_append_right _ (List.mem_append_right _ (List.mem_append_right _ (List.mem_append_right _ (List.mem_append_right _ (List.mem_append_right _ (List.mem_append_right _ (List.mem_append_right _ (List.mem_append_right _ (List.mem_append_right _ (List.mem_append_right _ (List.mem_append_right _ (List.mem_append_right _ (List.mem_append_right _ (List.mem_append_right _ (List.mem_append_left _ h))))))))))))))))))
theorem inA_18 : ∀ w ∈ tbA_18, w ∈ tb := fun _ h => List.mem_append_left _ (List.mem_append_right _ (List.mem_append_right _ (List.mem_append_right _ (List.mem_append_right _ (List.mem_append_right _ (List.mem_append_right _ (List.mem_append_right _ (List.mem_append_right _ (List.mem_append_right _ (List.mem_append_right _ (List.mem_append_right _ (List.mem_append_right _ (List.mem_append_right _ (List.mem_append_right _ (List.mem_append_right _ (List.mem_append_right _ (List.mem_append_right _ (List.mem_append_right _ (List.mem_append_left _ h)))))))))))))))))))
theorem inA_19 : ∀ w ∈ tbA_19, w ∈ tb := fun _ h => List.mem_append_left _ (List.mem_append_right _ (List.mem_append_right _ (List.mem_append_right _ (List.mem_append_right _ (List.mem_append_right _ (List.mem_append_right _ (List.mem_append_right _ (List.mem_append_right _ (List.mem_append_right _ (List.mem_append_right _ (List.mem_append_right _ (List.mem_append_right _ (List.mem_append_right _ (List.mem_append_right _ (List.mem_append_right _ (List.mem_append_right _ (List.mem_append_right _ (List.mem_append_right _ (List.mem_append_right _ (List.mem_append_left _ h))))))))))))))))))))
theorem inA_20 : ∀ w ∈ tbA_20, w ∈ tb := fun _ h => List.mem_append_left _ (List.mem_append_right _ (List.mem_append_right _ (List.mem_append_right _ (List.mem_append_right _ (List.mem_append_right _ (List.mem_append_right _ (List.mem_append_right _ (List.mem_append_right _ (List.mem_append_right _ (List.mem_append_right _ (List.mem_append_right _ (List.mem_append_right _ (List.mem_append_right _ (List.mem_append_right _ (List.mem_append_right _ (List.mem_append_right _ (List.mem_append_right _ (List.mem_append_right _ (List.mem_append_right _ (List.mem_append_right _ (List.mem_append_left _ h)))))))))))))))))))))
theorem inA_21 : ∀ w ∈ tbA_21, w ∈ tb := fun _ h => List.mem_append_left _ (List.mem_append_right _ (List.mem_append_right _ (List.mem_append_right _ (List.mem_append_right _ (List.mem_append_right _ (List.mem_append_right _ (List.mem_append_right _ (List.mem_append_right _ (List.mem_append_right _ (List.mem_append_right _ (List.mem_append_right _ (List.mem_append_right _ (List.mem_append_right _ (List.mem_append_right _ (List.mem_append_right _ (List.mem_append_right _ (List.mem_append_right _ (List.mem_append_right _ (List.mem_append_right _ (List.mem_append_right _ (List.mem_append_right _ (List.mem_append_left _ h))))))))))))))))))))))
theorem inA_22 : ∀ w ∈ tbA_22, w ∈ tb := fun _ h => List.mem_append_left _ (List.mem_append_right _ (List.mem_append_right _ (List.mem_append_right _ (List.mem_append_right _ (List.mem_append_right _ (List.mem_append_right _ (List.mem_append_right _ (List.mem_append_right _ (List.mem_append_right _ (List.mem_append_right _ (List.mem_append_right _ (List.mem_append_right _ (List.mem_append_right _ (List.mem_append_right _ (List.mem_append_right _ (List.mem_append_right _ (List.mem_append_right _ (List.mem_append_right _ (List.mem_append_right _ (List.mem_append_right _ (List.mem_append_right _ (List.mem_append_right _ (List.mem_append_left _ h)))))))))))))))))))))))
theorem inA_23 : ∀ w ∈ tbA_23, w ∈ tb := fun _ h => List.mem_append_left _ (List.mem_append_right _ (List.mem_append_right _ (List.mem_append_right _ (List.mem_append_right _ (List.mem_append_right _ (List.mem_append_right _ (List.mem_append_right _ (List.mem_append_right _ (List.mem_append_right _ (List.mem_append_right _ (List.mem_append_right _ (List.mem_append_right _ (List.mem_append_right _ (List.mem_append_right _ (List.mem_append_right _ (List.mem_append_right _ (List.mem_append_right _ (List.mem_append_right _ (List.mem_append_right _ (List.mem_append_right _ (List.mem_append_right _ (List.mem_append_right _ (List.mem_append_right _ (List.mem_append_left _ h))))))))))))))))))))))))
theorem inA_24 : ∀ w ∈ tbA_24, w ∈ tb := fun _ h => List.mem_append_left _ (List.mem_append_right _ (List.mem_append_right _ (List.mem_append_right _ (List.mem_append_right _ (List.mem_append_right _ (List.mem_append_right _ (List.mem_append_right _ (List.mem_append_right _ (List.mem_append_right _ (List.mem_append_right _ (List.mem_append_right _ (List.mem_append_right _ (List.mem_append_right _ (List.mem_append_right _ (List.mem_append_right _ (List.mem_append_right _ (List.mem_append_right _ (List.mem_append_right _ (List.mem_append_right _ (List.mem_append_right _ (List.mem_append_right _ (List.mem_append_right _ (List.mem_append_right _ (List.mem_append_right _ (List.mem_append_left _ h)))))))))))))))))))))))))
theorem inA_25 : ∀ w ∈ tbA_25, w ∈ tb := fun _ h => List.mem_append_left _ (List.mem_append_right _ (List.mem_append_right _ (List.mem_append_right _ (List.mem_append_right _ (List.mem_append_right _ (List.mem_append_right _ (List.mem_append_right _ (List.mem_append_right _ (List.mem_append_right _ (List.mem_append_right _ (List.mem_append_right _ (List.mem_append_right _ (List.mem_append_right _ (List.mem_append_right _ (List.mem_append_right _ (List.mem_append_right _ (List.mem_append_right _ (List.mem_append_right _ (List.mem_append_right _ (List.mem_append_right _ (List.mem_append_right _ (List.mem_append_right _ (List.mem_append_right _ (List.mem_append_right _ (List.mem_append_right _ (h))))))))))))))))))))))))))
theorem kw_0 : (.methodLink RX12 1 objectInit : Cond) ∈ tb := inA_0 _ (List.mem_of_getElem? (i := 0) rfl)
theorem kw_1 : (.instanceMethod objectInit : Cond) ∈ tb := inA_0 _ (List.mem_of_getElem? (i := 1) rfl)
theorem kw_2 : (.classLink RX12 9 RX2 : Cond) ∈ tb := inA_0 _ (List.mem_of_getElem? (i := 2) rfl)
theorem kw_3 : (.fieldLink RX12 11 "WiredBeans" "classes" "[LWiredBeans$DeclaredClass;" : Cond) ∈ tb := inA_0 _ (List.mem_of_getElem? (i := 3) rfl)
theorem kw_4 : (.initialized RX2 : Cond) ∈ tb := inA_0 _ (List.mem_of_getElem? (i := 4) rfl)
theorem kw_5 : (.instantiable RX2 8 : Cond) ∈ tb := inA_0 _ (List.mem_of_getElem? (i := 5) rfl)
theorem kw_6 : (.methodLink RX12 15 yX2_init : Cond) ∈ tb := inA_0 _ (List.mem_of_getElem? (i := 6) rfl)
theorem kw_7 : (.instanceMethod yX2_init : Cond) ∈ tb := inA_0 _ (List.mem_of_getElem? (i := 7) rfl)
theorem kw_8 : (.arrayClass .char : Cond) ∈ tb := inA_0 _ (List.mem_of_getElem? (i := 8) rfl)
theorem kw_9 : (.fieldLink RX12 18 "WiredBeans" "typed" "[C" : Cond) ∈ tb := inA_0 _ (List.mem_of_getElem? (i := 9) rfl)
theorem kw_10 : (.classLink RX12 22 RX6 : Cond) ∈ tb := inA_0 _ (List.mem_of_getElem? (i := 10) rfl)
theorem kw_11 : (.initialized RX6 : Cond) ∈ tb := inA_0 _ (List.mem_of_getElem? (i := 11) rfl)
theorem kw_12 : (.instantiable RX6 8 : Cond) ∈ tb := inA_0 _ (List.mem_of_getElem? (i := 12) rfl)
theorem kw_13 : (.methodLink RX12 24 yX6_init : Cond) ∈ tb := inA_0 _ (List.mem_of_getElem? (i := 13) rfl)
theorem kw_14 : (.instanceMethod yX6_init : Cond) ∈ tb := inA_0 _ (List.mem_of_getElem? (i := 14) rfl)
theorem kw_15 : (.fieldLink RX12 25 "WiredBeans" "paper" "LWiredBeans$Paper;" : Cond) ∈ tb := inA_0 _ (List.mem_of_getElem? (i := 15) rfl)
theorem kw_16 : (.classLink RX12 29 RX7 : Cond) ∈ tb := inA_0 _ (List.mem_of_getElem? (i := 16) rfl)
theorem kw_17 : (.initialized RX7 : Cond) ∈ tb := inA_0 _ (List.mem_of_getElem? (i := 17) rfl)
theorem kw_18 : (.instantiable RX7 6 : Cond) ∈ tb := inA_0 _ (List.mem_of_getElem? (i := 18) rfl)
theorem kw_19 : (.methodLink RX12 31 yX7_init : Cond) ∈ tb := inA_0 _ (List.mem_of_getElem? (i := 19) rfl)
theorem kw_20 : (.instanceMethod yX7_init : Cond) ∈ tb := inA_0 _ (List.mem_of_getElem? (i := 20) rfl)
theorem kw_21 : (.fieldLink RX12 34 "WiredBeans" "reader" "LWiredBeans$Reader;" : Cond) ∈ tb := inA_0 _ (List.mem_of_getElem? (i := 21) rfl)
theorem kw_22 : (.classLink RX12 38 RX9 : Cond) ∈ tb := inA_0 _ (List.mem_of_getElem? (i := 22) rfl)
theorem kw_23 : (.initialized RX9 : Cond) ∈ tb := inA_0 _ (List.mem_of_getElem? (i := 23) rfl)
theorem kw_24 : (.instantiable RX9 1 : Cond) ∈ tb := inA_1 _ (List.mem_of_getElem? (i := 0) rfl)
theorem kw_25 : (.methodLink RX12 40 yX9_init : Cond) ∈ tb := inA_1 _ (List.mem_of_getElem? (i := 1) rfl)
theorem kw_26 : (.instanceMethod yX9_init : Cond) ∈ tb := inA_1 _ (List.mem_of_getElem? (i := 2) rfl)
theorem kw_27 : (.fieldLink RX12 41 "WiredBeans" "structure" "LWiredBeans$Structure;" : Cond) ∈ tb := inA_1 _ (List.mem_of_getElem? (i := 3) rfl)
theorem kw_28 : (.classLink RX12 45 RX10 : Cond) ∈ tb := inA_1 _ (List.mem_of_getElem? (i := 4) rfl)
theorem kw_29 : (.initialized RX10 : Cond) ∈ tb := inA_1 _ (List.mem_of_getElem? (i := 5) rfl)
theorem kw_30 : (.instantiable RX10 4 : Cond) ∈ tb := inA_1 _ (List.mem_of_getElem? (i := 6) rfl)
theorem kw_31 : (.methodLink RX12 47 yX10_init : Cond) ∈ tb := inA_1 _ (List.mem_of_getElem? (i := 7) rfl)
theorem kw_32 : (.instanceMethod yX10_init : Cond) ∈ tb := inA_1 _ (List.mem_of_getElem? (i := 8) rfl)
theorem kw_33 : (.fieldLink RX12 48 "WiredBeans" "wiring" "LWiredBeans$Wiring;" : Cond) ∈ tb := inA_1 _ (List.mem_of_getElem? (i := 9) rfl)
theorem kw_34 : (.classLink RX12 52 RX4 : Cond) ∈ tb := inA_1 _ (List.mem_of_getElem? (i := 10) rfl)
theorem kw_35 : (.initialized RX4 : Cond) ∈ tb := inA_1 _ (List.mem_of_getElem? (i := 11) rfl)
theorem kw_36 : (.instantiable RX4 2 : Cond) ∈ tb := inA_1 _ (List.mem_of_getElem? (i := 12) rfl)
theorem kw_37 : (.methodLink RX12 54 yX4_init : Cond) ∈ tb := inA_1 _ (List.mem_of_getElem? (i := 13) rfl)
theorem kw_38 : (.instanceMethod yX4_init : Cond) ∈ tb := inA_1 _ (List.mem_of_getElem? (i := 14) rfl)
theorem kw_39 : (.fieldLink RX12 55 "WiredBeans" "row" "LWiredBeans$EventRow;" : Cond) ∈ tb := inA_1 _ (List.mem_of_getElem? (i := 15) rfl)
theorem kw_40 : (.classLink RX12 59 RX5 : Cond) ∈ tb := inA_1 _ (List.mem_of_getElem? (i := 16) rfl)
theorem kw_41 : (.initialized RX5 : Cond) ∈ tb := inA_1 _ (List.mem_of_getElem? (i := 17) rfl)
theorem kw_42 : (.instantiable RX5 13 : Cond) ∈ tb := inA_1 _ (List.mem_of_getElem? (i := 18) rfl)
theorem kw_43 : (.methodLink RX12 61 yX5_init : Cond) ∈ tb := inA_1 _ (List.mem_of_getElem? (i := 19) rfl)
theorem kw_44 : (.instanceMethod yX5_init : Cond) ∈ tb := inA_1 _ (List.mem_of_getElem? (i := 20) rfl)
theorem kw_45 : (.fieldLink RX12 64 "WiredBeans" "maker" "LWiredBeans$Maker;" : Cond) ∈ tb := inA_1 _ (List.mem_of_getElem? (i := 21) rfl)
theorem kw_46 : (.fieldLink RX12 68 "WiredBeans" "faultPlace" "I" : Cond) ∈ tb := inA_1 _ (List.mem_of_getElem? (i := 22) rfl)
theorem kw_47 : (.methodLink RX12 72 yX12_isClass : Cond) ∈ tb := inA_1 _ (List.mem_of_getElem? (i := 23) rfl)
theorem kw_48 : (.static yX12_isClass : Cond) ∈ tb := inA_2 _ (List.mem_of_getElem? (i := 0) rfl)
theorem kw_49 : (.initialized RX12 : Cond) ∈ tb := inA_2 _ (List.mem_of_getElem? (i := 1) rfl)
theorem kw_50 : (.methodLink RX12 76 yX2_begin : Cond) ∈ tb := inA_2 _ (List.mem_of_getElem? (i := 2) rfl)
theorem kw_51 : (.instanceMethod yX2_begin : Cond) ∈ tb := inA_2 _ (List.mem_of_getElem? (i := 3) rfl)
theorem kw_52 : (.selects RX2 yX2_begin yX2_begin : Cond) ∈ tb := inA_2 _ (List.mem_of_getElem? (i := 4) rfl)
theorem kw_53 : (.methodLink RX12 80 yX12_areTypes : Cond) ∈ tb := inA_2 _ (List.mem_of_getElem? (i := 5) rfl)
theorem kw_54 : (.static yX12_areTypes : Cond) ∈ tb := inA_2 _ (List.mem_of_getElem? (i := 6) rfl)
theorem kw_55 : (.methodLink RX12 84 yX2_addConstructor : Cond) ∈ tb := inA_2 _ (List.mem_of_getElem? (i := 7) rfl)
theorem kw_56 : (.instanceMethod yX2_addConstructor : Cond) ∈ tb := inA_2 _ (List.mem_of_getElem? (i := 8) rfl)
theorem kw_57 : (.selects RX2 yX2_addConstructor yX2_addConstructor : Cond) ∈ tb := inA_2 _ (List.mem_of_getElem? (i := 9) rfl)
theorem kw_58 : (.methodLink RX12 87 yX12_isLetter : Cond) ∈ tb := inA_2 _ (List.mem_of_getElem? (i := 10) rfl)
theorem kw_59 : (.static yX12_isLetter : Cond) ∈ tb := inA_2 _ (List.mem_of_getElem? (i := 11) rfl)
theorem kw_60 : (.methodLink RX12 90 yX12_isType : Cond) ∈ tb := inA_2 _ (List.mem_of_getElem? (i := 12) rfl)
theorem kw_61 : (.static yX12_isType : Cond) ∈ tb := inA_2 _ (List.mem_of_getElem? (i := 13) rfl)
theorem kw_62 : (.methodLink RX12 93 yX2_addSetter : Cond) ∈ tb := inA_2 _ (List.mem_of_getElem? (i := 14) rfl)
theorem kw_63 : (.instanceMethod yX2_addSetter : Cond) ∈ tb := inA_2 _ (List.mem_of_getElem? (i := 15) rfl)
theorem kw_64 : (.selects RX2 yX2_addSetter yX2_addSetter : Cond) ∈ tb := inA_2 _ (List.mem_of_getElem? (i := 16) rfl)
theorem kw_65 : (.methodLink RX12 97 yX2_addFactory : Cond) ∈ tb := inA_2 _ (List.mem_of_getElem? (i := 17) rfl)
theorem kw_66 : (.instanceMethod yX2_addFactory : Cond) ∈ tb := inA_2 _ (List.mem_of_getElem? (i := 18) rfl)
theorem kw_67 : (.selects RX2 yX2_addFactory yX2_addFactory : Cond) ∈ tb := inA_2 _ (List.mem_of_getElem? (i := 19) rfl)
theorem kw_68 : (.fieldLink RX12 101 "WiredBeans" "typedLength" "I" : Cond) ∈ tb := inA_2 _ (List.mem_of_getElem? (i := 20) rfl)
theorem kw_69 : (.methodLink RX12 104 yX12_typedBehind : Cond) ∈ tb := inA_2 _ (List.mem_of_getElem? (i := 21) rfl)
theorem kw_70 : (.instanceMethod yX12_typedBehind : Cond) ∈ tb := inA_2 _ (List.mem_of_getElem? (i := 22) rfl)
theorem kw_71 : (.selects RX12 yX12_typedBehind yX12_typedBehind : Cond) ∈ tb := inA_2 _ (List.mem_of_getElem? (i := 23) rfl)
theorem kw_72 : (.methodLink RX12 108 yX5_startAfresh : Cond) ∈ tb := inA_3 _ (List.mem_of_getElem? (i := 0) rfl)
theorem kw_73 : (.instanceMethod yX5_startAfresh : Cond) ∈ tb := inA_3 _ (List.mem_of_getElem? (i := 1) rfl)
theorem kw_74 : (.selects RX5 yX5_startAfresh yX5_startAfresh : Cond) ∈ tb := inA_3 _ (List.mem_of_getElem? (i := 2) rfl)
theorem kw_75 : (.fieldLink RX12 111 "WiredBeans" "faultNumber" "I" : Cond) ∈ tb := inA_3 _ (List.mem_of_getElem? (i := 3) rfl)
theorem kw_76 : (.methodLink RX12 114 yX7_firstWrongPlace : Cond) ∈ tb := inA_3 _ (List.mem_of_getElem? (i := 4) rfl)
theorem kw_77 : (.instanceMethod yX7_firstWrongPlace : Cond) ∈ tb := inA_3 _ (List.mem_of_getElem? (i := 5) rfl)
theorem kw_78 : (.selects RX7 yX7_firstWrongPlace yX7_firstWrongPlace : Cond) ∈ tb := inA_3 _ (List.mem_of_getElem? (i := 6) rfl)
theorem kw_79 : (.fieldLink RX12 122 "WiredBeans" "hasDocument" "Z" : Cond) ∈ tb := inA_3 _ (List.mem_of_getElem? (i := 7) rfl)
theorem kw_80 : (.methodLink RX12 126 yX10_forgetBeans : Cond) ∈ tb := inA_3 _ (List.mem_of_getElem? (i := 8) rfl)
theorem kw_81 : (.instanceMethod yX10_forgetBeans : Cond) ∈ tb := inA_3 _ (List.mem_of_getElem? (i := 9) rfl)
theorem kw_82 : (.selects RX10 yX10_forgetBeans yX10_forgetBeans : Cond) ∈ tb := inA_3 _ (List.mem_of_getElem? (i := 10) rfl)
theorem kw_83 : (.classLink RX12 129 "java/lang/IllegalArgumentException" : Cond) ∈ tb := inA_3 _ (List.mem_of_getElem? (i := 11) rfl)
theorem kw_84 : (.initialized "java/lang/IllegalArgumentException" : Cond) ∈ tb := inA_3 _ (List.mem_of_getElem? (i := 12) rfl)
theorem kw_85 : (.methodLink RX12 132 yX10_count : Cond) ∈ tb := inA_3 _ (List.mem_of_getElem? (i := 13) rfl)
theorem kw_86 : (.instanceMethod yX10_count : Cond) ∈ tb := inA_3 _ (List.mem_of_getElem? (i := 14) rfl)
theorem kw_87 : (.selects RX10 yX10_count yX10_count : Cond) ∈ tb := inA_3 _ (List.mem_of_getElem? (i := 15) rfl)
theorem kw_88 : (.methodLink RX12 135 yX5_failure : Cond) ∈ tb := inA_3 _ (List.mem_of_getElem? (i := 16) rfl)
theorem kw_89 : (.instanceMethod yX5_failure : Cond) ∈ tb := inA_3 _ (List.mem_of_getElem? (i := 17) rfl)
theorem kw_90 : (.selects RX5 yX5_failure yX5_failure : Cond) ∈ tb := inA_3 _ (List.mem_of_getElem? (i := 18) rfl)
theorem kw_91 : (.methodLink RX12 138 yX5_failureBean : Cond) ∈ tb := inA_3 _ (List.mem_of_getElem? (i := 19) rfl)
theorem kw_92 : (.instanceMethod yX5_failureBean : Cond) ∈ tb := inA_3 _ (List.mem_of_getElem? (i := 20) rfl)
theorem kw_93 : (.selects RX5 yX5_failureBean yX5_failureBean : Cond) ∈ tb := inA_3 _ (List.mem_of_getElem? (i := 21) rfl)
theorem kw_94 : (.methodLink RX12 141 yX5_forgetFailure : Cond) ∈ tb := inA_3 _ (List.mem_of_getElem? (i := 22) rfl)
theorem kw_95 : (.instanceMethod yX5_forgetFailure : Cond) ∈ tb := inA_3 _ (List.mem_of_getElem? (i := 23) rfl)
theorem kw_96 : (.selects RX5 yX5_forgetFailure yX5_forgetFailure : Cond) ∈ tb := inA_4 _ (List.mem_of_getElem? (i := 0) rfl)
theorem kw_97 : (.classLink RX12 144 "java/lang/IllegalStateException" : Cond) ∈ tb := inA_4 _ (List.mem_of_getElem? (i := 1) rfl)
theorem kw_98 : (.initialized "java/lang/IllegalStateException" : Cond) ∈ tb := inA_4 _ (List.mem_of_getElem? (i := 2) rfl)
theorem kw_99 : (.classLink RX12 151 "java/lang/UnsupportedOperationException" : Cond) ∈ tb := inA_4 _ (List.mem_of_getElem? (i := 3) rfl)
theorem kw_100 : (.initialized "java/lang/UnsupportedOperationException" : Cond) ∈ tb := inA_4 _ (List.mem_of_getElem? (i := 4) rfl)
theorem kw_101 : (.classLink RX12 169 "java/lang/IndexOutOfBoundsException" : Cond) ∈ tb := inA_4 _ (List.mem_of_getElem? (i := 5) rfl)
theorem kw_102 : (.initialized "java/lang/IndexOutOfBoundsException" : Cond) ∈ tb := inA_4 _ (List.mem_of_getElem? (i := 6) rfl)
theorem kw_103 : (.fieldLink RX12 172 "WiredBeans$Element" "target" "J" : Cond) ∈ tb := inA_4 _ (List.mem_of_getElem? (i := 7) rfl)
theorem kw_104 : (.methodLink RX12 178 yX5_destroyAll : Cond) ∈ tb := inA_4 _ (List.mem_of_getElem? (i := 8) rfl)
theorem kw_105 : (.instanceMethod yX5_destroyAll : Cond) ∈ tb := inA_4 _ (List.mem_of_getElem? (i := 9) rfl)
theorem kw_106 : (.selects RX5 yX5_destroyAll yX5_destroyAll : Cond) ∈ tb := inA_4 _ (List.mem_of_getElem? (i := 10) rfl)
theorem kw_107 : (.methodLink RX12 181 yX4_count : Cond) ∈ tb := inA_4 _ (List.mem_of_getElem? (i := 11) rfl)
theorem kw_108 : (.instanceMethod yX4_count : Cond) ∈ tb := inA_4 _ (List.mem_of_getElem? (i := 12) rfl)
theorem kw_109 : (.selects RX4 yX4_count yX4_count : Cond) ∈ tb := inA_4 _ (List.mem_of_getElem? (i := 13) rfl)
theorem kw_110 : (.methodLink RX12 182 yX4_number : Cond) ∈ tb := inA_4 _ (List.mem_of_getElem? (i := 14) rfl)
theorem kw_111 : (.instanceMethod yX4_number : Cond) ∈ tb := inA_4 _ (List.mem_of_getElem? (i := 15) rfl)
theorem kw_112 : (.selects RX4 yX4_number yX4_number : Cond) ∈ tb := inA_4 _ (List.mem_of_getElem? (i := 16) rfl)
theorem kw_113 : (.methodLink RX12 185 yX5_classOfObject : Cond) ∈ tb := inA_4 _ (List.mem_of_getElem? (i := 17) rfl)
theorem kw_114 : (.instanceMethod yX5_classOfObject : Cond) ∈ tb := inA_4 _ (List.mem_of_getElem? (i := 18) rfl)
theorem kw_115 : (.selects RX5 yX5_classOfObject yX5_classOfObject : Cond) ∈ tb := inA_4 _ (List.mem_of_getElem? (i := 19) rfl)
theorem kw_116 : (.methodLink RX12 189 yX5_beanOfObject : Cond) ∈ tb := inA_4 _ (List.mem_of_getElem? (i := 20) rfl)
theorem kw_117 : (.instanceMethod yX5_beanOfObject : Cond) ∈ tb := inA_4 _ (List.mem_of_getElem? (i := 21) rfl)
theorem kw_118 : (.selects RX5 yX5_beanOfObject yX5_beanOfObject : Cond) ∈ tb := inA_4 _ (List.mem_of_getElem? (i := 22) rfl)
theorem kw_119 : (.methodLink RX8 3 objectInit : Cond) ∈ tb := inA_4 _ (List.mem_of_getElem? (i := 23) rfl)
theorem kw_120 : (.fieldLink RX8 9 "WiredBeans$Signature" "owner" "I" : Cond) ∈ tb := inA_5 _ (List.mem_of_getElem? (i := 0) rfl)
theorem kw_121 : (.fieldLink RX8 15 "WiredBeans$Signature" "number" "I" : Cond) ∈ tb := inA_5 _ (List.mem_of_getElem? (i := 1) rfl)
theorem kw_122 : (.arrayClass .int : Cond) ∈ tb := inA_5 _ (List.mem_of_getElem? (i := 2) rfl)
theorem kw_123 : (.fieldLink RX8 18 "WiredBeans$Signature" "types" "[I" : Cond) ∈ tb := inA_5 _ (List.mem_of_getElem? (i := 3) rfl)
theorem kw_124 : (.fieldLink RX8 22 "WiredBeans$Signature" "name" "I" : Cond) ∈ tb := inA_5 _ (List.mem_of_getElem? (i := 4) rfl)
theorem kw_125 : (.fieldLink RX8 25 "WiredBeans$Signature" "isStatic" "Z" : Cond) ∈ tb := inA_5 _ (List.mem_of_getElem? (i := 5) rfl)
theorem kw_126 : (.fieldLink RX8 29 "WiredBeans$Signature" "result" "I" : Cond) ∈ tb := inA_5 _ (List.mem_of_getElem? (i := 6) rfl)
theorem kw_127 : (.fieldLink RX8 32 "WiredBeans$Signature" "count" "I" : Cond) ∈ tb := inA_5 _ (List.mem_of_getElem? (i := 7) rfl)
theorem kw_128 : (.methodLink RX2 3 objectInit : Cond) ∈ tb := inA_5 _ (List.mem_of_getElem? (i := 8) rfl)
theorem kw_129 : (.fieldLink RX2 9 "WiredBeans$DeclaredClass" "number" "I" : Cond) ∈ tb := inA_5 _ (List.mem_of_getElem? (i := 9) rfl)
theorem kw_130 : (.classLink RX2 15 RX8 : Cond) ∈ tb := inA_5 _ (List.mem_of_getElem? (i := 10) rfl)
theorem kw_131 : (.fieldLink RX2 17 "WiredBeans$DeclaredClass" "constructors" "[LWiredBeans$Signature;" : Cond) ∈ tb := inA_5 _ (List.mem_of_getElem? (i := 11) rfl)
theorem kw_132 : (.fieldLink RX2 21 "WiredBeans$DeclaredClass" "factories" "[LWiredBeans$Signature;" : Cond) ∈ tb := inA_5 _ (List.mem_of_getElem? (i := 12) rfl)
theorem kw_133 : (.initialized RX8 : Cond) ∈ tb := inA_5 _ (List.mem_of_getElem? (i := 13) rfl)
theorem kw_134 : (.instantiable RX8 7 : Cond) ∈ tb := inA_5 _ (List.mem_of_getElem? (i := 14) rfl)
theorem kw_135 : (.methodLink RX2 24 yX8_init : Cond) ∈ tb := inA_5 _ (List.mem_of_getElem? (i := 15) rfl)
theorem kw_136 : (.instanceMethod yX8_init : Cond) ∈ tb := inA_5 _ (List.mem_of_getElem? (i := 16) rfl)
theorem kw_137 : (.fieldLink RX2 27 "WiredBeans$DeclaredClass" "setterTypes" "[I" : Cond) ∈ tb := inA_5 _ (List.mem_of_getElem? (i := 17) rfl)
theorem kw_138 : (.fieldLink RX2 31 "WiredBeans$DeclaredClass" "parent" "LWiredBeans$DeclaredClass;" : Cond) ∈ tb := inA_5 _ (List.mem_of_getElem? (i := 18) rfl)
theorem kw_139 : (.fieldLink RX2 35 "WiredBeans$DeclaredClass" "constructorCount" "I" : Cond) ∈ tb := inA_5 _ (List.mem_of_getElem? (i := 19) rfl)
theorem kw_140 : (.fieldLink RX2 38 "WiredBeans$DeclaredClass" "factoryCount" "I" : Cond) ∈ tb := inA_5 _ (List.mem_of_getElem? (i := 20) rfl)
theorem kw_141 : (.fieldLink RX2 41 "WiredBeans$DeclaredClass" "setterCount" "I" : Cond) ∈ tb := inA_5 _ (List.mem_of_getElem? (i := 21) rfl)
theorem kw_142 : (.methodLink RX2 44 yX8_describe : Cond) ∈ tb := inA_5 _ (List.mem_of_getElem? (i := 22) rfl)
theorem kw_143 : (.instanceMethod yX8_describe : Cond) ∈ tb := inA_5 _ (List.mem_of_getElem? (i := 23) rfl)
theorem kw_144 : (.selects RX8 yX8_describe yX8_describe : Cond) ∈ tb := inA_6 _ (List.mem_of_getElem? (i := 0) rfl)
theorem kw_145 : (.methodLink RX2 48 yX8_setTypes : Cond) ∈ tb := inA_6 _ (List.mem_of_getElem? (i := 1) rfl)
theorem kw_146 : (.instanceMethod yX8_setTypes : Cond) ∈ tb := inA_6 _ (List.mem_of_getElem? (i := 2) rfl)
theorem kw_147 : (.selects RX8 yX8_setTypes yX8_setTypes : Cond) ∈ tb := inA_6 _ (List.mem_of_getElem? (i := 3) rfl)
theorem kw_148 : (.methodLink RX3 3 objectInit : Cond) ∈ tb := inA_6 _ (List.mem_of_getElem? (i := 4) rfl)
theorem kw_149 : (.fieldLink RX3 11 "WiredBeans$Element" "text" "[C" : Cond) ∈ tb := inA_6 _ (List.mem_of_getElem? (i := 5) rfl)
theorem kw_150 : (.methodLink RX6 3 objectInit : Cond) ∈ tb := inA_6 _ (List.mem_of_getElem? (i := 6) rfl)
theorem kw_151 : (.classLink RX6 11 RX3 : Cond) ∈ tb := inA_6 _ (List.mem_of_getElem? (i := 7) rfl)
theorem kw_152 : (.fieldLink RX6 13 "WiredBeans$Paper" "elements" "[LWiredBeans$Element;" : Cond) ∈ tb := inA_6 _ (List.mem_of_getElem? (i := 8) rfl)
theorem kw_153 : (.initialized RX3 : Cond) ∈ tb := inA_6 _ (List.mem_of_getElem? (i := 9) rfl)
theorem kw_154 : (.instantiable RX3 21 : Cond) ∈ tb := inA_6 _ (List.mem_of_getElem? (i := 10) rfl)
theorem kw_155 : (.methodLink RX6 17 yX3_init : Cond) ∈ tb := inA_6 _ (List.mem_of_getElem? (i := 11) rfl)
theorem kw_156 : (.instanceMethod yX3_init : Cond) ∈ tb := inA_6 _ (List.mem_of_getElem? (i := 12) rfl)
theorem kw_157 : (.arrayClass .long : Cond) ∈ tb := inA_6 _ (List.mem_of_getElem? (i := 13) rfl)
theorem kw_158 : (.fieldLink RX6 18 "WiredBeans$Paper" "attributeKeys" "[J" : Cond) ∈ tb := inA_6 _ (List.mem_of_getElem? (i := 14) rfl)
theorem kw_159 : (.fieldLink RX6 22 "WiredBeans$Paper" "valueStarts" "[I" : Cond) ∈ tb := inA_6 _ (List.mem_of_getElem? (i := 15) rfl)
theorem kw_160 : (.fieldLink RX6 26 "WiredBeans$Paper" "valueLengths" "[I" : Cond) ∈ tb := inA_6 _ (List.mem_of_getElem? (i := 16) rfl)
theorem kw_161 : (.fieldLink RX6 29 "WiredBeans$Paper" "values" "[C" : Cond) ∈ tb := inA_6 _ (List.mem_of_getElem? (i := 17) rfl)
theorem kw_162 : (.fieldLink RX6 33 "WiredBeans$Paper" "count" "I" : Cond) ∈ tb := inA_6 _ (List.mem_of_getElem? (i := 18) rfl)
theorem kw_163 : (.fieldLink RX6 37 "WiredBeans$Paper" "attributes" "I" : Cond) ∈ tb := inA_6 _ (List.mem_of_getElem? (i := 19) rfl)
theorem kw_164 : (.fieldLink RX6 40 "WiredBeans$Paper" "valuesEnd" "I" : Cond) ∈ tb := inA_6 _ (List.mem_of_getElem? (i := 20) rfl)
theorem kw_165 : (.methodLink RX7 3 objectInit : Cond) ∈ tb := inA_6 _ (List.mem_of_getElem? (i := 21) rfl)
theorem kw_166 : (.fieldLink RX7 9 "WiredBeans$Reader" "paper" "LWiredBeans$Paper;" : Cond) ∈ tb := inA_6 _ (List.mem_of_getElem? (i := 22) rfl)
theorem kw_167 : (.fieldLink RX7 15 "WiredBeans$Reader" "text" "[C" : Cond) ∈ tb := inA_6 _ (List.mem_of_getElem? (i := 23) rfl)
theorem kw_168 : (.fieldLink RX7 19 "WiredBeans$Reader" "length" "I" : Cond) ∈ tb := inA_7 _ (List.mem_of_getElem? (i := 0) rfl)
theorem kw_169 : (.fieldLink RX7 23 "WiredBeans$Reader" "at" "I" : Cond) ∈ tb := inA_7 _ (List.mem_of_getElem? (i := 1) rfl)
theorem kw_170 : (.fieldLink RX7 26 "WiredBeans$Reader" "depth" "I" : Cond) ∈ tb := inA_7 _ (List.mem_of_getElem? (i := 2) rfl)
theorem kw_171 : (.fieldLink RX7 29 "WiredBeans$Reader" "open" "LWiredBeans$Element;" : Cond) ∈ tb := inA_7 _ (List.mem_of_getElem? (i := 3) rfl)
theorem kw_172 : (.methodLink RX7 33 yX6_clear : Cond) ∈ tb := inA_7 _ (List.mem_of_getElem? (i := 4) rfl)
theorem kw_173 : (.instanceMethod yX6_clear : Cond) ∈ tb := inA_7 _ (List.mem_of_getElem? (i := 5) rfl)
theorem kw_174 : (.selects RX6 yX6_clear yX6_clear : Cond) ∈ tb := inA_7 _ (List.mem_of_getElem? (i := 6) rfl)
theorem kw_175 : (.methodLink RX7 38 yX7_skipAround : Cond) ∈ tb := inA_7 _ (List.mem_of_getElem? (i := 7) rfl)
theorem kw_176 : (.instanceMethod yX7_skipAround : Cond) ∈ tb := inA_7 _ (List.mem_of_getElem? (i := 8) rfl)
theorem kw_177 : (.selects RX7 yX7_skipAround yX7_skipAround : Cond) ∈ tb := inA_7 _ (List.mem_of_getElem? (i := 9) rfl)
theorem kw_178 : (.methodLink RX7 41 yX7_openElement : Cond) ∈ tb := inA_7 _ (List.mem_of_getElem? (i := 10) rfl)
theorem kw_179 : (.instanceMethod yX7_openElement : Cond) ∈ tb := inA_7 _ (List.mem_of_getElem? (i := 11) rfl)
theorem kw_180 : (.selects RX7 yX7_openElement yX7_openElement : Cond) ∈ tb := inA_7 _ (List.mem_of_getElem? (i := 12) rfl)
theorem kw_181 : (.classLink RX7 50 "java/lang/IllegalArgumentException" : Cond) ∈ tb := inA_7 _ (List.mem_of_getElem? (i := 13) rfl)
theorem kw_182 : (.methodLink RX7 53 yX7_skipsWhite : Cond) ∈ tb := inA_7 _ (List.mem_of_getElem? (i := 14) rfl)
theorem kw_183 : (.instanceMethod yX7_skipsWhite : Cond) ∈ tb := inA_7 _ (List.mem_of_getElem? (i := 15) rfl)
theorem kw_184 : (.selects RX7 yX7_skipsWhite yX7_skipsWhite : Cond) ∈ tb := inA_7 _ (List.mem_of_getElem? (i := 16) rfl)
theorem kw_185 : (.methodLink RX7 64 yX7_expect : Cond) ∈ tb := inA_7 _ (List.mem_of_getElem? (i := 17) rfl)
theorem kw_186 : (.instanceMethod yX7_expect : Cond) ∈ tb := inA_7 _ (List.mem_of_getElem? (i := 18) rfl)
theorem kw_187 : (.selects RX7 yX7_expect yX7_expect : Cond) ∈ tb := inA_7 _ (List.mem_of_getElem? (i := 19) rfl)
theorem kw_188 : (.fieldLink RX7 101 "WiredBeans$Element" "word" "LWiredBeans$Word;" : Cond) ∈ tb := inA_7 _ (List.mem_of_getElem? (i := 20) rfl)
theorem kw_189 : (.methodLink RX9 3 objectInit : Cond) ∈ tb := inA_7 _ (List.mem_of_getElem? (i := 21) rfl)
theorem kw_190 : (.fieldLink RX9 9 "WiredBeans$Structure" "paper" "LWiredBeans$Paper;" : Cond) ∈ tb := inA_7 _ (List.mem_of_getElem? (i := 22) rfl)
theorem kw_191 : (.methodLink RX1 3 objectInit : Cond) ∈ tb := inA_7 _ (List.mem_of_getElem? (i := 23) rfl)
theorem kw_192 : (.fieldLink RX1 9 "WiredBeans$Bean" "number" "I" : Cond) ∈ tb := inA_8 _ (List.mem_of_getElem? (i := 0) rfl)
theorem kw_193 : (.classLink RX1 15 RJx4a65c : Cond) ∈ tb := inA_8 _ (List.mem_of_getElem? (i := 1) rfl)
theorem kw_194 : (.initialized RJx4a65c : Cond) ∈ tb := inA_8 _ (List.mem_of_getElem? (i := 2) rfl)
theorem kw_195 : (.instantiable RJx4a65c 3 : Cond) ∈ tb := inA_8 _ (List.mem_of_getElem? (i := 3) rfl)
theorem kw_196 : (.methodLink RX1 17 yJx4a65c_init_da8c8 : Cond) ∈ tb := inA_8 _ (List.mem_of_getElem? (i := 4) rfl)
theorem kw_197 : (.instanceMethod yJx4a65c_init_da8c8 : Cond) ∈ tb := inA_8 _ (List.mem_of_getElem? (i := 5) rfl)
theorem kw_198 : (.fieldLink RX1 18 "WiredBeans$Bean" "args" "Ljava/util/ArrayList;" : Cond) ∈ tb := inA_8 _ (List.mem_of_getElem? (i := 6) rfl)
theorem kw_199 : (.fieldLink RX1 22 "WiredBeans$Bean" "sets" "Ljava/util/ArrayList;" : Cond) ∈ tb := inA_8 _ (List.mem_of_getElem? (i := 7) rfl)
theorem kw_200 : (.fieldLink RX1 25 "WiredBeans$Bean" "lookups" "Ljava/util/ArrayList;" : Cond) ∈ tb := inA_8 _ (List.mem_of_getElem? (i := 8) rfl)
theorem kw_201 : (.methodLink RX10 3 objectInit : Cond) ∈ tb := inA_8 _ (List.mem_of_getElem? (i := 9) rfl)
theorem kw_202 : (.fieldLink RX10 9 "WiredBeans$Wiring" "paper" "LWiredBeans$Paper;" : Cond) ∈ tb := inA_8 _ (List.mem_of_getElem? (i := 10) rfl)
theorem kw_203 : (.classLink RX10 17 RX1 : Cond) ∈ tb := inA_8 _ (List.mem_of_getElem? (i := 11) rfl)
theorem kw_204 : (.fieldLink RX10 19 "WiredBeans$Wiring" "beans" "[LWiredBeans$Bean;" : Cond) ∈ tb := inA_8 _ (List.mem_of_getElem? (i := 12) rfl)
theorem kw_205 : (.initialized RX1 : Cond) ∈ tb := inA_8 _ (List.mem_of_getElem? (i := 13) rfl)
theorem kw_206 : (.instantiable RX1 19 : Cond) ∈ tb := inA_8 _ (List.mem_of_getElem? (i := 14) rfl)
theorem kw_207 : (.methodLink RX10 23 yX1_init : Cond) ∈ tb := inA_8 _ (List.mem_of_getElem? (i := 15) rfl)
theorem kw_208 : (.instanceMethod yX1_init : Cond) ∈ tb := inA_8 _ (List.mem_of_getElem? (i := 16) rfl)
theorem kw_209 : (.fieldLink RX10 26 "WiredBeans$Wiring" "chain" "[LWiredBeans$Bean;" : Cond) ∈ tb := inA_8 _ (List.mem_of_getElem? (i := 17) rfl)
theorem kw_210 : (.fieldLink RX10 29 "WiredBeans$Wiring" "count" "I" : Cond) ∈ tb := inA_8 _ (List.mem_of_getElem? (i := 18) rfl)
theorem kw_211 : (.methodLink RX4 3 objectInit : Cond) ∈ tb := inA_8 _ (List.mem_of_getElem? (i := 19) rfl)
theorem kw_212 : (.fieldLink RX4 11 "WiredBeans$EventRow" "numbers" "[I" : Cond) ∈ tb := inA_8 _ (List.mem_of_getElem? (i := 20) rfl)
theorem kw_213 : (.fieldLink RX4 15 "WiredBeans$EventRow" "count" "I" : Cond) ∈ tb := inA_8 _ (List.mem_of_getElem? (i := 21) rfl)
theorem kw_214 : (.methodLink RX5 7 objectInit : Cond) ∈ tb := inA_8 _ (List.mem_of_getElem? (i := 22) rfl)
theorem kw_215 : (.fieldLink RX5 13 "WiredBeans$Maker" "wiring" "LWiredBeans$Wiring;" : Cond) ∈ tb := inA_8 _ (List.mem_of_getElem? (i := 23) rfl)
theorem kw_216 : (.fieldLink RX5 17 "WiredBeans$Maker" "classes" "[LWiredBeans$DeclaredClass;" : Cond) ∈ tb := inA_9 _ (List.mem_of_getElem? (i := 0) rfl)
theorem kw_217 : (.fieldLink RX5 21 "WiredBeans$Maker" "row" "LWiredBeans$EventRow;" : Cond) ∈ tb := inA_9 _ (List.mem_of_getElem? (i := 1) rfl)
theorem kw_218 : (.fieldLink RX5 25 "WiredBeans$Maker" "objectClasses" "[I" : Cond) ∈ tb := inA_9 _ (List.mem_of_getElem? (i := 2) rfl)
theorem kw_219 : (.fieldLink RX5 29 "WiredBeans$Maker" "objectBeans" "[I" : Cond) ∈ tb := inA_9 _ (List.mem_of_getElem? (i := 3) rfl)
theorem kw_220 : (.classLink RX5 34 RX1 : Cond) ∈ tb := inA_9 _ (List.mem_of_getElem? (i := 4) rfl)
theorem kw_221 : (.fieldLink RX5 36 "WiredBeans$Maker" "finished" "[LWiredBeans$Bean;" : Cond) ∈ tb := inA_9 _ (List.mem_of_getElem? (i := 5) rfl)
theorem kw_222 : (.fieldLink RX5 40 "WiredBeans$Maker" "worked" "[I" : Cond) ∈ tb := inA_9 _ (List.mem_of_getElem? (i := 6) rfl)
theorem kw_223 : (.fieldLink RX5 43 "WiredBeans$Maker" "argAtPlace" "[I" : Cond) ∈ tb := inA_9 _ (List.mem_of_getElem? (i := 7) rfl)
theorem kw_224 : (.fieldLink RX5 46 "WiredBeans$Maker" "failureBean" "I" : Cond) ∈ tb := inA_9 _ (List.mem_of_getElem? (i := 8) rfl)
theorem kw_225 : (.fieldLink RX5 50 "WiredBeans$Maker" "objectCount" "I" : Cond) ∈ tb := inA_9 _ (List.mem_of_getElem? (i := 9) rfl)
theorem kw_226 : (.methodLink RX5 53 yX5_forgetMade : Cond) ∈ tb := inA_9 _ (List.mem_of_getElem? (i := 10) rfl)
theorem kw_227 : (.instanceMethod yX5_forgetMade : Cond) ∈ tb := inA_9 _ (List.mem_of_getElem? (i := 11) rfl)
theorem kw_228 : (.selects RX5 yX5_forgetMade yX5_forgetMade : Cond) ∈ tb := inA_9 _ (List.mem_of_getElem? (i := 12) rfl)
theorem kw_229 : (.methodLink RX5 56 yX4_clear : Cond) ∈ tb := inA_9 _ (List.mem_of_getElem? (i := 13) rfl)
theorem kw_230 : (.instanceMethod yX4_clear : Cond) ∈ tb := inA_9 _ (List.mem_of_getElem? (i := 14) rfl)
theorem kw_231 : (.selects RX4 yX4_clear yX4_clear : Cond) ∈ tb := inA_9 _ (List.mem_of_getElem? (i := 15) rfl)
theorem kw_232 : (.methodLink RX5 78 yX10_count : Cond) ∈ tb := inA_9 _ (List.mem_of_getElem? (i := 16) rfl)
theorem kw_233 : (.fieldLink RX5 82 "WiredBeans$Bean" "isMade" "Z" : Cond) ∈ tb := inA_9 _ (List.mem_of_getElem? (i := 17) rfl)
theorem kw_234 : (.fieldLink RX5 86 "WiredBeans$Maker" "finishedCount" "I" : Cond) ∈ tb := inA_9 _ (List.mem_of_getElem? (i := 18) rfl)
theorem kw_235 : (.fieldLink RX5 61 "WiredBeans$Maker" "failure" "I" : Cond) ∈ tb := inA_9 _ (List.mem_of_getElem? (i := 19) rfl)
theorem kw_236 : (.fieldLink RX5 89 "WiredBeans$Bean" "destroy" "I" : Cond) ∈ tb := inA_9 _ (List.mem_of_getElem? (i := 20) rfl)
theorem kw_237 : (.fieldLink RX5 92 "WiredBeans$Bean" "madeObject" "I" : Cond) ∈ tb := inA_9 _ (List.mem_of_getElem? (i := 21) rfl)
theorem kw_238 : (.methodLink RX5 64 yX5_isObject : Cond) ∈ tb := inA_9 _ (List.mem_of_getElem? (i := 22) rfl)
theorem kw_239 : (.instanceMethod yX5_isObject : Cond) ∈ tb := inA_9 _ (List.mem_of_getElem? (i := 23) rfl)
theorem kw_240 : (.selects RX5 yX5_isObject yX5_isObject : Cond) ∈ tb := inA_10 _ (List.mem_of_getElem? (i := 0) rfl)
theorem kw_241 : (.methodLink RJx4a65c 1 yJxc12de_init_da8c8 : Cond) ∈ tb := inA_10 _ (List.mem_of_getElem? (i := 1) rfl)
theorem kw_242 : (.instanceMethod yJxc12de_init_da8c8 : Cond) ∈ tb := inA_10 _ (List.mem_of_getElem? (i := 2) rfl)
theorem kw_243 : (.initialized RJxc12de : Cond) ∈ tb := inA_10 _ (List.mem_of_getElem? (i := 3) rfl)
theorem kw_244 : (.fieldLink RJx4a65c 39 "java/util/ArrayList" "DEFAULTCAPACITY_EMPTY_ELEMENTDATA" "[Ljava/lang/Object;" : Cond) ∈ tb := inA_10 _ (List.mem_of_getElem? (i := 4) rfl)
theorem kw_245 : (.fieldLink RJx4a65c 9 "java/util/ArrayList" "elementData" "[Ljava/lang/Object;" : Cond) ∈ tb := inA_10 _ (List.mem_of_getElem? (i := 5) rfl)
theorem kw_246 : (.methodLink RJxc12de 1 yJxa1e45_init_da8c8 : Cond) ∈ tb := inA_10 _ (List.mem_of_getElem? (i := 6) rfl)
theorem kw_247 : (.instanceMethod yJxa1e45_init_da8c8 : Cond) ∈ tb := inA_10 _ (List.mem_of_getElem? (i := 7) rfl)
theorem kw_248 : (.initialized RJxa1e45 : Cond) ∈ tb := inA_10 _ (List.mem_of_getElem? (i := 8) rfl)
theorem kw_249 : (.fieldLink RJxc12de 7 "java/util/AbstractList" "modCount" "I" : Cond) ∈ tb := inA_10 _ (List.mem_of_getElem? (i := 9) rfl)
theorem kw_250 : (.methodLink RJxa1e45 1 objectInit : Cond) ∈ tb := inA_10 _ (List.mem_of_getElem? (i := 10) rfl)
theorem kw_251 : (.methodLink RX13 1 objectInit : Cond) ∈ tb := inA_10 _ (List.mem_of_getElem? (i := 11) rfl)
theorem kw_252 : (.constantLong RX13 7 (422607679091) : Cond) ∈ tb := inA_10 _ (List.mem_of_getElem? (i := 12) rfl)
theorem kw_253 : (.constantLong RX13 9 (418430673267) : Cond) ∈ tb := inA_10 _ (List.mem_of_getElem? (i := 13) rfl)
theorem kw_254 : (.constantLong RX13 11 (1650811246) : Cond) ∈ tb := inA_10 _ (List.mem_of_getElem? (i := 14) rfl)
theorem kw_255 : (.constantLong RX13 13 (6386279) : Cond) ∈ tb := inA_10 _ (List.mem_of_getElem? (i := 15) rfl)
theorem kw_256 : (.constantLong RX13 15 (7562612) : Cond) ∈ tb := inA_10 _ (List.mem_of_getElem? (i := 16) rfl)
theorem kw_257 : (.constantLong RX13 17 (1818850164) : Cond) ∈ tb := inA_10 _ (List.mem_of_getElem? (i := 17) rfl)
theorem kw_258 : (.constantLong RX13 19 (508440638821) : Cond) ∈ tb := inA_10 _ (List.mem_of_getElem? (i := 18) rfl)
theorem kw_259 : (.constantLong RX13 21 (7497062) : Cond) ∈ tb := inA_10 _ (List.mem_of_getElem? (i := 19) rfl)
theorem kw_260 : (.constantLong RX13 23 (1853189228) : Cond) ∈ tb := inA_10 _ (List.mem_of_getElem? (i := 20) rfl)
theorem kw_261 : (.constantLong RX13 25 (119225866483056) : Cond) ∈ tb := inA_10 _ (List.mem_of_getElem? (i := 21) rfl)
theorem kw_262 : (.fieldLink RX13 27 "WiredBeansModel" "elementNames" "[J" : Cond) ∈ tb := inA_10 _ (List.mem_of_getElem? (i := 22) rfl)
theorem kw_263 : (.constantLong RX13 33 (7955827) : Cond) ∈ tb := inA_10 _ (List.mem_of_getElem? (i := 23) rfl)
theorem kw_264 : (.constantLong RX13 35 (28271) : Cond) ∈ tb := inA_11 _ (List.mem_of_getElem? (i := 0) rfl)
theorem kw_265 : (.constantLong RX13 37 (7302757) : Cond) ∈ tb := inA_11 _ (List.mem_of_getElem? (i := 1) rfl)
theorem kw_266 : (.constantLong RX13 39 (1835101817) : Cond) ∈ tb := inA_11 _ (List.mem_of_getElem? (i := 2) rfl)
theorem kw_267 : (.constantLong RX13 41 (6909556) : Cond) ∈ tb := inA_11 _ (List.mem_of_getElem? (i := 3) rfl)
theorem kw_268 : (.constantLong RX13 43 (500136506472) : Cond) ∈ tb := inA_11 _ (List.mem_of_getElem? (i := 4) rfl)
theorem kw_269 : (.constantLong RX13 45 (1667785074) : Cond) ∈ tb := inA_11 _ (List.mem_of_getElem? (i := 5) rfl)
theorem kw_270 : (.constantLong RX13 47 (1952807028) : Cond) ∈ tb := inA_11 _ (List.mem_of_getElem? (i := 6) rfl)
theorem kw_271 : (.constantLong RX13 49 (7499639) : Cond) ∈ tb := inA_11 _ (List.mem_of_getElem? (i := 7) rfl)
theorem kw_272 : (.constantLong RX13 51 (1953658213) : Cond) ∈ tb := inA_11 _ (List.mem_of_getElem? (i := 8) rfl)
theorem kw_273 : (.constantLong RX13 53 (439721161573) : Cond) ∈ tb := inA_11 _ (List.mem_of_getElem? (i := 9) rfl)
theorem kw_274 : (.fieldLink RX13 55 "WiredBeansModel" "words" "[J" : Cond) ∈ tb := inA_11 _ (List.mem_of_getElem? (i := 10) rfl)
theorem kw_275 : (.constantLong RX13 58 (7107643) : Cond) ∈ tb := inA_11 _ (List.mem_of_getElem? (i := 11) rfl)
theorem kw_276 : (.constantLong RX13 60 (6779963) : Cond) ∈ tb := inA_11 _ (List.mem_of_getElem? (i := 12) rfl)
theorem kw_277 : (.constantLong RX13 62 (1634562107) : Cond) ∈ tb := inA_11 _ (List.mem_of_getElem? (i := 13) rfl)
theorem kw_278 : (.constantLong RX13 64 (487301542971) : Cond) ∈ tb := inA_11 _ (List.mem_of_getElem? (i := 14) rfl)
theorem kw_279 : (.constantLong RX13 66 (418498179899) : Cond) ∈ tb := inA_11 _ (List.mem_of_getElem? (i := 15) rfl)
theorem kw_280 : (.fieldLink RX13 68 "WiredBeansModel" "entities" "[J" : Cond) ∈ tb := inA_11 _ (List.mem_of_getElem? (i := 16) rfl)
theorem kw_281 : (.fieldLink RX13 71 "WiredBeansModel" "entityLengths" "[I" : Cond) ∈ tb := inA_11 _ (List.mem_of_getElem? (i := 17) rfl)
theorem kw_282 : (.fieldLink RX13 75 "WiredBeansModel" "entitySigns" "[I" : Cond) ∈ tb := inA_11 _ (List.mem_of_getElem? (i := 18) rfl)
theorem kw_283 : (.fieldLink RX13 78 "WiredBeansModel" "parents" "[I" : Cond) ∈ tb := inA_11 _ (List.mem_of_getElem? (i := 19) rfl)
theorem kw_284 : (.fieldLink RX13 81 "WiredBeansModel" "makers" "[I" : Cond) ∈ tb := inA_11 _ (List.mem_of_getElem? (i := 20) rfl)
theorem kw_285 : (.fieldLink RX13 84 "WiredBeansModel" "makerSize" "[I" : Cond) ∈ tb := inA_11 _ (List.mem_of_getElem? (i := 21) rfl)
theorem kw_286 : (.fieldLink RX13 87 "WiredBeansModel" "makerType" "[I" : Cond) ∈ tb := inA_11 _ (List.mem_of_getElem? (i := 22) rfl)
theorem kw_287 : (.fieldLink RX13 90 "WiredBeansModel" "setters" "[I" : Cond) ∈ tb := inA_11 _ (List.mem_of_getElem? (i := 23) rfl)
theorem kw_288 : (.fieldLink RX13 93 "WiredBeansModel" "setterName" "[I" : Cond) ∈ tb := inA_12 _ (List.mem_of_getElem? (i := 0) rfl)
theorem kw_289 : (.fieldLink RX13 96 "WiredBeansModel" "setterType" "[I" : Cond) ∈ tb := inA_12 _ (List.mem_of_getElem? (i := 1) rfl)
theorem kw_290 : (.fieldLink RX13 99 "WiredBeansModel" "factories" "[I" : Cond) ∈ tb := inA_12 _ (List.mem_of_getElem? (i := 2) rfl)
theorem kw_291 : (.fieldLink RX13 102 "WiredBeansModel" "factoryName" "[I" : Cond) ∈ tb := inA_12 _ (List.mem_of_getElem? (i := 3) rfl)
theorem kw_292 : (.fieldLink RX13 105 "WiredBeansModel" "factoryResult" "[I" : Cond) ∈ tb := inA_12 _ (List.mem_of_getElem? (i := 4) rfl)
theorem kw_293 : (.fieldLink RX13 108 "WiredBeansModel" "factorySize" "[I" : Cond) ∈ tb := inA_12 _ (List.mem_of_getElem? (i := 5) rfl)
theorem kw_294 : (.fieldLink RX13 111 "WiredBeansModel" "factoryType" "[I" : Cond) ∈ tb := inA_12 _ (List.mem_of_getElem? (i := 6) rfl)
theorem kw_295 : (.arrayClass .boolean : Cond) ∈ tb := inA_12 _ (List.mem_of_getElem? (i := 7) rfl)
theorem kw_296 : (.fieldLink RX13 114 "WiredBeansModel" "factoryStatic" "[Z" : Cond) ∈ tb := inA_12 _ (List.mem_of_getElem? (i := 8) rfl)
theorem kw_297 : (.arrayClass .byte : Cond) ∈ tb := inA_12 _ (List.mem_of_getElem? (i := 9) rfl)
theorem kw_298 : (.fieldLink RX13 118 "WiredBeansModel" "text" "[B" : Cond) ∈ tb := inA_12 _ (List.mem_of_getElem? (i := 10) rfl)
theorem kw_299 : (.fieldLink RX13 122 "WiredBeansModel" "faultPlace" "I" : Cond) ∈ tb := inA_12 _ (List.mem_of_getElem? (i := 11) rfl)
theorem kw_300 : (.fieldLink RX13 126 "WiredBeansModel" "kinds" "[I" : Cond) ∈ tb := inA_12 _ (List.mem_of_getElem? (i := 12) rfl)
theorem kw_301 : (.fieldLink RX13 129 "WiredBeansModel" "places" "[I" : Cond) ∈ tb := inA_12 _ (List.mem_of_getElem? (i := 13) rfl)
theorem kw_302 : (.fieldLink RX13 132 "WiredBeansModel" "above" "[I" : Cond) ∈ tb := inA_12 _ (List.mem_of_getElem? (i := 14) rfl)
theorem kw_303 : (.fieldLink RX13 135 "WiredBeansModel" "within" "[I" : Cond) ∈ tb := inA_12 _ (List.mem_of_getElem? (i := 15) rfl)
theorem kw_304 : (.fieldLink RX13 138 "WiredBeansModel" "attributes" "[I" : Cond) ∈ tb := inA_12 _ (List.mem_of_getElem? (i := 16) rfl)
theorem kw_305 : (.fieldLink RX13 141 "WiredBeansModel" "textSize" "[I" : Cond) ∈ tb := inA_12 _ (List.mem_of_getElem? (i := 17) rfl)
theorem kw_306 : (.fieldLink RX13 144 "WiredBeansModel" "pending" "[I" : Cond) ∈ tb := inA_12 _ (List.mem_of_getElem? (i := 18) rfl)
theorem kw_307 : (.fieldLink RX13 147 "WiredBeansModel" "textAt" "[I" : Cond) ∈ tb := inA_12 _ (List.mem_of_getElem? (i := 19) rfl)
theorem kw_308 : (.fieldLink RX13 150 "WiredBeansModel" "names" "[J" : Cond) ∈ tb := inA_12 _ (List.mem_of_getElem? (i := 20) rfl)
theorem kw_309 : (.fieldLink RX13 153 "WiredBeansModel" "attributeName" "[J" : Cond) ∈ tb := inA_12 _ (List.mem_of_getElem? (i := 21) rfl)
theorem kw_310 : (.fieldLink RX13 156 "WiredBeansModel" "attributeAt" "[I" : Cond) ∈ tb := inA_12 _ (List.mem_of_getElem? (i := 22) rfl)
theorem kw_311 : (.fieldLink RX13 159 "WiredBeansModel" "attributeSize" "[I" : Cond) ∈ tb := inA_12 _ (List.mem_of_getElem? (i := 23) rfl)
theorem kw_312 : (.fieldLink RX13 162 "WiredBeansModel" "characters" "[B" : Cond) ∈ tb := inA_13 _ (List.mem_of_getElem? (i := 0) rfl)
theorem kw_313 : (.fieldLink RX13 165 "WiredBeansModel" "texts" "[B" : Cond) ∈ tb := inA_13 _ (List.mem_of_getElem? (i := 1) rfl)
theorem kw_314 : (.fieldLink RX13 168 "WiredBeansModel" "beanElement" "[I" : Cond) ∈ tb := inA_13 _ (List.mem_of_getElem? (i := 2) rfl)
theorem kw_315 : (.fieldLink RX13 171 "WiredBeansModel" "beanOf" "[I" : Cond) ∈ tb := inA_13 _ (List.mem_of_getElem? (i := 3) rfl)
theorem kw_316 : (.fieldLink RX13 174 "WiredBeansModel" "setMany" "[I" : Cond) ∈ tb := inA_13 _ (List.mem_of_getElem? (i := 4) rfl)
theorem kw_317 : (.fieldLink RX13 177 "WiredBeansModel" "setElement" "[I" : Cond) ∈ tb := inA_13 _ (List.mem_of_getElem? (i := 5) rfl)
theorem kw_318 : (.fieldLink RX13 180 "WiredBeansModel" "lookupMany" "[I" : Cond) ∈ tb := inA_13 _ (List.mem_of_getElem? (i := 6) rfl)
theorem kw_319 : (.fieldLink RX13 183 "WiredBeansModel" "lookupElement" "[I" : Cond) ∈ tb := inA_13 _ (List.mem_of_getElem? (i := 7) rfl)
theorem kw_320 : (.fieldLink RX13 186 "WiredBeansModel" "failureBean" "I" : Cond) ∈ tb := inA_13 _ (List.mem_of_getElem? (i := 8) rfl)
theorem kw_321 : (.fieldLink RX13 189 "WiredBeansModel" "objectClass" "[I" : Cond) ∈ tb := inA_13 _ (List.mem_of_getElem? (i := 9) rfl)
theorem kw_322 : (.fieldLink RX13 192 "WiredBeansModel" "objectBean" "[I" : Cond) ∈ tb := inA_13 _ (List.mem_of_getElem? (i := 10) rfl)
theorem kw_323 : (.fieldLink RX13 195 "WiredBeansModel" "eventKind" "[I" : Cond) ∈ tb := inA_13 _ (List.mem_of_getElem? (i := 11) rfl)
theorem kw_324 : (.fieldLink RX13 198 "WiredBeansModel" "eventObject" "[I" : Cond) ∈ tb := inA_13 _ (List.mem_of_getElem? (i := 12) rfl)
theorem kw_325 : (.fieldLink RX13 201 "WiredBeansModel" "eventSecond" "[I" : Cond) ∈ tb := inA_13 _ (List.mem_of_getElem? (i := 13) rfl)
theorem kw_326 : (.fieldLink RX13 204 "WiredBeansModel" "eventThird" "[I" : Cond) ∈ tb := inA_13 _ (List.mem_of_getElem? (i := 14) rfl)
theorem kw_327 : (.fieldLink RX13 207 "WiredBeansModel" "madeOrder" "[I" : Cond) ∈ tb := inA_13 _ (List.mem_of_getElem? (i := 15) rfl)
theorem kw_328 : (.fieldLink RX13 210 "WiredBeansModel" "own" "[I" : Cond) ∈ tb := inA_13 _ (List.mem_of_getElem? (i := 16) rfl)
theorem kw_329 : (.fieldLink RX13 213 "WiredBeansModel" "isMade" "[Z" : Cond) ∈ tb := inA_13 _ (List.mem_of_getElem? (i := 17) rfl)
theorem kw_330 : (.fieldLink RX13 216 "WiredBeansModel" "making" "[Z" : Cond) ∈ tb := inA_13 _ (List.mem_of_getElem? (i := 18) rfl)
theorem kw_331 : (.fieldLink RX13 219 "WiredBeansModel" "pileBean" "[I" : Cond) ∈ tb := inA_13 _ (List.mem_of_getElem? (i := 19) rfl)
theorem kw_332 : (.fieldLink RX13 222 "WiredBeansModel" "pilePhase" "[I" : Cond) ∈ tb := inA_13 _ (List.mem_of_getElem? (i := 20) rfl)
theorem kw_333 : (.fieldLink RX13 225 "WiredBeansModel" "pileIndex" "[I" : Cond) ∈ tb := inA_13 _ (List.mem_of_getElem? (i := 21) rfl)
theorem kw_334 : (.fieldLink RX13 228 "WiredBeansModel" "pileItem" "[I" : Cond) ∈ tb := inA_13 _ (List.mem_of_getElem? (i := 22) rfl)
theorem kw_335 : (.fieldLink RX13 231 "WiredBeansModel" "pileFactory" "[I" : Cond) ∈ tb := inA_13 _ (List.mem_of_getElem? (i := 23) rfl)
theorem kw_336 : (.fieldLink RX13 234 "WiredBeansModel" "pileObject" "[I" : Cond) ∈ tb := inA_14 _ (List.mem_of_getElem? (i := 0) rfl)
theorem kw_337 : (.fieldLink RX13 237 "WiredBeansModel" "valueKind" "[I" : Cond) ∈ tb := inA_14 _ (List.mem_of_getElem? (i := 1) rfl)
theorem kw_338 : (.fieldLink RX13 240 "WiredBeansModel" "value" "[I" : Cond) ∈ tb := inA_14 _ (List.mem_of_getElem? (i := 2) rfl)
theorem kw_339 : (.fieldLink RX13 243 "WiredBeansModel" "itemKind" "[I" : Cond) ∈ tb := inA_14 _ (List.mem_of_getElem? (i := 3) rfl)
theorem kw_340 : (.fieldLink RX13 246 "WiredBeansModel" "item" "[I" : Cond) ∈ tb := inA_14 _ (List.mem_of_getElem? (i := 4) rfl)
theorem kw_341 : (.fieldLink RX13 249 "WiredBeansModel" "spot" "[I" : Cond) ∈ tb := inA_14 _ (List.mem_of_getElem? (i := 5) rfl)
theorem kw_342 : (.fieldLink RX13 252 "WiredBeansModel" "thrown" "I" : Cond) ∈ tb := inA_14 _ (List.mem_of_getElem? (i := 6) rfl)
theorem kw_343 : (.methodLink RX13 255 yX13_isType : Cond) ∈ tb := inA_14 _ (List.mem_of_getElem? (i := 7) rfl)
theorem kw_344 : (.static yX13_isType : Cond) ∈ tb := inA_14 _ (List.mem_of_getElem? (i := 8) rfl)
theorem kw_345 : (.initialized RX13 : Cond) ∈ tb := inA_14 _ (List.mem_of_getElem? (i := 9) rfl)
theorem kw_346 : (.methodLink RX13 259 yX13_isClass : Cond) ∈ tb := inA_14 _ (List.mem_of_getElem? (i := 10) rfl)
theorem kw_347 : (.static yX13_isClass : Cond) ∈ tb := inA_14 _ (List.mem_of_getElem? (i := 11) rfl)
theorem kw_348 : (.methodLink RX13 262 yX13_areTypes : Cond) ∈ tb := inA_14 _ (List.mem_of_getElem? (i := 12) rfl)
theorem kw_349 : (.static yX13_areTypes : Cond) ∈ tb := inA_14 _ (List.mem_of_getElem? (i := 13) rfl)
theorem kw_350 : (.methodLink RX13 266 yX13_isLetter : Cond) ∈ tb := inA_14 _ (List.mem_of_getElem? (i := 14) rfl)
theorem kw_351 : (.static yX13_isLetter : Cond) ∈ tb := inA_14 _ (List.mem_of_getElem? (i := 15) rfl)
theorem kw_352 : (.fieldLink RX13 273 "WiredBeansModel" "size" "I" : Cond) ∈ tb := inA_14 _ (List.mem_of_getElem? (i := 16) rfl)
theorem kw_353 : (.fieldLink RX13 276 "WiredBeansModel" "fault" "I" : Cond) ∈ tb := inA_14 _ (List.mem_of_getElem? (i := 17) rfl)
theorem kw_354 : (.fieldLink RX13 279 "WiredBeansModel" "at" "I" : Cond) ∈ tb := inA_14 _ (List.mem_of_getElem? (i := 18) rfl)
theorem kw_355 : (.methodLink RX13 282 yX13_here : Cond) ∈ tb := inA_14 _ (List.mem_of_getElem? (i := 19) rfl)
theorem kw_356 : (.instanceMethod yX13_here : Cond) ∈ tb := inA_14 _ (List.mem_of_getElem? (i := 20) rfl)
theorem kw_357 : (.selects RX13 yX13_here yX13_here : Cond) ∈ tb := inA_14 _ (List.mem_of_getElem? (i := 21) rfl)
theorem kw_358 : (.methodLink RX13 286 yX13_isWhite : Cond) ∈ tb := inA_14 _ (List.mem_of_getElem? (i := 22) rfl)
theorem kw_359 : (.instanceMethod yX13_isWhite : Cond) ∈ tb := inA_14 _ (List.mem_of_getElem? (i := 23) rfl)
theorem kw_360 : (.selects RX13 yX13_isWhite yX13_isWhite : Cond) ∈ tb := inA_15 _ (List.mem_of_getElem? (i := 0) rfl)
theorem kw_361 : (.methodLink RX13 296 yX13_white : Cond) ∈ tb := inA_15 _ (List.mem_of_getElem? (i := 1) rfl)
theorem kw_362 : (.instanceMethod yX13_white : Cond) ∈ tb := inA_15 _ (List.mem_of_getElem? (i := 2) rfl)
theorem kw_363 : (.selects RX13 yX13_white yX13_white : Cond) ∈ tb := inA_15 _ (List.mem_of_getElem? (i := 3) rfl)
theorem kw_364 : (.fieldLink RX13 329 "WiredBeansModel" "elements" "I" : Cond) ∈ tb := inA_15 _ (List.mem_of_getElem? (i := 4) rfl)
theorem kw_365 : (.methodLink RX13 289 yX13_bad : Cond) ∈ tb := inA_15 _ (List.mem_of_getElem? (i := 5) rfl)
theorem kw_366 : (.instanceMethod yX13_bad : Cond) ∈ tb := inA_15 _ (List.mem_of_getElem? (i := 6) rfl)
theorem kw_367 : (.selects RX13 yX13_bad yX13_bad : Cond) ∈ tb := inA_15 _ (List.mem_of_getElem? (i := 7) rfl)
theorem kw_368 : (.fieldLink RX13 335 "WiredBeansModel" "closed" "Z" : Cond) ∈ tb := inA_15 _ (List.mem_of_getElem? (i := 8) rfl)
theorem kw_369 : (.methodLink RX13 339 yX13_between : Cond) ∈ tb := inA_15 _ (List.mem_of_getElem? (i := 9) rfl)
theorem kw_370 : (.instanceMethod yX13_between : Cond) ∈ tb := inA_15 _ (List.mem_of_getElem? (i := 10) rfl)
theorem kw_371 : (.selects RX13 yX13_between yX13_between : Cond) ∈ tb := inA_15 _ (List.mem_of_getElem? (i := 11) rfl)
theorem kw_372 : (.methodLink RX13 342 yX13_begin : Cond) ∈ tb := inA_15 _ (List.mem_of_getElem? (i := 12) rfl)
theorem kw_373 : (.instanceMethod yX13_begin : Cond) ∈ tb := inA_15 _ (List.mem_of_getElem? (i := 13) rfl)
theorem kw_374 : (.selects RX13 yX13_begin yX13_begin : Cond) ∈ tb := inA_15 _ (List.mem_of_getElem? (i := 14) rfl)
theorem kw_375 : (.fieldLink RX13 471 "WiredBeansModel" "events" "I" : Cond) ∈ tb := inA_15 _ (List.mem_of_getElem? (i := 15) rfl)
theorem kw_376 : (.fieldLink RX13 474 "WiredBeansModel" "made" "I" : Cond) ∈ tb := inA_15 _ (List.mem_of_getElem? (i := 16) rfl)
theorem kw_377 : (.fieldLink RX13 323 "WiredBeansModel" "pool" "I" : Cond) ∈ tb := inA_15 _ (List.mem_of_getElem? (i := 17) rfl)
theorem kw_378 : (.fieldLink RX13 439 "WiredBeansModel" "beans" "I" : Cond) ∈ tb := inA_15 _ (List.mem_of_getElem? (i := 18) rfl)
theorem kw_379 : (.fieldLink RX13 477 "WiredBeansModel" "document" "Z" : Cond) ∈ tb := inA_15 _ (List.mem_of_getElem? (i := 19) rfl)
theorem kw_380 : (.fieldLink RX13 480 "WiredBeansModel" "objects" "I" : Cond) ∈ tb := inA_15 _ (List.mem_of_getElem? (i := 20) rfl)
theorem kw_381 : (.methodLink RX13 483 yX13_clear : Cond) ∈ tb := inA_15 _ (List.mem_of_getElem? (i := 21) rfl)
theorem kw_382 : (.instanceMethod yX13_clear : Cond) ∈ tb := inA_15 _ (List.mem_of_getElem? (i := 22) rfl)
theorem kw_383 : (.selects RX13 yX13_clear yX13_clear : Cond) ∈ tb := inA_15 _ (List.mem_of_getElem? (i := 23) rfl)
theorem kw_384 : (.methodLink RX13 486 yX13_readDocument : Cond) ∈ tb := inA_16 _ (List.mem_of_getElem? (i := 0) rfl)
theorem kw_385 : (.instanceMethod yX13_readDocument : Cond) ∈ tb := inA_16 _ (List.mem_of_getElem? (i := 1) rfl)
theorem kw_386 : (.selects RX13 yX13_readDocument yX13_readDocument : Cond) ∈ tb := inA_16 _ (List.mem_of_getElem? (i := 2) rfl)
theorem kw_387 : (.fieldLink RX13 498 "WiredBeansModel" "failure" "I" : Cond) ∈ tb := inA_16 _ (List.mem_of_getElem? (i := 3) rfl)
theorem kw_388 : (.constantLong RX13 394 (1818327673) : Cond) ∈ tb := inA_16 _ (List.mem_of_getElem? (i := 4) rfl)
theorem kw_389 : (.fieldLink RX13 513 "WiredBeansModel" "got" "I" : Cond) ∈ tb := inA_16 _ (List.mem_of_getElem? (i := 5) rfl)
theorem kw_390 : (.constantLong RX13 380 (1851878757) : Cond) ∈ tb := inA_16 _ (List.mem_of_getElem? (i := 6) rfl)
theorem kw_391 : (.constantLong RX13 398 (120282512125796) : Cond) ∈ tb := inA_16 _ (List.mem_of_getElem? (i := 7) rfl)
theorem kw_392 : (.constantLong RX13 400 (1768843636) : Cond) ∈ tb := inA_16 _ (List.mem_of_getElem? (i := 8) rfl)
theorem kw_393 : (.constantLong RX13 402 (28259044220366713) : Cond) ∈ tb := inA_16 _ (List.mem_of_getElem? (i := 9) rfl)
theorem kw_394 : (.constantLong RX13 392 (495589486693) : Cond) ∈ tb := inA_16 _ (List.mem_of_getElem? (i := 10) rfl)
theorem kw_395 : (.classLink RL 8 RX12 : Cond) ∈ tb := inA_16 _ (List.mem_of_getElem? (i := 11) rfl)
theorem kw_396 : (.instantiable RX12 12 : Cond) ∈ tb := inA_16 _ (List.mem_of_getElem? (i := 12) rfl)
theorem kw_397 : (.methodLink RL 32 yX12_init : Cond) ∈ tb := inA_16 _ (List.mem_of_getElem? (i := 13) rfl)
theorem kw_398 : (.instanceMethod yX12_init : Cond) ∈ tb := inA_16 _ (List.mem_of_getElem? (i := 14) rfl)
theorem kw_399 : (.classLink RL 33 RX13 : Cond) ∈ tb := inA_16 _ (List.mem_of_getElem? (i := 15) rfl)
theorem kw_400 : (.instantiable RX13 77 : Cond) ∈ tb := inA_16 _ (List.mem_of_getElem? (i := 16) rfl)
theorem kw_401 : (.methodLink RL 35 yX13_init : Cond) ∈ tb := inA_16 _ (List.mem_of_getElem? (i := 17) rfl)
theorem kw_402 : (.instanceMethod yX13_init : Cond) ∈ tb := inA_16 _ (List.mem_of_getElem? (i := 18) rfl)
theorem kw_403 : (.methodLink RL 36 yX12_declare : Cond) ∈ tb := inA_16 _ (List.mem_of_getElem? (i := 19) rfl)
theorem kw_404 : (.instanceMethod yX12_declare : Cond) ∈ tb := inA_16 _ (List.mem_of_getElem? (i := 20) rfl)
theorem kw_405 : (.selects RX12 yX12_declare yX12_declare : Cond) ∈ tb := inA_16 _ (List.mem_of_getElem? (i := 21) rfl)
theorem kw_406 : (.methodLink RL 40 yX13_declare : Cond) ∈ tb := inA_16 _ (List.mem_of_getElem? (i := 22) rfl)
theorem kw_407 : (.instanceMethod yX13_declare : Cond) ∈ tb := inA_16 _ (List.mem_of_getElem? (i := 23) rfl)
theorem kw_408 : (.selects RX13 yX13_declare yX13_declare : Cond) ∈ tb := inA_17 _ (List.mem_of_getElem? (i := 0) rfl)
theorem kw_409 : (.methodLink RL 41 yX12_constructor : Cond) ∈ tb := inA_17 _ (List.mem_of_getElem? (i := 1) rfl)
theorem kw_410 : (.instanceMethod yX12_constructor : Cond) ∈ tb := inA_17 _ (List.mem_of_getElem? (i := 2) rfl)
theorem kw_411 : (.selects RX12 yX12_constructor yX12_constructor : Cond) ∈ tb := inA_17 _ (List.mem_of_getElem? (i := 3) rfl)
theorem kw_412 : (.methodLink RL 45 yX13_constructor : Cond) ∈ tb := inA_17 _ (List.mem_of_getElem? (i := 4) rfl)
theorem kw_413 : (.instanceMethod yX13_constructor : Cond) ∈ tb := inA_17 _ (List.mem_of_getElem? (i := 5) rfl)
theorem kw_414 : (.selects RX13 yX13_constructor yX13_constructor : Cond) ∈ tb := inA_17 _ (List.mem_of_getElem? (i := 6) rfl)
theorem kw_415 : (.methodLink RL 46 yX12_setter : Cond) ∈ tb := inA_17 _ (List.mem_of_getElem? (i := 7) rfl)
theorem kw_416 : (.instanceMethod yX12_setter : Cond) ∈ tb := inA_17 _ (List.mem_of_getElem? (i := 8) rfl)
theorem kw_417 : (.selects RX12 yX12_setter yX12_setter : Cond) ∈ tb := inA_17 _ (List.mem_of_getElem? (i := 9) rfl)
theorem kw_418 : (.methodLink RL 50 yX13_setter : Cond) ∈ tb := inA_17 _ (List.mem_of_getElem? (i := 10) rfl)
theorem kw_419 : (.instanceMethod yX13_setter : Cond) ∈ tb := inA_17 _ (List.mem_of_getElem? (i := 11) rfl)
theorem kw_420 : (.selects RX13 yX13_setter yX13_setter : Cond) ∈ tb := inA_17 _ (List.mem_of_getElem? (i := 12) rfl)
theorem kw_421 : (.methodLink RL 51 yX12_factory : Cond) ∈ tb := inA_17 _ (List.mem_of_getElem? (i := 13) rfl)
theorem kw_422 : (.instanceMethod yX12_factory : Cond) ∈ tb := inA_17 _ (List.mem_of_getElem? (i := 14) rfl)
theorem kw_423 : (.selects RX12 yX12_factory yX12_factory : Cond) ∈ tb := inA_17 _ (List.mem_of_getElem? (i := 15) rfl)
theorem kw_424 : (.methodLink RL 55 yX13_factory : Cond) ∈ tb := inA_17 _ (List.mem_of_getElem? (i := 16) rfl)
theorem kw_425 : (.instanceMethod yX13_factory : Cond) ∈ tb := inA_17 _ (List.mem_of_getElem? (i := 17) rfl)
theorem kw_426 : (.selects RX13 yX13_factory yX13_factory : Cond) ∈ tb := inA_17 _ (List.mem_of_getElem? (i := 18) rfl)
theorem kw_427 : (.methodLink RL 56 yX12_type : Cond) ∈ tb := inA_17 _ (List.mem_of_getElem? (i := 19) rfl)
theorem kw_428 : (.instanceMethod yX12_type : Cond) ∈ tb := inA_17 _ (List.mem_of_getElem? (i := 20) rfl)
theorem kw_429 : (.selects RX12 yX12_type yX12_type : Cond) ∈ tb := inA_17 _ (List.mem_of_getElem? (i := 21) rfl)
theorem kw_430 : (.methodLink RL 60 yX13_type : Cond) ∈ tb := inA_17 _ (List.mem_of_getElem? (i := 22) rfl)
theorem kw_431 : (.instanceMethod yX13_type : Cond) ∈ tb := inA_17 _ (List.mem_of_getElem? (i := 23) rfl)
theorem kw_432 : (.selects RX13 yX13_type yX13_type : Cond) ∈ tb := inA_18 _ (List.mem_of_getElem? (i := 0) rfl)
theorem kw_433 : (.methodLink RL 61 yL_read : Cond) ∈ tb := inA_18 _ (List.mem_of_getElem? (i := 1) rfl)
theorem kw_434 : (.static yL_read : Cond) ∈ tb := inA_18 _ (List.mem_of_getElem? (i := 2) rfl)
theorem kw_435 : (.initialized RL : Cond) ∈ tb := inA_18 _ (List.mem_of_getElem? (i := 3) rfl)
theorem kw_436 : (.methodLink RL 66 yX13_read : Cond) ∈ tb := inA_18 _ (List.mem_of_getElem? (i := 4) rfl)
theorem kw_437 : (.instanceMethod yX13_read : Cond) ∈ tb := inA_18 _ (List.mem_of_getElem? (i := 5) rfl)
theorem kw_438 : (.selects RX13 yX13_read yX13_read : Cond) ∈ tb := inA_18 _ (List.mem_of_getElem? (i := 6) rfl)
theorem kw_439 : (.methodLink RL 67 yX13_thrown : Cond) ∈ tb := inA_18 _ (List.mem_of_getElem? (i := 7) rfl)
theorem kw_440 : (.instanceMethod yX13_thrown : Cond) ∈ tb := inA_18 _ (List.mem_of_getElem? (i := 8) rfl)
theorem kw_441 : (.selects RX13 yX13_thrown yX13_thrown : Cond) ∈ tb := inA_18 _ (List.mem_of_getElem? (i := 9) rfl)
theorem kw_442 : (.methodLink RL 70 yX12_fault : Cond) ∈ tb := inA_18 _ (List.mem_of_getElem? (i := 10) rfl)
theorem kw_443 : (.instanceMethod yX12_fault : Cond) ∈ tb := inA_18 _ (List.mem_of_getElem? (i := 11) rfl)
theorem kw_444 : (.selects RX12 yX12_fault yX12_fault : Cond) ∈ tb := inA_18 _ (List.mem_of_getElem? (i := 12) rfl)
theorem kw_445 : (.methodLink RL 74 yX13_fault : Cond) ∈ tb := inA_18 _ (List.mem_of_getElem? (i := 13) rfl)
theorem kw_446 : (.instanceMethod yX13_fault : Cond) ∈ tb := inA_18 _ (List.mem_of_getElem? (i := 14) rfl)
theorem kw_447 : (.selects RX13 yX13_fault yX13_fault : Cond) ∈ tb := inA_18 _ (List.mem_of_getElem? (i := 15) rfl)
theorem kw_448 : (.methodLink RL 75 yL_refresh : Cond) ∈ tb := inA_18 _ (List.mem_of_getElem? (i := 16) rfl)
theorem kw_449 : (.static yL_refresh : Cond) ∈ tb := inA_18 _ (List.mem_of_getElem? (i := 17) rfl)
theorem kw_450 : (.methodLink RL 77 yX13_refresh : Cond) ∈ tb := inA_18 _ (List.mem_of_getElem? (i := 18) rfl)
theorem kw_451 : (.instanceMethod yX13_refresh : Cond) ∈ tb := inA_18 _ (List.mem_of_getElem? (i := 19) rfl)
theorem kw_452 : (.selects RX13 yX13_refresh yX13_refresh : Cond) ∈ tb := inA_18 _ (List.mem_of_getElem? (i := 20) rfl)
theorem kw_453 : (.constantLong RL 78 (4294967295) : Cond) ∈ tb := inA_18 _ (List.mem_of_getElem? (i := 21) rfl)
theorem kw_454 : (.methodLink RL 80 yL_get : Cond) ∈ tb := inA_18 _ (List.mem_of_getElem? (i := 22) rfl)
theorem kw_455 : (.static yL_get : Cond) ∈ tb := inA_18 _ (List.mem_of_getElem? (i := 23) rfl)
theorem kw_456 : (.methodLink RL 83 yX13_get : Cond) ∈ tb := inA_19 _ (List.mem_of_getElem? (i := 0) rfl)
theorem kw_457 : (.instanceMethod yX13_get : Cond) ∈ tb := inA_19 _ (List.mem_of_getElem? (i := 1) rfl)
theorem kw_458 : (.selects RX13 yX13_get yX13_get : Cond) ∈ tb := inA_19 _ (List.mem_of_getElem? (i := 2) rfl)
theorem kw_459 : (.methodLink RL 84 yL_call : Cond) ∈ tb := inA_19 _ (List.mem_of_getElem? (i := 3) rfl)
theorem kw_460 : (.static yL_call : Cond) ∈ tb := inA_19 _ (List.mem_of_getElem? (i := 4) rfl)
theorem kw_461 : (.methodLink RL 87 yX13_call : Cond) ∈ tb := inA_19 _ (List.mem_of_getElem? (i := 5) rfl)
theorem kw_462 : (.instanceMethod yX13_call : Cond) ∈ tb := inA_19 _ (List.mem_of_getElem? (i := 6) rfl)
theorem kw_463 : (.selects RX13 yX13_call yX13_call : Cond) ∈ tb := inA_19 _ (List.mem_of_getElem? (i := 7) rfl)
theorem kw_464 : (.methodLink RL 88 yX12_close : Cond) ∈ tb := inA_19 _ (List.mem_of_getElem? (i := 8) rfl)
theorem kw_465 : (.instanceMethod yX12_close : Cond) ∈ tb := inA_19 _ (List.mem_of_getElem? (i := 9) rfl)
theorem kw_466 : (.selects RX12 yX12_close yX12_close : Cond) ∈ tb := inA_19 _ (List.mem_of_getElem? (i := 10) rfl)
theorem kw_467 : (.methodLink RL 91 yX13_close : Cond) ∈ tb := inA_19 _ (List.mem_of_getElem? (i := 11) rfl)
theorem kw_468 : (.instanceMethod yX13_close : Cond) ∈ tb := inA_19 _ (List.mem_of_getElem? (i := 12) rfl)
theorem kw_469 : (.selects RX13 yX13_close yX13_close : Cond) ∈ tb := inA_19 _ (List.mem_of_getElem? (i := 13) rfl)
theorem kw_470 : (.methodLink RL 92 yX12_events : Cond) ∈ tb := inA_19 _ (List.mem_of_getElem? (i := 14) rfl)
theorem kw_471 : (.instanceMethod yX12_events : Cond) ∈ tb := inA_19 _ (List.mem_of_getElem? (i := 15) rfl)
theorem kw_472 : (.selects RX12 yX12_events yX12_events : Cond) ∈ tb := inA_19 _ (List.mem_of_getElem? (i := 16) rfl)
theorem kw_473 : (.methodLink RL 95 yX13_events : Cond) ∈ tb := inA_19 _ (List.mem_of_getElem? (i := 17) rfl)
theorem kw_474 : (.instanceMethod yX13_events : Cond) ∈ tb := inA_19 _ (List.mem_of_getElem? (i := 18) rfl)
theorem kw_475 : (.selects RX13 yX13_events yX13_events : Cond) ∈ tb := inA_19 _ (List.mem_of_getElem? (i := 19) rfl)
theorem kw_476 : (.methodLink RL 96 yX12_event : Cond) ∈ tb := inA_19 _ (List.mem_of_getElem? (i := 20) rfl)
theorem kw_477 : (.instanceMethod yX12_event : Cond) ∈ tb := inA_19 _ (List.mem_of_getElem? (i := 21) rfl)
theorem kw_478 : (.selects RX12 yX12_event yX12_event : Cond) ∈ tb := inA_19 _ (List.mem_of_getElem? (i := 22) rfl)
theorem kw_479 : (.methodLink RL 99 yX13_event : Cond) ∈ tb := inA_19 _ (List.mem_of_getElem? (i := 23) rfl)
theorem kw_480 : (.instanceMethod yX13_event : Cond) ∈ tb := inA_20 _ (List.mem_of_getElem? (i := 0) rfl)
theorem kw_481 : (.selects RX13 yX13_event yX13_event : Cond) ∈ tb := inA_20 _ (List.mem_of_getElem? (i := 1) rfl)
theorem kw_482 : (.methodLink RL 100 yX12_object : Cond) ∈ tb := inA_20 _ (List.mem_of_getElem? (i := 2) rfl)
theorem kw_483 : (.instanceMethod yX12_object : Cond) ∈ tb := inA_20 _ (List.mem_of_getElem? (i := 3) rfl)
theorem kw_484 : (.selects RX12 yX12_object yX12_object : Cond) ∈ tb := inA_20 _ (List.mem_of_getElem? (i := 4) rfl)
theorem kw_485 : (.methodLink RL 103 yX13_object : Cond) ∈ tb := inA_20 _ (List.mem_of_getElem? (i := 5) rfl)
theorem kw_486 : (.instanceMethod yX13_object : Cond) ∈ tb := inA_20 _ (List.mem_of_getElem? (i := 6) rfl)
theorem kw_487 : (.selects RX13 yX13_object yX13_object : Cond) ∈ tb := inA_20 _ (List.mem_of_getElem? (i := 7) rfl)
theorem kw_488 : (.methodLink RL 104 yX12_bean : Cond) ∈ tb := inA_20 _ (List.mem_of_getElem? (i := 8) rfl)
theorem kw_489 : (.instanceMethod yX12_bean : Cond) ∈ tb := inA_20 _ (List.mem_of_getElem? (i := 9) rfl)
theorem kw_490 : (.selects RX12 yX12_bean yX12_bean : Cond) ∈ tb := inA_20 _ (List.mem_of_getElem? (i := 10) rfl)
theorem kw_491 : (.methodLink RL 107 yX13_bean : Cond) ∈ tb := inA_20 _ (List.mem_of_getElem? (i := 11) rfl)
theorem kw_492 : (.instanceMethod yX13_bean : Cond) ∈ tb := inA_20 _ (List.mem_of_getElem? (i := 12) rfl)
theorem kw_493 : (.selects RX13 yX13_bean yX13_bean : Cond) ∈ tb := inA_20 _ (List.mem_of_getElem? (i := 13) rfl)
theorem kw_494 : (.methodLink RL 7 yX12_read : Cond) ∈ tb := inA_20 _ (List.mem_of_getElem? (i := 14) rfl)
theorem kw_495 : (.instanceMethod yX12_read : Cond) ∈ tb := inA_20 _ (List.mem_of_getElem? (i := 15) rfl)
theorem kw_496 : (.selects RX12 yX12_read yX12_read : Cond) ∈ tb := inA_20 _ (List.mem_of_getElem? (i := 16) rfl)
theorem kw_497 : (.classLink RL 13 "java/lang/IllegalArgumentException" : Cond) ∈ tb := inA_20 _ (List.mem_of_getElem? (i := 17) rfl)
theorem kw_498 : (.methodLink RL 15 yX12_refresh : Cond) ∈ tb := inA_20 _ (List.mem_of_getElem? (i := 18) rfl)
theorem kw_499 : (.instanceMethod yX12_refresh : Cond) ∈ tb := inA_20 _ (List.mem_of_getElem? (i := 19) rfl)
theorem kw_500 : (.selects RX12 yX12_refresh yX12_refresh : Cond) ∈ tb := inA_20 _ (List.mem_of_getElem? (i := 20) rfl)
theorem kw_501 : (.classLink RL 18 "java/lang/IllegalStateException" : Cond) ∈ tb := inA_20 _ (List.mem_of_getElem? (i := 21) rfl)
theorem kw_502 : (.classLink RL 20 "java/lang/UnsupportedOperationException" : Cond) ∈ tb := inA_20 _ (List.mem_of_getElem? (i := 22) rfl)
theorem kw_503 : (.methodLink RL 22 yX12_get : Cond) ∈ tb := inA_20 _ (List.mem_of_getElem? (i := 23) rfl)
theorem kw_504 : (.instanceMethod yX12_get : Cond) ∈ tb := inA_21 _ (List.mem_of_getElem? (i := 0) rfl)
theorem kw_505 : (.selects RX12 yX12_get yX12_get : Cond) ∈ tb := inA_21 _ (List.mem_of_getElem? (i := 1) rfl)
theorem kw_506 : (.methodLink RL 26 yX12_call : Cond) ∈ tb := inA_21 _ (List.mem_of_getElem? (i := 2) rfl)
theorem kw_507 : (.instanceMethod yX12_call : Cond) ∈ tb := inA_21 _ (List.mem_of_getElem? (i := 3) rfl)
theorem kw_508 : (.selects RX12 yX12_call yX12_call : Cond) ∈ tb := inA_21 _ (List.mem_of_getElem? (i := 4) rfl)
theorem kw_509 : (.classLink RL 30 "java/lang/IndexOutOfBoundsException" : Cond) ∈ tb := inA_21 _ (List.mem_of_getElem? (i := 5) rfl)
theorem kw_510 : (.methodLink RX12 1 objectInit : Cond) ∈ tb := inA_21 _ (List.mem_of_getElem? (i := 6) rfl)
theorem kw_511 : (.methodLink RX12 1 objectInit : Cond) ∈ tb := inA_21 _ (List.mem_of_getElem? (i := 7) rfl)
theorem kw_512 : (.methodLink RX12 1 objectInit : Cond) ∈ tb := inA_21 _ (List.mem_of_getElem? (i := 8) rfl)
theorem kw_513 : (.methodLink RX12 1 objectInit : Cond) ∈ tb := inA_21 _ (List.mem_of_getElem? (i := 9) rfl)
theorem kw_514 : (.methodLink RX12 1 objectInit : Cond) ∈ tb := inA_21 _ (List.mem_of_getElem? (i := 10) rfl)
theorem kw_515 : (.methodLink RX12 1 objectInit : Cond) ∈ tb := inA_21 _ (List.mem_of_getElem? (i := 11) rfl)
theorem kw_516 : (.methodLink RX12 1 objectInit : Cond) ∈ tb := inA_21 _ (List.mem_of_getElem? (i := 12) rfl)
theorem kw_517 : (.methodLink RX12 1 objectInit : Cond) ∈ tb := inA_21 _ (List.mem_of_getElem? (i := 13) rfl)
theorem kw_518 : (.methodLink RX12 1 objectInit : Cond) ∈ tb := inA_21 _ (List.mem_of_getElem? (i := 14) rfl)
theorem kw_519 : (.methodLink RX12 1 objectInit : Cond) ∈ tb := inA_21 _ (List.mem_of_getElem? (i := 15) rfl)
theorem kw_520 : (.methodLink RX12 1 objectInit : Cond) ∈ tb := inA_21 _ (List.mem_of_getElem? (i := 16) rfl)
theorem kw_521 : (.methodLink RX12 1 objectInit : Cond) ∈ tb := inA_21 _ (List.mem_of_getElem? (i := 17) rfl)
theorem kw_522 : (.methodLink RX12 1 objectInit : Cond) ∈ tb := inA_21 _ (List.mem_of_getElem? (i := 18) rfl)
theorem kw_523 : (.methodLink RX12 1 objectInit : Cond) ∈ tb := inA_21 _ (List.mem_of_getElem? (i := 19) rfl)
theorem kw_524 : (.methodLink RX12 1 objectInit : Cond) ∈ tb := inA_21 _ (List.mem_of_getElem? (i := 20) rfl)
theorem kw_525 : (.methodLink RX12 1 objectInit : Cond) ∈ tb := inA_21 _ (List.mem_of_getElem? (i := 21) rfl)
theorem kw_526 : (.methodLink RX12 1 objectInit : Cond) ∈ tb := inA_21 _ (List.mem_of_getElem? (i := 22) rfl)
theorem kw_527 : (.methodLink RX12 1 objectInit : Cond) ∈ tb := inA_21 _ (List.mem_of_getElem? (i := 23) rfl)
theorem kw_528 : (.code objectInit ⟨#[0xb1]⟩ 1 none : Cond) ∈ tb := inA_22 _ (List.mem_of_getElem? (i := 0) rfl)
theorem kw_529 : (.code yX2_init cX2_init 3 none : Cond) ∈ tb := inA_22 _ (List.mem_of_getElem? (i := 1) rfl)
theorem kw_530 : (.code yX6_init cX6_init 3 none : Cond) ∈ tb := inA_22 _ (List.mem_of_getElem? (i := 2) rfl)
theorem kw_531 : (.code yX7_init cX7_init 2 none : Cond) ∈ tb := inA_22 _ (List.mem_of_getElem? (i := 3) rfl)
theorem kw_532 : (.code yX9_init cX9_init 2 none : Cond) ∈ tb := inA_22 _ (List.mem_of_getElem? (i := 4) rfl)
theorem kw_533 : (.code yX10_init cX10_init 3 none : Cond) ∈ tb := inA_22 _ (List.mem_of_getElem? (i := 5) rfl)
theorem kw_534 : (.code yX4_init cX4_init 1 none : Cond) ∈ tb := inA_22 _ (List.mem_of_getElem? (i := 6) rfl)
theorem kw_535 : (.code yX5_init cX5_init 4 none : Cond) ∈ tb := inA_22 _ (List.mem_of_getElem? (i := 7) rfl)
theorem kw_536 : (.code yX12_isClass cX12_isClass 1 (some .boolean) : Cond) ∈ tb := inA_22 _ (List.mem_of_getElem? (i := 8) rfl)
theorem kw_537 : (.code yX2_begin cX2_begin 3 none : Cond) ∈ tb := inA_22 _ (List.mem_of_getElem? (i := 9) rfl)
theorem kw_538 : (.code yX12_areTypes cX12_areTypes 4 (some .boolean) : Cond) ∈ tb := inA_22 _ (List.mem_of_getElem? (i := 10) rfl)
theorem kw_539 : (.code yX2_addConstructor cX2_addConstructor 5 (some .boolean) : Cond) ∈ tb := inA_22 _ (List.mem_of_getElem? (i := 11) rfl)
theorem kw_540 : (.code yX12_isLetter cX12_isLetter 1 (some .boolean) : Cond) ∈ tb := inA_22 _ (List.mem_of_getElem? (i := 12) rfl)
theorem kw_541 : (.code yX12_isType cX12_isType 1 (some .boolean) : Cond) ∈ tb := inA_22 _ (List.mem_of_getElem? (i := 13) rfl)
theorem kw_542 : (.code yX2_addSetter cX2_addSetter 3 (some .boolean) : Cond) ∈ tb := inA_22 _ (List.mem_of_getElem? (i := 14) rfl)
theorem kw_543 : (.code yX2_addFactory cX2_addFactory 8 (some .boolean) : Cond) ∈ tb := inA_22 _ (List.mem_of_getElem? (i := 15) rfl)
theorem kw_544 : (.code yX12_typedBehind cX12_typedBehind 6 (some .int) : Cond) ∈ tb := inA_22 _ (List.mem_of_getElem? (i := 16) rfl)
theorem kw_545 : (.code yX5_startAfresh cX5_startAfresh 1 none : Cond) ∈ tb := inA_22 _ (List.mem_of_getElem? (i := 17) rfl)
theorem kw_546 : (.codeWith yX7_firstWrongPlace cX7_firstWrongPlace 4 (some .int) [(32, 75, 78, 50)] : Cond) ∈ tb := inA_22 _ (List.mem_of_getElem? (i := 18) rfl)
theorem kw_547 : (.code yX10_forgetBeans cX10_forgetBeans 1 none : Cond) ∈ tb := inA_22 _ (List.mem_of_getElem? (i := 19) rfl)
theorem kw_548 : (.code yX10_count cX10_count 1 (some .int) : Cond) ∈ tb := inA_22 _ (List.mem_of_getElem? (i := 20) rfl)
theorem kw_549 : (.code yX5_failure cX5_failure 1 (some .int) : Cond) ∈ tb := inA_22 _ (List.mem_of_getElem? (i := 21) rfl)
theorem kw_550 : (.code yX5_failureBean cX5_failureBean 1 (some .int) : Cond) ∈ tb := inA_22 _ (List.mem_of_getElem? (i := 22) rfl)
theorem kw_551 : (.code yX5_forgetFailure cX5_forgetFailure 1 none : Cond) ∈ tb := inA_22 _ (List.mem_of_getElem? (i := 23) rfl)
theorem kw_552 : (.code yX5_destroyAll cX5_destroyAll 2 none : Cond) ∈ tb := inA_23 _ (List.mem_of_getElem? (i := 0) rfl)
theorem kw_553 : (.code yX4_count cX4_count 1 (some .int) : Cond) ∈ tb := inA_23 _ (List.mem_of_getElem? (i := 1) rfl)
theorem kw_554 : (.code yX4_number cX4_number 3 (some .int) : Cond) ∈ tb := inA_23 _ (List.mem_of_getElem? (i := 2) rfl)
theorem kw_555 : (.code yX5_classOfObject cX5_classOfObject 2 (some .int) : Cond) ∈ tb := inA_23 _ (List.mem_of_getElem? (i := 3) rfl)
theorem kw_556 : (.code yX5_beanOfObject cX5_beanOfObject 2 (some .int) : Cond) ∈ tb := inA_23 _ (List.mem_of_getElem? (i := 4) rfl)
theorem kw_557 : (.code yX8_init cX8_init 3 none : Cond) ∈ tb := inA_23 _ (List.mem_of_getElem? (i := 5) rfl)
theorem kw_558 : (.code yX8_describe cX8_describe 4 none : Cond) ∈ tb := inA_23 _ (List.mem_of_getElem? (i := 6) rfl)
theorem kw_559 : (.code yX8_setTypes cX8_setTypes 5 none : Cond) ∈ tb := inA_23 _ (List.mem_of_getElem? (i := 7) rfl)
theorem kw_560 : (.code yX3_init cX3_init 1 none : Cond) ∈ tb := inA_23 _ (List.mem_of_getElem? (i := 8) rfl)
theorem kw_561 : (.code yX6_clear cX6_clear 1 none : Cond) ∈ tb := inA_23 _ (List.mem_of_getElem? (i := 9) rfl)
theorem kw_562 : (.code yX7_skipAround cX7_skipAround 2 none : Cond) ∈ tb := inA_23 _ (List.mem_of_getElem? (i := 10) rfl)
theorem kw_563 : (.code yX7_openElement cX7_openElement 5 none : Cond) ∈ tb := inA_23 _ (List.mem_of_getElem? (i := 11) rfl)
theorem kw_564 : (.code yX7_skipsWhite cX7_skipsWhite 2 (some .boolean) : Cond) ∈ tb := inA_23 _ (List.mem_of_getElem? (i := 12) rfl)
theorem kw_565 : (.code yX7_expect cX7_expect 2 none : Cond) ∈ tb := inA_23 _ (List.mem_of_getElem? (i := 13) rfl)
theorem kw_566 : (.code yJx4a65c_init_da8c8 cJx4a65c_init_da8c8 1 none : Cond) ∈ tb := inA_23 _ (List.mem_of_getElem? (i := 14) rfl)
theorem kw_567 : (.code yX1_init cX1_init 2 none : Cond) ∈ tb := inA_23 _ (List.mem_of_getElem? (i := 15) rfl)
theorem kw_568 : (.code yX5_forgetMade cX5_forgetMade 2 none : Cond) ∈ tb := inA_23 _ (List.mem_of_getElem? (i := 16) rfl)
theorem kw_569 : (.code yX4_clear cX4_clear 1 none : Cond) ∈ tb := inA_23 _ (List.mem_of_getElem? (i := 17) rfl)
theorem kw_570 : (.code yX5_isObject cX5_isObject 2 (some .boolean) : Cond) ∈ tb := inA_23 _ (List.mem_of_getElem? (i := 18) rfl)
theorem kw_571 : (.code yJxc12de_init_da8c8 cJxc12de_init_da8c8 1 none : Cond) ∈ tb := inA_23 _ (List.mem_of_getElem? (i := 19) rfl)
theorem kw_572 : (.code yJxa1e45_init_da8c8 cJxa1e45_init_da8c8 1 none : Cond) ∈ tb := inA_23 _ (List.mem_of_getElem? (i := 20) rfl)
theorem kw_573 : (.code yX13_isType cX13_isType 1 (some .boolean) : Cond) ∈ tb := inA_23 _ (List.mem_of_getElem? (i := 21) rfl)
theorem kw_574 : (.code yX13_isClass cX13_isClass 1 (some .boolean) : Cond) ∈ tb := inA_23 _ (List.mem_of_getElem? (i := 22) rfl)
theorem kw_575 : (.code yX13_areTypes cX13_areTypes 4 (some .boolean) : Cond) ∈ tb := inA_23 _ (List.mem_of_getElem? (i := 23) rfl)
theorem kw_576 : (.code yX13_isLetter cX13_isLetter 1 (some .boolean) : Cond) ∈ tb := inA_24 _ (List.mem_of_getElem? (i := 0) rfl)
theorem kw_577 : (.code yX13_here cX13_here 2 (some .int) : Cond) ∈ tb := inA_24 _ (List.mem_of_getElem? (i := 1) rfl)
theorem kw_578 : (.code yX13_isWhite cX13_isWhite 2 (some .boolean) : Cond) ∈ tb := inA_24 _ (List.mem_of_getElem? (i := 2) rfl)
theorem kw_579 : (.code yX13_white cX13_white 2 (some .int) : Cond) ∈ tb := inA_24 _ (List.mem_of_getElem? (i := 3) rfl)
theorem kw_580 : (.code yX13_bad cX13_bad 2 none : Cond) ∈ tb := inA_24 _ (List.mem_of_getElem? (i := 4) rfl)
theorem kw_581 : (.code yX13_between cX13_between 2 none : Cond) ∈ tb := inA_24 _ (List.mem_of_getElem? (i := 5) rfl)
theorem kw_582 : (.code yX13_begin cX13_begin 6 (some .int) : Cond) ∈ tb := inA_24 _ (List.mem_of_getElem? (i := 6) rfl)
theorem kw_583 : (.code yX13_clear cX13_clear 2 none : Cond) ∈ tb := inA_24 _ (List.mem_of_getElem? (i := 7) rfl)
theorem kw_584 : (.code yX13_readDocument cX13_readDocument 5 none : Cond) ∈ tb := inA_24 _ (List.mem_of_getElem? (i := 8) rfl)
theorem kw_585 : (.code yX12_init cX12_init 2 none : Cond) ∈ tb := inA_24 _ (List.mem_of_getElem? (i := 9) rfl)
theorem kw_586 : (.code yX13_init cX13_init 2 none : Cond) ∈ tb := inA_24 _ (List.mem_of_getElem? (i := 10) rfl)
theorem kw_587 : (.code yX12_declare cX12_declare 3 (some .boolean) : Cond) ∈ tb := inA_24 _ (List.mem_of_getElem? (i := 11) rfl)
theorem kw_588 : (.code yX13_declare cX13_declare 3 (some .boolean) : Cond) ∈ tb := inA_24 _ (List.mem_of_getElem? (i := 12) rfl)
theorem kw_589 : (.code yX12_constructor cX12_constructor 6 (some .boolean) : Cond) ∈ tb := inA_24 _ (List.mem_of_getElem? (i := 13) rfl)
theorem kw_590 : (.code yX13_constructor cX13_constructor 7 (some .boolean) : Cond) ∈ tb := inA_24 _ (List.mem_of_getElem? (i := 14) rfl)
theorem kw_591 : (.code yX12_setter cX12_setter 4 (some .boolean) : Cond) ∈ tb := inA_24 _ (List.mem_of_getElem? (i := 15) rfl)
theorem kw_592 : (.code yX13_setter cX13_setter 5 (some .boolean) : Cond) ∈ tb := inA_24 _ (List.mem_of_getElem? (i := 16) rfl)
theorem kw_593 : (.code yX12_factory cX12_factory 9 (some .boolean) : Cond) ∈ tb := inA_24 _ (List.mem_of_getElem? (i := 17) rfl)
theorem kw_594 : (.code yX13_factory cX13_factory 10 (some .boolean) : Cond) ∈ tb := inA_24 _ (List.mem_of_getElem? (i := 18) rfl)
theorem kw_595 : (.code yX12_type cX12_type 7 (some .int) : Cond) ∈ tb := inA_24 _ (List.mem_of_getElem? (i := 19) rfl)
theorem kw_596 : (.code yX13_type cX13_type 10 (some .int) : Cond) ∈ tb := inA_24 _ (List.mem_of_getElem? (i := 20) rfl)
theorem kw_597 : (.codeWith yL_read cL_read 3 (some .int) [(0, 8, 11, 13)] : Cond) ∈ tb := inA_24 _ (List.mem_of_getElem? (i := 21) rfl)
theorem kw_598 : (.code yX13_read cX13_read 4 (some .int) : Cond) ∈ tb := inA_24 _ (List.mem_of_getElem? (i := 22) rfl)
theorem kw_599 : (.code yX13_thrown cX13_thrown 1 (some .int) : Cond) ∈ tb := inA_24 _ (List.mem_of_getElem? (i := 23) rfl)
theorem kw_600 : (.code yX12_fault cX12_fault 2 (some .int) : Cond) ∈ tb := inA_25 _ (List.mem_of_getElem? (i := 0) rfl)
theorem kw_601 : (.code yX13_fault cX13_fault 2 (some .int) : Cond) ∈ tb := inA_25 _ (List.mem_of_getElem? (i := 1) rfl)
theorem kw_602 : (.codeWith yL_refresh cL_refresh 3 (some .int) [(0, 8, 11, 18), (0, 8, 14, 20)] : Cond) ∈ tb := inA_25 _ (List.mem_of_getElem? (i := 2) rfl)
theorem kw_603 : (.code yX13_refresh cX13_refresh 4 (some .int) : Cond) ∈ tb := inA_25 _ (List.mem_of_getElem? (i := 3) rfl)
theorem kw_604 : (.codeWith yL_get cL_get 5 (some .int) [(0, 9, 12, 18), (0, 9, 16, 20)] : Cond) ∈ tb := inA_25 _ (List.mem_of_getElem? (i := 4) rfl)
theorem kw_605 : (.code yX13_get cX13_get 3 (some .int) : Cond) ∈ tb := inA_25 _ (List.mem_of_getElem? (i := 5) rfl)
theorem kw_606 : (.codeWith yL_call cL_call 5 (some .int) [(0, 10, 13, 18), (0, 10, 17, 30), (0, 10, 21, 20)] : Cond) ∈ tb := inA_25 _ (List.mem_of_getElem? (i := 6) rfl)
theorem kw_607 : (.code yX13_call cX13_call 7 (some .int) : Cond) ∈ tb := inA_25 _ (List.mem_of_getElem? (i := 7) rfl)
theorem kw_608 : (.code yX12_close cX12_close 1 (some .int) : Cond) ∈ tb := inA_25 _ (List.mem_of_getElem? (i := 8) rfl)
theorem kw_609 : (.code yX13_close cX13_close 1 (some .int) : Cond) ∈ tb := inA_25 _ (List.mem_of_getElem? (i := 9) rfl)
theorem kw_610 : (.code yX12_events cX12_events 1 (some .int) : Cond) ∈ tb := inA_25 _ (List.mem_of_getElem? (i := 10) rfl)
theorem kw_611 : (.code yX13_events cX13_events 1 (some .int) : Cond) ∈ tb := inA_25 _ (List.mem_of_getElem? (i := 11) rfl)
theorem kw_612 : (.code yX12_event cX12_event 3 (some .int) : Cond) ∈ tb := inA_25 _ (List.mem_of_getElem? (i := 12) rfl)
theorem kw_613 : (.code yX13_event cX13_event 3 (some .int) : Cond) ∈ tb := inA_25 _ (List.mem_of_getElem? (i := 13) rfl)
theorem kw_614 : (.code yX12_object cX12_object 3 (some .int) : Cond) ∈ tb := inA_25 _ (List.mem_of_getElem? (i := 14) rfl)
theorem kw_615 : (.code yX13_object cX13_object 3 (some .int) : Cond) ∈ tb := inA_25 _ (List.mem_of_getElem? (i := 15) rfl)
theorem kw_616 : (.code yX12_bean cX12_bean 3 (some .int) : Cond) ∈ tb := inA_25 _ (List.mem_of_getElem? (i := 16) rfl)
theorem kw_617 : (.code yX13_bean cX13_bean 4 (some .int) : Cond) ∈ tb := inA_25 _ (List.mem_of_getElem? (i := 17) rfl)
theorem kw_618 : (.code yX12_read cX12_read 1 (some .int) : Cond) ∈ tb := inA_25 _ (List.mem_of_getElem? (i := 18) rfl)
theorem kw_619 : (.code yX12_refresh cX12_refresh 1 (some .int) : Cond) ∈ tb := inA_25 _ (List.mem_of_getElem? (i := 19) rfl)
theorem kw_620 : (.code yX12_get cX12_get 4 (some .int) : Cond) ∈ tb := inA_25 _ (List.mem_of_getElem? (i := 20) rfl)
theorem kw_621 : (.code yX12_call cX12_call 5 (some .int) : Cond) ∈ tb := inA_25 _ (List.mem_of_getElem? (i := 21) rfl)
theorem inJx4a65c : ∀ w ∈ wsJx4a65c0, w ∈ tb := fun _ h => List.mem_append_right _ (List.mem_append_left _ (List.mem_append_left _ h))
theorem inX1 : ∀ w ∈ wsX10, w ∈ tb := fun _ h => List.mem_append_right _ (List.mem_append_left _ (List.mem_append_right _ (List.mem_append_left _ h)))
theorem inX2 : ∀ w ∈ wsX20, w ∈ tb := fun _ h => List.mem_append_right _ (List.mem_append_left _ (List.mem_append_right _ (List.mem_append_right _ (List.mem_append_left _ h))))
theorem inX3 : ∀ w ∈ wsX30, w ∈ tb := fun _ h => List.mem_append_right _ (List.mem_append_left _ (List.mem_append_right _ (List.mem_append_right _ (List.mem_append_right _ (List.mem_append_left _ h)))))
theorem inX4 : ∀ w ∈ wsX40, w ∈ tb := fun _ h => List.mem_append_right _ (List.mem_append_left _ (List.mem_append_right _ (List.mem_append_right _ (List.mem_append_right _ (List.mem_append_right _ (List.mem_append_left _ h))))))
theorem inX5 : ∀ w ∈ wsX50, w ∈ tb := fun _ h => List.mem_append_right _ (List.mem_append_left _ (List.mem_append_right _ (List.mem_append_right _ (List.mem_append_right _ (List.mem_append_right _ (List.mem_append_right _ (List.mem_append_left _ h)))))))
theorem inX6 : ∀ w ∈ wsX60, w ∈ tb := fun _ h => List.mem_append_right _ (List.mem_append_left _ (List.mem_append_right _ (List.mem_append_right _ (List.mem_append_right _ (List.mem_append_right _ (List.mem_append_right _ (List.mem_append_right _ (List.mem_append_left _ h))))))))
theorem inX7 : ∀ w ∈ wsX70, w ∈ tb := fun _ h => List.mem_append_right _ (List.mem_append_left _ (List.mem_append_right _ (List.mem_append_right _ (List.mem_append_right _ (List.mem_append_right _ (List.mem_append_right _ (List.mem_append_right _ (List.mem_append_right _ (List.mem_append_left _ h)))))))))
theorem inX8 : ∀ w ∈ wsX80, w ∈ tb := fun _ h => List.mem_append_right _ (List.mem_append_left _ (List.mem_append_right _ (List.mem_append_right _ (List.mem_append_right _ (List.mem_append_right _ (List.mem_append_right _ (List.mem_append_right _ (List.mem_append_right _ (List.mem_append_right _ (List.mem_append_left _ h))))))))))
theorem inX9 : ∀ w ∈ wsX90, w ∈ tb := fun _ h => List.mem_append_right _ (List.mem_append_left _ (List.mem_append_right _ (List.mem_append_right _ (List.mem_append_right _ (List.mem_append_right _ (List.mem_append_right _ (List.mem_append_right _ (List.mem_append_right _ (List.mem_append_right _ (List.mem_append_right _ (List.mem_append_left _ h)))))))))))
theorem inX10 : ∀ w ∈ wsX100, w ∈ tb := fun _ h => List.mem_append_right _ (List.mem_append_left _ (List.mem_append_right _ (List.mem_append_right _ (List.mem_append_right _ (List.mem_append_right _ (List.mem_append_right _ (List.mem_append_right _ (List.mem_append_right _ (List.mem_append_right _ (List.mem_append_right _ (List.mem_append_right _ (List.mem_append_left _ h))))))))))))
theorem inX12 : ∀ w ∈ wsX120, w ∈ tb := fun _ h => List.mem_append_right _ (List.mem_append_left _ (List.mem_append_right _ (List.mem_append_right _ (List.mem_append_right _ (List.mem_append_right _ (List.mem_append_right _ (List.mem_append_right _ (List.mem_append_right _ (List.mem_append_right _ (List.mem_append_right _ (List.mem_append_right _ (List.mem_append_right _ (List.mem_append_left _ h)))))))))))))
theorem inX13 : ∀ w ∈ wsX130, w ∈ tb := fun _ h => List.mem_append_right _ (List.mem_append_left _ (List.mem_append_right _ (List.mem_append_right _ (List.mem_append_right _ (List.mem_append_right _ (List.mem_append_right _ (List.mem_append_right _ (List.mem_append_right _ (List.mem_append_right _ (List.mem_append_right _ (List.mem_append_right _ (List.mem_append_right _ (List.mem_append_right _ (h))))))))))))))
theorem inT_0 : ∀ w ∈ (vx_at0 RX12 131 "java/lang/IllegalArgumentException" ["java/lang/RuntimeException", "java/lang/Exception"]).filter goodWord, w ∈ tb := fun _ h => List.mem_append_right _ (List.mem_append_right _ (List.mem_append_left _ h))
theorem inU_0 : ∀ w ∈ (vx_at0 RX12 131 "java/lang/IllegalArgumentException" ["java/lang/RuntimeException", "java/lang/Exception"]).filter (fun w => !goodWord w), w ∈ [Cond.castable "java/lang/IllegalArgumentException" "java/lang/IllegalArgumentException", Cond.declares ⟨"java/lang/RuntimeException", "<init>", "()V"⟩, Cond.declares ⟨"java/lang/Exception", "<init>", "()V"⟩, Cond.declares ⟨"java/lang/Throwable", "<init>", "()V"⟩] := by decide +kernel
theorem inV_0 : ∀ w ∈ vx_at0 RX12 131 "java/lang/IllegalArgumentException" ["java/lang/RuntimeException", "java/lang/Exception"], vx_ot w = true := by decide +kernel
theorem inW_0 : ∀ w ∈ (vx_at0 RX12 131 "java/lang/IllegalArgumentException" ["java/lang/RuntimeException", "java/lang/Exception"]).filter goodWord, w ∈ lw_tbl := by decide +kernel
theorem inT_1 : ∀ w ∈ (vx_at0 RX12 146 "java/lang/IllegalStateException" ["java/lang/RuntimeException", "java/lang/Exception"]).filter goodWord, w ∈ tb := fun _ h => List.mem_append_right _ (List.mem_append_right _ (List.mem_append_right _ (List.mem_append_left _ h)))
theorem inU_1 : ∀ w ∈ (vx_at0 RX12 146 "java/lang/IllegalStateException" ["java/lang/RuntimeException", "java/lang/Exception"]).filter (fun w => !goodWord w), w ∈ [Cond.castable "java/lang/IllegalStateException" "java/lang/IllegalStateException", Cond.declares ⟨"java/lang/RuntimeException", "<init>", "()V"⟩, Cond.declares ⟨"java/lang/Exception", "<init>", "()V"⟩, Cond.declares ⟨"java/lang/Throwable", "<init>", "()V"⟩] := by decide +kernel
theorem inV_1 : ∀ w ∈ vx_at0 RX12 146 "java/lang/IllegalStateException" ["java/lang/RuntimeException", "java/lang/Exception"], vx_ot w = true := by decide +kernel
theorem inW_1 : ∀ w ∈ (vx_at0 RX12 146 "java/lang/IllegalStateException" ["java/lang/RuntimeException", "java/lang/Exception"]).filter goodWord, w ∈ lw_tbl := by decide +kernel
theorem inT_2 : ∀ w ∈ (vx_at0 RX7 52 "java/lang/IllegalArgumentException" ["java/lang/RuntimeException", "java/lang/Exception"]).filter goodWord, w ∈ tb := fun _ h => List.mem_append_right _ (List.mem_append_right _ (List.mem_append_right _ (List.mem_append_right _ (h))))
theorem inU_2 : ∀ w ∈ (vx_at0 RX7 52 "java/lang/IllegalArgumentException" ["java/lang/RuntimeException", "java/lang/Exception"]).filter (fun w => !goodWord w), w ∈ [Cond.castable "java/lang/IllegalArgumentException" "java/lang/IllegalArgumentException", Cond.declares ⟨"java/lang/RuntimeException", "<init>", "()V"⟩, Cond.declares ⟨"java/lang/Exception", "<init>", "()V"⟩, Cond.declares ⟨"java/lang/Throwable", "<init>", "()V"⟩] := by decide +kernel
theorem inV_2 : ∀ w ∈ vx_at0 RX7 52 "java/lang/IllegalArgumentException" ["java/lang/RuntimeException", "java/lang/Exception"], vx_ot w = true := by decide +kernel
theorem inW_2 : ∀ w ∈ (vx_at0 RX7 52 "java/lang/IllegalArgumentException" ["java/lang/RuntimeException", "java/lang/Exception"]).filter goodWord, w ∈ lw_tbl := by decide +kernel
set_option maxRecDepth 100000 in
theorem tb_good : GoodIn tb tb := goodIn_sub (fun _ h => h) (by decide +kernel)
theorem in_r {big ws : List Cond} (ps : List Nat) (hp : ws = ps.filterMap (fun i => big[i]?)) : ∀ w ∈ ws, w ∈ big := by
  intro w hw
  rw [hp] at hw
  obtain ⟨i, -, hi⟩ := List.mem_filterMap.mp hw
  exact List.mem_of_getElem? hi
set_option maxRecDepth 100000 in
theorem inC_0 : ∀ w ∈ tbA_0, w ∈ lw_tbl := in_r [186, 187, 189, 637, 148, 191, 192, 193, 386, 638, 261, 150, 262, 263, 264, 639, 413, 152, 414, 415, 416, 640, 438, 153] (by decide +kernel)
set_option maxRecDepth 100000 in
theorem inC_1 : ∀ w ∈ tbA_1, w ∈ lw_tbl := in_r [439, 440, 441, 641, 448, 154, 449, 450, 451, 642, 577, 159, 578, 579, 580, 643, 590, 160, 591, 592, 593, 644, 648, 678] (by decide +kernel)
set_option maxRecDepth 100000 in
theorem inC_2 : ∀ w ∈ tbA_2, w ∈ lw_tbl := in_r [679, 147, 681, 682, 683, 689, 690, 695, 696, 697, 711, 712, 692, 693, 714, 715, 716, 722, 723, 724, 645, 730, 732, 0] (by decide +kernel)
set_option maxRecDepth 100000 in
theorem inC_3 : ∀ w ∈ tbA_3, w ∈ lw_tbl := in_r [824, 825, 826, 647, 832, 833, 834, 646, 1428, 1429, 1430, 1432, 165, 806, 763, 764, 738, 739, 740, 742, 743, 744, 1444, 1445] (by decide +kernel)
set_option maxRecDepth 100000 in
theorem inC_4 : ∀ w ∈ tbA_4, w ∈ lw_tbl := in_r [1446, 1448, 178, 1610, 179, 1647, 180, 318, 750, 751, 752, 770, 771, 772, 782, 783, 784, 790, 791, 792, 798, 799, 800, 202] (by decide +kernel)
set_option maxRecDepth 100000 in
theorem inC_5 : ∀ w ∈ tbA_5, w ∈ lw_tbl := in_r [203, 205, 231, 207, 211, 213, 214, 209, 195, 240, 196, 232, 234, 149, 198, 199, 200, 241, 243, 236, 238, 242, 699, 700] (by decide +kernel)
set_option maxRecDepth 100000 in
theorem inC_6 : ∀ w ∈ tbA_6, w ∈ lw_tbl := in_r [701, 703, 704, 705, 273, 274, 266, 267, 387, 151, 269, 270, 271, 412, 388, 389, 390, 391, 392, 393, 394, 418, 419, 420] (by decide +kernel)
set_option maxRecDepth 100000 in
theorem inC_7 : ∀ w ∈ tbA_7, w ∈ lw_tbl := in_r [421, 422, 423, 424, 837, 838, 839, 841, 843, 3, 924, 926, 9, 836, 845, 847, 4, 857, 859, 7, 291, 443, 444, 460] (by decide +kernel)
set_option maxRecDepth 100000 in
theorem inC_8 : ∀ w ∈ tbA_8, w ∈ lw_tbl := in_r [487, 461, 158, 462, 463, 464, 489, 491, 493, 453, 564, 454, 565, 155, 456, 457, 458, 566, 567, 582, 583, 584, 595, 597] (by decide +kernel)
set_option maxRecDepth 100000 in
theorem inC_9 : ∀ w ∈ tbA_9, w ∈ lw_tbl := in_r [598, 599, 600, 601, 596, 603, 605, 606, 609, 602, 758, 760, 1, 828, 829, 830, 762, 522, 604, 608, 512, 524, 794, 796] (by decide +kernel)
set_option maxRecDepth 100000 in
theorem inC_10 : ∀ w ∈ tbA_10, w ∈ lw_tbl := in_r [2, 466, 467, 157, 473, 475, 469, 470, 156, 477, 472, 1667, 1668, 1669, 1670, 1671, 1672, 1673, 1674, 1675, 1676, 1677, 1694, 1678] (by decide +kernel)
set_option maxRecDepth 100000 in
theorem inC_11 : ∀ w ∈ tbA_11, w ∈ lw_tbl := in_r [1679, 1680, 1681, 1682, 1683, 1684, 1685, 1686, 1687, 1688, 1695, 1689, 1690, 1691, 1692, 1693, 1696, 1697, 1698, 1700, 1701, 1702, 1703, 1704] (by decide +kernel)
set_option maxRecDepth 100000 in
theorem inC_12 : ∀ w ∈ tbA_12, w ∈ lw_tbl := in_r [1705, 1706, 1707, 1708, 1709, 1710, 1711, 1926, 1712, 1434, 1713, 1717, 1720, 1721, 1722, 1723, 1724, 1725, 1726, 1727, 1728, 1729, 1730, 1731] (by decide +kernel)
set_option maxRecDepth 100000 in
theorem inC_13 : ∀ w ∈ tbA_13, w ∈ lw_tbl := in_r [1732, 1733, 1736, 1737, 1738, 1739, 1740, 1741, 1746, 1747, 1748, 1749, 1750, 1751, 1752, 1753, 1754, 1755, 1756, 1758, 1759, 1760, 1761, 1762] (by decide +kernel)
set_option maxRecDepth 100000 in
theorem inC_14 : ∀ w ∈ tbA_14, w ∈ lw_tbl := in_r [1763, 1764, 1765, 1766, 1767, 1769, 1699, 1945, 1946, 161, 1935, 1936, 1942, 1943, 1952, 1953, 1714, 1716, 1715, 1983, 1985, 74, 1987, 1989] (by decide +kernel)
set_option maxRecDepth 100000 in
theorem inC_15 : ∀ w ∈ tbA_15, w ∈ lw_tbl := in_r [75, 1979, 1981, 73, 1718, 1999, 2001, 78, 1770, 1975, 1977, 72, 2007, 2009, 80, 1743, 1744, 1719, 1735, 1734, 1742, 1967, 1969, 70] (by decide +kernel)
set_option maxRecDepth 100000 in
theorem inC_16 : ∀ w ∈ tbA_16, w ∈ lw_tbl := in_r [1971, 1973, 71, 1745, 2067, 1768, 2060, 2069, 2070, 2071, 2066, 181, 182, 183, 184, 1662, 1663, 1664, 1665, 674, 675, 676, 1931, 1932] (by decide +kernel)
set_option maxRecDepth 100000 in
theorem inC_17 : ∀ w ∈ tbA_17, w ∈ lw_tbl := in_r [1933, 685, 686, 687, 1938, 1939, 1940, 707, 708, 709, 1948, 1949, 1950, 718, 719, 720, 1955, 1956, 1957, 726, 727, 728, 1959, 1960] (by decide +kernel)
set_option maxRecDepth 100000 in
theorem inC_18 : ∀ w ∈ tbA_18, w ∈ lw_tbl := in_r [1961, 816, 817, 146, 1963, 1964, 1965, 1927, 1928, 1929, 734, 735, 736, 2152, 2153, 2154, 1435, 1436, 2156, 2157, 2158, 2340, 1616, 1617] (by decide +kernel)
set_option maxRecDepth 100000 in
theorem inC_19 : ∀ w ∈ tbA_19, w ∈ lw_tbl := in_r [2309, 2310, 2311, 1631, 1632, 2316, 2317, 2318, 746, 747, 748, 2320, 2321, 2322, 774, 775, 776, 2324, 2325, 2326, 778, 779, 780, 2328] (by decide +kernel)
set_option maxRecDepth 100000 in
theorem inC_20 : ∀ w ∈ tbA_20, w ∈ lw_tbl := in_r [2329, 2330, 786, 787, 788, 2332, 2333, 2334, 802, 803, 804, 2336, 2337, 2338, 820, 821, 822, 819, 1440, 1441, 1442, 1438, 1439, 1619] (by decide +kernel)
set_option maxRecDepth 100000 in
theorem inC_21 : ∀ w ∈ tbA_21, w ∈ lw_tbl := in_r [1620, 1621, 1635, 1636, 1637, 1634, 186, 186, 186, 186, 186, 186, 186, 186, 186, 186, 186, 186, 186, 186, 186, 186, 186, 186] (by decide +kernel)
set_option maxRecDepth 100000 in
theorem inC_22 : ∀ w ∈ tbA_22, w ∈ lw_tbl := in_r [188, 194, 265, 417, 442, 452, 581, 594, 680, 684, 691, 698, 713, 694, 717, 725, 733, 827, 835, 1431, 765, 741, 745, 1447] (rfl)
set_option maxRecDepth 100000 in
theorem inC_23 : ∀ w ∈ tbA_23, w ∈ lw_tbl := in_r [753, 773, 785, 793, 801, 201, 702, 706, 272, 840, 844, 927, 848, 860, 465, 459, 761, 831, 797, 468, 471, 1947, 1937, 1944] (rfl)
set_option maxRecDepth 100000 in
theorem inC_24 : ∀ w ∈ tbA_24, w ∈ lw_tbl := in_r [1954, 1986, 1990, 1982, 2002, 1978, 2010, 1970, 1974, 185, 1666, 677, 1934, 688, 1941, 710, 1951, 721, 1958, 729, 1962, 818, 1966, 1930] (rfl)
set_option maxRecDepth 100000 in
theorem inC_25 : ∀ w ∈ tbA_25, w ∈ lw_tbl := in_r [737, 2155, 1437, 2159, 1618, 2312, 1633, 2319, 749, 2323, 777, 2327, 781, 2331, 789, 2335, 805, 2339, 823, 1443, 1622, 1638] (rfl)
theorem tbA_in : ∀ w ∈ tbA, w ∈ lw_tbl := fun w h => (List.mem_append.mp h).elim (fun h => inC_0 w h) (fun h => (List.mem_append.mp h).elim (fun h => inC_1 w h) (fun h => (List.mem_append.mp h).elim (fun h => inC_2 w h) (fun h => (List.mem_append.mp h).elim (fun h => inC_3 w h) (fun h => (List.mem_append.mp h).elim (fun h => inC_4 w h) (fun h => (List.mem_append.mp h).elim (fun h => inC_5 w h) (fun h => (List.mem_append.mp h).elim (fun h => inC_6 w h) (fun h => (List.mem_append.mp h).elim (fun h => inC_7 w h) (fun h => (List.mem_append.mp h).elim (fun h => inC_8 w h) (fun h => (List.mem_append.mp h).elim (fun h => inC_9 w h) (fun h => (List.mem_append.mp h).elim (fun h => inC_10 w h) (fun h => (List.mem_append.mp h).elim (fun h => inC_11 w h) (fun h => (List.mem_append.mp h).elim (fun h => inC_12 w h) (fun h => (List.mem_append.mp h).elim (fun h => inC_13 w h) (fun h => (List.mem_append.mp h).elim (fun h => inC_14 w h) (fun h => (List.mem_append.mp h).elim (fun h => inC_15 w h) (fun h => (List.mem_append.mp h).elim (fun h => inC_16 w h) (fun h => (List.mem_append.mp h).elim (fun h => inC_17 w h) (fun h => (List.mem_append.mp h).elim (fun h => inC_18 w h) (fun h => (List.mem_append.mp h).elim (fun h => inC_19 w h) (fun h => (List.mem_append.mp h).elim (fun h => inC_20 w h) (fun h => (List.mem_append.mp h).elim (fun h => inC_21 w h) (fun h => (List.mem_append.mp h).elim (fun h => inC_22 w h) (fun h => (List.mem_append.mp h).elim (fun h => inC_23 w h) (fun h => (List.mem_append.mp h).elim (fun h => inC_24 w h) (fun h => inC_25 w h)))))))))))))))))))))))))
theorem inL_Jx4a65c : ∀ w ∈ wsJx4a65c0, w ∈ lw_tbl := by decide +kernel
theorem inL_X1 : ∀ w ∈ wsX10, w ∈ lw_tbl := by decide +kernel
theorem inL_X2 : ∀ w ∈ wsX20, w ∈ lw_tbl := by decide +kernel
theorem inL_X3 : ∀ w ∈ wsX30, w ∈ lw_tbl := by decide +kernel
theorem inL_X4 : ∀ w ∈ wsX40, w ∈ lw_tbl := by decide +kernel
theorem inL_X5 : ∀ w ∈ wsX50, w ∈ lw_tbl := by decide +kernel
theorem inL_X6 : ∀ w ∈ wsX60, w ∈ lw_tbl := by decide +kernel
theorem inL_X7 : ∀ w ∈ wsX70, w ∈ lw_tbl := by decide +kernel
theorem inL_X8 : ∀ w ∈ wsX80, w ∈ lw_tbl := by decide +kernel
theorem inL_X9 : ∀ w ∈ wsX90, w ∈ lw_tbl := by decide +kernel
theorem inL_X10 : ∀ w ∈ wsX100, w ∈ lw_tbl := by decide +kernel
theorem inL_X12 : ∀ w ∈ wsX120, w ∈ lw_tbl := by decide +kernel
theorem inL_X13 : ∀ w ∈ wsX130, w ∈ lw_tbl := by decide +kernel
theorem tbF_in : ∀ w ∈ tbF, w ∈ lw_tbl := fun w h => (List.mem_append.mp h).elim (fun h => inL_Jx4a65c w h) (fun h => (List.mem_append.mp h).elim (fun h => inL_X1 w h) (fun h => (List.mem_append.mp h).elim (fun h => inL_X2 w h) (fun h => (List.mem_append.mp h).elim (fun h => inL_X3 w h) (fun h => (List.mem_append.mp h).elim (fun h => inL_X4 w h) (fun h => (List.mem_append.mp h).elim (fun h => inL_X5 w h) (fun h => (List.mem_append.mp h).elim (fun h => inL_X6 w h) (fun h => (List.mem_append.mp h).elim (fun h => inL_X7 w h) (fun h => (List.mem_append.mp h).elim (fun h => inL_X8 w h) (fun h => (List.mem_append.mp h).elim (fun h => inL_X9 w h) (fun h => (List.mem_append.mp h).elim (fun h => inL_X10 w h) (fun h => (List.mem_append.mp h).elim (fun h => inL_X12 w h) (fun h => inL_X13 w h))))))))))))
theorem tbX_in : ∀ w ∈ tbX, w ∈ lw_tbl := fun w h => (List.mem_append.mp h).elim (fun h => inW_0 w h) (fun h => (List.mem_append.mp h).elim (fun h => inW_1 w h) (fun h => inW_2 w h))
theorem tb_in : ∀ w ∈ tb, w ∈ lw_tbl := fun w h => (List.mem_append.mp h).elim (tbA_in w) (fun h => (List.mem_append.mp h).elim (tbF_in w) (tbX_in w))
theorem gd_c {w : Cond} (h : w ∈ tb) : GoodIn tb (w :: tb) := fun v hv => (List.mem_cons.mp hv).elim (fun e => by rw [e]; exact tb_good _ h) (tb_good v)
theorem gd_V {own C : String} {idx : Nat} {y : MethodName} {w : Cond} (h1 : Cond.methodLink own idx y ∈ tb) (h2 : Cond.instanceMethod y ∈ tb) (h3 : Cond.selects C y y ∈ tb) (h4 : Cond.initialized C ∈ tb) (h5 : w ∈ tb) : GoodIn tb (wsV own idx C y (w :: tb)) := by
  intro v hv
  unfold wsV at hv
  rcases List.mem_append.mp hv with h | h
  · simp only [List.mem_cons, List.not_mem_nil, or_false] at h
    rcases h with rfl | rfl | rfl | rfl
    · exact tb_good _ h1
    · exact tb_good _ h2
    · exact tb_good _ h3
    · exact tb_good _ h4
  · exact gd_c h5 v h
theorem gd_S {own : String} {idx : Nat} {y : MethodName} {w : Cond} (h1 : Cond.methodLink own idx y ∈ tb) (h2 : Cond.static y ∈ tb) (h3 : Cond.initialized y.cls ∈ tb) (h5 : w ∈ tb) : GoodIn tb (va_wsS own idx y (w :: tb)) := by
  intro v hv
  unfold va_wsS at hv
  rcases List.mem_append.mp hv with h | h
  · simp only [List.mem_cons, List.not_mem_nil, or_false] at h
    rcases h with rfl | rfl | rfl
    · exact tb_good _ h1
    · exact tb_good _ h2
    · exact tb_good _ h3
  · exact gd_c h5 v h
def wm_X12_init : List Cond := .code yX12_init cX12_init 2 none :: tb
def wm_X12_declare : List Cond := .code yX12_declare cX12_declare 3 (some .boolean) :: tb
def wm_X12_constructor : List Cond := .code yX12_constructor cX12_constructor 6 (some .boolean) :: tb
def wm_X12_setter : List Cond := .code yX12_setter cX12_setter 4 (some .boolean) :: tb
def wm_X12_factory : List Cond := .code yX12_factory cX12_factory 9 (some .boolean) :: tb
def wm_X12_type : List Cond := .code yX12_type cX12_type 7 (some .int) :: tb
def wm_X12_read : List Cond := .code yX12_read cX12_read 1 (some .int) :: tb
def wm_X12_fault : List Cond := .code yX12_fault cX12_fault 2 (some .int) :: tb
def wm_X12_refresh : List Cond := .code yX12_refresh cX12_refresh 1 (some .int) :: tb
def wm_X12_get : List Cond := .code yX12_get cX12_get 4 (some .int) :: tb
def wm_X12_call : List Cond := .code yX12_call cX12_call 5 (some .int) :: tb
def wm_X12_close : List Cond := .code yX12_close cX12_close 1 (some .int) :: tb
def wm_X12_events : List Cond := .code yX12_events cX12_events 1 (some .int) :: tb
def wm_X12_event : List Cond := .code yX12_event cX12_event 3 (some .int) :: tb
def wm_X12_object : List Cond := .code yX12_object cX12_object 3 (some .int) :: tb
def wm_X12_bean : List Cond := .code yX12_bean cX12_bean 3 (some .int) :: tb
def wm_X12_isClass : List Cond := .code yX12_isClass cX12_isClass 1 (some .boolean) :: tb
def wm_X12_isLetter : List Cond := .code yX12_isLetter cX12_isLetter 1 (some .boolean) :: tb
def wm_X12_isType : List Cond := .code yX12_isType cX12_isType 1 (some .boolean) :: tb
def wm_X12_areTypes : List Cond := .code yX12_areTypes cX12_areTypes 4 (some .boolean) :: tb
def wm_X12_typedBehind : List Cond := .code yX12_typedBehind cX12_typedBehind 6 (some .int) :: tb
def wm_X8_init : List Cond := .code yX8_init cX8_init 3 none :: tb
def wm_X8_describe : List Cond := .code yX8_describe cX8_describe 4 none :: tb
def wm_X8_setTypes : List Cond := .code yX8_setTypes cX8_setTypes 5 none :: tb
def wm_X2_init : List Cond := .code yX2_init cX2_init 3 none :: tb
def wm_X2_begin : List Cond := .code yX2_begin cX2_begin 3 none :: tb
def wm_X2_addConstructor : List Cond := .code yX2_addConstructor cX2_addConstructor 5 (some .boolean) :: tb
def wm_X2_addFactory : List Cond := .code yX2_addFactory cX2_addFactory 8 (some .boolean) :: tb
def wm_X2_addSetter : List Cond := .code yX2_addSetter cX2_addSetter 3 (some .boolean) :: tb
def wm_X3_init : List Cond := .code yX3_init cX3_init 1 none :: tb
def wm_X6_init : List Cond := .code yX6_init cX6_init 3 none :: tb
def wm_X6_clear : List Cond := .code yX6_clear cX6_clear 1 none :: tb
def wm_X7_init : List Cond := .code yX7_init cX7_init 2 none :: tb
def wm_X7_firstWrongPlace : List Cond := .codeWith yX7_firstWrongPlace cX7_firstWrongPlace 4 (some .int) [(32, 75, 78, 50)] :: tb
def wm_X7_skipAround : List Cond := .code yX7_skipAround cX7_skipAround 2 none :: tb
def wm_X7_skipsWhite : List Cond := .code yX7_skipsWhite cX7_skipsWhite 2 (some .boolean) :: tb
def wm_X7_openElement : List Cond := .code yX7_openElement cX7_openElement 5 none :: tb
def wm_X7_expect : List Cond := .code yX7_expect cX7_expect 2 none :: tb
def wm_X9_init : List Cond := .code yX9_init cX9_init 2 none :: tb
def wm_X1_init : List Cond := .code yX1_init cX1_init 2 none :: tb
def wm_X10_init : List Cond := .code yX10_init cX10_init 3 none :: tb
def wm_X10_count : List Cond := .code yX10_count cX10_count 1 (some .int) :: tb
def wm_X10_forgetBeans : List Cond := .code yX10_forgetBeans cX10_forgetBeans 1 none :: tb
def wm_X4_init : List Cond := .code yX4_init cX4_init 1 none :: tb
def wm_X4_clear : List Cond := .code yX4_clear cX4_clear 1 none :: tb
def wm_X4_count : List Cond := .code yX4_count cX4_count 1 (some .int) :: tb
def wm_X4_number : List Cond := .code yX4_number cX4_number 3 (some .int) :: tb
def wm_X5_init : List Cond := .code yX5_init cX5_init 4 none :: tb
def wm_X5_startAfresh : List Cond := .code yX5_startAfresh cX5_startAfresh 1 none :: tb
def wm_X5_forgetMade : List Cond := .code yX5_forgetMade cX5_forgetMade 2 none :: tb
def wm_X5_forgetFailure : List Cond := .code yX5_forgetFailure cX5_forgetFailure 1 none :: tb
def wm_X5_failure : List Cond := .code yX5_failure cX5_failure 1 (some .int) :: tb
def wm_X5_failureBean : List Cond := .code yX5_failureBean cX5_failureBean 1 (some .int) :: tb
def wm_X5_destroyAll : List Cond := .code yX5_destroyAll cX5_destroyAll 2 none :: tb
def wm_X5_classOfObject : List Cond := .code yX5_classOfObject cX5_classOfObject 2 (some .int) :: tb
def wm_X5_beanOfObject : List Cond := .code yX5_beanOfObject cX5_beanOfObject 2 (some .int) :: tb
def wm_X5_isObject : List Cond := .code yX5_isObject cX5_isObject 2 (some .boolean) :: tb
def wm_Jx4a65c_init_da8c8 : List Cond := .code yJx4a65c_init_da8c8 cJx4a65c_init_da8c8 1 none :: tb
def wm_Jxc12de_init_da8c8 : List Cond := .code yJxc12de_init_da8c8 cJxc12de_init_da8c8 1 none :: tb
def wm_Jxa1e45_init_da8c8 : List Cond := .code yJxa1e45_init_da8c8 cJxa1e45_init_da8c8 1 none :: tb
def wm_X13_init : List Cond := .code yX13_init cX13_init 2 none :: tb
def wm_X13_thrown : List Cond := .code yX13_thrown cX13_thrown 1 (some .int) :: tb
def wm_X13_isClass : List Cond := .code yX13_isClass cX13_isClass 1 (some .boolean) :: tb
def wm_X13_isType : List Cond := .code yX13_isType cX13_isType 1 (some .boolean) :: tb
def wm_X13_areTypes : List Cond := .code yX13_areTypes cX13_areTypes 4 (some .boolean) :: tb
def wm_X13_isLetter : List Cond := .code yX13_isLetter cX13_isLetter 1 (some .boolean) :: tb
def wm_X13_declare : List Cond := .code yX13_declare cX13_declare 3 (some .boolean) :: tb
def wm_X13_constructor : List Cond := .code yX13_constructor cX13_constructor 7 (some .boolean) :: tb
def wm_X13_setter : List Cond := .code yX13_setter cX13_setter 5 (some .boolean) :: tb
def wm_X13_factory : List Cond := .code yX13_factory cX13_factory 10 (some .boolean) :: tb
def wm_X13_type : List Cond := .code yX13_type cX13_type 10 (some .int) :: tb
def wm_X13_bad : List Cond := .code yX13_bad cX13_bad 2 none :: tb
def wm_X13_here : List Cond := .code yX13_here cX13_here 2 (some .int) :: tb
def wm_X13_isWhite : List Cond := .code yX13_isWhite cX13_isWhite 2 (some .boolean) :: tb
def wm_X13_white : List Cond := .code yX13_white cX13_white 2 (some .int) :: tb
def wm_X13_between : List Cond := .code yX13_between cX13_between 2 none :: tb
def wm_X13_begin : List Cond := .code yX13_begin cX13_begin 6 (some .int) :: tb
def wm_X13_readDocument : List Cond := .code yX13_readDocument cX13_readDocument 5 none :: tb
def wm_X13_clear : List Cond := .code yX13_clear cX13_clear 2 none :: tb
def wm_X13_read : List Cond := .code yX13_read cX13_read 4 (some .int) :: tb
def wm_X13_fault : List Cond := .code yX13_fault cX13_fault 2 (some .int) :: tb
def wm_X13_refresh : List Cond := .code yX13_refresh cX13_refresh 4 (some .int) :: tb
def wm_X13_get : List Cond := .code yX13_get cX13_get 3 (some .int) :: tb
def wm_X13_call : List Cond := .code yX13_call cX13_call 7 (some .int) :: tb
def wm_X13_close : List Cond := .code yX13_close cX13_close 1 (some .int) :: tb
def wm_X13_events : List Cond := .code yX13_events cX13_events 1 (some .int) :: tb
def wm_X13_event : List Cond := .code yX13_event cX13_event 3 (some .int) :: tb
def wm_X13_object : List Cond := .code yX13_object cX13_object 3 (some .int) :: tb
def wm_X13_bean : List Cond := .code yX13_bean cX13_bean 4 (some .int) :: tb
def wm_L_read : List Cond := .codeWith yL_read cL_read 3 (some .int) [(0, 8, 11, 13)] :: tb
def wm_L_refresh : List Cond := .codeWith yL_refresh cL_refresh 3 (some .int) [(0, 8, 11, 18), (0, 8, 14, 20)] :: tb
def wm_L_get : List Cond := .codeWith yL_get cL_get 5 (some .int) [(0, 9, 12, 18), (0, 9, 16, 20)] :: tb
def wm_L_call : List Cond := .codeWith yL_call cL_call 5 (some .int) [(0, 10, 13, 18), (0, 10, 17, 30), (0, 10, 21, 20)] :: tb
def GE (A : Nat → Prop) (U : State) : Prop := (va_AO "WiredBeans$DeclaredClass" U ∧ va_AO "WiredBeans$Signature" U ∧ va_AO "WiredBeans$Element" U ∧ va_AO "WiredBeans$Bean" U) ∧ (va_Nw (.castable "java/lang/IllegalArgumentException" "java/lang/IllegalArgumentException") U ∧ va_Nw (.castable "java/lang/IllegalStateException" "java/lang/IllegalStateException") U ∧ va_Nw (.declares ⟨"java/lang/RuntimeException", "<init>", "()V"⟩) U ∧ va_Nw (.declares ⟨"java/lang/Exception", "<init>", "()V"⟩) U ∧ va_Nw (.declares ⟨"java/lang/Throwable", "<init>", "()V"⟩) U) ∧ va_Zq "java/util/ArrayList" "DEFAULTCAPACITY_EMPTY_ELEMENTDATA" "[Ljava/lang/Object;" A U U.heap ∧ vx_Zq Bundle.tN "UNASSIGNED_STACK" Bundle.steD A U U.heap ∧ vx_Zq Bundle.tN "SUPPRESSED_SENTINEL" Bundle.listD A U U.heap
theorem GE.go {A B : Nat → Prop} {s U : State} {H : Heap} {locs : List Loc} (h : GE A s) (hS : va_S A s.heap H locs) (hB : ∀ q, B q → A q) (hU : U.heap = H) (hW : s.WarmedH U.vm) : GE B U := by
  obtain ⟨⟨a1, a2, a3, a4⟩, ⟨b1, b2, b3, b4, b5⟩, z1, z2, z3⟩ := h
  refine ⟨⟨va_AO.moved hW.alike a1, va_AO.moved hW.alike a2, va_AO.moved hW.alike a3, va_AO.moved hW.alike a4⟩, ⟨va_Nw.warmC hW b1, va_Nw.warmC hW b2, va_Nw.warmD hW b3, va_Nw.warmD hW b4, va_Nw.warmD hW b5⟩, ?_, ?_, ?_⟩
  · rw [hU]; exact (va_Zq.moved hW.alike (va_Zq.kept z1 hS.2.1)).narrow hB
  · rw [hU]; exact (vx_Zq.moved hW.alike (vx_Zq.kept z2 hS.2.1)).narrow hB
  · rw [hU]; exact (vx_Zq.moved hW.alike (vx_Zq.kept z3 hS.2.1)).narrow hB
theorem GE.call {A : Nat → Prop} {U : State} (g : JFrame) (mk : MethodId) (a : Array Value) (h : GE A U) : GE A (U.calling g mk a) := GE.go (U := U.calling g mk a) h (va_S.rf (H0 := U.heap)) (fun _ h => h) rfl (State.WarmedH.refl U)
end
section
theorem dX12_init_0 : decode cX12_init 0 = .ok (.aload_n 0, 1) := by decide +kernel
theorem dX12_init_1 : decode cX12_init 1 = .ok (.invokespecial 1, 3) := by decide +kernel
theorem dX12_init_4 : decode cX12_init 4 = .ok (.aload_n 0, 1) := by decide +kernel
theorem dX12_init_5 : decode cX12_init 5 = .ok (.bipush 8, 2) := by decide +kernel
theorem dX12_init_7 : decode cX12_init 7 = .ok (.anewarray 9, 3) := by decide +kernel
theorem dX12_init_10 : decode cX12_init 10 = .ok (.putfield 11, 3) := by decide +kernel
theorem dX12_init_13 : decode cX12_init 13 = .ok (.iconst 0, 1) := by decide +kernel
theorem dX12_init_14 : decode cX12_init 14 = .ok (.istore_n 1, 1) := by decide +kernel
theorem dX12_init_15 : decode cX12_init 15 = .ok (.iload_n 1, 1) := by decide +kernel
theorem dX12_init_16 : decode cX12_init 16 = .ok (.bipush 8, 2) := by decide +kernel
theorem dX12_init_18 : decode cX12_init 18 = .ok (.if_icmp .ge 23, 3) := by decide +kernel
theorem dX12_init_21 : decode cX12_init 21 = .ok (.aload_n 0, 1) := by decide +kernel
theorem dX12_init_22 : decode cX12_init 22 = .ok (.getfield 11, 3) := by decide +kernel
theorem dX12_init_25 : decode cX12_init 25 = .ok (.iload_n 1, 1) := by decide +kernel
theorem dX12_init_26 : decode cX12_init 26 = .ok (.new 9, 3) := by decide +kernel
theorem dX12_init_29 : decode cX12_init 29 = .ok (.dup, 1) := by decide +kernel
theorem dX12_init_30 : decode cX12_init 30 = .ok (.iload_n 1, 1) := by decide +kernel
theorem dX12_init_31 : decode cX12_init 31 = .ok (.invokespecial 15, 3) := by decide +kernel
theorem dX12_init_34 : decode cX12_init 34 = .ok (.aastore, 1) := by decide +kernel
theorem dX12_init_35 : decode cX12_init 35 = .ok (.iinc 1 1, 3) := by decide +kernel
theorem dX12_init_38 : decode cX12_init 38 = .ok (.goto (-23), 3) := by decide +kernel
theorem dX12_init_41 : decode cX12_init 41 = .ok (.aload_n 0, 1) := by decide +kernel
theorem dX12_init_42 : decode cX12_init 42 = .ok (.sipush 1200, 3) := by decide +kernel
theorem dX12_init_45 : decode cX12_init 45 = .ok (.newarray .char, 2) := by decide +kernel
theorem dX12_init_47 : decode cX12_init 47 = .ok (.putfield 18, 3) := by decide +kernel
theorem dX12_init_50 : decode cX12_init 50 = .ok (.aload_n 0, 1) := by decide +kernel
theorem dX12_init_51 : decode cX12_init 51 = .ok (.new 22, 3) := by decide +kernel
theorem dX12_init_54 : decode cX12_init 54 = .ok (.dup, 1) := by decide +kernel
theorem dX12_init_55 : decode cX12_init 55 = .ok (.sipush 1200, 3) := by decide +kernel
theorem dX12_init_58 : decode cX12_init 58 = .ok (.invokespecial 24, 3) := by decide +kernel
theorem dX12_init_61 : decode cX12_init 61 = .ok (.putfield 25, 3) := by decide +kernel
theorem dX12_init_64 : decode cX12_init 64 = .ok (.aload_n 0, 1) := by decide +kernel
theorem dX12_init_65 : decode cX12_init 65 = .ok (.new 29, 3) := by decide +kernel
theorem dX12_init_68 : decode cX12_init 68 = .ok (.dup, 1) := by decide +kernel
theorem dX12_init_69 : decode cX12_init 69 = .ok (.aload_n 0, 1) := by decide +kernel
theorem dX12_init_70 : decode cX12_init 70 = .ok (.getfield 25, 3) := by decide +kernel
theorem dX12_init_73 : decode cX12_init 73 = .ok (.invokespecial 31, 3) := by decide +kernel
theorem dX12_init_76 : decode cX12_init 76 = .ok (.putfield 34, 3) := by decide +kernel
theorem dX12_init_79 : decode cX12_init 79 = .ok (.aload_n 0, 1) := by decide +kernel
theorem dX12_init_80 : decode cX12_init 80 = .ok (.new 38, 3) := by decide +kernel
theorem dX12_init_83 : decode cX12_init 83 = .ok (.dup, 1) := by decide +kernel
theorem dX12_init_84 : decode cX12_init 84 = .ok (.aload_n 0, 1) := by decide +kernel
theorem dX12_init_85 : decode cX12_init 85 = .ok (.getfield 25, 3) := by decide +kernel
theorem dX12_init_88 : decode cX12_init 88 = .ok (.invokespecial 40, 3) := by decide +kernel
theorem dX12_init_91 : decode cX12_init 91 = .ok (.putfield 41, 3) := by decide +kernel
theorem dX12_init_94 : decode cX12_init 94 = .ok (.aload_n 0, 1) := by decide +kernel
theorem dX12_init_95 : decode cX12_init 95 = .ok (.new 45, 3) := by decide +kernel
theorem dX12_init_98 : decode cX12_init 98 = .ok (.dup, 1) := by decide +kernel
theorem dX12_init_99 : decode cX12_init 99 = .ok (.aload_n 0, 1) := by decide +kernel
theorem dX12_init_100 : decode cX12_init 100 = .ok (.getfield 25, 3) := by decide +kernel
theorem dX12_init_103 : decode cX12_init 103 = .ok (.invokespecial 47, 3) := by decide +kernel
theorem dX12_init_106 : decode cX12_init 106 = .ok (.putfield 48, 3) := by decide +kernel
theorem dX12_init_109 : decode cX12_init 109 = .ok (.aload_n 0, 1) := by decide +kernel
theorem dX12_init_110 : decode cX12_init 110 = .ok (.new 52, 3) := by decide +kernel
theorem dX12_init_113 : decode cX12_init 113 = .ok (.dup, 1) := by decide +kernel
theorem dX12_init_114 : decode cX12_init 114 = .ok (.invokespecial 54, 3) := by decide +kernel
theorem dX12_init_117 : decode cX12_init 117 = .ok (.putfield 55, 3) := by decide +kernel
theorem dX12_init_120 : decode cX12_init 120 = .ok (.aload_n 0, 1) := by decide +kernel
theorem dX12_init_121 : decode cX12_init 121 = .ok (.new 59, 3) := by decide +kernel
theorem dX12_init_124 : decode cX12_init 124 = .ok (.dup, 1) := by decide +kernel
theorem dX12_init_125 : decode cX12_init 125 = .ok (.aload_n 0, 1) := by decide +kernel
theorem dX12_init_126 : decode cX12_init 126 = .ok (.getfield 48, 3) := by decide +kernel
theorem dX12_init_129 : decode cX12_init 129 = .ok (.aload_n 0, 1) := by decide +kernel
theorem dX12_init_130 : decode cX12_init 130 = .ok (.getfield 11, 3) := by decide +kernel
theorem dX12_init_133 : decode cX12_init 133 = .ok (.aload_n 0, 1) := by decide +kernel
theorem dX12_init_134 : decode cX12_init 134 = .ok (.getfield 55, 3) := by decide +kernel
theorem dX12_init_137 : decode cX12_init 137 = .ok (.invokespecial 61, 3) := by decide +kernel
theorem dX12_init_140 : decode cX12_init 140 = .ok (.putfield 64, 3) := by decide +kernel
theorem dX12_init_143 : decode cX12_init 143 = .ok (.aload_n 0, 1) := by decide +kernel
theorem dX12_init_144 : decode cX12_init 144 = .ok (.iconst (-1), 1) := by decide +kernel
theorem dX12_init_145 : decode cX12_init 145 = .ok (.putfield 68, 3) := by decide +kernel
theorem dX12_init_148 : decode cX12_init 148 = .ok (.return_, 1) := by decide +kernel
theorem dX12_declare_0 : decode cX12_declare 0 = .ok (.iload_n 1, 1) := by decide +kernel
theorem dX12_declare_1 : decode cX12_declare 1 = .ok (.invokestatic 72, 3) := by decide +kernel
theorem dX12_declare_4 : decode cX12_declare 4 = .ok (.ifCond .eq 13, 3) := by decide +kernel
theorem dX12_declare_7 : decode cX12_declare 7 = .ok (.iload_n 2, 1) := by decide +kernel
theorem dX12_declare_8 : decode cX12_declare 8 = .ok (.iconst (-1), 1) := by decide +kernel
theorem dX12_declare_9 : decode cX12_declare 9 = .ok (.if_icmp .lt 8, 3) := by decide +kernel
theorem dX12_declare_12 : decode cX12_declare 12 = .ok (.iload_n 2, 1) := by decide +kernel
theorem dX12_declare_13 : decode cX12_declare 13 = .ok (.iload_n 1, 1) := by decide +kernel
theorem dX12_declare_14 : decode cX12_declare 14 = .ok (.if_icmp .lt 5, 3) := by decide +kernel
theorem dX12_declare_17 : decode cX12_declare 17 = .ok (.iconst 0, 1) := by decide +kernel
theorem dX12_declare_18 : decode cX12_declare 18 = .ok (.ireturn, 1) := by decide +kernel
theorem dX12_declare_19 : decode cX12_declare 19 = .ok (.aload_n 0, 1) := by decide +kernel
theorem dX12_declare_20 : decode cX12_declare 20 = .ok (.getfield 11, 3) := by decide +kernel
theorem dX12_declare_23 : decode cX12_declare 23 = .ok (.iload_n 1, 1) := by decide +kernel
theorem dX12_declare_24 : decode cX12_declare 24 = .ok (.aaload, 1) := by decide +kernel
theorem dX12_declare_25 : decode cX12_declare 25 = .ok (.iload_n 2, 1) := by decide +kernel
theorem dX12_declare_26 : decode cX12_declare 26 = .ok (.iconst (-1), 1) := by decide +kernel
theorem dX12_declare_27 : decode cX12_declare 27 = .ok (.if_icmp .ne 7, 3) := by decide +kernel
theorem dX12_declare_30 : decode cX12_declare 30 = .ok (.aconst_null, 1) := by decide +kernel
theorem dX12_declare_31 : decode cX12_declare 31 = .ok (.goto 9, 3) := by decide +kernel
theorem dX12_declare_34 : decode cX12_declare 34 = .ok (.aload_n 0, 1) := by decide +kernel
theorem dX12_declare_35 : decode cX12_declare 35 = .ok (.getfield 11, 3) := by decide +kernel
theorem dX12_declare_38 : decode cX12_declare 38 = .ok (.iload_n 2, 1) := by decide +kernel
theorem dX12_declare_39 : decode cX12_declare 39 = .ok (.aaload, 1) := by decide +kernel
theorem dX12_declare_40 : decode cX12_declare 40 = .ok (.invokevirtual 76, 3) := by decide +kernel
theorem dX12_declare_43 : decode cX12_declare 43 = .ok (.iconst 1, 1) := by decide +kernel
theorem dX12_declare_44 : decode cX12_declare 44 = .ok (.ireturn, 1) := by decide +kernel
theorem dX12_constructor_0 : decode cX12_constructor 0 = .ok (.iload_n 1, 1) := by decide +kernel
theorem dX12_constructor_1 : decode cX12_constructor 1 = .ok (.invokestatic 72, 3) := by decide +kernel
theorem dX12_constructor_4 : decode cX12_constructor 4 = .ok (.ifCond .eq 37, 3) := by decide +kernel
theorem dX12_constructor_7 : decode cX12_constructor 7 = .ok (.iload_n 2, 1) := by decide +kernel
theorem dX12_constructor_8 : decode cX12_constructor 8 = .ok (.iload_n 3, 1) := by decide +kernel
theorem dX12_constructor_9 : decode cX12_constructor 9 = .ok (.iload 4, 2) := by decide +kernel
theorem dX12_constructor_11 : decode cX12_constructor 11 = .ok (.iload 5, 2) := by decide +kernel
theorem dX12_constructor_13 : decode cX12_constructor 13 = .ok (.invokestatic 80, 3) := by decide +kernel
theorem dX12_constructor_16 : decode cX12_constructor 16 = .ok (.ifCond .eq 25, 3) := by decide +kernel
theorem dX12_constructor_19 : decode cX12_constructor 19 = .ok (.aload_n 0, 1) := by decide +kernel
theorem dX12_constructor_20 : decode cX12_constructor 20 = .ok (.getfield 11, 3) := by decide +kernel
theorem dX12_constructor_23 : decode cX12_constructor 23 = .ok (.iload_n 1, 1) := by decide +kernel
theorem dX12_constructor_24 : decode cX12_constructor 24 = .ok (.aaload, 1) := by decide +kernel
theorem dX12_constructor_25 : decode cX12_constructor 25 = .ok (.iload_n 2, 1) := by decide +kernel
theorem dX12_constructor_26 : decode cX12_constructor 26 = .ok (.iload_n 3, 1) := by decide +kernel
theorem dX12_constructor_27 : decode cX12_constructor 27 = .ok (.iload 4, 2) := by decide +kernel
theorem dX12_constructor_29 : decode cX12_constructor 29 = .ok (.iload 5, 2) := by decide +kernel
theorem dX12_constructor_31 : decode cX12_constructor 31 = .ok (.invokevirtual 84, 3) := by decide +kernel
theorem dX12_constructor_34 : decode cX12_constructor 34 = .ok (.ifCond .eq 7, 3) := by decide +kernel
theorem dX12_constructor_37 : decode cX12_constructor 37 = .ok (.iconst 1, 1) := by decide +kernel
theorem dX12_constructor_38 : decode cX12_constructor 38 = .ok (.goto 4, 3) := by decide +kernel
theorem dX12_constructor_41 : decode cX12_constructor 41 = .ok (.iconst 0, 1) := by decide +kernel
theorem dX12_constructor_42 : decode cX12_constructor 42 = .ok (.ireturn, 1) := by decide +kernel
theorem dX12_setter_0 : decode cX12_setter 0 = .ok (.iload_n 1, 1) := by decide +kernel
theorem dX12_setter_1 : decode cX12_setter 1 = .ok (.invokestatic 72, 3) := by decide +kernel
theorem dX12_setter_4 : decode cX12_setter 4 = .ok (.ifCond .eq 35, 3) := by decide +kernel
theorem dX12_setter_7 : decode cX12_setter 7 = .ok (.iload_n 2, 1) := by decide +kernel
theorem dX12_setter_8 : decode cX12_setter 8 = .ok (.invokestatic 87, 3) := by decide +kernel
theorem dX12_setter_11 : decode cX12_setter 11 = .ok (.ifCond .eq 28, 3) := by decide +kernel
theorem dX12_setter_14 : decode cX12_setter 14 = .ok (.iload_n 3, 1) := by decide +kernel
theorem dX12_setter_15 : decode cX12_setter 15 = .ok (.invokestatic 90, 3) := by decide +kernel
theorem dX12_setter_18 : decode cX12_setter 18 = .ok (.ifCond .eq 21, 3) := by decide +kernel
theorem dX12_setter_21 : decode cX12_setter 21 = .ok (.aload_n 0, 1) := by decide +kernel
theorem dX12_setter_22 : decode cX12_setter 22 = .ok (.getfield 11, 3) := by decide +kernel
theorem dX12_setter_25 : decode cX12_setter 25 = .ok (.iload_n 1, 1) := by decide +kernel
theorem dX12_setter_26 : decode cX12_setter 26 = .ok (.aaload, 1) := by decide +kernel
theorem dX12_setter_27 : decode cX12_setter 27 = .ok (.iload_n 2, 1) := by decide +kernel
theorem dX12_setter_28 : decode cX12_setter 28 = .ok (.iload_n 3, 1) := by decide +kernel
theorem dX12_setter_29 : decode cX12_setter 29 = .ok (.invokevirtual 93, 3) := by decide +kernel
theorem dX12_setter_32 : decode cX12_setter 32 = .ok (.ifCond .eq 7, 3) := by decide +kernel
theorem dX12_setter_35 : decode cX12_setter 35 = .ok (.iconst 1, 1) := by decide +kernel
theorem dX12_setter_36 : decode cX12_setter 36 = .ok (.goto 4, 3) := by decide +kernel
theorem dX12_setter_39 : decode cX12_setter 39 = .ok (.iconst 0, 1) := by decide +kernel
theorem dX12_setter_40 : decode cX12_setter 40 = .ok (.ireturn, 1) := by decide +kernel
theorem dX12_factory_0 : decode cX12_factory 0 = .ok (.iload_n 1, 1) := by decide +kernel
theorem dX12_factory_1 : decode cX12_factory 1 = .ok (.invokestatic 72, 3) := by decide +kernel
theorem dX12_factory_4 : decode cX12_factory 4 = .ok (.ifCond .eq 60, 3) := by decide +kernel
theorem dX12_factory_7 : decode cX12_factory 7 = .ok (.iload_n 2, 1) := by decide +kernel
theorem dX12_factory_8 : decode cX12_factory 8 = .ok (.invokestatic 87, 3) := by decide +kernel
theorem dX12_factory_11 : decode cX12_factory 11 = .ok (.ifCond .eq 53, 3) := by decide +kernel
theorem dX12_factory_14 : decode cX12_factory 14 = .ok (.iload 4, 2) := by decide +kernel
theorem dX12_factory_16 : decode cX12_factory 16 = .ok (.invokestatic 72, 3) := by decide +kernel
theorem dX12_factory_19 : decode cX12_factory 19 = .ok (.ifCond .eq 45, 3) := by decide +kernel
theorem dX12_factory_22 : decode cX12_factory 22 = .ok (.iload 5, 2) := by decide +kernel
theorem dX12_factory_24 : decode cX12_factory 24 = .ok (.iload 6, 2) := by decide +kernel
theorem dX12_factory_26 : decode cX12_factory 26 = .ok (.iload 7, 2) := by decide +kernel
theorem dX12_factory_28 : decode cX12_factory 28 = .ok (.iload 8, 2) := by decide +kernel
theorem dX12_factory_30 : decode cX12_factory 30 = .ok (.invokestatic 80, 3) := by decide +kernel
theorem dX12_factory_33 : decode cX12_factory 33 = .ok (.ifCond .eq 31, 3) := by decide +kernel
theorem dX12_factory_36 : decode cX12_factory 36 = .ok (.aload_n 0, 1) := by decide +kernel
theorem dX12_factory_37 : decode cX12_factory 37 = .ok (.getfield 11, 3) := by decide +kernel
theorem dX12_factory_40 : decode cX12_factory 40 = .ok (.iload_n 1, 1) := by decide +kernel
theorem dX12_factory_41 : decode cX12_factory 41 = .ok (.aaload, 1) := by decide +kernel
theorem dX12_factory_42 : decode cX12_factory 42 = .ok (.iload_n 2, 1) := by decide +kernel
theorem dX12_factory_43 : decode cX12_factory 43 = .ok (.iload_n 3, 1) := by decide +kernel
theorem dX12_factory_44 : decode cX12_factory 44 = .ok (.iload 4, 2) := by decide +kernel
theorem dX12_factory_46 : decode cX12_factory 46 = .ok (.iload 5, 2) := by decide +kernel
theorem dX12_factory_48 : decode cX12_factory 48 = .ok (.iload 6, 2) := by decide +kernel
theorem dX12_factory_50 : decode cX12_factory 50 = .ok (.iload 7, 2) := by decide +kernel
theorem dX12_factory_52 : decode cX12_factory 52 = .ok (.iload 8, 2) := by decide +kernel
theorem dX12_factory_54 : decode cX12_factory 54 = .ok (.invokevirtual 97, 3) := by decide +kernel
theorem dX12_factory_57 : decode cX12_factory 57 = .ok (.ifCond .eq 7, 3) := by decide +kernel
theorem dX12_factory_60 : decode cX12_factory 60 = .ok (.iconst 1, 1) := by decide +kernel
theorem dX12_factory_61 : decode cX12_factory 61 = .ok (.goto 4, 3) := by decide +kernel
theorem dX12_factory_64 : decode cX12_factory 64 = .ok (.iconst 0, 1) := by decide +kernel
theorem dX12_factory_65 : decode cX12_factory 65 = .ok (.ireturn, 1) := by decide +kernel
theorem dX12_type_0 : decode cX12_type 0 = .ok (.aload_n 0, 1) := by decide +kernel
theorem dX12_type_1 : decode cX12_type 1 = .ok (.aload_n 0, 1) := by decide +kernel
theorem dX12_type_2 : decode cX12_type 2 = .ok (.getfield 101, 3) := by decide +kernel
theorem dX12_type_5 : decode cX12_type 5 = .ok (.iload_n 1, 1) := by decide +kernel
theorem dX12_type_6 : decode cX12_type 6 = .ok (.invokevirtual 104, 3) := by decide +kernel
theorem dX12_type_9 : decode cX12_type 9 = .ok (.istore 6, 2) := by decide +kernel
theorem dX12_type_11 : decode cX12_type 11 = .ok (.aload_n 0, 1) := by decide +kernel
theorem dX12_type_12 : decode cX12_type 12 = .ok (.iload 6, 2) := by decide +kernel
theorem dX12_type_14 : decode cX12_type 14 = .ok (.iload_n 2, 1) := by decide +kernel
theorem dX12_type_15 : decode cX12_type 15 = .ok (.invokevirtual 104, 3) := by decide +kernel
theorem dX12_type_18 : decode cX12_type 18 = .ok (.istore 6, 2) := by decide +kernel
theorem dX12_type_20 : decode cX12_type 20 = .ok (.aload_n 0, 1) := by decide +kernel
theorem dX12_type_21 : decode cX12_type 21 = .ok (.iload 6, 2) := by decide +kernel
theorem dX12_type_23 : decode cX12_type 23 = .ok (.iload_n 3, 1) := by decide +kernel
theorem dX12_type_24 : decode cX12_type 24 = .ok (.invokevirtual 104, 3) := by decide +kernel
theorem dX12_type_27 : decode cX12_type 27 = .ok (.istore 6, 2) := by decide +kernel
theorem dX12_type_29 : decode cX12_type 29 = .ok (.aload_n 0, 1) := by decide +kernel
theorem dX12_type_30 : decode cX12_type 30 = .ok (.iload 6, 2) := by decide +kernel
theorem dX12_type_32 : decode cX12_type 32 = .ok (.iload 4, 2) := by decide +kernel
theorem dX12_type_34 : decode cX12_type 34 = .ok (.invokevirtual 104, 3) := by decide +kernel
theorem dX12_type_37 : decode cX12_type 37 = .ok (.istore 6, 2) := by decide +kernel
theorem dX12_type_39 : decode cX12_type 39 = .ok (.aload_n 0, 1) := by decide +kernel
theorem dX12_type_40 : decode cX12_type 40 = .ok (.iload 6, 2) := by decide +kernel
theorem dX12_type_42 : decode cX12_type 42 = .ok (.iload 5, 2) := by decide +kernel
theorem dX12_type_44 : decode cX12_type 44 = .ok (.invokevirtual 104, 3) := by decide +kernel
theorem dX12_type_47 : decode cX12_type 47 = .ok (.istore 6, 2) := by decide +kernel
theorem dX12_type_49 : decode cX12_type 49 = .ok (.iload 6, 2) := by decide +kernel
theorem dX12_type_51 : decode cX12_type 51 = .ok (.iconst (-1), 1) := by decide +kernel
theorem dX12_type_52 : decode cX12_type 52 = .ok (.if_icmp .eq 9, 3) := by decide +kernel
theorem dX12_type_55 : decode cX12_type 55 = .ok (.aload_n 0, 1) := by decide +kernel
theorem dX12_type_56 : decode cX12_type 56 = .ok (.iload 6, 2) := by decide +kernel
theorem dX12_type_58 : decode cX12_type 58 = .ok (.putfield 101, 3) := by decide +kernel
theorem dX12_type_61 : decode cX12_type 61 = .ok (.iload 6, 2) := by decide +kernel
theorem dX12_type_63 : decode cX12_type 63 = .ok (.ireturn, 1) := by decide +kernel
theorem dX12_read_0 : decode cX12_read 0 = .ok (.aload_n 0, 1) := by decide +kernel
theorem dX12_read_1 : decode cX12_read 1 = .ok (.getfield 64, 3) := by decide +kernel
theorem dX12_read_4 : decode cX12_read 4 = .ok (.invokevirtual 108, 3) := by decide +kernel
theorem dX12_read_7 : decode cX12_read 7 = .ok (.aload_n 0, 1) := by decide +kernel
theorem dX12_read_8 : decode cX12_read 8 = .ok (.iconst 1, 1) := by decide +kernel
theorem dX12_read_9 : decode cX12_read 9 = .ok (.putfield 111, 3) := by decide +kernel
theorem dX12_read_12 : decode cX12_read 12 = .ok (.aload_n 0, 1) := by decide +kernel
theorem dX12_read_13 : decode cX12_read 13 = .ok (.aload_n 0, 1) := by decide +kernel
theorem dX12_read_14 : decode cX12_read 14 = .ok (.getfield 34, 3) := by decide +kernel
theorem dX12_read_17 : decode cX12_read 17 = .ok (.aload_n 0, 1) := by decide +kernel
theorem dX12_read_18 : decode cX12_read 18 = .ok (.getfield 18, 3) := by decide +kernel
theorem dX12_read_21 : decode cX12_read 21 = .ok (.aload_n 0, 1) := by decide +kernel
theorem dX12_read_22 : decode cX12_read 22 = .ok (.getfield 101, 3) := by decide +kernel
theorem dX12_read_25 : decode cX12_read 25 = .ok (.invokevirtual 114, 3) := by decide +kernel
theorem dX12_read_28 : decode cX12_read 28 = .ok (.putfield 68, 3) := by decide +kernel
theorem dX12_read_31 : decode cX12_read 31 = .ok (.aload_n 0, 1) := by decide +kernel
theorem dX12_read_32 : decode cX12_read 32 = .ok (.iconst 0, 1) := by decide +kernel
theorem dX12_read_33 : decode cX12_read 33 = .ok (.putfield 101, 3) := by decide +kernel
theorem dX12_read_36 : decode cX12_read 36 = .ok (.aload_n 0, 1) := by decide +kernel
theorem dX12_read_37 : decode cX12_read 37 = .ok (.getfield 68, 3) := by decide +kernel
theorem dX12_read_40 : decode cX12_read 40 = .ok (.iconst (-1), 1) := by decide +kernel
theorem dX12_read_41 : decode cX12_read 41 = .ok (.if_icmp .ne 19, 3) := by decide +kernel
theorem dX12_read_44 : decode cX12_read 44 = .ok (.aload_n 0, 1) := by decide +kernel
theorem dX12_read_45 : decode cX12_read 45 = .ok (.iconst 2, 1) := by decide +kernel
theorem dX12_read_46 : decode cX12_read 46 = .ok (.putfield 111, 3) := by decide +kernel
theorem dX12_read_49 : decode cX12_read 49 = .ok (.aload_n 0, 1) := by decide +kernel
theorem dX12_read_50 : decode cX12_read 50 = .ok (.aload_n 0, 1) := by decide +kernel
theorem dX12_read_51 : decode cX12_read 51 = .ok (.getfield 41, 3) := by decide +kernel
theorem dX12_read_54 : decode cX12_read 54 = .ok (.invokevirtual 118, 3) := by decide +kernel
theorem dX12_read_57 : decode cX12_read 57 = .ok (.putfield 68, 3) := by decide +kernel
theorem dX12_read_60 : decode cX12_read 60 = .ok (.aload_n 0, 1) := by decide +kernel
theorem dX12_read_61 : decode cX12_read 61 = .ok (.getfield 68, 3) := by decide +kernel
theorem dX12_read_64 : decode cX12_read 64 = .ok (.iconst (-1), 1) := by decide +kernel
theorem dX12_read_65 : decode cX12_read 65 = .ok (.if_icmp .ne 19, 3) := by decide +kernel
theorem dX12_read_68 : decode cX12_read 68 = .ok (.aload_n 0, 1) := by decide +kernel
theorem dX12_read_69 : decode cX12_read 69 = .ok (.iconst 3, 1) := by decide +kernel
theorem dX12_read_70 : decode cX12_read 70 = .ok (.putfield 111, 3) := by decide +kernel
theorem dX12_read_73 : decode cX12_read 73 = .ok (.aload_n 0, 1) := by decide +kernel
theorem dX12_read_74 : decode cX12_read 74 = .ok (.aload_n 0, 1) := by decide +kernel
theorem dX12_read_75 : decode cX12_read 75 = .ok (.getfield 48, 3) := by decide +kernel
theorem dX12_read_78 : decode cX12_read 78 = .ok (.invokevirtual 121, 3) := by decide +kernel
theorem dX12_read_81 : decode cX12_read 81 = .ok (.putfield 68, 3) := by decide +kernel
theorem dX12_read_84 : decode cX12_read 84 = .ok (.aload_n 0, 1) := by decide +kernel
theorem dX12_read_85 : decode cX12_read 85 = .ok (.aload_n 0, 1) := by decide +kernel
theorem dX12_read_86 : decode cX12_read 86 = .ok (.getfield 68, 3) := by decide +kernel
theorem dX12_read_89 : decode cX12_read 89 = .ok (.iconst (-1), 1) := by decide +kernel
theorem dX12_read_90 : decode cX12_read 90 = .ok (.if_icmp .ne 7, 3) := by decide +kernel
theorem dX12_read_93 : decode cX12_read 93 = .ok (.iconst 1, 1) := by decide +kernel
theorem dX12_read_94 : decode cX12_read 94 = .ok (.goto 4, 3) := by decide +kernel
theorem dX12_read_97 : decode cX12_read 97 = .ok (.iconst 0, 1) := by decide +kernel
theorem dX12_read_98 : decode cX12_read 98 = .ok (.putfield 122, 3) := by decide +kernel
theorem dX12_read_101 : decode cX12_read 101 = .ok (.aload_n 0, 1) := by decide +kernel
theorem dX12_read_102 : decode cX12_read 102 = .ok (.getfield 122, 3) := by decide +kernel
theorem dX12_read_105 : decode cX12_read 105 = .ok (.ifCond .ne 18, 3) := by decide +kernel
theorem dX12_read_108 : decode cX12_read 108 = .ok (.aload_n 0, 1) := by decide +kernel
theorem dX12_read_109 : decode cX12_read 109 = .ok (.getfield 48, 3) := by decide +kernel
theorem dX12_read_112 : decode cX12_read 112 = .ok (.invokevirtual 126, 3) := by decide +kernel
theorem dX12_read_115 : decode cX12_read 115 = .ok (.new 129, 3) := by decide +kernel
theorem dX12_read_118 : decode cX12_read 118 = .ok (.dup, 1) := by decide +kernel
theorem dX12_read_119 : decode cX12_read 119 = .ok (.invokespecial 131, 3) := by decide +kernel
theorem dX12_read_122 : decode cX12_read 122 = .ok (.athrow, 1) := by decide +kernel
theorem dX12_read_123 : decode cX12_read 123 = .ok (.aload_n 0, 1) := by decide +kernel
theorem dX12_read_124 : decode cX12_read 124 = .ok (.iconst 0, 1) := by decide +kernel
theorem dX12_read_125 : decode cX12_read 125 = .ok (.putfield 111, 3) := by decide +kernel
theorem dX12_read_128 : decode cX12_read 128 = .ok (.aload_n 0, 1) := by decide +kernel
theorem dX12_read_129 : decode cX12_read 129 = .ok (.getfield 48, 3) := by decide +kernel
theorem dX12_read_132 : decode cX12_read 132 = .ok (.invokevirtual 132, 3) := by decide +kernel
theorem dX12_read_135 : decode cX12_read 135 = .ok (.ireturn, 1) := by decide +kernel
theorem dX12_fault_0 : decode cX12_fault 0 = .ok (.iload_n 1, 1) := by decide +kernel
theorem dX12_fault_1 : decode cX12_fault 1 = .ok (.tableswitch 57 0 3 #[31, 36, 41, 49], 31) := by decide +kernel
theorem dX12_fault_32 : decode cX12_fault 32 = .ok (.aload_n 0, 1) := by decide +kernel
theorem dX12_fault_33 : decode cX12_fault 33 = .ok (.getfield 111, 3) := by decide +kernel
theorem dX12_fault_36 : decode cX12_fault 36 = .ok (.ireturn, 1) := by decide +kernel
theorem dX12_fault_37 : decode cX12_fault 37 = .ok (.aload_n 0, 1) := by decide +kernel
theorem dX12_fault_38 : decode cX12_fault 38 = .ok (.getfield 68, 3) := by decide +kernel
theorem dX12_fault_41 : decode cX12_fault 41 = .ok (.ireturn, 1) := by decide +kernel
theorem dX12_fault_42 : decode cX12_fault 42 = .ok (.aload_n 0, 1) := by decide +kernel
theorem dX12_fault_43 : decode cX12_fault 43 = .ok (.getfield 64, 3) := by decide +kernel
theorem dX12_fault_46 : decode cX12_fault 46 = .ok (.invokevirtual 135, 3) := by decide +kernel
theorem dX12_fault_49 : decode cX12_fault 49 = .ok (.ireturn, 1) := by decide +kernel
theorem dX12_fault_50 : decode cX12_fault 50 = .ok (.aload_n 0, 1) := by decide +kernel
theorem dX12_fault_51 : decode cX12_fault 51 = .ok (.getfield 64, 3) := by decide +kernel
theorem dX12_fault_54 : decode cX12_fault 54 = .ok (.invokevirtual 138, 3) := by decide +kernel
theorem dX12_fault_57 : decode cX12_fault 57 = .ok (.ireturn, 1) := by decide +kernel
theorem dX12_fault_58 : decode cX12_fault 58 = .ok (.iconst (-1), 1) := by decide +kernel
theorem dX12_fault_59 : decode cX12_fault 59 = .ok (.ireturn, 1) := by decide +kernel
theorem dX12_refresh_0 : decode cX12_refresh 0 = .ok (.aload_n 0, 1) := by decide +kernel
theorem dX12_refresh_1 : decode cX12_refresh 1 = .ok (.getfield 64, 3) := by decide +kernel
theorem dX12_refresh_4 : decode cX12_refresh 4 = .ok (.invokevirtual 141, 3) := by decide +kernel
theorem dX12_refresh_7 : decode cX12_refresh 7 = .ok (.aload_n 0, 1) := by decide +kernel
theorem dX12_refresh_8 : decode cX12_refresh 8 = .ok (.getfield 122, 3) := by decide +kernel
theorem dX12_refresh_11 : decode cX12_refresh 11 = .ok (.ifCond .ne 11, 3) := by decide +kernel
theorem dX12_refresh_14 : decode cX12_refresh 14 = .ok (.new 144, 3) := by decide +kernel
theorem dX12_refresh_17 : decode cX12_refresh 17 = .ok (.dup, 1) := by decide +kernel
theorem dX12_refresh_18 : decode cX12_refresh 18 = .ok (.invokespecial 146, 3) := by decide +kernel
theorem dX12_refresh_21 : decode cX12_refresh 21 = .ok (.athrow, 1) := by decide +kernel
theorem dX12_refresh_22 : decode cX12_refresh 22 = .ok (.aload_n 0, 1) := by decide +kernel
theorem dX12_refresh_23 : decode cX12_refresh 23 = .ok (.getfield 64, 3) := by decide +kernel
theorem dX12_refresh_26 : decode cX12_refresh 26 = .ok (.invokevirtual 147, 3) := by decide +kernel
theorem dX12_refresh_29 : decode cX12_refresh 29 = .ok (.ifCond .ne 11, 3) := by decide +kernel
theorem dX12_refresh_32 : decode cX12_refresh 32 = .ok (.new 151, 3) := by decide +kernel
theorem dX12_refresh_35 : decode cX12_refresh 35 = .ok (.dup, 1) := by decide +kernel
theorem dX12_refresh_36 : decode cX12_refresh 36 = .ok (.invokespecial 153, 3) := by decide +kernel
theorem dX12_refresh_39 : decode cX12_refresh 39 = .ok (.athrow, 1) := by decide +kernel
theorem dX12_refresh_40 : decode cX12_refresh 40 = .ok (.aload_n 0, 1) := by decide +kernel
theorem dX12_refresh_41 : decode cX12_refresh 41 = .ok (.getfield 64, 3) := by decide +kernel
theorem dX12_refresh_44 : decode cX12_refresh 44 = .ok (.invokevirtual 154, 3) := by decide +kernel
theorem dX12_refresh_47 : decode cX12_refresh 47 = .ok (.ireturn, 1) := by decide +kernel
theorem dX12_get_0 : decode cX12_get 0 = .ok (.aload_n 0, 1) := by decide +kernel
theorem dX12_get_1 : decode cX12_get 1 = .ok (.getfield 64, 3) := by decide +kernel
theorem dX12_get_4 : decode cX12_get 4 = .ok (.invokevirtual 141, 3) := by decide +kernel
theorem dX12_get_7 : decode cX12_get 7 = .ok (.aload_n 0, 1) := by decide +kernel
theorem dX12_get_8 : decode cX12_get 8 = .ok (.getfield 122, 3) := by decide +kernel
theorem dX12_get_11 : decode cX12_get 11 = .ok (.ifCond .ne 11, 3) := by decide +kernel
theorem dX12_get_14 : decode cX12_get 14 = .ok (.new 144, 3) := by decide +kernel
theorem dX12_get_17 : decode cX12_get 17 = .ok (.dup, 1) := by decide +kernel
theorem dX12_get_18 : decode cX12_get 18 = .ok (.invokespecial 146, 3) := by decide +kernel
theorem dX12_get_21 : decode cX12_get 21 = .ok (.athrow, 1) := by decide +kernel
theorem dX12_get_22 : decode cX12_get 22 = .ok (.aload_n 0, 1) := by decide +kernel
theorem dX12_get_23 : decode cX12_get 23 = .ok (.getfield 64, 3) := by decide +kernel
theorem dX12_get_26 : decode cX12_get 26 = .ok (.lload_n 1, 1) := by decide +kernel
theorem dX12_get_27 : decode cX12_get 27 = .ok (.invokestatic 157, 3) := by decide +kernel
theorem dX12_get_30 : decode cX12_get 30 = .ok (.invokevirtual 161, 3) := by decide +kernel
theorem dX12_get_33 : decode cX12_get 33 = .ok (.istore_n 3, 1) := by decide +kernel
theorem dX12_get_34 : decode cX12_get 34 = .ok (.iload_n 3, 1) := by decide +kernel
theorem dX12_get_35 : decode cX12_get 35 = .ok (.iconst (-1), 1) := by decide +kernel
theorem dX12_get_36 : decode cX12_get 36 = .ok (.if_icmp .ne 11, 3) := by decide +kernel
theorem dX12_get_39 : decode cX12_get 39 = .ok (.new 151, 3) := by decide +kernel
theorem dX12_get_42 : decode cX12_get 42 = .ok (.dup, 1) := by decide +kernel
theorem dX12_get_43 : decode cX12_get 43 = .ok (.invokespecial 153, 3) := by decide +kernel
theorem dX12_get_46 : decode cX12_get 46 = .ok (.athrow, 1) := by decide +kernel
theorem dX12_get_47 : decode cX12_get 47 = .ok (.iload_n 3, 1) := by decide +kernel
theorem dX12_get_48 : decode cX12_get 48 = .ok (.ireturn, 1) := by decide +kernel
theorem dX12_call_0 : decode cX12_call 0 = .ok (.aload_n 0, 1) := by decide +kernel
theorem dX12_call_1 : decode cX12_call 1 = .ok (.getfield 64, 3) := by decide +kernel
theorem dX12_call_4 : decode cX12_call 4 = .ok (.invokevirtual 141, 3) := by decide +kernel
theorem dX12_call_7 : decode cX12_call 7 = .ok (.aload_n 0, 1) := by decide +kernel
theorem dX12_call_8 : decode cX12_call 8 = .ok (.getfield 122, 3) := by decide +kernel
theorem dX12_call_11 : decode cX12_call 11 = .ok (.ifCond .ne 11, 3) := by decide +kernel
theorem dX12_call_14 : decode cX12_call 14 = .ok (.new 144, 3) := by decide +kernel
theorem dX12_call_17 : decode cX12_call 17 = .ok (.dup, 1) := by decide +kernel
theorem dX12_call_18 : decode cX12_call 18 = .ok (.invokespecial 146, 3) := by decide +kernel
theorem dX12_call_21 : decode cX12_call 21 = .ok (.athrow, 1) := by decide +kernel
theorem dX12_call_22 : decode cX12_call 22 = .ok (.aload_n 0, 1) := by decide +kernel
theorem dX12_call_23 : decode cX12_call 23 = .ok (.getfield 64, 3) := by decide +kernel
theorem dX12_call_26 : decode cX12_call 26 = .ok (.iload_n 1, 1) := by decide +kernel
theorem dX12_call_27 : decode cX12_call 27 = .ok (.iload_n 2, 1) := by decide +kernel
theorem dX12_call_28 : decode cX12_call 28 = .ok (.invokevirtual 165, 3) := by decide +kernel
theorem dX12_call_31 : decode cX12_call 31 = .ok (.astore_n 3, 1) := by decide +kernel
theorem dX12_call_32 : decode cX12_call 32 = .ok (.aload_n 3, 1) := by decide +kernel
theorem dX12_call_33 : decode cX12_call 33 = .ok (.ifnonnull 11, 3) := by decide +kernel
theorem dX12_call_36 : decode cX12_call 36 = .ok (.new 169, 3) := by decide +kernel
theorem dX12_call_39 : decode cX12_call 39 = .ok (.dup, 1) := by decide +kernel
theorem dX12_call_40 : decode cX12_call 40 = .ok (.invokespecial 171, 3) := by decide +kernel
theorem dX12_call_43 : decode cX12_call 43 = .ok (.athrow, 1) := by decide +kernel
theorem dX12_call_44 : decode cX12_call 44 = .ok (.aload_n 0, 1) := by decide +kernel
theorem dX12_call_45 : decode cX12_call 45 = .ok (.getfield 64, 3) := by decide +kernel
theorem dX12_call_48 : decode cX12_call 48 = .ok (.aload_n 3, 1) := by decide +kernel
theorem dX12_call_49 : decode cX12_call 49 = .ok (.getfield 172, 3) := by decide +kernel
theorem dX12_call_52 : decode cX12_call 52 = .ok (.invokevirtual 161, 3) := by decide +kernel
theorem dX12_call_55 : decode cX12_call 55 = .ok (.istore 4, 2) := by decide +kernel
theorem dX12_call_57 : decode cX12_call 57 = .ok (.iload 4, 2) := by decide +kernel
theorem dX12_call_59 : decode cX12_call 59 = .ok (.iconst (-1), 1) := by decide +kernel
theorem dX12_call_60 : decode cX12_call 60 = .ok (.if_icmp .ne 11, 3) := by decide +kernel
theorem dX12_call_63 : decode cX12_call 63 = .ok (.new 151, 3) := by decide +kernel
theorem dX12_call_66 : decode cX12_call 66 = .ok (.dup, 1) := by decide +kernel
theorem dX12_call_67 : decode cX12_call 67 = .ok (.invokespecial 153, 3) := by decide +kernel
theorem dX12_call_70 : decode cX12_call 70 = .ok (.athrow, 1) := by decide +kernel
theorem dX12_call_71 : decode cX12_call 71 = .ok (.iload 4, 2) := by decide +kernel
theorem dX12_call_73 : decode cX12_call 73 = .ok (.ireturn, 1) := by decide +kernel
theorem dX12_close_0 : decode cX12_close 0 = .ok (.aload_n 0, 1) := by decide +kernel
theorem dX12_close_1 : decode cX12_close 1 = .ok (.getfield 64, 3) := by decide +kernel
theorem dX12_close_4 : decode cX12_close 4 = .ok (.invokevirtual 178, 3) := by decide +kernel
theorem dX12_close_7 : decode cX12_close 7 = .ok (.aload_n 0, 1) := by decide +kernel
theorem dX12_close_8 : decode cX12_close 8 = .ok (.getfield 55, 3) := by decide +kernel
theorem dX12_close_11 : decode cX12_close 11 = .ok (.invokevirtual 181, 3) := by decide +kernel
theorem dX12_close_14 : decode cX12_close 14 = .ok (.ireturn, 1) := by decide +kernel
theorem dX12_events_0 : decode cX12_events 0 = .ok (.aload_n 0, 1) := by decide +kernel
theorem dX12_events_1 : decode cX12_events 1 = .ok (.getfield 55, 3) := by decide +kernel
theorem dX12_events_4 : decode cX12_events 4 = .ok (.invokevirtual 181, 3) := by decide +kernel
theorem dX12_events_7 : decode cX12_events 7 = .ok (.ireturn, 1) := by decide +kernel
theorem dX12_event_0 : decode cX12_event 0 = .ok (.aload_n 0, 1) := by decide +kernel
theorem dX12_event_1 : decode cX12_event 1 = .ok (.getfield 55, 3) := by decide +kernel
theorem dX12_event_4 : decode cX12_event 4 = .ok (.iload_n 1, 1) := by decide +kernel
theorem dX12_event_5 : decode cX12_event 5 = .ok (.iload_n 2, 1) := by decide +kernel
theorem dX12_event_6 : decode cX12_event 6 = .ok (.invokevirtual 182, 3) := by decide +kernel
theorem dX12_event_9 : decode cX12_event 9 = .ok (.ireturn, 1) := by decide +kernel
theorem dX12_object_0 : decode cX12_object 0 = .ok (.iload_n 2, 1) := by decide +kernel
theorem dX12_object_1 : decode cX12_object 1 = .ok (.ifCond .ne 12, 3) := by decide +kernel
theorem dX12_object_4 : decode cX12_object 4 = .ok (.aload_n 0, 1) := by decide +kernel
theorem dX12_object_5 : decode cX12_object 5 = .ok (.getfield 64, 3) := by decide +kernel
theorem dX12_object_8 : decode cX12_object 8 = .ok (.iload_n 1, 1) := by decide +kernel
theorem dX12_object_9 : decode cX12_object 9 = .ok (.invokevirtual 185, 3) := by decide +kernel
theorem dX12_object_12 : decode cX12_object 12 = .ok (.ireturn, 1) := by decide +kernel
theorem dX12_object_13 : decode cX12_object 13 = .ok (.iload_n 2, 1) := by decide +kernel
theorem dX12_object_14 : decode cX12_object 14 = .ok (.iconst 1, 1) := by decide +kernel
theorem dX12_object_15 : decode cX12_object 15 = .ok (.if_icmp .ne 14, 3) := by decide +kernel
theorem dX12_object_18 : decode cX12_object 18 = .ok (.aload_n 0, 1) := by decide +kernel
theorem dX12_object_19 : decode cX12_object 19 = .ok (.getfield 64, 3) := by decide +kernel
theorem dX12_object_22 : decode cX12_object 22 = .ok (.iload_n 1, 1) := by decide +kernel
theorem dX12_object_23 : decode cX12_object 23 = .ok (.invokevirtual 189, 3) := by decide +kernel
theorem dX12_object_26 : decode cX12_object 26 = .ok (.goto 4, 3) := by decide +kernel
theorem dX12_object_29 : decode cX12_object 29 = .ok (.iconst (-1), 1) := by decide +kernel
theorem dX12_object_30 : decode cX12_object 30 = .ok (.ireturn, 1) := by decide +kernel
theorem dX12_bean_0 : decode cX12_bean 0 = .ok (.iload_n 1, 1) := by decide +kernel
theorem dX12_bean_1 : decode cX12_bean 1 = .ok (.ifCond .lt 29, 3) := by decide +kernel
theorem dX12_bean_4 : decode cX12_bean 4 = .ok (.iload_n 1, 1) := by decide +kernel
theorem dX12_bean_5 : decode cX12_bean 5 = .ok (.aload_n 0, 1) := by decide +kernel
theorem dX12_bean_6 : decode cX12_bean 6 = .ok (.getfield 48, 3) := by decide +kernel
theorem dX12_bean_9 : decode cX12_bean 9 = .ok (.invokevirtual 132, 3) := by decide +kernel
theorem dX12_bean_12 : decode cX12_bean 12 = .ok (.if_icmp .ge 18, 3) := by decide +kernel
theorem dX12_bean_15 : decode cX12_bean 15 = .ok (.aload_n 0, 1) := by decide +kernel
theorem dX12_bean_16 : decode cX12_bean 16 = .ok (.getfield 48, 3) := by decide +kernel
theorem dX12_bean_19 : decode cX12_bean 19 = .ok (.iload_n 1, 1) := by decide +kernel
theorem dX12_bean_20 : decode cX12_bean 20 = .ok (.invokevirtual 192, 3) := by decide +kernel
theorem dX12_bean_23 : decode cX12_bean 23 = .ok (.iload_n 2, 1) := by decide +kernel
theorem dX12_bean_24 : decode cX12_bean 24 = .ok (.invokevirtual 196, 3) := by decide +kernel
theorem dX12_bean_27 : decode cX12_bean 27 = .ok (.goto 4, 3) := by decide +kernel
theorem dX12_bean_30 : decode cX12_bean 30 = .ok (.iconst (-1), 1) := by decide +kernel
theorem dX12_bean_31 : decode cX12_bean 31 = .ok (.ireturn, 1) := by decide +kernel
theorem dX12_isClass_0 : decode cX12_isClass 0 = .ok (.iload_n 0, 1) := by decide +kernel
theorem dX12_isClass_1 : decode cX12_isClass 1 = .ok (.ifCond .lt 13, 3) := by decide +kernel
theorem dX12_isClass_4 : decode cX12_isClass 4 = .ok (.iload_n 0, 1) := by decide +kernel
theorem dX12_isClass_5 : decode cX12_isClass 5 = .ok (.bipush 8, 2) := by decide +kernel
theorem dX12_isClass_7 : decode cX12_isClass 7 = .ok (.if_icmp .ge 7, 3) := by decide +kernel
theorem dX12_isClass_10 : decode cX12_isClass 10 = .ok (.iconst 1, 1) := by decide +kernel
theorem dX12_isClass_11 : decode cX12_isClass 11 = .ok (.goto 4, 3) := by decide +kernel
theorem dX12_isClass_14 : decode cX12_isClass 14 = .ok (.iconst 0, 1) := by decide +kernel
theorem dX12_isClass_15 : decode cX12_isClass 15 = .ok (.ireturn, 1) := by decide +kernel
theorem dX12_isLetter_0 : decode cX12_isLetter 0 = .ok (.iload_n 0, 1) := by decide +kernel
theorem dX12_isLetter_1 : decode cX12_isLetter 1 = .ok (.ifCond .lt 13, 3) := by decide +kernel
theorem dX12_isLetter_4 : decode cX12_isLetter 4 = .ok (.iload_n 0, 1) := by decide +kernel
theorem dX12_isLetter_5 : decode cX12_isLetter 5 = .ok (.bipush 26, 2) := by decide +kernel
theorem dX12_isLetter_7 : decode cX12_isLetter 7 = .ok (.if_icmp .ge 7, 3) := by decide +kernel
theorem dX12_isLetter_10 : decode cX12_isLetter 10 = .ok (.iconst 1, 1) := by decide +kernel
theorem dX12_isLetter_11 : decode cX12_isLetter 11 = .ok (.goto 4, 3) := by decide +kernel
theorem dX12_isLetter_14 : decode cX12_isLetter 14 = .ok (.iconst 0, 1) := by decide +kernel
theorem dX12_isLetter_15 : decode cX12_isLetter 15 = .ok (.ireturn, 1) := by decide +kernel
theorem dX12_isType_0 : decode cX12_isType 0 = .ok (.iload_n 0, 1) := by decide +kernel
theorem dX12_isType_1 : decode cX12_isType 1 = .ok (.ifCond .lt 8, 3) := by decide +kernel
theorem dX12_isType_4 : decode cX12_isType 4 = .ok (.iload_n 0, 1) := by decide +kernel
theorem dX12_isType_5 : decode cX12_isType 5 = .ok (.iconst 4, 1) := by decide +kernel
theorem dX12_isType_6 : decode cX12_isType 6 = .ok (.if_icmp .le 15, 3) := by decide +kernel
theorem dX12_isType_9 : decode cX12_isType 9 = .ok (.iload_n 0, 1) := by decide +kernel
theorem dX12_isType_10 : decode cX12_isType 10 = .ok (.bipush 8, 2) := by decide +kernel
theorem dX12_isType_12 : decode cX12_isType 12 = .ok (.if_icmp .lt 13, 3) := by decide +kernel
theorem dX12_isType_15 : decode cX12_isType 15 = .ok (.iload_n 0, 1) := by decide +kernel
theorem dX12_isType_16 : decode cX12_isType 16 = .ok (.bipush 16, 2) := by decide +kernel
theorem dX12_isType_18 : decode cX12_isType 18 = .ok (.if_icmp .ge 7, 3) := by decide +kernel
theorem dX12_isType_21 : decode cX12_isType 21 = .ok (.iconst 1, 1) := by decide +kernel
theorem dX12_isType_22 : decode cX12_isType 22 = .ok (.goto 4, 3) := by decide +kernel
theorem dX12_isType_25 : decode cX12_isType 25 = .ok (.iconst 0, 1) := by decide +kernel
theorem dX12_isType_26 : decode cX12_isType 26 = .ok (.ireturn, 1) := by decide +kernel
theorem dX12_areTypes_0 : decode cX12_areTypes 0 = .ok (.iload_n 0, 1) := by decide +kernel
theorem dX12_areTypes_1 : decode cX12_areTypes 1 = .ok (.ifCond .lt 48, 3) := by decide +kernel
theorem dX12_areTypes_4 : decode cX12_areTypes 4 = .ok (.iload_n 0, 1) := by decide +kernel
theorem dX12_areTypes_5 : decode cX12_areTypes 5 = .ok (.iconst 3, 1) := by decide +kernel
theorem dX12_areTypes_6 : decode cX12_areTypes 6 = .ok (.if_icmp .gt 43, 3) := by decide +kernel
theorem dX12_areTypes_9 : decode cX12_areTypes 9 = .ok (.iload_n 0, 1) := by decide +kernel
theorem dX12_areTypes_10 : decode cX12_areTypes 10 = .ok (.iconst 1, 1) := by decide +kernel
theorem dX12_areTypes_11 : decode cX12_areTypes 11 = .ok (.if_icmp .lt 10, 3) := by decide +kernel
theorem dX12_areTypes_14 : decode cX12_areTypes 14 = .ok (.iload_n 1, 1) := by decide +kernel
theorem dX12_areTypes_15 : decode cX12_areTypes 15 = .ok (.invokestatic 90, 3) := by decide +kernel
theorem dX12_areTypes_18 : decode cX12_areTypes 18 = .ok (.ifCond .eq 31, 3) := by decide +kernel
theorem dX12_areTypes_21 : decode cX12_areTypes 21 = .ok (.iload_n 0, 1) := by decide +kernel
theorem dX12_areTypes_22 : decode cX12_areTypes 22 = .ok (.iconst 2, 1) := by decide +kernel
theorem dX12_areTypes_23 : decode cX12_areTypes 23 = .ok (.if_icmp .lt 10, 3) := by decide +kernel
theorem dX12_areTypes_26 : decode cX12_areTypes 26 = .ok (.iload_n 2, 1) := by decide +kernel
theorem dX12_areTypes_27 : decode cX12_areTypes 27 = .ok (.invokestatic 90, 3) := by decide +kernel
theorem dX12_areTypes_30 : decode cX12_areTypes 30 = .ok (.ifCond .eq 19, 3) := by decide +kernel
theorem dX12_areTypes_33 : decode cX12_areTypes 33 = .ok (.iload_n 0, 1) := by decide +kernel
theorem dX12_areTypes_34 : decode cX12_areTypes 34 = .ok (.iconst 3, 1) := by decide +kernel
theorem dX12_areTypes_35 : decode cX12_areTypes 35 = .ok (.if_icmp .lt 10, 3) := by decide +kernel
theorem dX12_areTypes_38 : decode cX12_areTypes 38 = .ok (.iload_n 3, 1) := by decide +kernel
theorem dX12_areTypes_39 : decode cX12_areTypes 39 = .ok (.invokestatic 90, 3) := by decide +kernel
theorem dX12_areTypes_42 : decode cX12_areTypes 42 = .ok (.ifCond .eq 7, 3) := by decide +kernel
theorem dX12_areTypes_45 : decode cX12_areTypes 45 = .ok (.iconst 1, 1) := by decide +kernel
theorem dX12_areTypes_46 : decode cX12_areTypes 46 = .ok (.goto 4, 3) := by decide +kernel
theorem dX12_areTypes_49 : decode cX12_areTypes 49 = .ok (.iconst 0, 1) := by decide +kernel
theorem dX12_areTypes_50 : decode cX12_areTypes 50 = .ok (.ireturn, 1) := by decide +kernel
theorem dX12_typedBehind_0 : decode cX12_typedBehind 0 = .ok (.iload_n 1, 1) := by decide +kernel
theorem dX12_typedBehind_1 : decode cX12_typedBehind 1 = .ok (.iconst (-1), 1) := by decide +kernel
theorem dX12_typedBehind_2 : decode cX12_typedBehind 2 = .ok (.if_icmp .ne 5, 3) := by decide +kernel
theorem dX12_typedBehind_5 : decode cX12_typedBehind 5 = .ok (.iconst (-1), 1) := by decide +kernel
theorem dX12_typedBehind_6 : decode cX12_typedBehind 6 = .ok (.ireturn, 1) := by decide +kernel
theorem dX12_typedBehind_7 : decode cX12_typedBehind 7 = .ok (.iload_n 1, 1) := by decide +kernel
theorem dX12_typedBehind_8 : decode cX12_typedBehind 8 = .ok (.istore_n 3, 1) := by decide +kernel
theorem dX12_typedBehind_9 : decode cX12_typedBehind 9 = .ok (.bipush 24, 2) := by decide +kernel
theorem dX12_typedBehind_11 : decode cX12_typedBehind 11 = .ok (.istore 4, 2) := by decide +kernel
theorem dX12_typedBehind_13 : decode cX12_typedBehind 13 = .ok (.iload 4, 2) := by decide +kernel
theorem dX12_typedBehind_15 : decode cX12_typedBehind 15 = .ok (.ifCond .lt 71, 3) := by decide +kernel
theorem dX12_typedBehind_18 : decode cX12_typedBehind 18 = .ok (.iload_n 2, 1) := by decide +kernel
theorem dX12_typedBehind_19 : decode cX12_typedBehind 19 = .ok (.iload 4, 2) := by decide +kernel
theorem dX12_typedBehind_21 : decode cX12_typedBehind 21 = .ok (.iushr, 1) := by decide +kernel
theorem dX12_typedBehind_22 : decode cX12_typedBehind 22 = .ok (.sipush 255, 3) := by decide +kernel
theorem dX12_typedBehind_25 : decode cX12_typedBehind 25 = .ok (.iand, 1) := by decide +kernel
theorem dX12_typedBehind_26 : decode cX12_typedBehind 26 = .ok (.istore 5, 2) := by decide +kernel
theorem dX12_typedBehind_28 : decode cX12_typedBehind 28 = .ok (.iload 5, 2) := by decide +kernel
theorem dX12_typedBehind_30 : decode cX12_typedBehind 30 = .ok (.ifCond .ne 6, 3) := by decide +kernel
theorem dX12_typedBehind_33 : decode cX12_typedBehind 33 = .ok (.goto 47, 3) := by decide +kernel
theorem dX12_typedBehind_36 : decode cX12_typedBehind 36 = .ok (.iload 5, 2) := by decide +kernel
theorem dX12_typedBehind_38 : decode cX12_typedBehind 38 = .ok (.bipush 10, 2) := by decide +kernel
theorem dX12_typedBehind_40 : decode cX12_typedBehind 40 = .ok (.if_icmp .eq 17, 3) := by decide +kernel
theorem dX12_typedBehind_43 : decode cX12_typedBehind 43 = .ok (.iload 5, 2) := by decide +kernel
theorem dX12_typedBehind_45 : decode cX12_typedBehind 45 = .ok (.bipush 32, 2) := by decide +kernel
theorem dX12_typedBehind_47 : decode cX12_typedBehind 47 = .ok (.if_icmp .lt 19, 3) := by decide +kernel
theorem dX12_typedBehind_50 : decode cX12_typedBehind 50 = .ok (.iload 5, 2) := by decide +kernel
theorem dX12_typedBehind_52 : decode cX12_typedBehind 52 = .ok (.bipush 126, 2) := by decide +kernel
theorem dX12_typedBehind_54 : decode cX12_typedBehind 54 = .ok (.if_icmp .gt 12, 3) := by decide +kernel
theorem dX12_typedBehind_57 : decode cX12_typedBehind 57 = .ok (.iload_n 3, 1) := by decide +kernel
theorem dX12_typedBehind_58 : decode cX12_typedBehind 58 = .ok (.aload_n 0, 1) := by decide +kernel
theorem dX12_typedBehind_59 : decode cX12_typedBehind 59 = .ok (.getfield 18, 3) := by decide +kernel
theorem dX12_typedBehind_62 : decode cX12_typedBehind 62 = .ok (.arraylength, 1) := by decide +kernel
theorem dX12_typedBehind_63 : decode cX12_typedBehind 63 = .ok (.if_icmp .lt 5, 3) := by decide +kernel
theorem dX12_typedBehind_66 : decode cX12_typedBehind 66 = .ok (.iconst (-1), 1) := by decide +kernel
theorem dX12_typedBehind_67 : decode cX12_typedBehind 67 = .ok (.ireturn, 1) := by decide +kernel
theorem dX12_typedBehind_68 : decode cX12_typedBehind 68 = .ok (.aload_n 0, 1) := by decide +kernel
theorem dX12_typedBehind_69 : decode cX12_typedBehind 69 = .ok (.getfield 18, 3) := by decide +kernel
theorem dX12_typedBehind_72 : decode cX12_typedBehind 72 = .ok (.iload_n 3, 1) := by decide +kernel
theorem dX12_typedBehind_73 : decode cX12_typedBehind 73 = .ok (.iload 5, 2) := by decide +kernel
theorem dX12_typedBehind_75 : decode cX12_typedBehind 75 = .ok (.i2c, 1) := by decide +kernel
theorem dX12_typedBehind_76 : decode cX12_typedBehind 76 = .ok (.castore, 1) := by decide +kernel
theorem dX12_typedBehind_77 : decode cX12_typedBehind 77 = .ok (.iinc 3 1, 3) := by decide +kernel
theorem dX12_typedBehind_80 : decode cX12_typedBehind 80 = .ok (.iinc 4 (-8), 3) := by decide +kernel
theorem dX12_typedBehind_83 : decode cX12_typedBehind 83 = .ok (.goto (-70), 3) := by decide +kernel
theorem dX12_typedBehind_86 : decode cX12_typedBehind 86 = .ok (.iload_n 3, 1) := by decide +kernel
theorem dX12_typedBehind_87 : decode cX12_typedBehind 87 = .ok (.ireturn, 1) := by decide +kernel
theorem dX8_init_0 : decode cX8_init 0 = .ok (.aload_n 0, 1) := by decide +kernel
theorem dX8_init_1 : decode cX8_init 1 = .ok (.invokespecial 3, 3) := by decide +kernel
theorem dX8_init_4 : decode cX8_init 4 = .ok (.aload_n 0, 1) := by decide +kernel
theorem dX8_init_5 : decode cX8_init 5 = .ok (.iload_n 1, 1) := by decide +kernel
theorem dX8_init_6 : decode cX8_init 6 = .ok (.putfield 9, 3) := by decide +kernel
theorem dX8_init_9 : decode cX8_init 9 = .ok (.aload_n 0, 1) := by decide +kernel
theorem dX8_init_10 : decode cX8_init 10 = .ok (.iload_n 2, 1) := by decide +kernel
theorem dX8_init_11 : decode cX8_init 11 = .ok (.putfield 15, 3) := by decide +kernel
theorem dX8_init_14 : decode cX8_init 14 = .ok (.aload_n 0, 1) := by decide +kernel
theorem dX8_init_15 : decode cX8_init 15 = .ok (.iconst 3, 1) := by decide +kernel
theorem dX8_init_16 : decode cX8_init 16 = .ok (.newarray .int, 2) := by decide +kernel
theorem dX8_init_18 : decode cX8_init 18 = .ok (.putfield 18, 3) := by decide +kernel
theorem dX8_init_21 : decode cX8_init 21 = .ok (.return_, 1) := by decide +kernel
theorem dX8_describe_0 : decode cX8_describe 0 = .ok (.aload_n 0, 1) := by decide +kernel
theorem dX8_describe_1 : decode cX8_describe 1 = .ok (.iload_n 1, 1) := by decide +kernel
theorem dX8_describe_2 : decode cX8_describe 2 = .ok (.putfield 22, 3) := by decide +kernel
theorem dX8_describe_5 : decode cX8_describe 5 = .ok (.aload_n 0, 1) := by decide +kernel
theorem dX8_describe_6 : decode cX8_describe 6 = .ok (.iload_n 2, 1) := by decide +kernel
theorem dX8_describe_7 : decode cX8_describe 7 = .ok (.putfield 25, 3) := by decide +kernel
theorem dX8_describe_10 : decode cX8_describe 10 = .ok (.aload_n 0, 1) := by decide +kernel
theorem dX8_describe_11 : decode cX8_describe 11 = .ok (.iload_n 3, 1) := by decide +kernel
theorem dX8_describe_12 : decode cX8_describe 12 = .ok (.putfield 29, 3) := by decide +kernel
theorem dX8_describe_15 : decode cX8_describe 15 = .ok (.return_, 1) := by decide +kernel
theorem dX8_setTypes_0 : decode cX8_setTypes 0 = .ok (.aload_n 0, 1) := by decide +kernel
theorem dX8_setTypes_1 : decode cX8_setTypes 1 = .ok (.iload_n 1, 1) := by decide +kernel
theorem dX8_setTypes_2 : decode cX8_setTypes 2 = .ok (.putfield 32, 3) := by decide +kernel
theorem dX8_setTypes_5 : decode cX8_setTypes 5 = .ok (.aload_n 0, 1) := by decide +kernel
theorem dX8_setTypes_6 : decode cX8_setTypes 6 = .ok (.getfield 18, 3) := by decide +kernel
theorem dX8_setTypes_9 : decode cX8_setTypes 9 = .ok (.iconst 0, 1) := by decide +kernel
theorem dX8_setTypes_10 : decode cX8_setTypes 10 = .ok (.iload_n 2, 1) := by decide +kernel
theorem dX8_setTypes_11 : decode cX8_setTypes 11 = .ok (.iastore, 1) := by decide +kernel
theorem dX8_setTypes_12 : decode cX8_setTypes 12 = .ok (.aload_n 0, 1) := by decide +kernel
theorem dX8_setTypes_13 : decode cX8_setTypes 13 = .ok (.getfield 18, 3) := by decide +kernel
theorem dX8_setTypes_16 : decode cX8_setTypes 16 = .ok (.iconst 1, 1) := by decide +kernel
theorem dX8_setTypes_17 : decode cX8_setTypes 17 = .ok (.iload_n 3, 1) := by decide +kernel
theorem dX8_setTypes_18 : decode cX8_setTypes 18 = .ok (.iastore, 1) := by decide +kernel
theorem dX8_setTypes_19 : decode cX8_setTypes 19 = .ok (.aload_n 0, 1) := by decide +kernel
theorem dX8_setTypes_20 : decode cX8_setTypes 20 = .ok (.getfield 18, 3) := by decide +kernel
theorem dX8_setTypes_23 : decode cX8_setTypes 23 = .ok (.iconst 2, 1) := by decide +kernel
theorem dX8_setTypes_24 : decode cX8_setTypes 24 = .ok (.iload 4, 2) := by decide +kernel
theorem dX8_setTypes_26 : decode cX8_setTypes 26 = .ok (.iastore, 1) := by decide +kernel
theorem dX8_setTypes_27 : decode cX8_setTypes 27 = .ok (.return_, 1) := by decide +kernel
theorem dX2_init_0 : decode cX2_init 0 = .ok (.aload_n 0, 1) := by decide +kernel
theorem dX2_init_1 : decode cX2_init 1 = .ok (.invokespecial 3, 3) := by decide +kernel
theorem dX2_init_4 : decode cX2_init 4 = .ok (.aload_n 0, 1) := by decide +kernel
theorem dX2_init_5 : decode cX2_init 5 = .ok (.iload_n 1, 1) := by decide +kernel
theorem dX2_init_6 : decode cX2_init 6 = .ok (.putfield 9, 3) := by decide +kernel
theorem dX2_init_9 : decode cX2_init 9 = .ok (.aload_n 0, 1) := by decide +kernel
theorem dX2_init_10 : decode cX2_init 10 = .ok (.iconst 4, 1) := by decide +kernel
theorem dX2_init_11 : decode cX2_init 11 = .ok (.anewarray 15, 3) := by decide +kernel
theorem dX2_init_14 : decode cX2_init 14 = .ok (.putfield 17, 3) := by decide +kernel
theorem dX2_init_17 : decode cX2_init 17 = .ok (.aload_n 0, 1) := by decide +kernel
theorem dX2_init_18 : decode cX2_init 18 = .ok (.iconst 4, 1) := by decide +kernel
theorem dX2_init_19 : decode cX2_init 19 = .ok (.anewarray 15, 3) := by decide +kernel
theorem dX2_init_22 : decode cX2_init 22 = .ok (.putfield 21, 3) := by decide +kernel
theorem dX2_init_25 : decode cX2_init 25 = .ok (.iconst 0, 1) := by decide +kernel
theorem dX2_init_26 : decode cX2_init 26 = .ok (.istore_n 2, 1) := by decide +kernel
theorem dX2_init_27 : decode cX2_init 27 = .ok (.iload_n 2, 1) := by decide +kernel
theorem dX2_init_28 : decode cX2_init 28 = .ok (.iconst 4, 1) := by decide +kernel
theorem dX2_init_29 : decode cX2_init 29 = .ok (.if_icmp .ge 39, 3) := by decide +kernel
theorem dX2_init_32 : decode cX2_init 32 = .ok (.aload_n 0, 1) := by decide +kernel
theorem dX2_init_33 : decode cX2_init 33 = .ok (.getfield 17, 3) := by decide +kernel
theorem dX2_init_36 : decode cX2_init 36 = .ok (.iload_n 2, 1) := by decide +kernel
theorem dX2_init_37 : decode cX2_init 37 = .ok (.new 15, 3) := by decide +kernel
theorem dX2_init_40 : decode cX2_init 40 = .ok (.dup, 1) := by decide +kernel
theorem dX2_init_41 : decode cX2_init 41 = .ok (.iload_n 1, 1) := by decide +kernel
theorem dX2_init_42 : decode cX2_init 42 = .ok (.iload_n 2, 1) := by decide +kernel
theorem dX2_init_43 : decode cX2_init 43 = .ok (.invokespecial 24, 3) := by decide +kernel
theorem dX2_init_46 : decode cX2_init 46 = .ok (.aastore, 1) := by decide +kernel
theorem dX2_init_47 : decode cX2_init 47 = .ok (.aload_n 0, 1) := by decide +kernel
theorem dX2_init_48 : decode cX2_init 48 = .ok (.getfield 21, 3) := by decide +kernel
theorem dX2_init_51 : decode cX2_init 51 = .ok (.iload_n 2, 1) := by decide +kernel
theorem dX2_init_52 : decode cX2_init 52 = .ok (.new 15, 3) := by decide +kernel
theorem dX2_init_55 : decode cX2_init 55 = .ok (.dup, 1) := by decide +kernel
theorem dX2_init_56 : decode cX2_init 56 = .ok (.iload_n 1, 1) := by decide +kernel
theorem dX2_init_57 : decode cX2_init 57 = .ok (.iload_n 2, 1) := by decide +kernel
theorem dX2_init_58 : decode cX2_init 58 = .ok (.invokespecial 24, 3) := by decide +kernel
theorem dX2_init_61 : decode cX2_init 61 = .ok (.aastore, 1) := by decide +kernel
theorem dX2_init_62 : decode cX2_init 62 = .ok (.iinc 2 1, 3) := by decide +kernel
theorem dX2_init_65 : decode cX2_init 65 = .ok (.goto (-38), 3) := by decide +kernel
theorem dX2_init_68 : decode cX2_init 68 = .ok (.aload_n 0, 1) := by decide +kernel
theorem dX2_init_69 : decode cX2_init 69 = .ok (.bipush 26, 2) := by decide +kernel
theorem dX2_init_71 : decode cX2_init 71 = .ok (.newarray .int, 2) := by decide +kernel
theorem dX2_init_73 : decode cX2_init 73 = .ok (.putfield 27, 3) := by decide +kernel
theorem dX2_init_76 : decode cX2_init 76 = .ok (.iconst 0, 1) := by decide +kernel
theorem dX2_init_77 : decode cX2_init 77 = .ok (.istore_n 2, 1) := by decide +kernel
theorem dX2_init_78 : decode cX2_init 78 = .ok (.iload_n 2, 1) := by decide +kernel
theorem dX2_init_79 : decode cX2_init 79 = .ok (.bipush 26, 2) := by decide +kernel
theorem dX2_init_81 : decode cX2_init 81 = .ok (.if_icmp .ge 16, 3) := by decide +kernel
theorem dX2_init_84 : decode cX2_init 84 = .ok (.aload_n 0, 1) := by decide +kernel
theorem dX2_init_85 : decode cX2_init 85 = .ok (.getfield 27, 3) := by decide +kernel
theorem dX2_init_88 : decode cX2_init 88 = .ok (.iload_n 2, 1) := by decide +kernel
theorem dX2_init_89 : decode cX2_init 89 = .ok (.iconst (-1), 1) := by decide +kernel
theorem dX2_init_90 : decode cX2_init 90 = .ok (.iastore, 1) := by decide +kernel
theorem dX2_init_91 : decode cX2_init 91 = .ok (.iinc 2 1, 3) := by decide +kernel
theorem dX2_init_94 : decode cX2_init 94 = .ok (.goto (-16), 3) := by decide +kernel
theorem dX2_init_97 : decode cX2_init 97 = .ok (.return_, 1) := by decide +kernel
theorem dX2_begin_0 : decode cX2_begin 0 = .ok (.aload_n 0, 1) := by decide +kernel
theorem dX2_begin_1 : decode cX2_begin 1 = .ok (.aload_n 1, 1) := by decide +kernel
theorem dX2_begin_2 : decode cX2_begin 2 = .ok (.putfield 31, 3) := by decide +kernel
theorem dX2_begin_5 : decode cX2_begin 5 = .ok (.aload_n 0, 1) := by decide +kernel
theorem dX2_begin_6 : decode cX2_begin 6 = .ok (.iconst 0, 1) := by decide +kernel
theorem dX2_begin_7 : decode cX2_begin 7 = .ok (.putfield 35, 3) := by decide +kernel
theorem dX2_begin_10 : decode cX2_begin 10 = .ok (.aload_n 0, 1) := by decide +kernel
theorem dX2_begin_11 : decode cX2_begin 11 = .ok (.iconst 0, 1) := by decide +kernel
theorem dX2_begin_12 : decode cX2_begin 12 = .ok (.putfield 38, 3) := by decide +kernel
theorem dX2_begin_15 : decode cX2_begin 15 = .ok (.aload_n 0, 1) := by decide +kernel
theorem dX2_begin_16 : decode cX2_begin 16 = .ok (.iconst 0, 1) := by decide +kernel
theorem dX2_begin_17 : decode cX2_begin 17 = .ok (.putfield 41, 3) := by decide +kernel
theorem dX2_begin_20 : decode cX2_begin 20 = .ok (.iconst 0, 1) := by decide +kernel
theorem dX2_begin_21 : decode cX2_begin 21 = .ok (.istore_n 2, 1) := by decide +kernel
theorem dX2_begin_22 : decode cX2_begin 22 = .ok (.iload_n 2, 1) := by decide +kernel
theorem dX2_begin_23 : decode cX2_begin 23 = .ok (.bipush 26, 2) := by decide +kernel
theorem dX2_begin_25 : decode cX2_begin 25 = .ok (.if_icmp .ge 16, 3) := by decide +kernel
theorem dX2_begin_28 : decode cX2_begin 28 = .ok (.aload_n 0, 1) := by decide +kernel
theorem dX2_begin_29 : decode cX2_begin 29 = .ok (.getfield 27, 3) := by decide +kernel
theorem dX2_begin_32 : decode cX2_begin 32 = .ok (.iload_n 2, 1) := by decide +kernel
theorem dX2_begin_33 : decode cX2_begin 33 = .ok (.iconst (-1), 1) := by decide +kernel
theorem dX2_begin_34 : decode cX2_begin 34 = .ok (.iastore, 1) := by decide +kernel
theorem dX2_begin_35 : decode cX2_begin 35 = .ok (.iinc 2 1, 3) := by decide +kernel
theorem dX2_begin_38 : decode cX2_begin 38 = .ok (.goto (-16), 3) := by decide +kernel
theorem dX2_begin_41 : decode cX2_begin 41 = .ok (.return_, 1) := by decide +kernel
theorem dX2_addConstructor_0 : decode cX2_addConstructor 0 = .ok (.aload_n 0, 1) := by decide +kernel
theorem dX2_addConstructor_1 : decode cX2_addConstructor 1 = .ok (.getfield 35, 3) := by decide +kernel
theorem dX2_addConstructor_4 : decode cX2_addConstructor 4 = .ok (.iconst 4, 1) := by decide +kernel
theorem dX2_addConstructor_5 : decode cX2_addConstructor 5 = .ok (.if_icmp .lt 5, 3) := by decide +kernel
theorem dX2_addConstructor_8 : decode cX2_addConstructor 8 = .ok (.iconst 0, 1) := by decide +kernel
theorem dX2_addConstructor_9 : decode cX2_addConstructor 9 = .ok (.ireturn, 1) := by decide +kernel
theorem dX2_addConstructor_10 : decode cX2_addConstructor 10 = .ok (.aload_n 0, 1) := by decide +kernel
theorem dX2_addConstructor_11 : decode cX2_addConstructor 11 = .ok (.getfield 17, 3) := by decide +kernel
theorem dX2_addConstructor_14 : decode cX2_addConstructor 14 = .ok (.aload_n 0, 1) := by decide +kernel
theorem dX2_addConstructor_15 : decode cX2_addConstructor 15 = .ok (.getfield 35, 3) := by decide +kernel
theorem dX2_addConstructor_18 : decode cX2_addConstructor 18 = .ok (.aaload, 1) := by decide +kernel
theorem dX2_addConstructor_19 : decode cX2_addConstructor 19 = .ok (.iconst (-1), 1) := by decide +kernel
theorem dX2_addConstructor_20 : decode cX2_addConstructor 20 = .ok (.iconst 0, 1) := by decide +kernel
theorem dX2_addConstructor_21 : decode cX2_addConstructor 21 = .ok (.aload_n 0, 1) := by decide +kernel
theorem dX2_addConstructor_22 : decode cX2_addConstructor 22 = .ok (.getfield 9, 3) := by decide +kernel
theorem dX2_addConstructor_25 : decode cX2_addConstructor 25 = .ok (.invokevirtual 44, 3) := by decide +kernel
theorem dX2_addConstructor_28 : decode cX2_addConstructor 28 = .ok (.aload_n 0, 1) := by decide +kernel
theorem dX2_addConstructor_29 : decode cX2_addConstructor 29 = .ok (.getfield 17, 3) := by decide +kernel
theorem dX2_addConstructor_32 : decode cX2_addConstructor 32 = .ok (.aload_n 0, 1) := by decide +kernel
theorem dX2_addConstructor_33 : decode cX2_addConstructor 33 = .ok (.getfield 35, 3) := by decide +kernel
theorem dX2_addConstructor_36 : decode cX2_addConstructor 36 = .ok (.aaload, 1) := by decide +kernel
theorem dX2_addConstructor_37 : decode cX2_addConstructor 37 = .ok (.iload_n 1, 1) := by decide +kernel
theorem dX2_addConstructor_38 : decode cX2_addConstructor 38 = .ok (.iload_n 2, 1) := by decide +kernel
theorem dX2_addConstructor_39 : decode cX2_addConstructor 39 = .ok (.iload_n 3, 1) := by decide +kernel
theorem dX2_addConstructor_40 : decode cX2_addConstructor 40 = .ok (.iload 4, 2) := by decide +kernel
theorem dX2_addConstructor_42 : decode cX2_addConstructor 42 = .ok (.invokevirtual 48, 3) := by decide +kernel
theorem dX2_addConstructor_45 : decode cX2_addConstructor 45 = .ok (.aload_n 0, 1) := by decide +kernel
theorem dX2_addConstructor_46 : decode cX2_addConstructor 46 = .ok (.dup, 1) := by decide +kernel
theorem dX2_addConstructor_47 : decode cX2_addConstructor 47 = .ok (.getfield 35, 3) := by decide +kernel
theorem dX2_addConstructor_50 : decode cX2_addConstructor 50 = .ok (.iconst 1, 1) := by decide +kernel
theorem dX2_addConstructor_51 : decode cX2_addConstructor 51 = .ok (.iadd, 1) := by decide +kernel
theorem dX2_addConstructor_52 : decode cX2_addConstructor 52 = .ok (.putfield 35, 3) := by decide +kernel
theorem dX2_addConstructor_55 : decode cX2_addConstructor 55 = .ok (.iconst 1, 1) := by decide +kernel
theorem dX2_addConstructor_56 : decode cX2_addConstructor 56 = .ok (.ireturn, 1) := by decide +kernel
theorem dX2_addFactory_0 : decode cX2_addFactory 0 = .ok (.aload_n 0, 1) := by decide +kernel
theorem dX2_addFactory_1 : decode cX2_addFactory 1 = .ok (.getfield 38, 3) := by decide +kernel
theorem dX2_addFactory_4 : decode cX2_addFactory 4 = .ok (.iconst 4, 1) := by decide +kernel
theorem dX2_addFactory_5 : decode cX2_addFactory 5 = .ok (.if_icmp .lt 5, 3) := by decide +kernel
theorem dX2_addFactory_8 : decode cX2_addFactory 8 = .ok (.iconst 0, 1) := by decide +kernel
theorem dX2_addFactory_9 : decode cX2_addFactory 9 = .ok (.ireturn, 1) := by decide +kernel
theorem dX2_addFactory_10 : decode cX2_addFactory 10 = .ok (.aload_n 0, 1) := by decide +kernel
theorem dX2_addFactory_11 : decode cX2_addFactory 11 = .ok (.getfield 21, 3) := by decide +kernel
theorem dX2_addFactory_14 : decode cX2_addFactory 14 = .ok (.aload_n 0, 1) := by decide +kernel
theorem dX2_addFactory_15 : decode cX2_addFactory 15 = .ok (.getfield 38, 3) := by decide +kernel
theorem dX2_addFactory_18 : decode cX2_addFactory 18 = .ok (.aaload, 1) := by decide +kernel
theorem dX2_addFactory_19 : decode cX2_addFactory 19 = .ok (.iload_n 1, 1) := by decide +kernel
theorem dX2_addFactory_20 : decode cX2_addFactory 20 = .ok (.iload_n 2, 1) := by decide +kernel
theorem dX2_addFactory_21 : decode cX2_addFactory 21 = .ok (.iload_n 3, 1) := by decide +kernel
theorem dX2_addFactory_22 : decode cX2_addFactory 22 = .ok (.invokevirtual 44, 3) := by decide +kernel
theorem dX2_addFactory_25 : decode cX2_addFactory 25 = .ok (.aload_n 0, 1) := by decide +kernel
theorem dX2_addFactory_26 : decode cX2_addFactory 26 = .ok (.getfield 21, 3) := by decide +kernel
theorem dX2_addFactory_29 : decode cX2_addFactory 29 = .ok (.aload_n 0, 1) := by decide +kernel
theorem dX2_addFactory_30 : decode cX2_addFactory 30 = .ok (.getfield 38, 3) := by decide +kernel
theorem dX2_addFactory_33 : decode cX2_addFactory 33 = .ok (.aaload, 1) := by decide +kernel
theorem dX2_addFactory_34 : decode cX2_addFactory 34 = .ok (.iload 4, 2) := by decide +kernel
theorem dX2_addFactory_36 : decode cX2_addFactory 36 = .ok (.iload 5, 2) := by decide +kernel
theorem dX2_addFactory_38 : decode cX2_addFactory 38 = .ok (.iload 6, 2) := by decide +kernel
theorem dX2_addFactory_40 : decode cX2_addFactory 40 = .ok (.iload 7, 2) := by decide +kernel
theorem dX2_addFactory_42 : decode cX2_addFactory 42 = .ok (.invokevirtual 48, 3) := by decide +kernel
theorem dX2_addFactory_45 : decode cX2_addFactory 45 = .ok (.aload_n 0, 1) := by decide +kernel
theorem dX2_addFactory_46 : decode cX2_addFactory 46 = .ok (.dup, 1) := by decide +kernel
theorem dX2_addFactory_47 : decode cX2_addFactory 47 = .ok (.getfield 38, 3) := by decide +kernel
theorem dX2_addFactory_50 : decode cX2_addFactory 50 = .ok (.iconst 1, 1) := by decide +kernel
theorem dX2_addFactory_51 : decode cX2_addFactory 51 = .ok (.iadd, 1) := by decide +kernel
theorem dX2_addFactory_52 : decode cX2_addFactory 52 = .ok (.putfield 38, 3) := by decide +kernel
theorem dX2_addFactory_55 : decode cX2_addFactory 55 = .ok (.iconst 1, 1) := by decide +kernel
theorem dX2_addFactory_56 : decode cX2_addFactory 56 = .ok (.ireturn, 1) := by decide +kernel
theorem dX2_addSetter_0 : decode cX2_addSetter 0 = .ok (.aload_n 0, 1) := by decide +kernel
theorem dX2_addSetter_1 : decode cX2_addSetter 1 = .ok (.getfield 41, 3) := by decide +kernel
theorem dX2_addSetter_4 : decode cX2_addSetter 4 = .ok (.bipush 8, 2) := by decide +kernel
theorem dX2_addSetter_6 : decode cX2_addSetter 6 = .ok (.if_icmp .ge 13, 3) := by decide +kernel
theorem dX2_addSetter_9 : decode cX2_addSetter 9 = .ok (.aload_n 0, 1) := by decide +kernel
theorem dX2_addSetter_10 : decode cX2_addSetter 10 = .ok (.getfield 27, 3) := by decide +kernel
theorem dX2_addSetter_13 : decode cX2_addSetter 13 = .ok (.iload_n 1, 1) := by decide +kernel
theorem dX2_addSetter_14 : decode cX2_addSetter 14 = .ok (.iaload, 1) := by decide +kernel
theorem dX2_addSetter_15 : decode cX2_addSetter 15 = .ok (.iconst (-1), 1) := by decide +kernel
theorem dX2_addSetter_16 : decode cX2_addSetter 16 = .ok (.if_icmp .eq 5, 3) := by decide +kernel
theorem dX2_addSetter_19 : decode cX2_addSetter 19 = .ok (.iconst 0, 1) := by decide +kernel
theorem dX2_addSetter_20 : decode cX2_addSetter 20 = .ok (.ireturn, 1) := by decide +kernel
theorem dX2_addSetter_21 : decode cX2_addSetter 21 = .ok (.aload_n 0, 1) := by decide +kernel
theorem dX2_addSetter_22 : decode cX2_addSetter 22 = .ok (.getfield 27, 3) := by decide +kernel
theorem dX2_addSetter_25 : decode cX2_addSetter 25 = .ok (.iload_n 1, 1) := by decide +kernel
theorem dX2_addSetter_26 : decode cX2_addSetter 26 = .ok (.iload_n 2, 1) := by decide +kernel
theorem dX2_addSetter_27 : decode cX2_addSetter 27 = .ok (.iastore, 1) := by decide +kernel
theorem dX2_addSetter_28 : decode cX2_addSetter 28 = .ok (.aload_n 0, 1) := by decide +kernel
theorem dX2_addSetter_29 : decode cX2_addSetter 29 = .ok (.dup, 1) := by decide +kernel
theorem dX2_addSetter_30 : decode cX2_addSetter 30 = .ok (.getfield 41, 3) := by decide +kernel
theorem dX2_addSetter_33 : decode cX2_addSetter 33 = .ok (.iconst 1, 1) := by decide +kernel
theorem dX2_addSetter_34 : decode cX2_addSetter 34 = .ok (.iadd, 1) := by decide +kernel
theorem dX2_addSetter_35 : decode cX2_addSetter 35 = .ok (.putfield 41, 3) := by decide +kernel
theorem dX2_addSetter_38 : decode cX2_addSetter 38 = .ok (.iconst 1, 1) := by decide +kernel
theorem dX2_addSetter_39 : decode cX2_addSetter 39 = .ok (.ireturn, 1) := by decide +kernel
theorem dX3_init_0 : decode cX3_init 0 = .ok (.aload_n 0, 1) := by decide +kernel
theorem dX3_init_1 : decode cX3_init 1 = .ok (.invokespecial 3, 3) := by decide +kernel
theorem dX3_init_4 : decode cX3_init 4 = .ok (.aload_n 0, 1) := by decide +kernel
theorem dX3_init_5 : decode cX3_init 5 = .ok (.bipush 24, 2) := by decide +kernel
theorem dX3_init_7 : decode cX3_init 7 = .ok (.newarray .char, 2) := by decide +kernel
theorem dX3_init_9 : decode cX3_init 9 = .ok (.putfield 11, 3) := by decide +kernel
theorem dX3_init_12 : decode cX3_init 12 = .ok (.return_, 1) := by decide +kernel
theorem dX6_init_0 : decode cX6_init 0 = .ok (.aload_n 0, 1) := by decide +kernel
theorem dX6_init_1 : decode cX6_init 1 = .ok (.invokespecial 3, 3) := by decide +kernel
theorem dX6_init_4 : decode cX6_init 4 = .ok (.aload_n 0, 1) := by decide +kernel
theorem dX6_init_5 : decode cX6_init 5 = .ok (.bipush 80, 2) := by decide +kernel
theorem dX6_init_7 : decode cX6_init 7 = .ok (.anewarray 11, 3) := by decide +kernel
theorem dX6_init_10 : decode cX6_init 10 = .ok (.putfield 13, 3) := by decide +kernel
theorem dX6_init_13 : decode cX6_init 13 = .ok (.iconst 0, 1) := by decide +kernel
theorem dX6_init_14 : decode cX6_init 14 = .ok (.istore_n 2, 1) := by decide +kernel
theorem dX6_init_15 : decode cX6_init 15 = .ok (.iload_n 2, 1) := by decide +kernel
theorem dX6_init_16 : decode cX6_init 16 = .ok (.bipush 80, 2) := by decide +kernel
theorem dX6_init_18 : decode cX6_init 18 = .ok (.if_icmp .ge 22, 3) := by decide +kernel
theorem dX6_init_21 : decode cX6_init 21 = .ok (.aload_n 0, 1) := by decide +kernel
theorem dX6_init_22 : decode cX6_init 22 = .ok (.getfield 13, 3) := by decide +kernel
theorem dX6_init_25 : decode cX6_init 25 = .ok (.iload_n 2, 1) := by decide +kernel
theorem dX6_init_26 : decode cX6_init 26 = .ok (.new 11, 3) := by decide +kernel
theorem dX6_init_29 : decode cX6_init 29 = .ok (.dup, 1) := by decide +kernel
theorem dX6_init_30 : decode cX6_init 30 = .ok (.invokespecial 17, 3) := by decide +kernel
theorem dX6_init_33 : decode cX6_init 33 = .ok (.aastore, 1) := by decide +kernel
theorem dX6_init_34 : decode cX6_init 34 = .ok (.iinc 2 1, 3) := by decide +kernel
theorem dX6_init_37 : decode cX6_init 37 = .ok (.goto (-22), 3) := by decide +kernel
theorem dX6_init_40 : decode cX6_init 40 = .ok (.aload_n 0, 1) := by decide +kernel
theorem dX6_init_41 : decode cX6_init 41 = .ok (.iload_n 1, 1) := by decide +kernel
theorem dX6_init_42 : decode cX6_init 42 = .ok (.iconst 5, 1) := by decide +kernel
theorem dX6_init_43 : decode cX6_init 43 = .ok (.idiv, 1) := by decide +kernel
theorem dX6_init_44 : decode cX6_init 44 = .ok (.newarray .long, 2) := by decide +kernel
theorem dX6_init_46 : decode cX6_init 46 = .ok (.putfield 18, 3) := by decide +kernel
theorem dX6_init_49 : decode cX6_init 49 = .ok (.aload_n 0, 1) := by decide +kernel
theorem dX6_init_50 : decode cX6_init 50 = .ok (.iload_n 1, 1) := by decide +kernel
theorem dX6_init_51 : decode cX6_init 51 = .ok (.iconst 5, 1) := by decide +kernel
theorem dX6_init_52 : decode cX6_init 52 = .ok (.idiv, 1) := by decide +kernel
theorem dX6_init_53 : decode cX6_init 53 = .ok (.newarray .int, 2) := by decide +kernel
theorem dX6_init_55 : decode cX6_init 55 = .ok (.putfield 22, 3) := by decide +kernel
theorem dX6_init_58 : decode cX6_init 58 = .ok (.aload_n 0, 1) := by decide +kernel
theorem dX6_init_59 : decode cX6_init 59 = .ok (.iload_n 1, 1) := by decide +kernel
theorem dX6_init_60 : decode cX6_init 60 = .ok (.iconst 5, 1) := by decide +kernel
theorem dX6_init_61 : decode cX6_init 61 = .ok (.idiv, 1) := by decide +kernel
theorem dX6_init_62 : decode cX6_init 62 = .ok (.newarray .int, 2) := by decide +kernel
theorem dX6_init_64 : decode cX6_init 64 = .ok (.putfield 26, 3) := by decide +kernel
theorem dX6_init_67 : decode cX6_init 67 = .ok (.aload_n 0, 1) := by decide +kernel
theorem dX6_init_68 : decode cX6_init 68 = .ok (.iload_n 1, 1) := by decide +kernel
theorem dX6_init_69 : decode cX6_init 69 = .ok (.newarray .char, 2) := by decide +kernel
theorem dX6_init_71 : decode cX6_init 71 = .ok (.putfield 29, 3) := by decide +kernel
theorem dX6_init_74 : decode cX6_init 74 = .ok (.return_, 1) := by decide +kernel
theorem dX6_clear_0 : decode cX6_clear 0 = .ok (.aload_n 0, 1) := by decide +kernel
theorem dX6_clear_1 : decode cX6_clear 1 = .ok (.iconst 0, 1) := by decide +kernel
theorem dX6_clear_2 : decode cX6_clear 2 = .ok (.putfield 33, 3) := by decide +kernel
theorem dX6_clear_5 : decode cX6_clear 5 = .ok (.aload_n 0, 1) := by decide +kernel
theorem dX6_clear_6 : decode cX6_clear 6 = .ok (.iconst 0, 1) := by decide +kernel
theorem dX6_clear_7 : decode cX6_clear 7 = .ok (.putfield 37, 3) := by decide +kernel
theorem dX6_clear_10 : decode cX6_clear 10 = .ok (.aload_n 0, 1) := by decide +kernel
theorem dX6_clear_11 : decode cX6_clear 11 = .ok (.iconst 0, 1) := by decide +kernel
theorem dX6_clear_12 : decode cX6_clear 12 = .ok (.putfield 40, 3) := by decide +kernel
theorem dX6_clear_15 : decode cX6_clear 15 = .ok (.return_, 1) := by decide +kernel
theorem dX7_init_0 : decode cX7_init 0 = .ok (.aload_n 0, 1) := by decide +kernel
theorem dX7_init_1 : decode cX7_init 1 = .ok (.invokespecial 3, 3) := by decide +kernel
theorem dX7_init_4 : decode cX7_init 4 = .ok (.aload_n 0, 1) := by decide +kernel
theorem dX7_init_5 : decode cX7_init 5 = .ok (.aload_n 1, 1) := by decide +kernel
theorem dX7_init_6 : decode cX7_init 6 = .ok (.putfield 9, 3) := by decide +kernel
theorem dX7_init_9 : decode cX7_init 9 = .ok (.return_, 1) := by decide +kernel
theorem dX7_firstWrongPlace_0 : decode cX7_firstWrongPlace 0 = .ok (.aload_n 0, 1) := by decide +kernel
theorem dX7_firstWrongPlace_1 : decode cX7_firstWrongPlace 1 = .ok (.aload_n 1, 1) := by decide +kernel
theorem dX7_firstWrongPlace_2 : decode cX7_firstWrongPlace 2 = .ok (.putfield 15, 3) := by decide +kernel
theorem dX7_firstWrongPlace_5 : decode cX7_firstWrongPlace 5 = .ok (.aload_n 0, 1) := by decide +kernel
theorem dX7_firstWrongPlace_6 : decode cX7_firstWrongPlace 6 = .ok (.iload_n 2, 1) := by decide +kernel
theorem dX7_firstWrongPlace_7 : decode cX7_firstWrongPlace 7 = .ok (.putfield 19, 3) := by decide +kernel
theorem dX7_firstWrongPlace_10 : decode cX7_firstWrongPlace 10 = .ok (.aload_n 0, 1) := by decide +kernel
theorem dX7_firstWrongPlace_11 : decode cX7_firstWrongPlace 11 = .ok (.iconst 0, 1) := by decide +kernel
theorem dX7_firstWrongPlace_12 : decode cX7_firstWrongPlace 12 = .ok (.putfield 23, 3) := by decide +kernel
theorem dX7_firstWrongPlace_15 : decode cX7_firstWrongPlace 15 = .ok (.aload_n 0, 1) := by decide +kernel
theorem dX7_firstWrongPlace_16 : decode cX7_firstWrongPlace 16 = .ok (.iconst 0, 1) := by decide +kernel
theorem dX7_firstWrongPlace_17 : decode cX7_firstWrongPlace 17 = .ok (.putfield 26, 3) := by decide +kernel
theorem dX7_firstWrongPlace_20 : decode cX7_firstWrongPlace 20 = .ok (.aload_n 0, 1) := by decide +kernel
theorem dX7_firstWrongPlace_21 : decode cX7_firstWrongPlace 21 = .ok (.aconst_null, 1) := by decide +kernel
theorem dX7_firstWrongPlace_22 : decode cX7_firstWrongPlace 22 = .ok (.putfield 29, 3) := by decide +kernel
theorem dX7_firstWrongPlace_25 : decode cX7_firstWrongPlace 25 = .ok (.aload_n 0, 1) := by decide +kernel
theorem dX7_firstWrongPlace_26 : decode cX7_firstWrongPlace 26 = .ok (.getfield 9, 3) := by decide +kernel
theorem dX7_firstWrongPlace_29 : decode cX7_firstWrongPlace 29 = .ok (.invokevirtual 33, 3) := by decide +kernel
theorem dX7_firstWrongPlace_32 : decode cX7_firstWrongPlace 32 = .ok (.aload_n 0, 1) := by decide +kernel
theorem dX7_firstWrongPlace_33 : decode cX7_firstWrongPlace 33 = .ok (.invokevirtual 38, 3) := by decide +kernel
theorem dX7_firstWrongPlace_36 : decode cX7_firstWrongPlace 36 = .ok (.aload_n 0, 1) := by decide +kernel
theorem dX7_firstWrongPlace_37 : decode cX7_firstWrongPlace 37 = .ok (.invokevirtual 41, 3) := by decide +kernel
theorem dX7_firstWrongPlace_40 : decode cX7_firstWrongPlace 40 = .ok (.iconst 0, 1) := by decide +kernel
theorem dX7_firstWrongPlace_41 : decode cX7_firstWrongPlace 41 = .ok (.istore_n 3, 1) := by decide +kernel
theorem dX7_firstWrongPlace_42 : decode cX7_firstWrongPlace 42 = .ok (.iload_n 3, 1) := by decide +kernel
theorem dX7_firstWrongPlace_43 : decode cX7_firstWrongPlace 43 = .ok (.aload_n 0, 1) := by decide +kernel
theorem dX7_firstWrongPlace_44 : decode cX7_firstWrongPlace 44 = .ok (.getfield 19, 3) := by decide +kernel
theorem dX7_firstWrongPlace_47 : decode cX7_firstWrongPlace 47 = .ok (.if_icmp .gt 20, 3) := by decide +kernel
theorem dX7_firstWrongPlace_50 : decode cX7_firstWrongPlace 50 = .ok (.aload_n 0, 1) := by decide +kernel
theorem dX7_firstWrongPlace_51 : decode cX7_firstWrongPlace 51 = .ok (.getfield 29, 3) := by decide +kernel
theorem dX7_firstWrongPlace_54 : decode cX7_firstWrongPlace 54 = .ok (.ifnull 13, 3) := by decide +kernel
theorem dX7_firstWrongPlace_57 : decode cX7_firstWrongPlace 57 = .ok (.aload_n 0, 1) := by decide +kernel
theorem dX7_firstWrongPlace_58 : decode cX7_firstWrongPlace 58 = .ok (.invokevirtual 44, 3) := by decide +kernel
theorem dX7_firstWrongPlace_61 : decode cX7_firstWrongPlace 61 = .ok (.iinc 3 1, 3) := by decide +kernel
theorem dX7_firstWrongPlace_64 : decode cX7_firstWrongPlace 64 = .ok (.goto (-22), 3) := by decide +kernel
theorem dX7_firstWrongPlace_67 : decode cX7_firstWrongPlace 67 = .ok (.aload_n 0, 1) := by decide +kernel
theorem dX7_firstWrongPlace_68 : decode cX7_firstWrongPlace 68 = .ok (.invokevirtual 38, 3) := by decide +kernel
theorem dX7_firstWrongPlace_71 : decode cX7_firstWrongPlace 71 = .ok (.aload_n 0, 1) := by decide +kernel
theorem dX7_firstWrongPlace_72 : decode cX7_firstWrongPlace 72 = .ok (.invokevirtual 47, 3) := by decide +kernel
theorem dX7_firstWrongPlace_75 : decode cX7_firstWrongPlace 75 = .ok (.goto 9, 3) := by decide +kernel
theorem dX7_firstWrongPlace_78 : decode cX7_firstWrongPlace 78 = .ok (.astore_n 3, 1) := by decide +kernel
theorem dX7_firstWrongPlace_79 : decode cX7_firstWrongPlace 79 = .ok (.aload_n 0, 1) := by decide +kernel
theorem dX7_firstWrongPlace_80 : decode cX7_firstWrongPlace 80 = .ok (.getfield 23, 3) := by decide +kernel
theorem dX7_firstWrongPlace_83 : decode cX7_firstWrongPlace 83 = .ok (.ireturn, 1) := by decide +kernel
theorem dX7_firstWrongPlace_84 : decode cX7_firstWrongPlace 84 = .ok (.iconst (-1), 1) := by decide +kernel
theorem dX7_firstWrongPlace_85 : decode cX7_firstWrongPlace 85 = .ok (.ireturn, 1) := by decide +kernel
theorem dX7_skipAround_0 : decode cX7_skipAround 0 = .ok (.aload_n 0, 1) := by decide +kernel
theorem dX7_skipAround_1 : decode cX7_skipAround 1 = .ok (.invokevirtual 53, 3) := by decide +kernel
theorem dX7_skipAround_4 : decode cX7_skipAround 4 = .ok (.pop, 1) := by decide +kernel
theorem dX7_skipAround_5 : decode cX7_skipAround 5 = .ok (.iconst 0, 1) := by decide +kernel
theorem dX7_skipAround_6 : decode cX7_skipAround 6 = .ok (.istore_n 1, 1) := by decide +kernel
theorem dX7_skipAround_7 : decode cX7_skipAround 7 = .ok (.iload_n 1, 1) := by decide +kernel
theorem dX7_skipAround_8 : decode cX7_skipAround 8 = .ok (.aload_n 0, 1) := by decide +kernel
theorem dX7_skipAround_9 : decode cX7_skipAround 9 = .ok (.getfield 19, 3) := by decide +kernel
theorem dX7_skipAround_12 : decode cX7_skipAround 12 = .ok (.if_icmp .ge 46, 3) := by decide +kernel
theorem dX7_skipAround_15 : decode cX7_skipAround 15 = .ok (.aload_n 0, 1) := by decide +kernel
theorem dX7_skipAround_16 : decode cX7_skipAround 16 = .ok (.aload_n 0, 1) := by decide +kernel
theorem dX7_skipAround_17 : decode cX7_skipAround 17 = .ok (.getfield 23, 3) := by decide +kernel
theorem dX7_skipAround_20 : decode cX7_skipAround 20 = .ok (.invokevirtual 57, 3) := by decide +kernel
theorem dX7_skipAround_23 : decode cX7_skipAround 23 = .ok (.bipush 60, 2) := by decide +kernel
theorem dX7_skipAround_25 : decode cX7_skipAround 25 = .ok (.if_icmp .ne 33, 3) := by decide +kernel
theorem dX7_skipAround_28 : decode cX7_skipAround 28 = .ok (.aload_n 0, 1) := by decide +kernel
theorem dX7_skipAround_29 : decode cX7_skipAround 29 = .ok (.aload_n 0, 1) := by decide +kernel
theorem dX7_skipAround_30 : decode cX7_skipAround 30 = .ok (.getfield 23, 3) := by decide +kernel
theorem dX7_skipAround_33 : decode cX7_skipAround 33 = .ok (.iconst 1, 1) := by decide +kernel
theorem dX7_skipAround_34 : decode cX7_skipAround 34 = .ok (.iadd, 1) := by decide +kernel
theorem dX7_skipAround_35 : decode cX7_skipAround 35 = .ok (.invokevirtual 57, 3) := by decide +kernel
theorem dX7_skipAround_38 : decode cX7_skipAround 38 = .ok (.bipush 33, 2) := by decide +kernel
theorem dX7_skipAround_40 : decode cX7_skipAround 40 = .ok (.if_icmp .ne 18, 3) := by decide +kernel
theorem dX7_skipAround_43 : decode cX7_skipAround 43 = .ok (.aload_n 0, 1) := by decide +kernel
theorem dX7_skipAround_44 : decode cX7_skipAround 44 = .ok (.invokevirtual 61, 3) := by decide +kernel
theorem dX7_skipAround_47 : decode cX7_skipAround 47 = .ok (.aload_n 0, 1) := by decide +kernel
theorem dX7_skipAround_48 : decode cX7_skipAround 48 = .ok (.invokevirtual 53, 3) := by decide +kernel
theorem dX7_skipAround_51 : decode cX7_skipAround 51 = .ok (.pop, 1) := by decide +kernel
theorem dX7_skipAround_52 : decode cX7_skipAround 52 = .ok (.iinc 1 1, 3) := by decide +kernel
theorem dX7_skipAround_55 : decode cX7_skipAround 55 = .ok (.goto (-48), 3) := by decide +kernel
theorem dX7_skipAround_58 : decode cX7_skipAround 58 = .ok (.return_, 1) := by decide +kernel
theorem dX7_skipsWhite_0 : decode cX7_skipsWhite 0 = .ok (.aload_n 0, 1) := by decide +kernel
theorem dX7_skipsWhite_1 : decode cX7_skipsWhite 1 = .ok (.getfield 23, 3) := by decide +kernel
theorem dX7_skipsWhite_4 : decode cX7_skipsWhite 4 = .ok (.istore_n 1, 1) := by decide +kernel
theorem dX7_skipsWhite_5 : decode cX7_skipsWhite 5 = .ok (.aload_n 0, 1) := by decide +kernel
theorem dX7_skipsWhite_6 : decode cX7_skipsWhite 6 = .ok (.getfield 23, 3) := by decide +kernel
theorem dX7_skipsWhite_9 : decode cX7_skipsWhite 9 = .ok (.aload_n 0, 1) := by decide +kernel
theorem dX7_skipsWhite_10 : decode cX7_skipsWhite 10 = .ok (.getfield 19, 3) := by decide +kernel
theorem dX7_skipsWhite_13 : decode cX7_skipsWhite 13 = .ok (.if_icmp .ge 44, 3) := by decide +kernel
theorem dX7_skipsWhite_16 : decode cX7_skipsWhite 16 = .ok (.aload_n 0, 1) := by decide +kernel
theorem dX7_skipsWhite_17 : decode cX7_skipsWhite 17 = .ok (.getfield 15, 3) := by decide +kernel
theorem dX7_skipsWhite_20 : decode cX7_skipsWhite 20 = .ok (.aload_n 0, 1) := by decide +kernel
theorem dX7_skipsWhite_21 : decode cX7_skipsWhite 21 = .ok (.getfield 23, 3) := by decide +kernel
theorem dX7_skipsWhite_24 : decode cX7_skipsWhite 24 = .ok (.caload, 1) := by decide +kernel
theorem dX7_skipsWhite_25 : decode cX7_skipsWhite 25 = .ok (.bipush 10, 2) := by decide +kernel
theorem dX7_skipsWhite_27 : decode cX7_skipsWhite 27 = .ok (.if_icmp .eq 17, 3) := by decide +kernel
theorem dX7_skipsWhite_30 : decode cX7_skipsWhite 30 = .ok (.aload_n 0, 1) := by decide +kernel
theorem dX7_skipsWhite_31 : decode cX7_skipsWhite 31 = .ok (.getfield 15, 3) := by decide +kernel
theorem dX7_skipsWhite_34 : decode cX7_skipsWhite 34 = .ok (.aload_n 0, 1) := by decide +kernel
theorem dX7_skipsWhite_35 : decode cX7_skipsWhite 35 = .ok (.getfield 23, 3) := by decide +kernel
theorem dX7_skipsWhite_38 : decode cX7_skipsWhite 38 = .ok (.caload, 1) := by decide +kernel
theorem dX7_skipsWhite_39 : decode cX7_skipsWhite 39 = .ok (.bipush 32, 2) := by decide +kernel
theorem dX7_skipsWhite_41 : decode cX7_skipsWhite 41 = .ok (.if_icmp .ne 16, 3) := by decide +kernel
theorem dX7_skipsWhite_44 : decode cX7_skipsWhite 44 = .ok (.aload_n 0, 1) := by decide +kernel
theorem dX7_skipsWhite_45 : decode cX7_skipsWhite 45 = .ok (.dup, 1) := by decide +kernel
theorem dX7_skipsWhite_46 : decode cX7_skipsWhite 46 = .ok (.getfield 23, 3) := by decide +kernel
theorem dX7_skipsWhite_49 : decode cX7_skipsWhite 49 = .ok (.iconst 1, 1) := by decide +kernel
theorem dX7_skipsWhite_50 : decode cX7_skipsWhite 50 = .ok (.iadd, 1) := by decide +kernel
theorem dX7_skipsWhite_51 : decode cX7_skipsWhite 51 = .ok (.putfield 23, 3) := by decide +kernel
theorem dX7_skipsWhite_54 : decode cX7_skipsWhite 54 = .ok (.goto (-49), 3) := by decide +kernel
theorem dX7_skipsWhite_57 : decode cX7_skipsWhite 57 = .ok (.aload_n 0, 1) := by decide +kernel
theorem dX7_skipsWhite_58 : decode cX7_skipsWhite 58 = .ok (.getfield 23, 3) := by decide +kernel
theorem dX7_skipsWhite_61 : decode cX7_skipsWhite 61 = .ok (.iload_n 1, 1) := by decide +kernel
theorem dX7_skipsWhite_62 : decode cX7_skipsWhite 62 = .ok (.if_icmp .le 7, 3) := by decide +kernel
theorem dX7_skipsWhite_65 : decode cX7_skipsWhite 65 = .ok (.iconst 1, 1) := by decide +kernel
theorem dX7_skipsWhite_66 : decode cX7_skipsWhite 66 = .ok (.goto 4, 3) := by decide +kernel
theorem dX7_skipsWhite_69 : decode cX7_skipsWhite 69 = .ok (.iconst 0, 1) := by decide +kernel
theorem dX7_skipsWhite_70 : decode cX7_skipsWhite 70 = .ok (.ireturn, 1) := by decide +kernel
theorem dX7_openElement_0 : decode cX7_openElement 0 = .ok (.aload_n 0, 1) := by decide +kernel
theorem dX7_openElement_1 : decode cX7_openElement 1 = .ok (.getfield 23, 3) := by decide +kernel
theorem dX7_openElement_4 : decode cX7_openElement 4 = .ok (.istore_n 1, 1) := by decide +kernel
theorem dX7_openElement_5 : decode cX7_openElement 5 = .ok (.aload_n 0, 1) := by decide +kernel
theorem dX7_openElement_6 : decode cX7_openElement 6 = .ok (.bipush 60, 2) := by decide +kernel
theorem dX7_openElement_8 : decode cX7_openElement 8 = .ok (.invokevirtual 64, 3) := by decide +kernel
theorem dX7_openElement_11 : decode cX7_openElement 11 = .ok (.aload_n 0, 1) := by decide +kernel
theorem dX7_openElement_12 : decode cX7_openElement 12 = .ok (.aload_n 0, 1) := by decide +kernel
theorem dX7_openElement_13 : decode cX7_openElement 13 = .ok (.getfield 23, 3) := by decide +kernel
theorem dX7_openElement_16 : decode cX7_openElement 16 = .ok (.invokevirtual 57, 3) := by decide +kernel
theorem dX7_openElement_19 : decode cX7_openElement 19 = .ok (.invokestatic 81, 3) := by decide +kernel
theorem dX7_openElement_22 : decode cX7_openElement 22 = .ok (.ifCond .eq 35, 3) := by decide +kernel
theorem dX7_openElement_25 : decode cX7_openElement 25 = .ok (.aload_n 0, 1) := by decide +kernel
theorem dX7_openElement_26 : decode cX7_openElement 26 = .ok (.getfield 26, 3) := by decide +kernel
theorem dX7_openElement_29 : decode cX7_openElement 29 = .ok (.bipush 6, 2) := by decide +kernel
theorem dX7_openElement_31 : decode cX7_openElement 31 = .ok (.if_icmp .ge 13, 3) := by decide +kernel
theorem dX7_openElement_34 : decode cX7_openElement 34 = .ok (.aload_n 0, 1) := by decide +kernel
theorem dX7_openElement_35 : decode cX7_openElement 35 = .ok (.getfield 9, 3) := by decide +kernel
theorem dX7_openElement_38 : decode cX7_openElement 38 = .ok (.invokevirtual 84, 3) := by decide +kernel
theorem dX7_openElement_41 : decode cX7_openElement 41 = .ok (.ifCond .eq 16, 3) := by decide +kernel
theorem dX7_openElement_44 : decode cX7_openElement 44 = .ok (.aload_n 0, 1) := by decide +kernel
theorem dX7_openElement_45 : decode cX7_openElement 45 = .ok (.iload_n 1, 1) := by decide +kernel
theorem dX7_openElement_46 : decode cX7_openElement 46 = .ok (.putfield 23, 3) := by decide +kernel
theorem dX7_openElement_49 : decode cX7_openElement 49 = .ok (.new 50, 3) := by decide +kernel
theorem dX7_openElement_52 : decode cX7_openElement 52 = .ok (.dup, 1) := by decide +kernel
theorem dX7_openElement_53 : decode cX7_openElement 53 = .ok (.invokespecial 52, 3) := by decide +kernel
theorem dX7_openElement_56 : decode cX7_openElement 56 = .ok (.athrow, 1) := by decide +kernel
theorem dX7_openElement_57 : decode cX7_openElement 57 = .ok (.aload_n 0, 1) := by decide +kernel
theorem dX7_openElement_58 : decode cX7_openElement 58 = .ok (.invokevirtual 87, 3) := by decide +kernel
theorem dX7_openElement_61 : decode cX7_openElement 61 = .ok (.lstore_n 2, 1) := by decide +kernel
theorem dX7_openElement_62 : decode cX7_openElement 62 = .ok (.aload_n 0, 1) := by decide +kernel
theorem dX7_openElement_63 : decode cX7_openElement 63 = .ok (.aload_n 0, 1) := by decide +kernel
theorem dX7_openElement_64 : decode cX7_openElement 64 = .ok (.getfield 9, 3) := by decide +kernel
theorem dX7_openElement_67 : decode cX7_openElement 67 = .ok (.iload_n 1, 1) := by decide +kernel
theorem dX7_openElement_68 : decode cX7_openElement 68 = .ok (.aload_n 0, 1) := by decide +kernel
theorem dX7_openElement_69 : decode cX7_openElement 69 = .ok (.getfield 29, 3) := by decide +kernel
theorem dX7_openElement_72 : decode cX7_openElement 72 = .ok (.invokevirtual 91, 3) := by decide +kernel
theorem dX7_openElement_75 : decode cX7_openElement 75 = .ok (.putfield 29, 3) := by decide +kernel
theorem dX7_openElement_78 : decode cX7_openElement 78 = .ok (.aload_n 0, 1) := by decide +kernel
theorem dX7_openElement_79 : decode cX7_openElement 79 = .ok (.getfield 29, 3) := by decide +kernel
theorem dX7_openElement_82 : decode cX7_openElement 82 = .ok (.lload_n 2, 1) := by decide +kernel
theorem dX7_openElement_83 : decode cX7_openElement 83 = .ok (.invokestatic 95, 3) := by decide +kernel
theorem dX7_openElement_86 : decode cX7_openElement 86 = .ok (.putfield 101, 3) := by decide +kernel
theorem dX7_openElement_89 : decode cX7_openElement 89 = .ok (.aload_n 0, 1) := by decide +kernel
theorem dX7_openElement_90 : decode cX7_openElement 90 = .ok (.dup, 1) := by decide +kernel
theorem dX7_openElement_91 : decode cX7_openElement 91 = .ok (.getfield 26, 3) := by decide +kernel
theorem dX7_openElement_94 : decode cX7_openElement 94 = .ok (.iconst 1, 1) := by decide +kernel
theorem dX7_openElement_95 : decode cX7_openElement 95 = .ok (.iadd, 1) := by decide +kernel
theorem dX7_openElement_96 : decode cX7_openElement 96 = .ok (.putfield 26, 3) := by decide +kernel
theorem dX7_openElement_99 : decode cX7_openElement 99 = .ok (.iconst 0, 1) := by decide +kernel
theorem dX7_openElement_100 : decode cX7_openElement 100 = .ok (.istore 4, 2) := by decide +kernel
theorem dX7_openElement_102 : decode cX7_openElement 102 = .ok (.iload 4, 2) := by decide +kernel
theorem dX7_openElement_104 : decode cX7_openElement 104 = .ok (.bipush 12, 2) := by decide +kernel
theorem dX7_openElement_106 : decode cX7_openElement 106 = .ok (.if_icmp .gt 34, 3) := by decide +kernel
theorem dX7_openElement_109 : decode cX7_openElement 109 = .ok (.aload_n 0, 1) := by decide +kernel
theorem dX7_openElement_110 : decode cX7_openElement 110 = .ok (.invokevirtual 53, 3) := by decide +kernel
theorem dX7_openElement_113 : decode cX7_openElement 113 = .ok (.ifCond .eq 27, 3) := by decide +kernel
theorem dX7_openElement_116 : decode cX7_openElement 116 = .ok (.aload_n 0, 1) := by decide +kernel
theorem dX7_openElement_117 : decode cX7_openElement 117 = .ok (.aload_n 0, 1) := by decide +kernel
theorem dX7_openElement_118 : decode cX7_openElement 118 = .ok (.getfield 23, 3) := by decide +kernel
theorem dX7_openElement_121 : decode cX7_openElement 121 = .ok (.invokevirtual 57, 3) := by decide +kernel
theorem dX7_openElement_124 : decode cX7_openElement 124 = .ok (.invokestatic 81, 3) := by decide +kernel
theorem dX7_openElement_127 : decode cX7_openElement 127 = .ok (.ifCond .eq 13, 3) := by decide +kernel
theorem dX7_openElement_130 : decode cX7_openElement 130 = .ok (.aload_n 0, 1) := by decide +kernel
theorem dX7_openElement_131 : decode cX7_openElement 131 = .ok (.invokevirtual 105, 3) := by decide +kernel
theorem dX7_openElement_134 : decode cX7_openElement 134 = .ok (.iinc 4 1, 3) := by decide +kernel
theorem dX7_openElement_137 : decode cX7_openElement 137 = .ok (.goto (-35), 3) := by decide +kernel
theorem dX7_openElement_140 : decode cX7_openElement 140 = .ok (.aload_n 0, 1) := by decide +kernel
theorem dX7_openElement_141 : decode cX7_openElement 141 = .ok (.aload_n 0, 1) := by decide +kernel
theorem dX7_openElement_142 : decode cX7_openElement 142 = .ok (.getfield 23, 3) := by decide +kernel
theorem dX7_openElement_145 : decode cX7_openElement 145 = .ok (.invokevirtual 57, 3) := by decide +kernel
theorem dX7_openElement_148 : decode cX7_openElement 148 = .ok (.bipush 47, 2) := by decide +kernel
theorem dX7_openElement_150 : decode cX7_openElement 150 = .ok (.if_icmp .ne 7, 3) := by decide +kernel
theorem dX7_openElement_153 : decode cX7_openElement 153 = .ok (.iconst 1, 1) := by decide +kernel
theorem dX7_openElement_154 : decode cX7_openElement 154 = .ok (.goto 4, 3) := by decide +kernel
theorem dX7_openElement_157 : decode cX7_openElement 157 = .ok (.iconst 0, 1) := by decide +kernel
theorem dX7_openElement_158 : decode cX7_openElement 158 = .ok (.istore 4, 2) := by decide +kernel
theorem dX7_openElement_160 : decode cX7_openElement 160 = .ok (.iload 4, 2) := by decide +kernel
theorem dX7_openElement_162 : decode cX7_openElement 162 = .ok (.ifCond .eq 13, 3) := by decide +kernel
theorem dX7_openElement_165 : decode cX7_openElement 165 = .ok (.aload_n 0, 1) := by decide +kernel
theorem dX7_openElement_166 : decode cX7_openElement 166 = .ok (.dup, 1) := by decide +kernel
theorem dX7_openElement_167 : decode cX7_openElement 167 = .ok (.getfield 23, 3) := by decide +kernel
theorem dX7_openElement_170 : decode cX7_openElement 170 = .ok (.iconst 1, 1) := by decide +kernel
theorem dX7_openElement_171 : decode cX7_openElement 171 = .ok (.iadd, 1) := by decide +kernel
theorem dX7_openElement_172 : decode cX7_openElement 172 = .ok (.putfield 23, 3) := by decide +kernel
theorem dX7_openElement_175 : decode cX7_openElement 175 = .ok (.aload_n 0, 1) := by decide +kernel
theorem dX7_openElement_176 : decode cX7_openElement 176 = .ok (.bipush 62, 2) := by decide +kernel
theorem dX7_openElement_178 : decode cX7_openElement 178 = .ok (.invokevirtual 64, 3) := by decide +kernel
theorem dX7_openElement_181 : decode cX7_openElement 181 = .ok (.iload 4, 2) := by decide +kernel
theorem dX7_openElement_183 : decode cX7_openElement 183 = .ok (.ifCond .eq 7, 3) := by decide +kernel
theorem dX7_openElement_186 : decode cX7_openElement 186 = .ok (.aload_n 0, 1) := by decide +kernel
theorem dX7_openElement_187 : decode cX7_openElement 187 = .ok (.invokevirtual 108, 3) := by decide +kernel
theorem dX7_openElement_190 : decode cX7_openElement 190 = .ok (.return_, 1) := by decide +kernel
theorem dX7_expect_0 : decode cX7_expect 0 = .ok (.aload_n 0, 1) := by decide +kernel
theorem dX7_expect_1 : decode cX7_expect 1 = .ok (.getfield 23, 3) := by decide +kernel
theorem dX7_expect_4 : decode cX7_expect 4 = .ok (.aload_n 0, 1) := by decide +kernel
theorem dX7_expect_5 : decode cX7_expect 5 = .ok (.getfield 19, 3) := by decide +kernel
theorem dX7_expect_8 : decode cX7_expect 8 = .ok (.if_icmp .ge 16, 3) := by decide +kernel
theorem dX7_expect_11 : decode cX7_expect 11 = .ok (.aload_n 0, 1) := by decide +kernel
theorem dX7_expect_12 : decode cX7_expect 12 = .ok (.getfield 15, 3) := by decide +kernel
theorem dX7_expect_15 : decode cX7_expect 15 = .ok (.aload_n 0, 1) := by decide +kernel
theorem dX7_expect_16 : decode cX7_expect 16 = .ok (.getfield 23, 3) := by decide +kernel
theorem dX7_expect_19 : decode cX7_expect 19 = .ok (.caload, 1) := by decide +kernel
theorem dX7_expect_20 : decode cX7_expect 20 = .ok (.iload_n 1, 1) := by decide +kernel
theorem dX7_expect_21 : decode cX7_expect 21 = .ok (.if_icmp .eq 11, 3) := by decide +kernel
theorem dX7_expect_24 : decode cX7_expect 24 = .ok (.new 50, 3) := by decide +kernel
theorem dX7_expect_27 : decode cX7_expect 27 = .ok (.dup, 1) := by decide +kernel
theorem dX7_expect_28 : decode cX7_expect 28 = .ok (.invokespecial 52, 3) := by decide +kernel
theorem dX7_expect_31 : decode cX7_expect 31 = .ok (.athrow, 1) := by decide +kernel
theorem dX7_expect_32 : decode cX7_expect 32 = .ok (.aload_n 0, 1) := by decide +kernel
theorem dX7_expect_33 : decode cX7_expect 33 = .ok (.dup, 1) := by decide +kernel
theorem dX7_expect_34 : decode cX7_expect 34 = .ok (.getfield 23, 3) := by decide +kernel
theorem dX7_expect_37 : decode cX7_expect 37 = .ok (.iconst 1, 1) := by decide +kernel
theorem dX7_expect_38 : decode cX7_expect 38 = .ok (.iadd, 1) := by decide +kernel
theorem dX7_expect_39 : decode cX7_expect 39 = .ok (.putfield 23, 3) := by decide +kernel
theorem dX7_expect_42 : decode cX7_expect 42 = .ok (.return_, 1) := by decide +kernel
theorem dX9_init_0 : decode cX9_init 0 = .ok (.aload_n 0, 1) := by decide +kernel
theorem dX9_init_1 : decode cX9_init 1 = .ok (.invokespecial 3, 3) := by decide +kernel
theorem dX9_init_4 : decode cX9_init 4 = .ok (.aload_n 0, 1) := by decide +kernel
theorem dX9_init_5 : decode cX9_init 5 = .ok (.aload_n 1, 1) := by decide +kernel
theorem dX9_init_6 : decode cX9_init 6 = .ok (.putfield 9, 3) := by decide +kernel
theorem dX9_init_9 : decode cX9_init 9 = .ok (.return_, 1) := by decide +kernel
theorem dX1_init_0 : decode cX1_init 0 = .ok (.aload_n 0, 1) := by decide +kernel
theorem dX1_init_1 : decode cX1_init 1 = .ok (.invokespecial 3, 3) := by decide +kernel
theorem dX1_init_4 : decode cX1_init 4 = .ok (.aload_n 0, 1) := by decide +kernel
theorem dX1_init_5 : decode cX1_init 5 = .ok (.iload_n 1, 1) := by decide +kernel
theorem dX1_init_6 : decode cX1_init 6 = .ok (.putfield 9, 3) := by decide +kernel
theorem dX1_init_9 : decode cX1_init 9 = .ok (.aload_n 0, 1) := by decide +kernel
theorem dX1_init_10 : decode cX1_init 10 = .ok (.new 15, 3) := by decide +kernel
theorem dX1_init_13 : decode cX1_init 13 = .ok (.dup, 1) := by decide +kernel
theorem dX1_init_14 : decode cX1_init 14 = .ok (.invokespecial 17, 3) := by decide +kernel
theorem dX1_init_17 : decode cX1_init 17 = .ok (.putfield 18, 3) := by decide +kernel
theorem dX1_init_20 : decode cX1_init 20 = .ok (.aload_n 0, 1) := by decide +kernel
theorem dX1_init_21 : decode cX1_init 21 = .ok (.new 15, 3) := by decide +kernel
theorem dX1_init_24 : decode cX1_init 24 = .ok (.dup, 1) := by decide +kernel
theorem dX1_init_25 : decode cX1_init 25 = .ok (.invokespecial 17, 3) := by decide +kernel
theorem dX1_init_28 : decode cX1_init 28 = .ok (.putfield 22, 3) := by decide +kernel
theorem dX1_init_31 : decode cX1_init 31 = .ok (.aload_n 0, 1) := by decide +kernel
theorem dX1_init_32 : decode cX1_init 32 = .ok (.new 15, 3) := by decide +kernel
theorem dX1_init_35 : decode cX1_init 35 = .ok (.dup, 1) := by decide +kernel
theorem dX1_init_36 : decode cX1_init 36 = .ok (.invokespecial 17, 3) := by decide +kernel
theorem dX1_init_39 : decode cX1_init 39 = .ok (.putfield 25, 3) := by decide +kernel
theorem dX1_init_42 : decode cX1_init 42 = .ok (.return_, 1) := by decide +kernel
theorem dX10_init_0 : decode cX10_init 0 = .ok (.aload_n 0, 1) := by decide +kernel
theorem dX10_init_1 : decode cX10_init 1 = .ok (.invokespecial 3, 3) := by decide +kernel
theorem dX10_init_4 : decode cX10_init 4 = .ok (.aload_n 0, 1) := by decide +kernel
theorem dX10_init_5 : decode cX10_init 5 = .ok (.aload_n 1, 1) := by decide +kernel
theorem dX10_init_6 : decode cX10_init 6 = .ok (.putfield 9, 3) := by decide +kernel
theorem dX10_init_9 : decode cX10_init 9 = .ok (.aload_n 0, 1) := by decide +kernel
theorem dX10_init_10 : decode cX10_init 10 = .ok (.bipush 80, 2) := by decide +kernel
theorem dX10_init_12 : decode cX10_init 12 = .ok (.anewarray 17, 3) := by decide +kernel
theorem dX10_init_15 : decode cX10_init 15 = .ok (.putfield 19, 3) := by decide +kernel
theorem dX10_init_18 : decode cX10_init 18 = .ok (.iconst 0, 1) := by decide +kernel
theorem dX10_init_19 : decode cX10_init 19 = .ok (.istore_n 2, 1) := by decide +kernel
theorem dX10_init_20 : decode cX10_init 20 = .ok (.iload_n 2, 1) := by decide +kernel
theorem dX10_init_21 : decode cX10_init 21 = .ok (.aload_n 0, 1) := by decide +kernel
theorem dX10_init_22 : decode cX10_init 22 = .ok (.getfield 19, 3) := by decide +kernel
theorem dX10_init_25 : decode cX10_init 25 = .ok (.arraylength, 1) := by decide +kernel
theorem dX10_init_26 : decode cX10_init 26 = .ok (.if_icmp .ge 23, 3) := by decide +kernel
theorem dX10_init_29 : decode cX10_init 29 = .ok (.aload_n 0, 1) := by decide +kernel
theorem dX10_init_30 : decode cX10_init 30 = .ok (.getfield 19, 3) := by decide +kernel
theorem dX10_init_33 : decode cX10_init 33 = .ok (.iload_n 2, 1) := by decide +kernel
theorem dX10_init_34 : decode cX10_init 34 = .ok (.new 17, 3) := by decide +kernel
theorem dX10_init_37 : decode cX10_init 37 = .ok (.dup, 1) := by decide +kernel
theorem dX10_init_38 : decode cX10_init 38 = .ok (.iload_n 2, 1) := by decide +kernel
theorem dX10_init_39 : decode cX10_init 39 = .ok (.invokespecial 23, 3) := by decide +kernel
theorem dX10_init_42 : decode cX10_init 42 = .ok (.aastore, 1) := by decide +kernel
theorem dX10_init_43 : decode cX10_init 43 = .ok (.iinc 2 1, 3) := by decide +kernel
theorem dX10_init_46 : decode cX10_init 46 = .ok (.goto (-26), 3) := by decide +kernel
theorem dX10_init_49 : decode cX10_init 49 = .ok (.aload_n 0, 1) := by decide +kernel
theorem dX10_init_50 : decode cX10_init 50 = .ok (.bipush 80, 2) := by decide +kernel
theorem dX10_init_52 : decode cX10_init 52 = .ok (.anewarray 17, 3) := by decide +kernel
theorem dX10_init_55 : decode cX10_init 55 = .ok (.putfield 26, 3) := by decide +kernel
theorem dX10_init_58 : decode cX10_init 58 = .ok (.return_, 1) := by decide +kernel
theorem dX10_count_0 : decode cX10_count 0 = .ok (.aload_n 0, 1) := by decide +kernel
theorem dX10_count_1 : decode cX10_count 1 = .ok (.getfield 29, 3) := by decide +kernel
theorem dX10_count_4 : decode cX10_count 4 = .ok (.ireturn, 1) := by decide +kernel
theorem dX10_forgetBeans_0 : decode cX10_forgetBeans 0 = .ok (.aload_n 0, 1) := by decide +kernel
theorem dX10_forgetBeans_1 : decode cX10_forgetBeans 1 = .ok (.iconst 0, 1) := by decide +kernel
theorem dX10_forgetBeans_2 : decode cX10_forgetBeans 2 = .ok (.putfield 29, 3) := by decide +kernel
theorem dX10_forgetBeans_5 : decode cX10_forgetBeans 5 = .ok (.return_, 1) := by decide +kernel
theorem dX4_init_0 : decode cX4_init 0 = .ok (.aload_n 0, 1) := by decide +kernel
theorem dX4_init_1 : decode cX4_init 1 = .ok (.invokespecial 3, 3) := by decide +kernel
theorem dX4_init_4 : decode cX4_init 4 = .ok (.aload_n 0, 1) := by decide +kernel
theorem dX4_init_5 : decode cX4_init 5 = .ok (.sipush 1600, 3) := by decide +kernel
theorem dX4_init_8 : decode cX4_init 8 = .ok (.newarray .int, 2) := by decide +kernel
theorem dX4_init_10 : decode cX4_init 10 = .ok (.putfield 11, 3) := by decide +kernel
theorem dX4_init_13 : decode cX4_init 13 = .ok (.return_, 1) := by decide +kernel
theorem dX4_clear_0 : decode cX4_clear 0 = .ok (.aload_n 0, 1) := by decide +kernel
theorem dX4_clear_1 : decode cX4_clear 1 = .ok (.iconst 0, 1) := by decide +kernel
theorem dX4_clear_2 : decode cX4_clear 2 = .ok (.putfield 15, 3) := by decide +kernel
theorem dX4_clear_5 : decode cX4_clear 5 = .ok (.return_, 1) := by decide +kernel
theorem dX4_count_0 : decode cX4_count 0 = .ok (.aload_n 0, 1) := by decide +kernel
theorem dX4_count_1 : decode cX4_count 1 = .ok (.getfield 15, 3) := by decide +kernel
theorem dX4_count_4 : decode cX4_count 4 = .ok (.ireturn, 1) := by decide +kernel
theorem dX4_number_0 : decode cX4_number 0 = .ok (.iload_n 1, 1) := by decide +kernel
theorem dX4_number_1 : decode cX4_number 1 = .ok (.ifCond .lt 33, 3) := by decide +kernel
theorem dX4_number_4 : decode cX4_number 4 = .ok (.iload_n 1, 1) := by decide +kernel
theorem dX4_number_5 : decode cX4_number 5 = .ok (.aload_n 0, 1) := by decide +kernel
theorem dX4_number_6 : decode cX4_number 6 = .ok (.getfield 15, 3) := by decide +kernel
theorem dX4_number_9 : decode cX4_number 9 = .ok (.if_icmp .ge 25, 3) := by decide +kernel
theorem dX4_number_12 : decode cX4_number 12 = .ok (.iload_n 2, 1) := by decide +kernel
theorem dX4_number_13 : decode cX4_number 13 = .ok (.ifCond .lt 21, 3) := by decide +kernel
theorem dX4_number_16 : decode cX4_number 16 = .ok (.iload_n 2, 1) := by decide +kernel
theorem dX4_number_17 : decode cX4_number 17 = .ok (.iconst 4, 1) := by decide +kernel
theorem dX4_number_18 : decode cX4_number 18 = .ok (.if_icmp .ge 16, 3) := by decide +kernel
theorem dX4_number_21 : decode cX4_number 21 = .ok (.aload_n 0, 1) := by decide +kernel
theorem dX4_number_22 : decode cX4_number 22 = .ok (.getfield 11, 3) := by decide +kernel
theorem dX4_number_25 : decode cX4_number 25 = .ok (.iload_n 1, 1) := by decide +kernel
theorem dX4_number_26 : decode cX4_number 26 = .ok (.iconst 4, 1) := by decide +kernel
theorem dX4_number_27 : decode cX4_number 27 = .ok (.imul, 1) := by decide +kernel
theorem dX4_number_28 : decode cX4_number 28 = .ok (.iload_n 2, 1) := by decide +kernel
theorem dX4_number_29 : decode cX4_number 29 = .ok (.iadd, 1) := by decide +kernel
theorem dX4_number_30 : decode cX4_number 30 = .ok (.iaload, 1) := by decide +kernel
theorem dX4_number_31 : decode cX4_number 31 = .ok (.goto 4, 3) := by decide +kernel
theorem dX4_number_34 : decode cX4_number 34 = .ok (.iconst (-1), 1) := by decide +kernel
theorem dX4_number_35 : decode cX4_number 35 = .ok (.ireturn, 1) := by decide +kernel
theorem dX5_init_0 : decode cX5_init 0 = .ok (.aload_n 0, 1) := by decide +kernel
theorem dX5_init_1 : decode cX5_init 1 = .ok (.invokespecial 7, 3) := by decide +kernel
theorem dX5_init_4 : decode cX5_init 4 = .ok (.aload_n 0, 1) := by decide +kernel
theorem dX5_init_5 : decode cX5_init 5 = .ok (.aload_n 1, 1) := by decide +kernel
theorem dX5_init_6 : decode cX5_init 6 = .ok (.putfield 13, 3) := by decide +kernel
theorem dX5_init_9 : decode cX5_init 9 = .ok (.aload_n 0, 1) := by decide +kernel
theorem dX5_init_10 : decode cX5_init 10 = .ok (.aload_n 2, 1) := by decide +kernel
theorem dX5_init_11 : decode cX5_init 11 = .ok (.putfield 17, 3) := by decide +kernel
theorem dX5_init_14 : decode cX5_init 14 = .ok (.aload_n 0, 1) := by decide +kernel
theorem dX5_init_15 : decode cX5_init 15 = .ok (.aload_n 3, 1) := by decide +kernel
theorem dX5_init_16 : decode cX5_init 16 = .ok (.putfield 21, 3) := by decide +kernel
theorem dX5_init_19 : decode cX5_init 19 = .ok (.aload_n 0, 1) := by decide +kernel
theorem dX5_init_20 : decode cX5_init 20 = .ok (.bipush 60, 2) := by decide +kernel
theorem dX5_init_22 : decode cX5_init 22 = .ok (.newarray .int, 2) := by decide +kernel
theorem dX5_init_24 : decode cX5_init 24 = .ok (.putfield 25, 3) := by decide +kernel
theorem dX5_init_27 : decode cX5_init 27 = .ok (.aload_n 0, 1) := by decide +kernel
theorem dX5_init_28 : decode cX5_init 28 = .ok (.bipush 60, 2) := by decide +kernel
theorem dX5_init_30 : decode cX5_init 30 = .ok (.newarray .int, 2) := by decide +kernel
theorem dX5_init_32 : decode cX5_init 32 = .ok (.putfield 29, 3) := by decide +kernel
theorem dX5_init_35 : decode cX5_init 35 = .ok (.aload_n 0, 1) := by decide +kernel
theorem dX5_init_36 : decode cX5_init 36 = .ok (.bipush 80, 2) := by decide +kernel
theorem dX5_init_38 : decode cX5_init 38 = .ok (.anewarray 34, 3) := by decide +kernel
theorem dX5_init_41 : decode cX5_init 41 = .ok (.putfield 36, 3) := by decide +kernel
theorem dX5_init_44 : decode cX5_init 44 = .ok (.aload_n 0, 1) := by decide +kernel
theorem dX5_init_45 : decode cX5_init 45 = .ok (.sipush 960, 3) := by decide +kernel
theorem dX5_init_48 : decode cX5_init 48 = .ok (.newarray .int, 2) := by decide +kernel
theorem dX5_init_50 : decode cX5_init 50 = .ok (.putfield 40, 3) := by decide +kernel
theorem dX5_init_53 : decode cX5_init 53 = .ok (.aload_n 0, 1) := by decide +kernel
theorem dX5_init_54 : decode cX5_init 54 = .ok (.iconst 3, 1) := by decide +kernel
theorem dX5_init_55 : decode cX5_init 55 = .ok (.newarray .int, 2) := by decide +kernel
theorem dX5_init_57 : decode cX5_init 57 = .ok (.putfield 43, 3) := by decide +kernel
theorem dX5_init_60 : decode cX5_init 60 = .ok (.aload_n 0, 1) := by decide +kernel
theorem dX5_init_61 : decode cX5_init 61 = .ok (.iconst (-1), 1) := by decide +kernel
theorem dX5_init_62 : decode cX5_init 62 = .ok (.putfield 46, 3) := by decide +kernel
theorem dX5_init_65 : decode cX5_init 65 = .ok (.return_, 1) := by decide +kernel
theorem dX5_startAfresh_0 : decode cX5_startAfresh 0 = .ok (.aload_n 0, 1) := by decide +kernel
theorem dX5_startAfresh_1 : decode cX5_startAfresh 1 = .ok (.iconst 0, 1) := by decide +kernel
theorem dX5_startAfresh_2 : decode cX5_startAfresh 2 = .ok (.putfield 50, 3) := by decide +kernel
theorem dX5_startAfresh_5 : decode cX5_startAfresh 5 = .ok (.aload_n 0, 1) := by decide +kernel
theorem dX5_startAfresh_6 : decode cX5_startAfresh 6 = .ok (.invokevirtual 53, 3) := by decide +kernel
theorem dX5_startAfresh_9 : decode cX5_startAfresh 9 = .ok (.aload_n 0, 1) := by decide +kernel
theorem dX5_startAfresh_10 : decode cX5_startAfresh 10 = .ok (.getfield 21, 3) := by decide +kernel
theorem dX5_startAfresh_13 : decode cX5_startAfresh 13 = .ok (.invokevirtual 56, 3) := by decide +kernel
theorem dX5_startAfresh_16 : decode cX5_startAfresh 16 = .ok (.return_, 1) := by decide +kernel
theorem dX5_forgetMade_0 : decode cX5_forgetMade 0 = .ok (.iconst 0, 1) := by decide +kernel
theorem dX5_forgetMade_1 : decode cX5_forgetMade 1 = .ok (.istore_n 1, 1) := by decide +kernel
theorem dX5_forgetMade_2 : decode cX5_forgetMade 2 = .ok (.iload_n 1, 1) := by decide +kernel
theorem dX5_forgetMade_3 : decode cX5_forgetMade 3 = .ok (.aload_n 0, 1) := by decide +kernel
theorem dX5_forgetMade_4 : decode cX5_forgetMade 4 = .ok (.getfield 13, 3) := by decide +kernel
theorem dX5_forgetMade_7 : decode cX5_forgetMade 7 = .ok (.invokevirtual 78, 3) := by decide +kernel
theorem dX5_forgetMade_10 : decode cX5_forgetMade 10 = .ok (.if_icmp .ge 21, 3) := by decide +kernel
theorem dX5_forgetMade_13 : decode cX5_forgetMade 13 = .ok (.aload_n 0, 1) := by decide +kernel
theorem dX5_forgetMade_14 : decode cX5_forgetMade 14 = .ok (.getfield 13, 3) := by decide +kernel
theorem dX5_forgetMade_17 : decode cX5_forgetMade 17 = .ok (.iload_n 1, 1) := by decide +kernel
theorem dX5_forgetMade_18 : decode cX5_forgetMade 18 = .ok (.invokevirtual 68, 3) := by decide +kernel
theorem dX5_forgetMade_21 : decode cX5_forgetMade 21 = .ok (.iconst 0, 1) := by decide +kernel
theorem dX5_forgetMade_22 : decode cX5_forgetMade 22 = .ok (.putfield 82, 3) := by decide +kernel
theorem dX5_forgetMade_25 : decode cX5_forgetMade 25 = .ok (.iinc 1 1, 3) := by decide +kernel
theorem dX5_forgetMade_28 : decode cX5_forgetMade 28 = .ok (.goto (-26), 3) := by decide +kernel
theorem dX5_forgetMade_31 : decode cX5_forgetMade 31 = .ok (.aload_n 0, 1) := by decide +kernel
theorem dX5_forgetMade_32 : decode cX5_forgetMade 32 = .ok (.iconst 0, 1) := by decide +kernel
theorem dX5_forgetMade_33 : decode cX5_forgetMade 33 = .ok (.putfield 86, 3) := by decide +kernel
theorem dX5_forgetMade_36 : decode cX5_forgetMade 36 = .ok (.return_, 1) := by decide +kernel
theorem dX5_forgetFailure_0 : decode cX5_forgetFailure 0 = .ok (.aload_n 0, 1) := by decide +kernel
theorem dX5_forgetFailure_1 : decode cX5_forgetFailure 1 = .ok (.iconst 0, 1) := by decide +kernel
theorem dX5_forgetFailure_2 : decode cX5_forgetFailure 2 = .ok (.putfield 61, 3) := by decide +kernel
theorem dX5_forgetFailure_5 : decode cX5_forgetFailure 5 = .ok (.aload_n 0, 1) := by decide +kernel
theorem dX5_forgetFailure_6 : decode cX5_forgetFailure 6 = .ok (.iconst (-1), 1) := by decide +kernel
theorem dX5_forgetFailure_7 : decode cX5_forgetFailure 7 = .ok (.putfield 46, 3) := by decide +kernel
theorem dX5_forgetFailure_10 : decode cX5_forgetFailure 10 = .ok (.return_, 1) := by decide +kernel
theorem dX5_failure_0 : decode cX5_failure 0 = .ok (.aload_n 0, 1) := by decide +kernel
theorem dX5_failure_1 : decode cX5_failure 1 = .ok (.getfield 61, 3) := by decide +kernel
theorem dX5_failure_4 : decode cX5_failure 4 = .ok (.ireturn, 1) := by decide +kernel
theorem dX5_failureBean_0 : decode cX5_failureBean 0 = .ok (.aload_n 0, 1) := by decide +kernel
theorem dX5_failureBean_1 : decode cX5_failureBean 1 = .ok (.getfield 46, 3) := by decide +kernel
theorem dX5_failureBean_4 : decode cX5_failureBean 4 = .ok (.ireturn, 1) := by decide +kernel
theorem dX5_destroyAll_0 : decode cX5_destroyAll 0 = .ok (.aload_n 0, 1) := by decide +kernel
theorem dX5_destroyAll_1 : decode cX5_destroyAll 1 = .ok (.getfield 86, 3) := by decide +kernel
theorem dX5_destroyAll_4 : decode cX5_destroyAll 4 = .ok (.iconst 1, 1) := by decide +kernel
theorem dX5_destroyAll_5 : decode cX5_destroyAll 5 = .ok (.isub, 1) := by decide +kernel
theorem dX5_destroyAll_6 : decode cX5_destroyAll 6 = .ok (.istore_n 1, 1) := by decide +kernel
theorem dX5_destroyAll_7 : decode cX5_destroyAll 7 = .ok (.iload_n 1, 1) := by decide +kernel
theorem dX5_destroyAll_8 : decode cX5_destroyAll 8 = .ok (.ifCond .lt 50, 3) := by decide +kernel
theorem dX5_destroyAll_11 : decode cX5_destroyAll 11 = .ok (.aload_n 0, 1) := by decide +kernel
theorem dX5_destroyAll_12 : decode cX5_destroyAll 12 = .ok (.getfield 36, 3) := by decide +kernel
theorem dX5_destroyAll_15 : decode cX5_destroyAll 15 = .ok (.iload_n 1, 1) := by decide +kernel
theorem dX5_destroyAll_16 : decode cX5_destroyAll 16 = .ok (.aaload, 1) := by decide +kernel
theorem dX5_destroyAll_17 : decode cX5_destroyAll 17 = .ok (.getfield 89, 3) := by decide +kernel
theorem dX5_destroyAll_20 : decode cX5_destroyAll 20 = .ok (.iconst (-1), 1) := by decide +kernel
theorem dX5_destroyAll_21 : decode cX5_destroyAll 21 = .ok (.if_icmp .eq 31, 3) := by decide +kernel
theorem dX5_destroyAll_24 : decode cX5_destroyAll 24 = .ok (.aload_n 0, 1) := by decide +kernel
theorem dX5_destroyAll_25 : decode cX5_destroyAll 25 = .ok (.getfield 21, 3) := by decide +kernel
theorem dX5_destroyAll_28 : decode cX5_destroyAll 28 = .ok (.bipush 7, 2) := by decide +kernel
theorem dX5_destroyAll_30 : decode cX5_destroyAll 30 = .ok (.aload_n 0, 1) := by decide +kernel
theorem dX5_destroyAll_31 : decode cX5_destroyAll 31 = .ok (.getfield 36, 3) := by decide +kernel
theorem dX5_destroyAll_34 : decode cX5_destroyAll 34 = .ok (.iload_n 1, 1) := by decide +kernel
theorem dX5_destroyAll_35 : decode cX5_destroyAll 35 = .ok (.aaload, 1) := by decide +kernel
theorem dX5_destroyAll_36 : decode cX5_destroyAll 36 = .ok (.getfield 92, 3) := by decide +kernel
theorem dX5_destroyAll_39 : decode cX5_destroyAll 39 = .ok (.aload_n 0, 1) := by decide +kernel
theorem dX5_destroyAll_40 : decode cX5_destroyAll 40 = .ok (.getfield 36, 3) := by decide +kernel
theorem dX5_destroyAll_43 : decode cX5_destroyAll 43 = .ok (.iload_n 1, 1) := by decide +kernel
theorem dX5_destroyAll_44 : decode cX5_destroyAll 44 = .ok (.aaload, 1) := by decide +kernel
theorem dX5_destroyAll_45 : decode cX5_destroyAll 45 = .ok (.getfield 89, 3) := by decide +kernel
theorem dX5_destroyAll_48 : decode cX5_destroyAll 48 = .ok (.iconst 0, 1) := by decide +kernel
theorem dX5_destroyAll_49 : decode cX5_destroyAll 49 = .ok (.invokevirtual 95, 3) := by decide +kernel
theorem dX5_destroyAll_52 : decode cX5_destroyAll 52 = .ok (.iinc 1 (-1), 3) := by decide +kernel
theorem dX5_destroyAll_55 : decode cX5_destroyAll 55 = .ok (.goto (-48), 3) := by decide +kernel
theorem dX5_destroyAll_58 : decode cX5_destroyAll 58 = .ok (.aload_n 0, 1) := by decide +kernel
theorem dX5_destroyAll_59 : decode cX5_destroyAll 59 = .ok (.invokevirtual 53, 3) := by decide +kernel
theorem dX5_destroyAll_62 : decode cX5_destroyAll 62 = .ok (.return_, 1) := by decide +kernel
theorem dX5_classOfObject_0 : decode cX5_classOfObject 0 = .ok (.aload_n 0, 1) := by decide +kernel
theorem dX5_classOfObject_1 : decode cX5_classOfObject 1 = .ok (.iload_n 1, 1) := by decide +kernel
theorem dX5_classOfObject_2 : decode cX5_classOfObject 2 = .ok (.invokevirtual 64, 3) := by decide +kernel
theorem dX5_classOfObject_5 : decode cX5_classOfObject 5 = .ok (.ifCond .eq 12, 3) := by decide +kernel
theorem dX5_classOfObject_8 : decode cX5_classOfObject 8 = .ok (.aload_n 0, 1) := by decide +kernel
theorem dX5_classOfObject_9 : decode cX5_classOfObject 9 = .ok (.getfield 25, 3) := by decide +kernel
theorem dX5_classOfObject_12 : decode cX5_classOfObject 12 = .ok (.iload_n 1, 1) := by decide +kernel
theorem dX5_classOfObject_13 : decode cX5_classOfObject 13 = .ok (.iaload, 1) := by decide +kernel
theorem dX5_classOfObject_14 : decode cX5_classOfObject 14 = .ok (.goto 4, 3) := by decide +kernel
theorem dX5_classOfObject_17 : decode cX5_classOfObject 17 = .ok (.iconst (-1), 1) := by decide +kernel
theorem dX5_classOfObject_18 : decode cX5_classOfObject 18 = .ok (.ireturn, 1) := by decide +kernel
theorem dX5_beanOfObject_0 : decode cX5_beanOfObject 0 = .ok (.aload_n 0, 1) := by decide +kernel
theorem dX5_beanOfObject_1 : decode cX5_beanOfObject 1 = .ok (.iload_n 1, 1) := by decide +kernel
theorem dX5_beanOfObject_2 : decode cX5_beanOfObject 2 = .ok (.invokevirtual 64, 3) := by decide +kernel
theorem dX5_beanOfObject_5 : decode cX5_beanOfObject 5 = .ok (.ifCond .eq 12, 3) := by decide +kernel
theorem dX5_beanOfObject_8 : decode cX5_beanOfObject 8 = .ok (.aload_n 0, 1) := by decide +kernel
theorem dX5_beanOfObject_9 : decode cX5_beanOfObject 9 = .ok (.getfield 29, 3) := by decide +kernel
theorem dX5_beanOfObject_12 : decode cX5_beanOfObject 12 = .ok (.iload_n 1, 1) := by decide +kernel
theorem dX5_beanOfObject_13 : decode cX5_beanOfObject 13 = .ok (.iaload, 1) := by decide +kernel
theorem dX5_beanOfObject_14 : decode cX5_beanOfObject 14 = .ok (.goto 4, 3) := by decide +kernel
theorem dX5_beanOfObject_17 : decode cX5_beanOfObject 17 = .ok (.iconst (-1), 1) := by decide +kernel
theorem dX5_beanOfObject_18 : decode cX5_beanOfObject 18 = .ok (.ireturn, 1) := by decide +kernel
theorem dX5_isObject_0 : decode cX5_isObject 0 = .ok (.iload_n 1, 1) := by decide +kernel
theorem dX5_isObject_1 : decode cX5_isObject 1 = .ok (.ifCond .lt 15, 3) := by decide +kernel
theorem dX5_isObject_4 : decode cX5_isObject 4 = .ok (.iload_n 1, 1) := by decide +kernel
theorem dX5_isObject_5 : decode cX5_isObject 5 = .ok (.aload_n 0, 1) := by decide +kernel
theorem dX5_isObject_6 : decode cX5_isObject 6 = .ok (.getfield 50, 3) := by decide +kernel
theorem dX5_isObject_9 : decode cX5_isObject 9 = .ok (.if_icmp .ge 7, 3) := by decide +kernel
theorem dX5_isObject_12 : decode cX5_isObject 12 = .ok (.iconst 1, 1) := by decide +kernel
theorem dX5_isObject_13 : decode cX5_isObject 13 = .ok (.goto 4, 3) := by decide +kernel
theorem dX5_isObject_16 : decode cX5_isObject 16 = .ok (.iconst 0, 1) := by decide +kernel
theorem dX5_isObject_17 : decode cX5_isObject 17 = .ok (.ireturn, 1) := by decide +kernel
theorem dJx4a65c_init_da8c8_0 : decode cJx4a65c_init_da8c8 0 = .ok (.aload_n 0, 1) := by decide +kernel
theorem dJx4a65c_init_da8c8_1 : decode cJx4a65c_init_da8c8 1 = .ok (.invokespecial 1, 3) := by decide +kernel
theorem dJx4a65c_init_da8c8_4 : decode cJx4a65c_init_da8c8 4 = .ok (.aload_n 0, 1) := by decide +kernel
theorem dJx4a65c_init_da8c8_5 : decode cJx4a65c_init_da8c8 5 = .ok (.getstatic 39, 3) := by decide +kernel
theorem dJx4a65c_init_da8c8_8 : decode cJx4a65c_init_da8c8 8 = .ok (.putfield 9, 3) := by decide +kernel
theorem dJx4a65c_init_da8c8_11 : decode cJx4a65c_init_da8c8 11 = .ok (.return_, 1) := by decide +kernel
theorem dJxc12de_init_da8c8_0 : decode cJxc12de_init_da8c8 0 = .ok (.aload_n 0, 1) := by decide +kernel
theorem dJxc12de_init_da8c8_1 : decode cJxc12de_init_da8c8 1 = .ok (.invokespecial 1, 3) := by decide +kernel
theorem dJxc12de_init_da8c8_4 : decode cJxc12de_init_da8c8 4 = .ok (.aload_n 0, 1) := by decide +kernel
theorem dJxc12de_init_da8c8_5 : decode cJxc12de_init_da8c8 5 = .ok (.iconst 0, 1) := by decide +kernel
theorem dJxc12de_init_da8c8_6 : decode cJxc12de_init_da8c8 6 = .ok (.putfield 7, 3) := by decide +kernel
theorem dJxc12de_init_da8c8_9 : decode cJxc12de_init_da8c8 9 = .ok (.return_, 1) := by decide +kernel
theorem dJxa1e45_init_da8c8_0 : decode cJxa1e45_init_da8c8 0 = .ok (.aload_n 0, 1) := by decide +kernel
theorem dJxa1e45_init_da8c8_1 : decode cJxa1e45_init_da8c8 1 = .ok (.invokespecial 1, 3) := by decide +kernel
theorem dJxa1e45_init_da8c8_4 : decode cJxa1e45_init_da8c8 4 = .ok (.return_, 1) := by decide +kernel
end
section
theorem dX13_init_0 : decode cX13_init 0 = .ok (.aload_n 0, 1) := by decide +kernel
theorem dX13_init_1 : decode cX13_init 1 = .ok (.invokespecial 1, 3) := by decide +kernel
theorem dX13_init_4 : decode cX13_init 4 = .ok (.aload_n 0, 1) := by decide +kernel
theorem dX13_init_5 : decode cX13_init 5 = .ok (.bipush 10, 2) := by decide +kernel
theorem dX13_init_7 : decode cX13_init 7 = .ok (.newarray .long, 2) := by decide +kernel
theorem dX13_init_9 : decode cX13_init 9 = .ok (.dup, 1) := by decide +kernel
theorem dX13_init_10 : decode cX13_init 10 = .ok (.iconst 0, 1) := by decide +kernel
theorem dX13_init_11 : decode cX13_init 11 = .ok (.ldc2_w 7, 3) := by decide +kernel
theorem dX13_init_14 : decode cX13_init 14 = .ok (.lastore, 1) := by decide +kernel
theorem dX13_init_15 : decode cX13_init 15 = .ok (.dup, 1) := by decide +kernel
theorem dX13_init_16 : decode cX13_init 16 = .ok (.iconst 1, 1) := by decide +kernel
theorem dX13_init_17 : decode cX13_init 17 = .ok (.ldc2_w 9, 3) := by decide +kernel
theorem dX13_init_20 : decode cX13_init 20 = .ok (.lastore, 1) := by decide +kernel
theorem dX13_init_21 : decode cX13_init 21 = .ok (.dup, 1) := by decide +kernel
theorem dX13_init_22 : decode cX13_init 22 = .ok (.iconst 2, 1) := by decide +kernel
theorem dX13_init_23 : decode cX13_init 23 = .ok (.ldc2_w 11, 3) := by decide +kernel
theorem dX13_init_26 : decode cX13_init 26 = .ok (.lastore, 1) := by decide +kernel
theorem dX13_init_27 : decode cX13_init 27 = .ok (.dup, 1) := by decide +kernel
theorem dX13_init_28 : decode cX13_init 28 = .ok (.iconst 3, 1) := by decide +kernel
theorem dX13_init_29 : decode cX13_init 29 = .ok (.ldc2_w 13, 3) := by decide +kernel
theorem dX13_init_32 : decode cX13_init 32 = .ok (.lastore, 1) := by decide +kernel
theorem dX13_init_33 : decode cX13_init 33 = .ok (.dup, 1) := by decide +kernel
theorem dX13_init_34 : decode cX13_init 34 = .ok (.iconst 4, 1) := by decide +kernel
theorem dX13_init_35 : decode cX13_init 35 = .ok (.ldc2_w 15, 3) := by decide +kernel
theorem dX13_init_38 : decode cX13_init 38 = .ok (.lastore, 1) := by decide +kernel
theorem dX13_init_39 : decode cX13_init 39 = .ok (.dup, 1) := by decide +kernel
theorem dX13_init_40 : decode cX13_init 40 = .ok (.iconst 5, 1) := by decide +kernel
theorem dX13_init_41 : decode cX13_init 41 = .ok (.ldc2_w 17, 3) := by decide +kernel
theorem dX13_init_44 : decode cX13_init 44 = .ok (.lastore, 1) := by decide +kernel
theorem dX13_init_45 : decode cX13_init 45 = .ok (.dup, 1) := by decide +kernel
theorem dX13_init_46 : decode cX13_init 46 = .ok (.bipush 6, 2) := by decide +kernel
theorem dX13_init_48 : decode cX13_init 48 = .ok (.ldc2_w 19, 3) := by decide +kernel
theorem dX13_init_51 : decode cX13_init 51 = .ok (.lastore, 1) := by decide +kernel
theorem dX13_init_52 : decode cX13_init 52 = .ok (.dup, 1) := by decide +kernel
theorem dX13_init_53 : decode cX13_init 53 = .ok (.bipush 7, 2) := by decide +kernel
theorem dX13_init_55 : decode cX13_init 55 = .ok (.ldc2_w 21, 3) := by decide +kernel
theorem dX13_init_58 : decode cX13_init 58 = .ok (.lastore, 1) := by decide +kernel
theorem dX13_init_59 : decode cX13_init 59 = .ok (.dup, 1) := by decide +kernel
theorem dX13_init_60 : decode cX13_init 60 = .ok (.bipush 8, 2) := by decide +kernel
theorem dX13_init_62 : decode cX13_init 62 = .ok (.ldc2_w 23, 3) := by decide +kernel
theorem dX13_init_65 : decode cX13_init 65 = .ok (.lastore, 1) := by decide +kernel
theorem dX13_init_66 : decode cX13_init 66 = .ok (.dup, 1) := by decide +kernel
theorem dX13_init_67 : decode cX13_init 67 = .ok (.bipush 9, 2) := by decide +kernel
theorem dX13_init_69 : decode cX13_init 69 = .ok (.ldc2_w 25, 3) := by decide +kernel
theorem dX13_init_72 : decode cX13_init 72 = .ok (.lastore, 1) := by decide +kernel
theorem dX13_init_73 : decode cX13_init 73 = .ok (.putfield 27, 3) := by decide +kernel
theorem dX13_init_76 : decode cX13_init 76 = .ok (.aload_n 0, 1) := by decide +kernel
theorem dX13_init_77 : decode cX13_init 77 = .ok (.bipush 11, 2) := by decide +kernel
theorem dX13_init_79 : decode cX13_init 79 = .ok (.newarray .long, 2) := by decide +kernel
theorem dX13_init_81 : decode cX13_init 81 = .ok (.dup, 1) := by decide +kernel
theorem dX13_init_82 : decode cX13_init 82 = .ok (.iconst 0, 1) := by decide +kernel
theorem dX13_init_83 : decode cX13_init 83 = .ok (.ldc2_w 33, 3) := by decide +kernel
theorem dX13_init_86 : decode cX13_init 86 = .ok (.lastore, 1) := by decide +kernel
theorem dX13_init_87 : decode cX13_init 87 = .ok (.dup, 1) := by decide +kernel
theorem dX13_init_88 : decode cX13_init 88 = .ok (.iconst 1, 1) := by decide +kernel
theorem dX13_init_89 : decode cX13_init 89 = .ok (.ldc2_w 35, 3) := by decide +kernel
theorem dX13_init_92 : decode cX13_init 92 = .ok (.lastore, 1) := by decide +kernel
theorem dX13_init_93 : decode cX13_init 93 = .ok (.dup, 1) := by decide +kernel
theorem dX13_init_94 : decode cX13_init 94 = .ok (.iconst 2, 1) := by decide +kernel
theorem dX13_init_95 : decode cX13_init 95 = .ok (.ldc2_w 37, 3) := by decide +kernel
theorem dX13_init_98 : decode cX13_init 98 = .ok (.lastore, 1) := by decide +kernel
theorem dX13_init_99 : decode cX13_init 99 = .ok (.dup, 1) := by decide +kernel
theorem dX13_init_100 : decode cX13_init 100 = .ok (.iconst 3, 1) := by decide +kernel
theorem dX13_init_101 : decode cX13_init 101 = .ok (.ldc2_w 39, 3) := by decide +kernel
theorem dX13_init_104 : decode cX13_init 104 = .ok (.lastore, 1) := by decide +kernel
theorem dX13_init_105 : decode cX13_init 105 = .ok (.dup, 1) := by decide +kernel
theorem dX13_init_106 : decode cX13_init 106 = .ok (.iconst 4, 1) := by decide +kernel
theorem dX13_init_107 : decode cX13_init 107 = .ok (.ldc2_w 41, 3) := by decide +kernel
theorem dX13_init_110 : decode cX13_init 110 = .ok (.lastore, 1) := by decide +kernel
theorem dX13_init_111 : decode cX13_init 111 = .ok (.dup, 1) := by decide +kernel
theorem dX13_init_112 : decode cX13_init 112 = .ok (.iconst 5, 1) := by decide +kernel
theorem dX13_init_113 : decode cX13_init 113 = .ok (.ldc2_w 43, 3) := by decide +kernel
theorem dX13_init_116 : decode cX13_init 116 = .ok (.lastore, 1) := by decide +kernel
theorem dX13_init_117 : decode cX13_init 117 = .ok (.dup, 1) := by decide +kernel
theorem dX13_init_118 : decode cX13_init 118 = .ok (.bipush 6, 2) := by decide +kernel
theorem dX13_init_120 : decode cX13_init 120 = .ok (.ldc2_w 45, 3) := by decide +kernel
theorem dX13_init_123 : decode cX13_init 123 = .ok (.lastore, 1) := by decide +kernel
theorem dX13_init_124 : decode cX13_init 124 = .ok (.dup, 1) := by decide +kernel
theorem dX13_init_125 : decode cX13_init 125 = .ok (.bipush 7, 2) := by decide +kernel
theorem dX13_init_127 : decode cX13_init 127 = .ok (.ldc2_w 47, 3) := by decide +kernel
theorem dX13_init_130 : decode cX13_init 130 = .ok (.lastore, 1) := by decide +kernel
theorem dX13_init_131 : decode cX13_init 131 = .ok (.dup, 1) := by decide +kernel
theorem dX13_init_132 : decode cX13_init 132 = .ok (.bipush 8, 2) := by decide +kernel
theorem dX13_init_134 : decode cX13_init 134 = .ok (.ldc2_w 49, 3) := by decide +kernel
theorem dX13_init_137 : decode cX13_init 137 = .ok (.lastore, 1) := by decide +kernel
theorem dX13_init_138 : decode cX13_init 138 = .ok (.dup, 1) := by decide +kernel
theorem dX13_init_139 : decode cX13_init 139 = .ok (.bipush 9, 2) := by decide +kernel
theorem dX13_init_141 : decode cX13_init 141 = .ok (.ldc2_w 51, 3) := by decide +kernel
theorem dX13_init_144 : decode cX13_init 144 = .ok (.lastore, 1) := by decide +kernel
theorem dX13_init_145 : decode cX13_init 145 = .ok (.dup, 1) := by decide +kernel
theorem dX13_init_146 : decode cX13_init 146 = .ok (.bipush 10, 2) := by decide +kernel
theorem dX13_init_148 : decode cX13_init 148 = .ok (.ldc2_w 53, 3) := by decide +kernel
theorem dX13_init_151 : decode cX13_init 151 = .ok (.lastore, 1) := by decide +kernel
theorem dX13_init_152 : decode cX13_init 152 = .ok (.putfield 55, 3) := by decide +kernel
theorem dX13_init_155 : decode cX13_init 155 = .ok (.aload_n 0, 1) := by decide +kernel
theorem dX13_init_156 : decode cX13_init 156 = .ok (.iconst 5, 1) := by decide +kernel
theorem dX13_init_157 : decode cX13_init 157 = .ok (.newarray .long, 2) := by decide +kernel
theorem dX13_init_159 : decode cX13_init 159 = .ok (.dup, 1) := by decide +kernel
theorem dX13_init_160 : decode cX13_init 160 = .ok (.iconst 0, 1) := by decide +kernel
theorem dX13_init_161 : decode cX13_init 161 = .ok (.ldc2_w 58, 3) := by decide +kernel
theorem dX13_init_164 : decode cX13_init 164 = .ok (.lastore, 1) := by decide +kernel
theorem dX13_init_165 : decode cX13_init 165 = .ok (.dup, 1) := by decide +kernel
theorem dX13_init_166 : decode cX13_init 166 = .ok (.iconst 1, 1) := by decide +kernel
theorem dX13_init_167 : decode cX13_init 167 = .ok (.ldc2_w 60, 3) := by decide +kernel
theorem dX13_init_170 : decode cX13_init 170 = .ok (.lastore, 1) := by decide +kernel
theorem dX13_init_171 : decode cX13_init 171 = .ok (.dup, 1) := by decide +kernel
theorem dX13_init_172 : decode cX13_init 172 = .ok (.iconst 2, 1) := by decide +kernel
theorem dX13_init_173 : decode cX13_init 173 = .ok (.ldc2_w 62, 3) := by decide +kernel
theorem dX13_init_176 : decode cX13_init 176 = .ok (.lastore, 1) := by decide +kernel
theorem dX13_init_177 : decode cX13_init 177 = .ok (.dup, 1) := by decide +kernel
theorem dX13_init_178 : decode cX13_init 178 = .ok (.iconst 3, 1) := by decide +kernel
theorem dX13_init_179 : decode cX13_init 179 = .ok (.ldc2_w 64, 3) := by decide +kernel
theorem dX13_init_182 : decode cX13_init 182 = .ok (.lastore, 1) := by decide +kernel
theorem dX13_init_183 : decode cX13_init 183 = .ok (.dup, 1) := by decide +kernel
theorem dX13_init_184 : decode cX13_init 184 = .ok (.iconst 4, 1) := by decide +kernel
theorem dX13_init_185 : decode cX13_init 185 = .ok (.ldc2_w 66, 3) := by decide +kernel
theorem dX13_init_188 : decode cX13_init 188 = .ok (.lastore, 1) := by decide +kernel
theorem dX13_init_189 : decode cX13_init 189 = .ok (.putfield 68, 3) := by decide +kernel
theorem dX13_init_192 : decode cX13_init 192 = .ok (.aload_n 0, 1) := by decide +kernel
theorem dX13_init_193 : decode cX13_init 193 = .ok (.iconst 5, 1) := by decide +kernel
theorem dX13_init_194 : decode cX13_init 194 = .ok (.newarray .int, 2) := by decide +kernel
theorem dX13_init_196 : decode cX13_init 196 = .ok (.dup, 1) := by decide +kernel
theorem dX13_init_197 : decode cX13_init 197 = .ok (.iconst 0, 1) := by decide +kernel
theorem dX13_init_198 : decode cX13_init 198 = .ok (.iconst 3, 1) := by decide +kernel
theorem dX13_init_199 : decode cX13_init 199 = .ok (.iastore, 1) := by decide +kernel
theorem dX13_init_200 : decode cX13_init 200 = .ok (.dup, 1) := by decide +kernel
theorem dX13_init_201 : decode cX13_init 201 = .ok (.iconst 1, 1) := by decide +kernel
theorem dX13_init_202 : decode cX13_init 202 = .ok (.iconst 3, 1) := by decide +kernel
theorem dX13_init_203 : decode cX13_init 203 = .ok (.iastore, 1) := by decide +kernel
theorem dX13_init_204 : decode cX13_init 204 = .ok (.dup, 1) := by decide +kernel
theorem dX13_init_205 : decode cX13_init 205 = .ok (.iconst 2, 1) := by decide +kernel
theorem dX13_init_206 : decode cX13_init 206 = .ok (.iconst 4, 1) := by decide +kernel
theorem dX13_init_207 : decode cX13_init 207 = .ok (.iastore, 1) := by decide +kernel
theorem dX13_init_208 : decode cX13_init 208 = .ok (.dup, 1) := by decide +kernel
theorem dX13_init_209 : decode cX13_init 209 = .ok (.iconst 3, 1) := by decide +kernel
theorem dX13_init_210 : decode cX13_init 210 = .ok (.iconst 5, 1) := by decide +kernel
theorem dX13_init_211 : decode cX13_init 211 = .ok (.iastore, 1) := by decide +kernel
theorem dX13_init_212 : decode cX13_init 212 = .ok (.dup, 1) := by decide +kernel
theorem dX13_init_213 : decode cX13_init 213 = .ok (.iconst 4, 1) := by decide +kernel
theorem dX13_init_214 : decode cX13_init 214 = .ok (.iconst 5, 1) := by decide +kernel
theorem dX13_init_215 : decode cX13_init 215 = .ok (.iastore, 1) := by decide +kernel
theorem dX13_init_216 : decode cX13_init 216 = .ok (.putfield 71, 3) := by decide +kernel
theorem dX13_init_219 : decode cX13_init 219 = .ok (.aload_n 0, 1) := by decide +kernel
theorem dX13_init_220 : decode cX13_init 220 = .ok (.iconst 5, 1) := by decide +kernel
theorem dX13_init_221 : decode cX13_init 221 = .ok (.newarray .int, 2) := by decide +kernel
theorem dX13_init_223 : decode cX13_init 223 = .ok (.dup, 1) := by decide +kernel
theorem dX13_init_224 : decode cX13_init 224 = .ok (.iconst 0, 1) := by decide +kernel
theorem dX13_init_225 : decode cX13_init 225 = .ok (.bipush 60, 2) := by decide +kernel
theorem dX13_init_227 : decode cX13_init 227 = .ok (.iastore, 1) := by decide +kernel
theorem dX13_init_228 : decode cX13_init 228 = .ok (.dup, 1) := by decide +kernel
theorem dX13_init_229 : decode cX13_init 229 = .ok (.iconst 1, 1) := by decide +kernel
theorem dX13_init_230 : decode cX13_init 230 = .ok (.bipush 62, 2) := by decide +kernel
theorem dX13_init_232 : decode cX13_init 232 = .ok (.iastore, 1) := by decide +kernel
theorem dX13_init_233 : decode cX13_init 233 = .ok (.dup, 1) := by decide +kernel
theorem dX13_init_234 : decode cX13_init 234 = .ok (.iconst 2, 1) := by decide +kernel
theorem dX13_init_235 : decode cX13_init 235 = .ok (.bipush 38, 2) := by decide +kernel
theorem dX13_init_237 : decode cX13_init 237 = .ok (.iastore, 1) := by decide +kernel
theorem dX13_init_238 : decode cX13_init 238 = .ok (.dup, 1) := by decide +kernel
theorem dX13_init_239 : decode cX13_init 239 = .ok (.iconst 3, 1) := by decide +kernel
theorem dX13_init_240 : decode cX13_init 240 = .ok (.bipush 34, 2) := by decide +kernel
theorem dX13_init_242 : decode cX13_init 242 = .ok (.iastore, 1) := by decide +kernel
theorem dX13_init_243 : decode cX13_init 243 = .ok (.dup, 1) := by decide +kernel
theorem dX13_init_244 : decode cX13_init 244 = .ok (.iconst 4, 1) := by decide +kernel
theorem dX13_init_245 : decode cX13_init 245 = .ok (.bipush 39, 2) := by decide +kernel
theorem dX13_init_247 : decode cX13_init 247 = .ok (.iastore, 1) := by decide +kernel
theorem dX13_init_248 : decode cX13_init 248 = .ok (.putfield 75, 3) := by decide +kernel
theorem dX13_init_251 : decode cX13_init 251 = .ok (.aload_n 0, 1) := by decide +kernel
theorem dX13_init_252 : decode cX13_init 252 = .ok (.bipush 8, 2) := by decide +kernel
theorem dX13_init_254 : decode cX13_init 254 = .ok (.newarray .int, 2) := by decide +kernel
theorem dX13_init_256 : decode cX13_init 256 = .ok (.putfield 78, 3) := by decide +kernel
theorem dX13_init_259 : decode cX13_init 259 = .ok (.aload_n 0, 1) := by decide +kernel
theorem dX13_init_260 : decode cX13_init 260 = .ok (.bipush 8, 2) := by decide +kernel
theorem dX13_init_262 : decode cX13_init 262 = .ok (.newarray .int, 2) := by decide +kernel
theorem dX13_init_264 : decode cX13_init 264 = .ok (.putfield 81, 3) := by decide +kernel
theorem dX13_init_267 : decode cX13_init 267 = .ok (.aload_n 0, 1) := by decide +kernel
theorem dX13_init_268 : decode cX13_init 268 = .ok (.bipush 32, 2) := by decide +kernel
theorem dX13_init_270 : decode cX13_init 270 = .ok (.newarray .int, 2) := by decide +kernel
theorem dX13_init_272 : decode cX13_init 272 = .ok (.putfield 84, 3) := by decide +kernel
theorem dX13_init_275 : decode cX13_init 275 = .ok (.aload_n 0, 1) := by decide +kernel
theorem dX13_init_276 : decode cX13_init 276 = .ok (.bipush 96, 2) := by decide +kernel
theorem dX13_init_278 : decode cX13_init 278 = .ok (.newarray .int, 2) := by decide +kernel
theorem dX13_init_280 : decode cX13_init 280 = .ok (.putfield 87, 3) := by decide +kernel
theorem dX13_init_283 : decode cX13_init 283 = .ok (.aload_n 0, 1) := by decide +kernel
theorem dX13_init_284 : decode cX13_init 284 = .ok (.bipush 8, 2) := by decide +kernel
theorem dX13_init_286 : decode cX13_init 286 = .ok (.newarray .int, 2) := by decide +kernel
theorem dX13_init_288 : decode cX13_init 288 = .ok (.putfield 90, 3) := by decide +kernel
theorem dX13_init_291 : decode cX13_init 291 = .ok (.aload_n 0, 1) := by decide +kernel
theorem dX13_init_292 : decode cX13_init 292 = .ok (.bipush 64, 2) := by decide +kernel
theorem dX13_init_294 : decode cX13_init 294 = .ok (.newarray .int, 2) := by decide +kernel
theorem dX13_init_296 : decode cX13_init 296 = .ok (.putfield 93, 3) := by decide +kernel
theorem dX13_init_299 : decode cX13_init 299 = .ok (.aload_n 0, 1) := by decide +kernel
theorem dX13_init_300 : decode cX13_init 300 = .ok (.bipush 64, 2) := by decide +kernel
theorem dX13_init_302 : decode cX13_init 302 = .ok (.newarray .int, 2) := by decide +kernel
theorem dX13_init_304 : decode cX13_init 304 = .ok (.putfield 96, 3) := by decide +kernel
theorem dX13_init_307 : decode cX13_init 307 = .ok (.aload_n 0, 1) := by decide +kernel
theorem dX13_init_308 : decode cX13_init 308 = .ok (.bipush 8, 2) := by decide +kernel
theorem dX13_init_310 : decode cX13_init 310 = .ok (.newarray .int, 2) := by decide +kernel
theorem dX13_init_312 : decode cX13_init 312 = .ok (.putfield 99, 3) := by decide +kernel
theorem dX13_init_315 : decode cX13_init 315 = .ok (.aload_n 0, 1) := by decide +kernel
theorem dX13_init_316 : decode cX13_init 316 = .ok (.bipush 32, 2) := by decide +kernel
theorem dX13_init_318 : decode cX13_init 318 = .ok (.newarray .int, 2) := by decide +kernel
theorem dX13_init_320 : decode cX13_init 320 = .ok (.putfield 102, 3) := by decide +kernel
end
section
theorem dX13_init_323 : decode cX13_init 323 = .ok (.aload_n 0, 1) := by decide +kernel
theorem dX13_init_324 : decode cX13_init 324 = .ok (.bipush 32, 2) := by decide +kernel
theorem dX13_init_326 : decode cX13_init 326 = .ok (.newarray .int, 2) := by decide +kernel
theorem dX13_init_328 : decode cX13_init 328 = .ok (.putfield 105, 3) := by decide +kernel
theorem dX13_init_331 : decode cX13_init 331 = .ok (.aload_n 0, 1) := by decide +kernel
theorem dX13_init_332 : decode cX13_init 332 = .ok (.bipush 32, 2) := by decide +kernel
theorem dX13_init_334 : decode cX13_init 334 = .ok (.newarray .int, 2) := by decide +kernel
theorem dX13_init_336 : decode cX13_init 336 = .ok (.putfield 108, 3) := by decide +kernel
theorem dX13_init_339 : decode cX13_init 339 = .ok (.aload_n 0, 1) := by decide +kernel
theorem dX13_init_340 : decode cX13_init 340 = .ok (.bipush 96, 2) := by decide +kernel
theorem dX13_init_342 : decode cX13_init 342 = .ok (.newarray .int, 2) := by decide +kernel
theorem dX13_init_344 : decode cX13_init 344 = .ok (.putfield 111, 3) := by decide +kernel
theorem dX13_init_347 : decode cX13_init 347 = .ok (.aload_n 0, 1) := by decide +kernel
theorem dX13_init_348 : decode cX13_init 348 = .ok (.bipush 32, 2) := by decide +kernel
theorem dX13_init_350 : decode cX13_init 350 = .ok (.newarray .boolean, 2) := by decide +kernel
theorem dX13_init_352 : decode cX13_init 352 = .ok (.putfield 114, 3) := by decide +kernel
theorem dX13_init_355 : decode cX13_init 355 = .ok (.aload_n 0, 1) := by decide +kernel
theorem dX13_init_356 : decode cX13_init 356 = .ok (.sipush 1200, 3) := by decide +kernel
theorem dX13_init_359 : decode cX13_init 359 = .ok (.newarray .byte, 2) := by decide +kernel
theorem dX13_init_361 : decode cX13_init 361 = .ok (.putfield 118, 3) := by decide +kernel
theorem dX13_init_364 : decode cX13_init 364 = .ok (.aload_n 0, 1) := by decide +kernel
theorem dX13_init_365 : decode cX13_init 365 = .ok (.iconst (-1), 1) := by decide +kernel
theorem dX13_init_366 : decode cX13_init 366 = .ok (.putfield 122, 3) := by decide +kernel
theorem dX13_init_369 : decode cX13_init 369 = .ok (.aload_n 0, 1) := by decide +kernel
theorem dX13_init_370 : decode cX13_init 370 = .ok (.bipush 80, 2) := by decide +kernel
theorem dX13_init_372 : decode cX13_init 372 = .ok (.newarray .int, 2) := by decide +kernel
theorem dX13_init_374 : decode cX13_init 374 = .ok (.putfield 126, 3) := by decide +kernel
theorem dX13_init_377 : decode cX13_init 377 = .ok (.aload_n 0, 1) := by decide +kernel
theorem dX13_init_378 : decode cX13_init 378 = .ok (.bipush 80, 2) := by decide +kernel
theorem dX13_init_380 : decode cX13_init 380 = .ok (.newarray .int, 2) := by decide +kernel
theorem dX13_init_382 : decode cX13_init 382 = .ok (.putfield 129, 3) := by decide +kernel
theorem dX13_init_385 : decode cX13_init 385 = .ok (.aload_n 0, 1) := by decide +kernel
theorem dX13_init_386 : decode cX13_init 386 = .ok (.bipush 80, 2) := by decide +kernel
theorem dX13_init_388 : decode cX13_init 388 = .ok (.newarray .int, 2) := by decide +kernel
theorem dX13_init_390 : decode cX13_init 390 = .ok (.putfield 132, 3) := by decide +kernel
theorem dX13_init_393 : decode cX13_init 393 = .ok (.aload_n 0, 1) := by decide +kernel
theorem dX13_init_394 : decode cX13_init 394 = .ok (.bipush 80, 2) := by decide +kernel
theorem dX13_init_396 : decode cX13_init 396 = .ok (.newarray .int, 2) := by decide +kernel
theorem dX13_init_398 : decode cX13_init 398 = .ok (.putfield 135, 3) := by decide +kernel
theorem dX13_init_401 : decode cX13_init 401 = .ok (.aload_n 0, 1) := by decide +kernel
theorem dX13_init_402 : decode cX13_init 402 = .ok (.bipush 80, 2) := by decide +kernel
theorem dX13_init_404 : decode cX13_init 404 = .ok (.newarray .int, 2) := by decide +kernel
theorem dX13_init_406 : decode cX13_init 406 = .ok (.putfield 138, 3) := by decide +kernel
theorem dX13_init_409 : decode cX13_init 409 = .ok (.aload_n 0, 1) := by decide +kernel
theorem dX13_init_410 : decode cX13_init 410 = .ok (.bipush 80, 2) := by decide +kernel
theorem dX13_init_412 : decode cX13_init 412 = .ok (.newarray .int, 2) := by decide +kernel
theorem dX13_init_414 : decode cX13_init 414 = .ok (.putfield 141, 3) := by decide +kernel
theorem dX13_init_417 : decode cX13_init 417 = .ok (.aload_n 0, 1) := by decide +kernel
theorem dX13_init_418 : decode cX13_init 418 = .ok (.bipush 80, 2) := by decide +kernel
theorem dX13_init_420 : decode cX13_init 420 = .ok (.newarray .int, 2) := by decide +kernel
theorem dX13_init_422 : decode cX13_init 422 = .ok (.putfield 144, 3) := by decide +kernel
theorem dX13_init_425 : decode cX13_init 425 = .ok (.aload_n 0, 1) := by decide +kernel
theorem dX13_init_426 : decode cX13_init 426 = .ok (.bipush 80, 2) := by decide +kernel
theorem dX13_init_428 : decode cX13_init 428 = .ok (.newarray .int, 2) := by decide +kernel
theorem dX13_init_430 : decode cX13_init 430 = .ok (.putfield 147, 3) := by decide +kernel
theorem dX13_init_433 : decode cX13_init 433 = .ok (.aload_n 0, 1) := by decide +kernel
theorem dX13_init_434 : decode cX13_init 434 = .ok (.bipush 80, 2) := by decide +kernel
theorem dX13_init_436 : decode cX13_init 436 = .ok (.newarray .long, 2) := by decide +kernel
theorem dX13_init_438 : decode cX13_init 438 = .ok (.putfield 150, 3) := by decide +kernel
theorem dX13_init_441 : decode cX13_init 441 = .ok (.aload_n 0, 1) := by decide +kernel
theorem dX13_init_442 : decode cX13_init 442 = .ok (.sipush 960, 3) := by decide +kernel
theorem dX13_init_445 : decode cX13_init 445 = .ok (.newarray .long, 2) := by decide +kernel
theorem dX13_init_447 : decode cX13_init 447 = .ok (.putfield 153, 3) := by decide +kernel
theorem dX13_init_450 : decode cX13_init 450 = .ok (.aload_n 0, 1) := by decide +kernel
theorem dX13_init_451 : decode cX13_init 451 = .ok (.sipush 960, 3) := by decide +kernel
theorem dX13_init_454 : decode cX13_init 454 = .ok (.newarray .int, 2) := by decide +kernel
theorem dX13_init_456 : decode cX13_init 456 = .ok (.putfield 156, 3) := by decide +kernel
theorem dX13_init_459 : decode cX13_init 459 = .ok (.aload_n 0, 1) := by decide +kernel
theorem dX13_init_460 : decode cX13_init 460 = .ok (.sipush 960, 3) := by decide +kernel
theorem dX13_init_463 : decode cX13_init 463 = .ok (.newarray .int, 2) := by decide +kernel
theorem dX13_init_465 : decode cX13_init 465 = .ok (.putfield 159, 3) := by decide +kernel
theorem dX13_init_468 : decode cX13_init 468 = .ok (.aload_n 0, 1) := by decide +kernel
theorem dX13_init_469 : decode cX13_init 469 = .ok (.sipush 2000, 3) := by decide +kernel
theorem dX13_init_472 : decode cX13_init 472 = .ok (.newarray .byte, 2) := by decide +kernel
theorem dX13_init_474 : decode cX13_init 474 = .ok (.putfield 162, 3) := by decide +kernel
theorem dX13_init_477 : decode cX13_init 477 = .ok (.aload_n 0, 1) := by decide +kernel
theorem dX13_init_478 : decode cX13_init 478 = .ok (.sipush 1920, 3) := by decide +kernel
theorem dX13_init_481 : decode cX13_init 481 = .ok (.newarray .byte, 2) := by decide +kernel
theorem dX13_init_483 : decode cX13_init 483 = .ok (.putfield 165, 3) := by decide +kernel
theorem dX13_init_486 : decode cX13_init 486 = .ok (.aload_n 0, 1) := by decide +kernel
theorem dX13_init_487 : decode cX13_init 487 = .ok (.bipush 80, 2) := by decide +kernel
theorem dX13_init_489 : decode cX13_init 489 = .ok (.newarray .int, 2) := by decide +kernel
theorem dX13_init_491 : decode cX13_init 491 = .ok (.putfield 168, 3) := by decide +kernel
theorem dX13_init_494 : decode cX13_init 494 = .ok (.aload_n 0, 1) := by decide +kernel
theorem dX13_init_495 : decode cX13_init 495 = .ok (.bipush 80, 2) := by decide +kernel
theorem dX13_init_497 : decode cX13_init 497 = .ok (.newarray .int, 2) := by decide +kernel
theorem dX13_init_499 : decode cX13_init 499 = .ok (.putfield 171, 3) := by decide +kernel
theorem dX13_init_502 : decode cX13_init 502 = .ok (.aload_n 0, 1) := by decide +kernel
theorem dX13_init_503 : decode cX13_init 503 = .ok (.bipush 80, 2) := by decide +kernel
theorem dX13_init_505 : decode cX13_init 505 = .ok (.newarray .int, 2) := by decide +kernel
theorem dX13_init_507 : decode cX13_init 507 = .ok (.putfield 174, 3) := by decide +kernel
theorem dX13_init_510 : decode cX13_init 510 = .ok (.aload_n 0, 1) := by decide +kernel
theorem dX13_init_511 : decode cX13_init 511 = .ok (.sipush 2080, 3) := by decide +kernel
theorem dX13_init_514 : decode cX13_init 514 = .ok (.newarray .int, 2) := by decide +kernel
theorem dX13_init_516 : decode cX13_init 516 = .ok (.putfield 177, 3) := by decide +kernel
theorem dX13_init_519 : decode cX13_init 519 = .ok (.aload_n 0, 1) := by decide +kernel
theorem dX13_init_520 : decode cX13_init 520 = .ok (.bipush 80, 2) := by decide +kernel
theorem dX13_init_522 : decode cX13_init 522 = .ok (.newarray .int, 2) := by decide +kernel
theorem dX13_init_524 : decode cX13_init 524 = .ok (.putfield 180, 3) := by decide +kernel
theorem dX13_init_527 : decode cX13_init 527 = .ok (.aload_n 0, 1) := by decide +kernel
theorem dX13_init_528 : decode cX13_init 528 = .ok (.sipush 2080, 3) := by decide +kernel
theorem dX13_init_531 : decode cX13_init 531 = .ok (.newarray .int, 2) := by decide +kernel
theorem dX13_init_533 : decode cX13_init 533 = .ok (.putfield 183, 3) := by decide +kernel
theorem dX13_init_536 : decode cX13_init 536 = .ok (.aload_n 0, 1) := by decide +kernel
theorem dX13_init_537 : decode cX13_init 537 = .ok (.iconst (-1), 1) := by decide +kernel
theorem dX13_init_538 : decode cX13_init 538 = .ok (.putfield 186, 3) := by decide +kernel
theorem dX13_init_541 : decode cX13_init 541 = .ok (.aload_n 0, 1) := by decide +kernel
theorem dX13_init_542 : decode cX13_init 542 = .ok (.bipush 60, 2) := by decide +kernel
theorem dX13_init_544 : decode cX13_init 544 = .ok (.newarray .int, 2) := by decide +kernel
theorem dX13_init_546 : decode cX13_init 546 = .ok (.putfield 189, 3) := by decide +kernel
theorem dX13_init_549 : decode cX13_init 549 = .ok (.aload_n 0, 1) := by decide +kernel
theorem dX13_init_550 : decode cX13_init 550 = .ok (.bipush 60, 2) := by decide +kernel
theorem dX13_init_552 : decode cX13_init 552 = .ok (.newarray .int, 2) := by decide +kernel
theorem dX13_init_554 : decode cX13_init 554 = .ok (.putfield 192, 3) := by decide +kernel
theorem dX13_init_557 : decode cX13_init 557 = .ok (.aload_n 0, 1) := by decide +kernel
theorem dX13_init_558 : decode cX13_init 558 = .ok (.sipush 400, 3) := by decide +kernel
theorem dX13_init_561 : decode cX13_init 561 = .ok (.newarray .int, 2) := by decide +kernel
theorem dX13_init_563 : decode cX13_init 563 = .ok (.putfield 195, 3) := by decide +kernel
theorem dX13_init_566 : decode cX13_init 566 = .ok (.aload_n 0, 1) := by decide +kernel
theorem dX13_init_567 : decode cX13_init 567 = .ok (.sipush 400, 3) := by decide +kernel
theorem dX13_init_570 : decode cX13_init 570 = .ok (.newarray .int, 2) := by decide +kernel
theorem dX13_init_572 : decode cX13_init 572 = .ok (.putfield 198, 3) := by decide +kernel
theorem dX13_init_575 : decode cX13_init 575 = .ok (.aload_n 0, 1) := by decide +kernel
theorem dX13_init_576 : decode cX13_init 576 = .ok (.sipush 400, 3) := by decide +kernel
theorem dX13_init_579 : decode cX13_init 579 = .ok (.newarray .int, 2) := by decide +kernel
theorem dX13_init_581 : decode cX13_init 581 = .ok (.putfield 201, 3) := by decide +kernel
theorem dX13_init_584 : decode cX13_init 584 = .ok (.aload_n 0, 1) := by decide +kernel
theorem dX13_init_585 : decode cX13_init 585 = .ok (.sipush 400, 3) := by decide +kernel
theorem dX13_init_588 : decode cX13_init 588 = .ok (.newarray .int, 2) := by decide +kernel
theorem dX13_init_590 : decode cX13_init 590 = .ok (.putfield 204, 3) := by decide +kernel
theorem dX13_init_593 : decode cX13_init 593 = .ok (.aload_n 0, 1) := by decide +kernel
theorem dX13_init_594 : decode cX13_init 594 = .ok (.bipush 80, 2) := by decide +kernel
theorem dX13_init_596 : decode cX13_init 596 = .ok (.newarray .int, 2) := by decide +kernel
theorem dX13_init_598 : decode cX13_init 598 = .ok (.putfield 207, 3) := by decide +kernel
theorem dX13_init_601 : decode cX13_init 601 = .ok (.aload_n 0, 1) := by decide +kernel
theorem dX13_init_602 : decode cX13_init 602 = .ok (.bipush 80, 2) := by decide +kernel
theorem dX13_init_604 : decode cX13_init 604 = .ok (.newarray .int, 2) := by decide +kernel
theorem dX13_init_606 : decode cX13_init 606 = .ok (.putfield 210, 3) := by decide +kernel
theorem dX13_init_609 : decode cX13_init 609 = .ok (.aload_n 0, 1) := by decide +kernel
theorem dX13_init_610 : decode cX13_init 610 = .ok (.bipush 80, 2) := by decide +kernel
theorem dX13_init_612 : decode cX13_init 612 = .ok (.newarray .boolean, 2) := by decide +kernel
theorem dX13_init_614 : decode cX13_init 614 = .ok (.putfield 213, 3) := by decide +kernel
theorem dX13_init_617 : decode cX13_init 617 = .ok (.aload_n 0, 1) := by decide +kernel
theorem dX13_init_618 : decode cX13_init 618 = .ok (.bipush 80, 2) := by decide +kernel
theorem dX13_init_620 : decode cX13_init 620 = .ok (.newarray .boolean, 2) := by decide +kernel
theorem dX13_init_622 : decode cX13_init 622 = .ok (.putfield 216, 3) := by decide +kernel
theorem dX13_init_625 : decode cX13_init 625 = .ok (.aload_n 0, 1) := by decide +kernel
theorem dX13_init_626 : decode cX13_init 626 = .ok (.bipush 81, 2) := by decide +kernel
theorem dX13_init_628 : decode cX13_init 628 = .ok (.newarray .int, 2) := by decide +kernel
theorem dX13_init_630 : decode cX13_init 630 = .ok (.putfield 219, 3) := by decide +kernel
theorem dX13_init_633 : decode cX13_init 633 = .ok (.aload_n 0, 1) := by decide +kernel
theorem dX13_init_634 : decode cX13_init 634 = .ok (.bipush 81, 2) := by decide +kernel
theorem dX13_init_636 : decode cX13_init 636 = .ok (.newarray .int, 2) := by decide +kernel
theorem dX13_init_638 : decode cX13_init 638 = .ok (.putfield 222, 3) := by decide +kernel
theorem dX13_init_641 : decode cX13_init 641 = .ok (.aload_n 0, 1) := by decide +kernel
theorem dX13_init_642 : decode cX13_init 642 = .ok (.bipush 81, 2) := by decide +kernel
theorem dX13_init_644 : decode cX13_init 644 = .ok (.newarray .int, 2) := by decide +kernel
theorem dX13_init_646 : decode cX13_init 646 = .ok (.putfield 225, 3) := by decide +kernel
theorem dX13_init_649 : decode cX13_init 649 = .ok (.aload_n 0, 1) := by decide +kernel
theorem dX13_init_650 : decode cX13_init 650 = .ok (.bipush 81, 2) := by decide +kernel
theorem dX13_init_652 : decode cX13_init 652 = .ok (.newarray .int, 2) := by decide +kernel
theorem dX13_init_654 : decode cX13_init 654 = .ok (.putfield 228, 3) := by decide +kernel
theorem dX13_init_657 : decode cX13_init 657 = .ok (.aload_n 0, 1) := by decide +kernel
theorem dX13_init_658 : decode cX13_init 658 = .ok (.bipush 81, 2) := by decide +kernel
theorem dX13_init_660 : decode cX13_init 660 = .ok (.newarray .int, 2) := by decide +kernel
theorem dX13_init_662 : decode cX13_init 662 = .ok (.putfield 231, 3) := by decide +kernel
theorem dX13_init_665 : decode cX13_init 665 = .ok (.aload_n 0, 1) := by decide +kernel
theorem dX13_init_666 : decode cX13_init 666 = .ok (.bipush 81, 2) := by decide +kernel
theorem dX13_init_668 : decode cX13_init 668 = .ok (.newarray .int, 2) := by decide +kernel
theorem dX13_init_670 : decode cX13_init 670 = .ok (.putfield 234, 3) := by decide +kernel
theorem dX13_init_673 : decode cX13_init 673 = .ok (.aload_n 0, 1) := by decide +kernel
theorem dX13_init_674 : decode cX13_init 674 = .ok (.sipush 405, 3) := by decide +kernel
theorem dX13_init_677 : decode cX13_init 677 = .ok (.newarray .int, 2) := by decide +kernel
theorem dX13_init_679 : decode cX13_init 679 = .ok (.putfield 237, 3) := by decide +kernel
theorem dX13_init_682 : decode cX13_init 682 = .ok (.aload_n 0, 1) := by decide +kernel
theorem dX13_init_683 : decode cX13_init 683 = .ok (.sipush 405, 3) := by decide +kernel
theorem dX13_init_686 : decode cX13_init 686 = .ok (.newarray .int, 2) := by decide +kernel
theorem dX13_init_688 : decode cX13_init 688 = .ok (.putfield 240, 3) := by decide +kernel
theorem dX13_init_691 : decode cX13_init 691 = .ok (.aload_n 0, 1) := by decide +kernel
theorem dX13_init_692 : decode cX13_init 692 = .ok (.sipush 2430, 3) := by decide +kernel
theorem dX13_init_695 : decode cX13_init 695 = .ok (.newarray .int, 2) := by decide +kernel
theorem dX13_init_697 : decode cX13_init 697 = .ok (.putfield 243, 3) := by decide +kernel
theorem dX13_init_700 : decode cX13_init 700 = .ok (.aload_n 0, 1) := by decide +kernel
theorem dX13_init_701 : decode cX13_init 701 = .ok (.sipush 2430, 3) := by decide +kernel
theorem dX13_init_704 : decode cX13_init 704 = .ok (.newarray .int, 2) := by decide +kernel
theorem dX13_init_706 : decode cX13_init 706 = .ok (.putfield 246, 3) := by decide +kernel
theorem dX13_init_709 : decode cX13_init 709 = .ok (.aload_n 0, 1) := by decide +kernel
theorem dX13_init_710 : decode cX13_init 710 = .ok (.iconst 4, 1) := by decide +kernel
theorem dX13_init_711 : decode cX13_init 711 = .ok (.newarray .int, 2) := by decide +kernel
theorem dX13_init_713 : decode cX13_init 713 = .ok (.putfield 249, 3) := by decide +kernel
theorem dX13_init_716 : decode cX13_init 716 = .ok (.iconst 0, 1) := by decide +kernel
theorem dX13_init_717 : decode cX13_init 717 = .ok (.istore_n 1, 1) := by decide +kernel
theorem dX13_init_718 : decode cX13_init 718 = .ok (.iload_n 1, 1) := by decide +kernel
theorem dX13_init_719 : decode cX13_init 719 = .ok (.bipush 8, 2) := by decide +kernel
theorem dX13_init_721 : decode cX13_init 721 = .ok (.if_icmp .ge 16, 3) := by decide +kernel
theorem dX13_init_724 : decode cX13_init 724 = .ok (.aload_n 0, 1) := by decide +kernel
theorem dX13_init_725 : decode cX13_init 725 = .ok (.getfield 78, 3) := by decide +kernel
theorem dX13_init_728 : decode cX13_init 728 = .ok (.iload_n 1, 1) := by decide +kernel
theorem dX13_init_729 : decode cX13_init 729 = .ok (.iconst (-1), 1) := by decide +kernel
theorem dX13_init_730 : decode cX13_init 730 = .ok (.iastore, 1) := by decide +kernel
theorem dX13_init_731 : decode cX13_init 731 = .ok (.iinc 1 1, 3) := by decide +kernel
theorem dX13_init_734 : decode cX13_init 734 = .ok (.goto (-16), 3) := by decide +kernel
theorem dX13_init_737 : decode cX13_init 737 = .ok (.return_, 1) := by decide +kernel
end
section
theorem dX13_thrown_0 : decode cX13_thrown 0 = .ok (.aload_n 0, 1) := by decide +kernel
theorem dX13_thrown_1 : decode cX13_thrown 1 = .ok (.getfield 252, 3) := by decide +kernel
theorem dX13_thrown_4 : decode cX13_thrown 4 = .ok (.ireturn, 1) := by decide +kernel
theorem dX13_isClass_0 : decode cX13_isClass 0 = .ok (.iload_n 0, 1) := by decide +kernel
theorem dX13_isClass_1 : decode cX13_isClass 1 = .ok (.ifCond .lt 13, 3) := by decide +kernel
theorem dX13_isClass_4 : decode cX13_isClass 4 = .ok (.iload_n 0, 1) := by decide +kernel
theorem dX13_isClass_5 : decode cX13_isClass 5 = .ok (.bipush 8, 2) := by decide +kernel
theorem dX13_isClass_7 : decode cX13_isClass 7 = .ok (.if_icmp .ge 7, 3) := by decide +kernel
theorem dX13_isClass_10 : decode cX13_isClass 10 = .ok (.iconst 1, 1) := by decide +kernel
theorem dX13_isClass_11 : decode cX13_isClass 11 = .ok (.goto 4, 3) := by decide +kernel
theorem dX13_isClass_14 : decode cX13_isClass 14 = .ok (.iconst 0, 1) := by decide +kernel
theorem dX13_isClass_15 : decode cX13_isClass 15 = .ok (.ireturn, 1) := by decide +kernel
theorem dX13_isType_0 : decode cX13_isType 0 = .ok (.iload_n 0, 1) := by decide +kernel
theorem dX13_isType_1 : decode cX13_isType 1 = .ok (.ifCond .lt 8, 3) := by decide +kernel
theorem dX13_isType_4 : decode cX13_isType 4 = .ok (.iload_n 0, 1) := by decide +kernel
theorem dX13_isType_5 : decode cX13_isType 5 = .ok (.iconst 5, 1) := by decide +kernel
theorem dX13_isType_6 : decode cX13_isType 6 = .ok (.if_icmp .lt 15, 3) := by decide +kernel
theorem dX13_isType_9 : decode cX13_isType 9 = .ok (.iload_n 0, 1) := by decide +kernel
theorem dX13_isType_10 : decode cX13_isType 10 = .ok (.bipush 8, 2) := by decide +kernel
theorem dX13_isType_12 : decode cX13_isType 12 = .ok (.if_icmp .lt 13, 3) := by decide +kernel
theorem dX13_isType_15 : decode cX13_isType 15 = .ok (.iload_n 0, 1) := by decide +kernel
theorem dX13_isType_16 : decode cX13_isType 16 = .ok (.bipush 16, 2) := by decide +kernel
theorem dX13_isType_18 : decode cX13_isType 18 = .ok (.if_icmp .ge 7, 3) := by decide +kernel
theorem dX13_isType_21 : decode cX13_isType 21 = .ok (.iconst 1, 1) := by decide +kernel
theorem dX13_isType_22 : decode cX13_isType 22 = .ok (.goto 4, 3) := by decide +kernel
theorem dX13_isType_25 : decode cX13_isType 25 = .ok (.iconst 0, 1) := by decide +kernel
theorem dX13_isType_26 : decode cX13_isType 26 = .ok (.ireturn, 1) := by decide +kernel
theorem dX13_areTypes_0 : decode cX13_areTypes 0 = .ok (.iload_n 0, 1) := by decide +kernel
theorem dX13_areTypes_1 : decode cX13_areTypes 1 = .ok (.ifCond .lt 48, 3) := by decide +kernel
theorem dX13_areTypes_4 : decode cX13_areTypes 4 = .ok (.iload_n 0, 1) := by decide +kernel
theorem dX13_areTypes_5 : decode cX13_areTypes 5 = .ok (.iconst 4, 1) := by decide +kernel
theorem dX13_areTypes_6 : decode cX13_areTypes 6 = .ok (.if_icmp .ge 43, 3) := by decide +kernel
theorem dX13_areTypes_9 : decode cX13_areTypes 9 = .ok (.iload_n 0, 1) := by decide +kernel
theorem dX13_areTypes_10 : decode cX13_areTypes 10 = .ok (.iconst 1, 1) := by decide +kernel
theorem dX13_areTypes_11 : decode cX13_areTypes 11 = .ok (.if_icmp .lt 10, 3) := by decide +kernel
theorem dX13_areTypes_14 : decode cX13_areTypes 14 = .ok (.iload_n 1, 1) := by decide +kernel
theorem dX13_areTypes_15 : decode cX13_areTypes 15 = .ok (.invokestatic 255, 3) := by decide +kernel
theorem dX13_areTypes_18 : decode cX13_areTypes 18 = .ok (.ifCond .eq 31, 3) := by decide +kernel
theorem dX13_areTypes_21 : decode cX13_areTypes 21 = .ok (.iload_n 0, 1) := by decide +kernel
theorem dX13_areTypes_22 : decode cX13_areTypes 22 = .ok (.iconst 2, 1) := by decide +kernel
theorem dX13_areTypes_23 : decode cX13_areTypes 23 = .ok (.if_icmp .lt 10, 3) := by decide +kernel
theorem dX13_areTypes_26 : decode cX13_areTypes 26 = .ok (.iload_n 2, 1) := by decide +kernel
theorem dX13_areTypes_27 : decode cX13_areTypes 27 = .ok (.invokestatic 255, 3) := by decide +kernel
theorem dX13_areTypes_30 : decode cX13_areTypes 30 = .ok (.ifCond .eq 19, 3) := by decide +kernel
theorem dX13_areTypes_33 : decode cX13_areTypes 33 = .ok (.iload_n 0, 1) := by decide +kernel
theorem dX13_areTypes_34 : decode cX13_areTypes 34 = .ok (.iconst 3, 1) := by decide +kernel
theorem dX13_areTypes_35 : decode cX13_areTypes 35 = .ok (.if_icmp .lt 10, 3) := by decide +kernel
theorem dX13_areTypes_38 : decode cX13_areTypes 38 = .ok (.iload_n 3, 1) := by decide +kernel
theorem dX13_areTypes_39 : decode cX13_areTypes 39 = .ok (.invokestatic 255, 3) := by decide +kernel
theorem dX13_areTypes_42 : decode cX13_areTypes 42 = .ok (.ifCond .eq 7, 3) := by decide +kernel
theorem dX13_areTypes_45 : decode cX13_areTypes 45 = .ok (.iconst 1, 1) := by decide +kernel
theorem dX13_areTypes_46 : decode cX13_areTypes 46 = .ok (.goto 4, 3) := by decide +kernel
theorem dX13_areTypes_49 : decode cX13_areTypes 49 = .ok (.iconst 0, 1) := by decide +kernel
theorem dX13_areTypes_50 : decode cX13_areTypes 50 = .ok (.ireturn, 1) := by decide +kernel
theorem dX13_isLetter_0 : decode cX13_isLetter 0 = .ok (.iload_n 0, 1) := by decide +kernel
theorem dX13_isLetter_1 : decode cX13_isLetter 1 = .ok (.ifCond .lt 13, 3) := by decide +kernel
theorem dX13_isLetter_4 : decode cX13_isLetter 4 = .ok (.iload_n 0, 1) := by decide +kernel
theorem dX13_isLetter_5 : decode cX13_isLetter 5 = .ok (.bipush 26, 2) := by decide +kernel
theorem dX13_isLetter_7 : decode cX13_isLetter 7 = .ok (.if_icmp .ge 7, 3) := by decide +kernel
theorem dX13_isLetter_10 : decode cX13_isLetter 10 = .ok (.iconst 1, 1) := by decide +kernel
theorem dX13_isLetter_11 : decode cX13_isLetter 11 = .ok (.goto 4, 3) := by decide +kernel
theorem dX13_isLetter_14 : decode cX13_isLetter 14 = .ok (.iconst 0, 1) := by decide +kernel
theorem dX13_isLetter_15 : decode cX13_isLetter 15 = .ok (.ireturn, 1) := by decide +kernel
theorem dX13_declare_0 : decode cX13_declare 0 = .ok (.aload_n 0, 1) := by decide +kernel
theorem dX13_declare_1 : decode cX13_declare 1 = .ok (.iconst 0, 1) := by decide +kernel
theorem dX13_declare_2 : decode cX13_declare 2 = .ok (.putfield 252, 3) := by decide +kernel
theorem dX13_declare_5 : decode cX13_declare 5 = .ok (.iload_n 1, 1) := by decide +kernel
theorem dX13_declare_6 : decode cX13_declare 6 = .ok (.invokestatic 259, 3) := by decide +kernel
theorem dX13_declare_9 : decode cX13_declare 9 = .ok (.ifCond .eq 13, 3) := by decide +kernel
theorem dX13_declare_12 : decode cX13_declare 12 = .ok (.iload_n 2, 1) := by decide +kernel
theorem dX13_declare_13 : decode cX13_declare 13 = .ok (.iconst (-1), 1) := by decide +kernel
theorem dX13_declare_14 : decode cX13_declare 14 = .ok (.if_icmp .lt 8, 3) := by decide +kernel
theorem dX13_declare_17 : decode cX13_declare 17 = .ok (.iload_n 2, 1) := by decide +kernel
theorem dX13_declare_18 : decode cX13_declare 18 = .ok (.iload_n 1, 1) := by decide +kernel
theorem dX13_declare_19 : decode cX13_declare 19 = .ok (.if_icmp .lt 5, 3) := by decide +kernel
theorem dX13_declare_22 : decode cX13_declare 22 = .ok (.iconst 0, 1) := by decide +kernel
theorem dX13_declare_23 : decode cX13_declare 23 = .ok (.ireturn, 1) := by decide +kernel
theorem dX13_declare_24 : decode cX13_declare 24 = .ok (.aload_n 0, 1) := by decide +kernel
theorem dX13_declare_25 : decode cX13_declare 25 = .ok (.getfield 78, 3) := by decide +kernel
theorem dX13_declare_28 : decode cX13_declare 28 = .ok (.iload_n 1, 1) := by decide +kernel
theorem dX13_declare_29 : decode cX13_declare 29 = .ok (.iload_n 2, 1) := by decide +kernel
theorem dX13_declare_30 : decode cX13_declare 30 = .ok (.iastore, 1) := by decide +kernel
theorem dX13_declare_31 : decode cX13_declare 31 = .ok (.aload_n 0, 1) := by decide +kernel
theorem dX13_declare_32 : decode cX13_declare 32 = .ok (.getfield 81, 3) := by decide +kernel
theorem dX13_declare_35 : decode cX13_declare 35 = .ok (.iload_n 1, 1) := by decide +kernel
theorem dX13_declare_36 : decode cX13_declare 36 = .ok (.iconst 0, 1) := by decide +kernel
theorem dX13_declare_37 : decode cX13_declare 37 = .ok (.iastore, 1) := by decide +kernel
theorem dX13_declare_38 : decode cX13_declare 38 = .ok (.aload_n 0, 1) := by decide +kernel
theorem dX13_declare_39 : decode cX13_declare 39 = .ok (.getfield 90, 3) := by decide +kernel
theorem dX13_declare_42 : decode cX13_declare 42 = .ok (.iload_n 1, 1) := by decide +kernel
theorem dX13_declare_43 : decode cX13_declare 43 = .ok (.iconst 0, 1) := by decide +kernel
theorem dX13_declare_44 : decode cX13_declare 44 = .ok (.iastore, 1) := by decide +kernel
theorem dX13_declare_45 : decode cX13_declare 45 = .ok (.aload_n 0, 1) := by decide +kernel
theorem dX13_declare_46 : decode cX13_declare 46 = .ok (.getfield 99, 3) := by decide +kernel
theorem dX13_declare_49 : decode cX13_declare 49 = .ok (.iload_n 1, 1) := by decide +kernel
theorem dX13_declare_50 : decode cX13_declare 50 = .ok (.iconst 0, 1) := by decide +kernel
theorem dX13_declare_51 : decode cX13_declare 51 = .ok (.iastore, 1) := by decide +kernel
theorem dX13_declare_52 : decode cX13_declare 52 = .ok (.iconst 1, 1) := by decide +kernel
theorem dX13_declare_53 : decode cX13_declare 53 = .ok (.ireturn, 1) := by decide +kernel
theorem dX13_constructor_0 : decode cX13_constructor 0 = .ok (.aload_n 0, 1) := by decide +kernel
theorem dX13_constructor_1 : decode cX13_constructor 1 = .ok (.iconst 0, 1) := by decide +kernel
theorem dX13_constructor_2 : decode cX13_constructor 2 = .ok (.putfield 252, 3) := by decide +kernel
theorem dX13_constructor_5 : decode cX13_constructor 5 = .ok (.iload_n 1, 1) := by decide +kernel
theorem dX13_constructor_6 : decode cX13_constructor 6 = .ok (.invokestatic 259, 3) := by decide +kernel
theorem dX13_constructor_9 : decode cX13_constructor 9 = .ok (.ifCond .eq 25, 3) := by decide +kernel
theorem dX13_constructor_12 : decode cX13_constructor 12 = .ok (.iload_n 2, 1) := by decide +kernel
theorem dX13_constructor_13 : decode cX13_constructor 13 = .ok (.iload_n 3, 1) := by decide +kernel
theorem dX13_constructor_14 : decode cX13_constructor 14 = .ok (.iload 4, 2) := by decide +kernel
theorem dX13_constructor_16 : decode cX13_constructor 16 = .ok (.iload 5, 2) := by decide +kernel
theorem dX13_constructor_18 : decode cX13_constructor 18 = .ok (.invokestatic 262, 3) := by decide +kernel
theorem dX13_constructor_21 : decode cX13_constructor 21 = .ok (.ifCond .eq 13, 3) := by decide +kernel
theorem dX13_constructor_24 : decode cX13_constructor 24 = .ok (.aload_n 0, 1) := by decide +kernel
theorem dX13_constructor_25 : decode cX13_constructor 25 = .ok (.getfield 81, 3) := by decide +kernel
theorem dX13_constructor_28 : decode cX13_constructor 28 = .ok (.iload_n 1, 1) := by decide +kernel
theorem dX13_constructor_29 : decode cX13_constructor 29 = .ok (.iaload, 1) := by decide +kernel
theorem dX13_constructor_30 : decode cX13_constructor 30 = .ok (.iconst 4, 1) := by decide +kernel
theorem dX13_constructor_31 : decode cX13_constructor 31 = .ok (.if_icmp .ne 5, 3) := by decide +kernel
theorem dX13_constructor_34 : decode cX13_constructor 34 = .ok (.iconst 0, 1) := by decide +kernel
theorem dX13_constructor_35 : decode cX13_constructor 35 = .ok (.ireturn, 1) := by decide +kernel
theorem dX13_constructor_36 : decode cX13_constructor 36 = .ok (.iconst 4, 1) := by decide +kernel
theorem dX13_constructor_37 : decode cX13_constructor 37 = .ok (.iload_n 1, 1) := by decide +kernel
theorem dX13_constructor_38 : decode cX13_constructor 38 = .ok (.imul, 1) := by decide +kernel
theorem dX13_constructor_39 : decode cX13_constructor 39 = .ok (.aload_n 0, 1) := by decide +kernel
theorem dX13_constructor_40 : decode cX13_constructor 40 = .ok (.getfield 81, 3) := by decide +kernel
theorem dX13_constructor_43 : decode cX13_constructor 43 = .ok (.iload_n 1, 1) := by decide +kernel
theorem dX13_constructor_44 : decode cX13_constructor 44 = .ok (.iaload, 1) := by decide +kernel
theorem dX13_constructor_45 : decode cX13_constructor 45 = .ok (.iadd, 1) := by decide +kernel
theorem dX13_constructor_46 : decode cX13_constructor 46 = .ok (.istore 6, 2) := by decide +kernel
theorem dX13_constructor_48 : decode cX13_constructor 48 = .ok (.aload_n 0, 1) := by decide +kernel
theorem dX13_constructor_49 : decode cX13_constructor 49 = .ok (.getfield 84, 3) := by decide +kernel
theorem dX13_constructor_52 : decode cX13_constructor 52 = .ok (.iload 6, 2) := by decide +kernel
theorem dX13_constructor_54 : decode cX13_constructor 54 = .ok (.iload_n 2, 1) := by decide +kernel
theorem dX13_constructor_55 : decode cX13_constructor 55 = .ok (.iastore, 1) := by decide +kernel
theorem dX13_constructor_56 : decode cX13_constructor 56 = .ok (.aload_n 0, 1) := by decide +kernel
theorem dX13_constructor_57 : decode cX13_constructor 57 = .ok (.getfield 87, 3) := by decide +kernel
theorem dX13_constructor_60 : decode cX13_constructor 60 = .ok (.iconst 3, 1) := by decide +kernel
theorem dX13_constructor_61 : decode cX13_constructor 61 = .ok (.iload 6, 2) := by decide +kernel
theorem dX13_constructor_63 : decode cX13_constructor 63 = .ok (.imul, 1) := by decide +kernel
theorem dX13_constructor_64 : decode cX13_constructor 64 = .ok (.iload_n 3, 1) := by decide +kernel
theorem dX13_constructor_65 : decode cX13_constructor 65 = .ok (.iastore, 1) := by decide +kernel
theorem dX13_constructor_66 : decode cX13_constructor 66 = .ok (.aload_n 0, 1) := by decide +kernel
theorem dX13_constructor_67 : decode cX13_constructor 67 = .ok (.getfield 87, 3) := by decide +kernel
theorem dX13_constructor_70 : decode cX13_constructor 70 = .ok (.iconst 3, 1) := by decide +kernel
theorem dX13_constructor_71 : decode cX13_constructor 71 = .ok (.iload 6, 2) := by decide +kernel
theorem dX13_constructor_73 : decode cX13_constructor 73 = .ok (.imul, 1) := by decide +kernel
theorem dX13_constructor_74 : decode cX13_constructor 74 = .ok (.iconst 1, 1) := by decide +kernel
theorem dX13_constructor_75 : decode cX13_constructor 75 = .ok (.iadd, 1) := by decide +kernel
theorem dX13_constructor_76 : decode cX13_constructor 76 = .ok (.iload 4, 2) := by decide +kernel
theorem dX13_constructor_78 : decode cX13_constructor 78 = .ok (.iastore, 1) := by decide +kernel
theorem dX13_constructor_79 : decode cX13_constructor 79 = .ok (.aload_n 0, 1) := by decide +kernel
theorem dX13_constructor_80 : decode cX13_constructor 80 = .ok (.getfield 87, 3) := by decide +kernel
theorem dX13_constructor_83 : decode cX13_constructor 83 = .ok (.iconst 3, 1) := by decide +kernel
theorem dX13_constructor_84 : decode cX13_constructor 84 = .ok (.iload 6, 2) := by decide +kernel
theorem dX13_constructor_86 : decode cX13_constructor 86 = .ok (.imul, 1) := by decide +kernel
theorem dX13_constructor_87 : decode cX13_constructor 87 = .ok (.iconst 2, 1) := by decide +kernel
theorem dX13_constructor_88 : decode cX13_constructor 88 = .ok (.iadd, 1) := by decide +kernel
theorem dX13_constructor_89 : decode cX13_constructor 89 = .ok (.iload 5, 2) := by decide +kernel
theorem dX13_constructor_91 : decode cX13_constructor 91 = .ok (.iastore, 1) := by decide +kernel
theorem dX13_constructor_92 : decode cX13_constructor 92 = .ok (.aload_n 0, 1) := by decide +kernel
theorem dX13_constructor_93 : decode cX13_constructor 93 = .ok (.getfield 81, 3) := by decide +kernel
theorem dX13_constructor_96 : decode cX13_constructor 96 = .ok (.iload_n 1, 1) := by decide +kernel
theorem dX13_constructor_97 : decode cX13_constructor 97 = .ok (.dup2, 1) := by decide +kernel
theorem dX13_constructor_98 : decode cX13_constructor 98 = .ok (.iaload, 1) := by decide +kernel
theorem dX13_constructor_99 : decode cX13_constructor 99 = .ok (.iconst 1, 1) := by decide +kernel
theorem dX13_constructor_100 : decode cX13_constructor 100 = .ok (.iadd, 1) := by decide +kernel
theorem dX13_constructor_101 : decode cX13_constructor 101 = .ok (.iastore, 1) := by decide +kernel
theorem dX13_constructor_102 : decode cX13_constructor 102 = .ok (.iconst 1, 1) := by decide +kernel
theorem dX13_constructor_103 : decode cX13_constructor 103 = .ok (.ireturn, 1) := by decide +kernel
theorem dX13_setter_0 : decode cX13_setter 0 = .ok (.aload_n 0, 1) := by decide +kernel
theorem dX13_setter_1 : decode cX13_setter 1 = .ok (.iconst 0, 1) := by decide +kernel
theorem dX13_setter_2 : decode cX13_setter 2 = .ok (.putfield 252, 3) := by decide +kernel
theorem dX13_setter_5 : decode cX13_setter 5 = .ok (.iload_n 1, 1) := by decide +kernel
theorem dX13_setter_6 : decode cX13_setter 6 = .ok (.invokestatic 259, 3) := by decide +kernel
theorem dX13_setter_9 : decode cX13_setter 9 = .ok (.ifCond .eq 28, 3) := by decide +kernel
theorem dX13_setter_12 : decode cX13_setter 12 = .ok (.iload_n 2, 1) := by decide +kernel
theorem dX13_setter_13 : decode cX13_setter 13 = .ok (.invokestatic 266, 3) := by decide +kernel
theorem dX13_setter_16 : decode cX13_setter 16 = .ok (.ifCond .eq 21, 3) := by decide +kernel
theorem dX13_setter_19 : decode cX13_setter 19 = .ok (.iload_n 3, 1) := by decide +kernel
theorem dX13_setter_20 : decode cX13_setter 20 = .ok (.invokestatic 255, 3) := by decide +kernel
theorem dX13_setter_23 : decode cX13_setter 23 = .ok (.ifCond .eq 14, 3) := by decide +kernel
theorem dX13_setter_26 : decode cX13_setter 26 = .ok (.aload_n 0, 1) := by decide +kernel
theorem dX13_setter_27 : decode cX13_setter 27 = .ok (.getfield 90, 3) := by decide +kernel
theorem dX13_setter_30 : decode cX13_setter 30 = .ok (.iload_n 1, 1) := by decide +kernel
theorem dX13_setter_31 : decode cX13_setter 31 = .ok (.iaload, 1) := by decide +kernel
theorem dX13_setter_32 : decode cX13_setter 32 = .ok (.bipush 8, 2) := by decide +kernel
theorem dX13_setter_34 : decode cX13_setter 34 = .ok (.if_icmp .ne 5, 3) := by decide +kernel
theorem dX13_setter_37 : decode cX13_setter 37 = .ok (.iconst 0, 1) := by decide +kernel
theorem dX13_setter_38 : decode cX13_setter 38 = .ok (.ireturn, 1) := by decide +kernel
theorem dX13_setter_39 : decode cX13_setter 39 = .ok (.iconst 0, 1) := by decide +kernel
theorem dX13_setter_40 : decode cX13_setter 40 = .ok (.istore 4, 2) := by decide +kernel
theorem dX13_setter_42 : decode cX13_setter 42 = .ok (.iload 4, 2) := by decide +kernel
theorem dX13_setter_44 : decode cX13_setter 44 = .ok (.aload_n 0, 1) := by decide +kernel
theorem dX13_setter_45 : decode cX13_setter 45 = .ok (.getfield 90, 3) := by decide +kernel
theorem dX13_setter_48 : decode cX13_setter 48 = .ok (.iload_n 1, 1) := by decide +kernel
theorem dX13_setter_49 : decode cX13_setter 49 = .ok (.iaload, 1) := by decide +kernel
theorem dX13_setter_50 : decode cX13_setter 50 = .ok (.if_icmp .ge 27, 3) := by decide +kernel
theorem dX13_setter_53 : decode cX13_setter 53 = .ok (.aload_n 0, 1) := by decide +kernel
theorem dX13_setter_54 : decode cX13_setter 54 = .ok (.getfield 93, 3) := by decide +kernel
theorem dX13_setter_57 : decode cX13_setter 57 = .ok (.bipush 8, 2) := by decide +kernel
theorem dX13_setter_59 : decode cX13_setter 59 = .ok (.iload_n 1, 1) := by decide +kernel
theorem dX13_setter_60 : decode cX13_setter 60 = .ok (.imul, 1) := by decide +kernel
theorem dX13_setter_61 : decode cX13_setter 61 = .ok (.iload 4, 2) := by decide +kernel
theorem dX13_setter_63 : decode cX13_setter 63 = .ok (.iadd, 1) := by decide +kernel
theorem dX13_setter_64 : decode cX13_setter 64 = .ok (.iaload, 1) := by decide +kernel
theorem dX13_setter_65 : decode cX13_setter 65 = .ok (.iload_n 2, 1) := by decide +kernel
theorem dX13_setter_66 : decode cX13_setter 66 = .ok (.if_icmp .ne 5, 3) := by decide +kernel
theorem dX13_setter_69 : decode cX13_setter 69 = .ok (.iconst 0, 1) := by decide +kernel
theorem dX13_setter_70 : decode cX13_setter 70 = .ok (.ireturn, 1) := by decide +kernel
theorem dX13_setter_71 : decode cX13_setter 71 = .ok (.iinc 4 1, 3) := by decide +kernel
theorem dX13_setter_74 : decode cX13_setter 74 = .ok (.goto (-32), 3) := by decide +kernel
theorem dX13_setter_77 : decode cX13_setter 77 = .ok (.aload_n 0, 1) := by decide +kernel
theorem dX13_setter_78 : decode cX13_setter 78 = .ok (.getfield 93, 3) := by decide +kernel
theorem dX13_setter_81 : decode cX13_setter 81 = .ok (.bipush 8, 2) := by decide +kernel
theorem dX13_setter_83 : decode cX13_setter 83 = .ok (.iload_n 1, 1) := by decide +kernel
theorem dX13_setter_84 : decode cX13_setter 84 = .ok (.imul, 1) := by decide +kernel
theorem dX13_setter_85 : decode cX13_setter 85 = .ok (.aload_n 0, 1) := by decide +kernel
theorem dX13_setter_86 : decode cX13_setter 86 = .ok (.getfield 90, 3) := by decide +kernel
theorem dX13_setter_89 : decode cX13_setter 89 = .ok (.iload_n 1, 1) := by decide +kernel
theorem dX13_setter_90 : decode cX13_setter 90 = .ok (.iaload, 1) := by decide +kernel
theorem dX13_setter_91 : decode cX13_setter 91 = .ok (.iadd, 1) := by decide +kernel
theorem dX13_setter_92 : decode cX13_setter 92 = .ok (.iload_n 2, 1) := by decide +kernel
theorem dX13_setter_93 : decode cX13_setter 93 = .ok (.iastore, 1) := by decide +kernel
theorem dX13_setter_94 : decode cX13_setter 94 = .ok (.aload_n 0, 1) := by decide +kernel
theorem dX13_setter_95 : decode cX13_setter 95 = .ok (.getfield 96, 3) := by decide +kernel
theorem dX13_setter_98 : decode cX13_setter 98 = .ok (.bipush 8, 2) := by decide +kernel
theorem dX13_setter_100 : decode cX13_setter 100 = .ok (.iload_n 1, 1) := by decide +kernel
theorem dX13_setter_101 : decode cX13_setter 101 = .ok (.imul, 1) := by decide +kernel
theorem dX13_setter_102 : decode cX13_setter 102 = .ok (.aload_n 0, 1) := by decide +kernel
theorem dX13_setter_103 : decode cX13_setter 103 = .ok (.getfield 90, 3) := by decide +kernel
theorem dX13_setter_106 : decode cX13_setter 106 = .ok (.iload_n 1, 1) := by decide +kernel
theorem dX13_setter_107 : decode cX13_setter 107 = .ok (.iaload, 1) := by decide +kernel
theorem dX13_setter_108 : decode cX13_setter 108 = .ok (.iadd, 1) := by decide +kernel
theorem dX13_setter_109 : decode cX13_setter 109 = .ok (.iload_n 3, 1) := by decide +kernel
theorem dX13_setter_110 : decode cX13_setter 110 = .ok (.iastore, 1) := by decide +kernel
theorem dX13_setter_111 : decode cX13_setter 111 = .ok (.aload_n 0, 1) := by decide +kernel
theorem dX13_setter_112 : decode cX13_setter 112 = .ok (.getfield 90, 3) := by decide +kernel
theorem dX13_setter_115 : decode cX13_setter 115 = .ok (.iload_n 1, 1) := by decide +kernel
theorem dX13_setter_116 : decode cX13_setter 116 = .ok (.dup2, 1) := by decide +kernel
theorem dX13_setter_117 : decode cX13_setter 117 = .ok (.iaload, 1) := by decide +kernel
theorem dX13_setter_118 : decode cX13_setter 118 = .ok (.iconst 1, 1) := by decide +kernel
theorem dX13_setter_119 : decode cX13_setter 119 = .ok (.iadd, 1) := by decide +kernel
theorem dX13_setter_120 : decode cX13_setter 120 = .ok (.iastore, 1) := by decide +kernel
theorem dX13_setter_121 : decode cX13_setter 121 = .ok (.iconst 1, 1) := by decide +kernel
theorem dX13_setter_122 : decode cX13_setter 122 = .ok (.ireturn, 1) := by decide +kernel
theorem dX13_factory_0 : decode cX13_factory 0 = .ok (.aload_n 0, 1) := by decide +kernel
theorem dX13_factory_1 : decode cX13_factory 1 = .ok (.iconst 0, 1) := by decide +kernel
theorem dX13_factory_2 : decode cX13_factory 2 = .ok (.putfield 252, 3) := by decide +kernel
theorem dX13_factory_5 : decode cX13_factory 5 = .ok (.iload_n 1, 1) := by decide +kernel
theorem dX13_factory_6 : decode cX13_factory 6 = .ok (.invokestatic 259, 3) := by decide +kernel
theorem dX13_factory_9 : decode cX13_factory 9 = .ok (.ifCond .eq 42, 3) := by decide +kernel
theorem dX13_factory_12 : decode cX13_factory 12 = .ok (.iload_n 2, 1) := by decide +kernel
theorem dX13_factory_13 : decode cX13_factory 13 = .ok (.invokestatic 266, 3) := by decide +kernel
theorem dX13_factory_16 : decode cX13_factory 16 = .ok (.ifCond .eq 35, 3) := by decide +kernel
theorem dX13_factory_19 : decode cX13_factory 19 = .ok (.iload 4, 2) := by decide +kernel
theorem dX13_factory_21 : decode cX13_factory 21 = .ok (.invokestatic 259, 3) := by decide +kernel
theorem dX13_factory_24 : decode cX13_factory 24 = .ok (.ifCond .eq 27, 3) := by decide +kernel
theorem dX13_factory_27 : decode cX13_factory 27 = .ok (.iload 5, 2) := by decide +kernel
theorem dX13_factory_29 : decode cX13_factory 29 = .ok (.iload 6, 2) := by decide +kernel
theorem dX13_factory_31 : decode cX13_factory 31 = .ok (.iload 7, 2) := by decide +kernel
theorem dX13_factory_33 : decode cX13_factory 33 = .ok (.iload 8, 2) := by decide +kernel
theorem dX13_factory_35 : decode cX13_factory 35 = .ok (.invokestatic 262, 3) := by decide +kernel
theorem dX13_factory_38 : decode cX13_factory 38 = .ok (.ifCond .eq 13, 3) := by decide +kernel
theorem dX13_factory_41 : decode cX13_factory 41 = .ok (.aload_n 0, 1) := by decide +kernel
theorem dX13_factory_42 : decode cX13_factory 42 = .ok (.getfield 99, 3) := by decide +kernel
theorem dX13_factory_45 : decode cX13_factory 45 = .ok (.iload_n 1, 1) := by decide +kernel
theorem dX13_factory_46 : decode cX13_factory 46 = .ok (.iaload, 1) := by decide +kernel
theorem dX13_factory_47 : decode cX13_factory 47 = .ok (.iconst 4, 1) := by decide +kernel
theorem dX13_factory_48 : decode cX13_factory 48 = .ok (.if_icmp .ne 5, 3) := by decide +kernel
theorem dX13_factory_51 : decode cX13_factory 51 = .ok (.iconst 0, 1) := by decide +kernel
theorem dX13_factory_52 : decode cX13_factory 52 = .ok (.ireturn, 1) := by decide +kernel
theorem dX13_factory_53 : decode cX13_factory 53 = .ok (.iconst 4, 1) := by decide +kernel
theorem dX13_factory_54 : decode cX13_factory 54 = .ok (.iload_n 1, 1) := by decide +kernel
theorem dX13_factory_55 : decode cX13_factory 55 = .ok (.imul, 1) := by decide +kernel
theorem dX13_factory_56 : decode cX13_factory 56 = .ok (.aload_n 0, 1) := by decide +kernel
theorem dX13_factory_57 : decode cX13_factory 57 = .ok (.getfield 99, 3) := by decide +kernel
theorem dX13_factory_60 : decode cX13_factory 60 = .ok (.iload_n 1, 1) := by decide +kernel
theorem dX13_factory_61 : decode cX13_factory 61 = .ok (.iaload, 1) := by decide +kernel
theorem dX13_factory_62 : decode cX13_factory 62 = .ok (.iadd, 1) := by decide +kernel
theorem dX13_factory_63 : decode cX13_factory 63 = .ok (.istore 9, 2) := by decide +kernel
theorem dX13_factory_65 : decode cX13_factory 65 = .ok (.aload_n 0, 1) := by decide +kernel
theorem dX13_factory_66 : decode cX13_factory 66 = .ok (.getfield 102, 3) := by decide +kernel
theorem dX13_factory_69 : decode cX13_factory 69 = .ok (.iload 9, 2) := by decide +kernel
theorem dX13_factory_71 : decode cX13_factory 71 = .ok (.iload_n 2, 1) := by decide +kernel
theorem dX13_factory_72 : decode cX13_factory 72 = .ok (.iastore, 1) := by decide +kernel
theorem dX13_factory_73 : decode cX13_factory 73 = .ok (.aload_n 0, 1) := by decide +kernel
theorem dX13_factory_74 : decode cX13_factory 74 = .ok (.getfield 114, 3) := by decide +kernel
theorem dX13_factory_77 : decode cX13_factory 77 = .ok (.iload 9, 2) := by decide +kernel
theorem dX13_factory_79 : decode cX13_factory 79 = .ok (.iload_n 3, 1) := by decide +kernel
theorem dX13_factory_80 : decode cX13_factory 80 = .ok (.bastore, 1) := by decide +kernel
theorem dX13_factory_81 : decode cX13_factory 81 = .ok (.aload_n 0, 1) := by decide +kernel
theorem dX13_factory_82 : decode cX13_factory 82 = .ok (.getfield 105, 3) := by decide +kernel
theorem dX13_factory_85 : decode cX13_factory 85 = .ok (.iload 9, 2) := by decide +kernel
theorem dX13_factory_87 : decode cX13_factory 87 = .ok (.iload 4, 2) := by decide +kernel
theorem dX13_factory_89 : decode cX13_factory 89 = .ok (.iastore, 1) := by decide +kernel
theorem dX13_factory_90 : decode cX13_factory 90 = .ok (.aload_n 0, 1) := by decide +kernel
theorem dX13_factory_91 : decode cX13_factory 91 = .ok (.getfield 108, 3) := by decide +kernel
theorem dX13_factory_94 : decode cX13_factory 94 = .ok (.iload 9, 2) := by decide +kernel
theorem dX13_factory_96 : decode cX13_factory 96 = .ok (.iload 5, 2) := by decide +kernel
theorem dX13_factory_98 : decode cX13_factory 98 = .ok (.iastore, 1) := by decide +kernel
theorem dX13_factory_99 : decode cX13_factory 99 = .ok (.aload_n 0, 1) := by decide +kernel
theorem dX13_factory_100 : decode cX13_factory 100 = .ok (.getfield 111, 3) := by decide +kernel
theorem dX13_factory_103 : decode cX13_factory 103 = .ok (.iconst 3, 1) := by decide +kernel
theorem dX13_factory_104 : decode cX13_factory 104 = .ok (.iload 9, 2) := by decide +kernel
theorem dX13_factory_106 : decode cX13_factory 106 = .ok (.imul, 1) := by decide +kernel
theorem dX13_factory_107 : decode cX13_factory 107 = .ok (.iload 6, 2) := by decide +kernel
theorem dX13_factory_109 : decode cX13_factory 109 = .ok (.iastore, 1) := by decide +kernel
theorem dX13_factory_110 : decode cX13_factory 110 = .ok (.aload_n 0, 1) := by decide +kernel
theorem dX13_factory_111 : decode cX13_factory 111 = .ok (.getfield 111, 3) := by decide +kernel
theorem dX13_factory_114 : decode cX13_factory 114 = .ok (.iconst 3, 1) := by decide +kernel
theorem dX13_factory_115 : decode cX13_factory 115 = .ok (.iload 9, 2) := by decide +kernel
theorem dX13_factory_117 : decode cX13_factory 117 = .ok (.imul, 1) := by decide +kernel
theorem dX13_factory_118 : decode cX13_factory 118 = .ok (.iconst 1, 1) := by decide +kernel
theorem dX13_factory_119 : decode cX13_factory 119 = .ok (.iadd, 1) := by decide +kernel
theorem dX13_factory_120 : decode cX13_factory 120 = .ok (.iload 7, 2) := by decide +kernel
theorem dX13_factory_122 : decode cX13_factory 122 = .ok (.iastore, 1) := by decide +kernel
theorem dX13_factory_123 : decode cX13_factory 123 = .ok (.aload_n 0, 1) := by decide +kernel
theorem dX13_factory_124 : decode cX13_factory 124 = .ok (.getfield 111, 3) := by decide +kernel
theorem dX13_factory_127 : decode cX13_factory 127 = .ok (.iconst 3, 1) := by decide +kernel
theorem dX13_factory_128 : decode cX13_factory 128 = .ok (.iload 9, 2) := by decide +kernel
theorem dX13_factory_130 : decode cX13_factory 130 = .ok (.imul, 1) := by decide +kernel
theorem dX13_factory_131 : decode cX13_factory 131 = .ok (.iconst 2, 1) := by decide +kernel
theorem dX13_factory_132 : decode cX13_factory 132 = .ok (.iadd, 1) := by decide +kernel
theorem dX13_factory_133 : decode cX13_factory 133 = .ok (.iload 8, 2) := by decide +kernel
theorem dX13_factory_135 : decode cX13_factory 135 = .ok (.iastore, 1) := by decide +kernel
theorem dX13_factory_136 : decode cX13_factory 136 = .ok (.aload_n 0, 1) := by decide +kernel
theorem dX13_factory_137 : decode cX13_factory 137 = .ok (.getfield 99, 3) := by decide +kernel
theorem dX13_factory_140 : decode cX13_factory 140 = .ok (.iload_n 1, 1) := by decide +kernel
theorem dX13_factory_141 : decode cX13_factory 141 = .ok (.dup2, 1) := by decide +kernel
theorem dX13_factory_142 : decode cX13_factory 142 = .ok (.iaload, 1) := by decide +kernel
theorem dX13_factory_143 : decode cX13_factory 143 = .ok (.iconst 1, 1) := by decide +kernel
theorem dX13_factory_144 : decode cX13_factory 144 = .ok (.iadd, 1) := by decide +kernel
theorem dX13_factory_145 : decode cX13_factory 145 = .ok (.iastore, 1) := by decide +kernel
theorem dX13_factory_146 : decode cX13_factory 146 = .ok (.iconst 1, 1) := by decide +kernel
theorem dX13_factory_147 : decode cX13_factory 147 = .ok (.ireturn, 1) := by decide +kernel
theorem dX13_type_0 : decode cX13_type 0 = .ok (.aload_n 0, 1) := by decide +kernel
theorem dX13_type_1 : decode cX13_type 1 = .ok (.iconst 0, 1) := by decide +kernel
theorem dX13_type_2 : decode cX13_type 2 = .ok (.putfield 252, 3) := by decide +kernel
theorem dX13_type_5 : decode cX13_type 5 = .ok (.iconst 0, 1) := by decide +kernel
theorem dX13_type_6 : decode cX13_type 6 = .ok (.istore 6, 2) := by decide +kernel
theorem dX13_type_8 : decode cX13_type 8 = .ok (.iconst 0, 1) := by decide +kernel
theorem dX13_type_9 : decode cX13_type 9 = .ok (.istore 7, 2) := by decide +kernel
theorem dX13_type_11 : decode cX13_type 11 = .ok (.iload 7, 2) := by decide +kernel
theorem dX13_type_13 : decode cX13_type 13 = .ok (.bipush 20, 2) := by decide +kernel
theorem dX13_type_15 : decode cX13_type 15 = .ok (.if_icmp .ge 119, 3) := by decide +kernel
theorem dX13_type_18 : decode cX13_type 18 = .ok (.iload 7, 2) := by decide +kernel
theorem dX13_type_20 : decode cX13_type 20 = .ok (.iconst 4, 1) := by decide +kernel
theorem dX13_type_21 : decode cX13_type 21 = .ok (.if_icmp .ge 7, 3) := by decide +kernel
theorem dX13_type_24 : decode cX13_type 24 = .ok (.iload_n 1, 1) := by decide +kernel
theorem dX13_type_25 : decode cX13_type 25 = .ok (.goto 39, 3) := by decide +kernel
theorem dX13_type_28 : decode cX13_type 28 = .ok (.iload 7, 2) := by decide +kernel
theorem dX13_type_30 : decode cX13_type 30 = .ok (.bipush 8, 2) := by decide +kernel
theorem dX13_type_32 : decode cX13_type 32 = .ok (.if_icmp .ge 7, 3) := by decide +kernel
theorem dX13_type_35 : decode cX13_type 35 = .ok (.iload_n 2, 1) := by decide +kernel
theorem dX13_type_36 : decode cX13_type 36 = .ok (.goto 28, 3) := by decide +kernel
theorem dX13_type_39 : decode cX13_type 39 = .ok (.iload 7, 2) := by decide +kernel
theorem dX13_type_41 : decode cX13_type 41 = .ok (.bipush 12, 2) := by decide +kernel
theorem dX13_type_43 : decode cX13_type 43 = .ok (.if_icmp .ge 7, 3) := by decide +kernel
theorem dX13_type_46 : decode cX13_type 46 = .ok (.iload_n 3, 1) := by decide +kernel
theorem dX13_type_47 : decode cX13_type 47 = .ok (.goto 17, 3) := by decide +kernel
theorem dX13_type_50 : decode cX13_type 50 = .ok (.iload 7, 2) := by decide +kernel
theorem dX13_type_52 : decode cX13_type 52 = .ok (.bipush 16, 2) := by decide +kernel
theorem dX13_type_54 : decode cX13_type 54 = .ok (.if_icmp .ge 8, 3) := by decide +kernel
theorem dX13_type_57 : decode cX13_type 57 = .ok (.iload 4, 2) := by decide +kernel
theorem dX13_type_59 : decode cX13_type 59 = .ok (.goto 5, 3) := by decide +kernel
theorem dX13_type_62 : decode cX13_type 62 = .ok (.iload 5, 2) := by decide +kernel
theorem dX13_type_64 : decode cX13_type 64 = .ok (.istore 8, 2) := by decide +kernel
theorem dX13_type_66 : decode cX13_type 66 = .ok (.iload 8, 2) := by decide +kernel
theorem dX13_type_68 : decode cX13_type 68 = .ok (.bipush 24, 2) := by decide +kernel
theorem dX13_type_70 : decode cX13_type 70 = .ok (.bipush 8, 2) := by decide +kernel
theorem dX13_type_72 : decode cX13_type 72 = .ok (.iload 7, 2) := by decide +kernel
theorem dX13_type_74 : decode cX13_type 74 = .ok (.iconst 4, 1) := by decide +kernel
theorem dX13_type_75 : decode cX13_type 75 = .ok (.irem, 1) := by decide +kernel
theorem dX13_type_76 : decode cX13_type 76 = .ok (.imul, 1) := by decide +kernel
theorem dX13_type_77 : decode cX13_type 77 = .ok (.isub, 1) := by decide +kernel
theorem dX13_type_78 : decode cX13_type 78 = .ok (.ishr, 1) := by decide +kernel
theorem dX13_type_79 : decode cX13_type 79 = .ok (.sipush 255, 3) := by decide +kernel
theorem dX13_type_82 : decode cX13_type 82 = .ok (.iand, 1) := by decide +kernel
theorem dX13_type_83 : decode cX13_type 83 = .ok (.istore 9, 2) := by decide +kernel
theorem dX13_type_85 : decode cX13_type 85 = .ok (.iload 9, 2) := by decide +kernel
theorem dX13_type_87 : decode cX13_type 87 = .ok (.ifCond .eq 26, 3) := by decide +kernel
theorem dX13_type_90 : decode cX13_type 90 = .ok (.iload 9, 2) := by decide +kernel
theorem dX13_type_92 : decode cX13_type 92 = .ok (.bipush 10, 2) := by decide +kernel
theorem dX13_type_94 : decode cX13_type 94 = .ok (.if_icmp .eq 19, 3) := by decide +kernel
theorem dX13_type_97 : decode cX13_type 97 = .ok (.iload 9, 2) := by decide +kernel
theorem dX13_type_99 : decode cX13_type 99 = .ok (.bipush 32, 2) := by decide +kernel
theorem dX13_type_101 : decode cX13_type 101 = .ok (.if_icmp .lt 10, 3) := by decide +kernel
theorem dX13_type_104 : decode cX13_type 104 = .ok (.iload 9, 2) := by decide +kernel
theorem dX13_type_106 : decode cX13_type 106 = .ok (.bipush 126, 2) := by decide +kernel
theorem dX13_type_108 : decode cX13_type 108 = .ok (.if_icmp .le 5, 3) := by decide +kernel
theorem dX13_type_111 : decode cX13_type 111 = .ok (.iconst (-1), 1) := by decide +kernel
theorem dX13_type_112 : decode cX13_type 112 = .ok (.ireturn, 1) := by decide +kernel
theorem dX13_type_113 : decode cX13_type 113 = .ok (.iload 6, 2) := by decide +kernel
theorem dX13_type_115 : decode cX13_type 115 = .ok (.iload 9, 2) := by decide +kernel
theorem dX13_type_117 : decode cX13_type 117 = .ok (.ifCond .eq 7, 3) := by decide +kernel
theorem dX13_type_120 : decode cX13_type 120 = .ok (.iconst 1, 1) := by decide +kernel
theorem dX13_type_121 : decode cX13_type 121 = .ok (.goto 4, 3) := by decide +kernel
theorem dX13_type_124 : decode cX13_type 124 = .ok (.iconst 0, 1) := by decide +kernel
theorem dX13_type_125 : decode cX13_type 125 = .ok (.iadd, 1) := by decide +kernel
theorem dX13_type_126 : decode cX13_type 126 = .ok (.istore 6, 2) := by decide +kernel
theorem dX13_type_128 : decode cX13_type 128 = .ok (.iinc 7 1, 3) := by decide +kernel
theorem dX13_type_131 : decode cX13_type 131 = .ok (.goto (-120), 3) := by decide +kernel
theorem dX13_type_134 : decode cX13_type 134 = .ok (.aload_n 0, 1) := by decide +kernel
theorem dX13_type_135 : decode cX13_type 135 = .ok (.getfield 273, 3) := by decide +kernel
theorem dX13_type_138 : decode cX13_type 138 = .ok (.iload 6, 2) := by decide +kernel
theorem dX13_type_140 : decode cX13_type 140 = .ok (.iadd, 1) := by decide +kernel
theorem dX13_type_141 : decode cX13_type 141 = .ok (.sipush 1200, 3) := by decide +kernel
theorem dX13_type_144 : decode cX13_type 144 = .ok (.if_icmp .le 5, 3) := by decide +kernel
theorem dX13_type_147 : decode cX13_type 147 = .ok (.iconst (-1), 1) := by decide +kernel
theorem dX13_type_148 : decode cX13_type 148 = .ok (.ireturn, 1) := by decide +kernel
theorem dX13_type_149 : decode cX13_type 149 = .ok (.iconst 0, 1) := by decide +kernel
theorem dX13_type_150 : decode cX13_type 150 = .ok (.istore 7, 2) := by decide +kernel
theorem dX13_type_152 : decode cX13_type 152 = .ok (.iload 7, 2) := by decide +kernel
theorem dX13_type_154 : decode cX13_type 154 = .ok (.bipush 20, 2) := by decide +kernel
theorem dX13_type_156 : decode cX13_type 156 = .ok (.if_icmp .ge 103, 3) := by decide +kernel
theorem dX13_type_159 : decode cX13_type 159 = .ok (.iload 7, 2) := by decide +kernel
theorem dX13_type_161 : decode cX13_type 161 = .ok (.iconst 4, 1) := by decide +kernel
theorem dX13_type_162 : decode cX13_type 162 = .ok (.if_icmp .ge 7, 3) := by decide +kernel
theorem dX13_type_165 : decode cX13_type 165 = .ok (.iload_n 1, 1) := by decide +kernel
theorem dX13_type_166 : decode cX13_type 166 = .ok (.goto 39, 3) := by decide +kernel
theorem dX13_type_169 : decode cX13_type 169 = .ok (.iload 7, 2) := by decide +kernel
theorem dX13_type_171 : decode cX13_type 171 = .ok (.bipush 8, 2) := by decide +kernel
theorem dX13_type_173 : decode cX13_type 173 = .ok (.if_icmp .ge 7, 3) := by decide +kernel
theorem dX13_type_176 : decode cX13_type 176 = .ok (.iload_n 2, 1) := by decide +kernel
theorem dX13_type_177 : decode cX13_type 177 = .ok (.goto 28, 3) := by decide +kernel
theorem dX13_type_180 : decode cX13_type 180 = .ok (.iload 7, 2) := by decide +kernel
theorem dX13_type_182 : decode cX13_type 182 = .ok (.bipush 12, 2) := by decide +kernel
theorem dX13_type_184 : decode cX13_type 184 = .ok (.if_icmp .ge 7, 3) := by decide +kernel
theorem dX13_type_187 : decode cX13_type 187 = .ok (.iload_n 3, 1) := by decide +kernel
theorem dX13_type_188 : decode cX13_type 188 = .ok (.goto 17, 3) := by decide +kernel
theorem dX13_type_191 : decode cX13_type 191 = .ok (.iload 7, 2) := by decide +kernel
theorem dX13_type_193 : decode cX13_type 193 = .ok (.bipush 16, 2) := by decide +kernel
theorem dX13_type_195 : decode cX13_type 195 = .ok (.if_icmp .ge 8, 3) := by decide +kernel
theorem dX13_type_198 : decode cX13_type 198 = .ok (.iload 4, 2) := by decide +kernel
theorem dX13_type_200 : decode cX13_type 200 = .ok (.goto 5, 3) := by decide +kernel
theorem dX13_type_203 : decode cX13_type 203 = .ok (.iload 5, 2) := by decide +kernel
theorem dX13_type_205 : decode cX13_type 205 = .ok (.istore 8, 2) := by decide +kernel
theorem dX13_type_207 : decode cX13_type 207 = .ok (.iload 8, 2) := by decide +kernel
theorem dX13_type_209 : decode cX13_type 209 = .ok (.bipush 24, 2) := by decide +kernel
theorem dX13_type_211 : decode cX13_type 211 = .ok (.bipush 8, 2) := by decide +kernel
theorem dX13_type_213 : decode cX13_type 213 = .ok (.iload 7, 2) := by decide +kernel
theorem dX13_type_215 : decode cX13_type 215 = .ok (.iconst 4, 1) := by decide +kernel
theorem dX13_type_216 : decode cX13_type 216 = .ok (.irem, 1) := by decide +kernel
theorem dX13_type_217 : decode cX13_type 217 = .ok (.imul, 1) := by decide +kernel
theorem dX13_type_218 : decode cX13_type 218 = .ok (.isub, 1) := by decide +kernel
theorem dX13_type_219 : decode cX13_type 219 = .ok (.ishr, 1) := by decide +kernel
theorem dX13_type_220 : decode cX13_type 220 = .ok (.sipush 255, 3) := by decide +kernel
theorem dX13_type_223 : decode cX13_type 223 = .ok (.iand, 1) := by decide +kernel
theorem dX13_type_224 : decode cX13_type 224 = .ok (.istore 9, 2) := by decide +kernel
theorem dX13_type_226 : decode cX13_type 226 = .ok (.iload 9, 2) := by decide +kernel
theorem dX13_type_228 : decode cX13_type 228 = .ok (.ifCond .eq 25, 3) := by decide +kernel
theorem dX13_type_231 : decode cX13_type 231 = .ok (.aload_n 0, 1) := by decide +kernel
theorem dX13_type_232 : decode cX13_type 232 = .ok (.getfield 118, 3) := by decide +kernel
theorem dX13_type_235 : decode cX13_type 235 = .ok (.aload_n 0, 1) := by decide +kernel
theorem dX13_type_236 : decode cX13_type 236 = .ok (.getfield 273, 3) := by decide +kernel
theorem dX13_type_239 : decode cX13_type 239 = .ok (.iload 9, 2) := by decide +kernel
theorem dX13_type_241 : decode cX13_type 241 = .ok (.i2b, 1) := by decide +kernel
theorem dX13_type_242 : decode cX13_type 242 = .ok (.bastore, 1) := by decide +kernel
theorem dX13_type_243 : decode cX13_type 243 = .ok (.aload_n 0, 1) := by decide +kernel
theorem dX13_type_244 : decode cX13_type 244 = .ok (.dup, 1) := by decide +kernel
theorem dX13_type_245 : decode cX13_type 245 = .ok (.getfield 273, 3) := by decide +kernel
theorem dX13_type_248 : decode cX13_type 248 = .ok (.iconst 1, 1) := by decide +kernel
theorem dX13_type_249 : decode cX13_type 249 = .ok (.iadd, 1) := by decide +kernel
theorem dX13_type_250 : decode cX13_type 250 = .ok (.putfield 273, 3) := by decide +kernel
theorem dX13_type_253 : decode cX13_type 253 = .ok (.iinc 7 1, 3) := by decide +kernel
theorem dX13_type_256 : decode cX13_type 256 = .ok (.goto (-104), 3) := by decide +kernel
theorem dX13_type_259 : decode cX13_type 259 = .ok (.aload_n 0, 1) := by decide +kernel
theorem dX13_type_260 : decode cX13_type 260 = .ok (.getfield 273, 3) := by decide +kernel
theorem dX13_type_263 : decode cX13_type 263 = .ok (.ireturn, 1) := by decide +kernel
theorem dX13_bad_0 : decode cX13_bad 0 = .ok (.aload_n 0, 1) := by decide +kernel
theorem dX13_bad_1 : decode cX13_bad 1 = .ok (.getfield 276, 3) := by decide +kernel
theorem dX13_bad_4 : decode cX13_bad 4 = .ok (.ifCond .eq 4, 3) := by decide +kernel
theorem dX13_bad_7 : decode cX13_bad 7 = .ok (.return_, 1) := by decide +kernel
theorem dX13_bad_8 : decode cX13_bad 8 = .ok (.aload_n 0, 1) := by decide +kernel
theorem dX13_bad_9 : decode cX13_bad 9 = .ok (.iconst 1, 1) := by decide +kernel
theorem dX13_bad_10 : decode cX13_bad 10 = .ok (.putfield 276, 3) := by decide +kernel
theorem dX13_bad_13 : decode cX13_bad 13 = .ok (.aload_n 0, 1) := by decide +kernel
theorem dX13_bad_14 : decode cX13_bad 14 = .ok (.iload_n 1, 1) := by decide +kernel
theorem dX13_bad_15 : decode cX13_bad 15 = .ok (.putfield 122, 3) := by decide +kernel
theorem dX13_bad_18 : decode cX13_bad 18 = .ok (.return_, 1) := by decide +kernel
theorem dX13_here_0 : decode cX13_here 0 = .ok (.aload_n 0, 1) := by decide +kernel
theorem dX13_here_1 : decode cX13_here 1 = .ok (.getfield 279, 3) := by decide +kernel
theorem dX13_here_4 : decode cX13_here 4 = .ok (.iload_n 1, 1) := by decide +kernel
theorem dX13_here_5 : decode cX13_here 5 = .ok (.iadd, 1) := by decide +kernel
theorem dX13_here_6 : decode cX13_here 6 = .ok (.aload_n 0, 1) := by decide +kernel
theorem dX13_here_7 : decode cX13_here 7 = .ok (.getfield 273, 3) := by decide +kernel
theorem dX13_here_10 : decode cX13_here 10 = .ok (.if_icmp .ge 17, 3) := by decide +kernel
theorem dX13_here_13 : decode cX13_here 13 = .ok (.aload_n 0, 1) := by decide +kernel
theorem dX13_here_14 : decode cX13_here 14 = .ok (.getfield 118, 3) := by decide +kernel
theorem dX13_here_17 : decode cX13_here 17 = .ok (.aload_n 0, 1) := by decide +kernel
theorem dX13_here_18 : decode cX13_here 18 = .ok (.getfield 279, 3) := by decide +kernel
theorem dX13_here_21 : decode cX13_here 21 = .ok (.iload_n 1, 1) := by decide +kernel
theorem dX13_here_22 : decode cX13_here 22 = .ok (.iadd, 1) := by decide +kernel
theorem dX13_here_23 : decode cX13_here 23 = .ok (.baload, 1) := by decide +kernel
theorem dX13_here_24 : decode cX13_here 24 = .ok (.goto 4, 3) := by decide +kernel
theorem dX13_here_27 : decode cX13_here 27 = .ok (.iconst (-1), 1) := by decide +kernel
theorem dX13_here_28 : decode cX13_here 28 = .ok (.ireturn, 1) := by decide +kernel
theorem dX13_isWhite_0 : decode cX13_isWhite 0 = .ok (.iload_n 1, 1) := by decide +kernel
theorem dX13_isWhite_1 : decode cX13_isWhite 1 = .ok (.bipush 32, 2) := by decide +kernel
theorem dX13_isWhite_3 : decode cX13_isWhite 3 = .ok (.if_icmp .eq 9, 3) := by decide +kernel
theorem dX13_isWhite_6 : decode cX13_isWhite 6 = .ok (.iload_n 1, 1) := by decide +kernel
theorem dX13_isWhite_7 : decode cX13_isWhite 7 = .ok (.bipush 10, 2) := by decide +kernel
theorem dX13_isWhite_9 : decode cX13_isWhite 9 = .ok (.if_icmp .ne 7, 3) := by decide +kernel
theorem dX13_isWhite_12 : decode cX13_isWhite 12 = .ok (.iconst 1, 1) := by decide +kernel
theorem dX13_isWhite_13 : decode cX13_isWhite 13 = .ok (.goto 4, 3) := by decide +kernel
theorem dX13_isWhite_16 : decode cX13_isWhite 16 = .ok (.iconst 0, 1) := by decide +kernel
theorem dX13_isWhite_17 : decode cX13_isWhite 17 = .ok (.ireturn, 1) := by decide +kernel
theorem dX13_white_0 : decode cX13_white 0 = .ok (.iconst 0, 1) := by decide +kernel
theorem dX13_white_1 : decode cX13_white 1 = .ok (.istore_n 1, 1) := by decide +kernel
theorem dX13_white_2 : decode cX13_white 2 = .ok (.aload_n 0, 1) := by decide +kernel
theorem dX13_white_3 : decode cX13_white 3 = .ok (.aload_n 0, 1) := by decide +kernel
theorem dX13_white_4 : decode cX13_white 4 = .ok (.iconst 0, 1) := by decide +kernel
theorem dX13_white_5 : decode cX13_white 5 = .ok (.invokevirtual 282, 3) := by decide +kernel
theorem dX13_white_8 : decode cX13_white 8 = .ok (.invokevirtual 286, 3) := by decide +kernel
theorem dX13_white_11 : decode cX13_white 11 = .ok (.ifCond .eq 19, 3) := by decide +kernel
theorem dX13_white_14 : decode cX13_white 14 = .ok (.aload_n 0, 1) := by decide +kernel
theorem dX13_white_15 : decode cX13_white 15 = .ok (.dup, 1) := by decide +kernel
theorem dX13_white_16 : decode cX13_white 16 = .ok (.getfield 279, 3) := by decide +kernel
theorem dX13_white_19 : decode cX13_white 19 = .ok (.iconst 1, 1) := by decide +kernel
theorem dX13_white_20 : decode cX13_white 20 = .ok (.iadd, 1) := by decide +kernel
theorem dX13_white_21 : decode cX13_white 21 = .ok (.putfield 279, 3) := by decide +kernel
theorem dX13_white_24 : decode cX13_white 24 = .ok (.iinc 1 1, 3) := by decide +kernel
theorem dX13_white_27 : decode cX13_white 27 = .ok (.goto (-25), 3) := by decide +kernel
theorem dX13_white_30 : decode cX13_white 30 = .ok (.iload_n 1, 1) := by decide +kernel
theorem dX13_white_31 : decode cX13_white 31 = .ok (.ireturn, 1) := by decide +kernel
theorem dX13_between_0 : decode cX13_between 0 = .ok (.aload_n 0, 1) := by decide +kernel
theorem dX13_between_1 : decode cX13_between 1 = .ok (.invokevirtual 296, 3) := by decide +kernel
theorem dX13_between_4 : decode cX13_between 4 = .ok (.istore_n 1, 1) := by decide +kernel
theorem dX13_between_5 : decode cX13_between 5 = .ok (.aload_n 0, 1) := by decide +kernel
theorem dX13_between_6 : decode cX13_between 6 = .ok (.getfield 276, 3) := by decide +kernel
theorem dX13_between_9 : decode cX13_between 9 = .ok (.ifCond .ne 37, 3) := by decide +kernel
theorem dX13_between_12 : decode cX13_between 12 = .ok (.aload_n 0, 1) := by decide +kernel
theorem dX13_between_13 : decode cX13_between 13 = .ok (.iconst 0, 1) := by decide +kernel
theorem dX13_between_14 : decode cX13_between 14 = .ok (.invokevirtual 282, 3) := by decide +kernel
theorem dX13_between_17 : decode cX13_between 17 = .ok (.bipush 60, 2) := by decide +kernel
theorem dX13_between_19 : decode cX13_between 19 = .ok (.if_icmp .ne 27, 3) := by decide +kernel
theorem dX13_between_22 : decode cX13_between 22 = .ok (.aload_n 0, 1) := by decide +kernel
theorem dX13_between_23 : decode cX13_between 23 = .ok (.iconst 1, 1) := by decide +kernel
theorem dX13_between_24 : decode cX13_between 24 = .ok (.invokevirtual 282, 3) := by decide +kernel
theorem dX13_between_27 : decode cX13_between 27 = .ok (.bipush 33, 2) := by decide +kernel
theorem dX13_between_29 : decode cX13_between 29 = .ok (.if_icmp .ne 17, 3) := by decide +kernel
theorem dX13_between_32 : decode cX13_between 32 = .ok (.aload_n 0, 1) := by decide +kernel
theorem dX13_between_33 : decode cX13_between 33 = .ok (.invokevirtual 300, 3) := by decide +kernel
theorem dX13_between_36 : decode cX13_between 36 = .ok (.iload_n 1, 1) := by decide +kernel
theorem dX13_between_37 : decode cX13_between 37 = .ok (.aload_n 0, 1) := by decide +kernel
theorem dX13_between_38 : decode cX13_between 38 = .ok (.invokevirtual 296, 3) := by decide +kernel
theorem dX13_between_41 : decode cX13_between 41 = .ok (.iadd, 1) := by decide +kernel
theorem dX13_between_42 : decode cX13_between 42 = .ok (.istore_n 1, 1) := by decide +kernel
theorem dX13_between_43 : decode cX13_between 43 = .ok (.goto (-38), 3) := by decide +kernel
theorem dX13_between_46 : decode cX13_between 46 = .ok (.return_, 1) := by decide +kernel
theorem dX13_begin_0 : decode cX13_begin 0 = .ok (.aload_n 0, 1) := by decide +kernel
theorem dX13_begin_1 : decode cX13_begin 1 = .ok (.getfield 329, 3) := by decide +kernel
theorem dX13_begin_4 : decode cX13_begin 4 = .ok (.bipush 80, 2) := by decide +kernel
theorem dX13_begin_6 : decode cX13_begin 6 = .ok (.if_icmp .eq 9, 3) := by decide +kernel
theorem dX13_begin_9 : decode cX13_begin 9 = .ok (.iload_n 2, 1) := by decide +kernel
theorem dX13_begin_10 : decode cX13_begin 10 = .ok (.bipush 6, 2) := by decide +kernel
theorem dX13_begin_12 : decode cX13_begin 12 = .ok (.if_icmp .ne 11, 3) := by decide +kernel
theorem dX13_begin_15 : decode cX13_begin 15 = .ok (.aload_n 0, 1) := by decide +kernel
theorem dX13_begin_16 : decode cX13_begin 16 = .ok (.aload_n 0, 1) := by decide +kernel
theorem dX13_begin_17 : decode cX13_begin 17 = .ok (.getfield 279, 3) := by decide +kernel
theorem dX13_begin_20 : decode cX13_begin 20 = .ok (.invokevirtual 289, 3) := by decide +kernel
theorem dX13_begin_23 : decode cX13_begin 23 = .ok (.aload_n 0, 1) := by decide +kernel
theorem dX13_begin_24 : decode cX13_begin 24 = .ok (.getfield 276, 3) := by decide +kernel
theorem dX13_begin_27 : decode cX13_begin 27 = .ok (.ifCond .eq 5, 3) := by decide +kernel
theorem dX13_begin_30 : decode cX13_begin 30 = .ok (.iconst 0, 1) := by decide +kernel
theorem dX13_begin_31 : decode cX13_begin 31 = .ok (.ireturn, 1) := by decide +kernel
theorem dX13_begin_32 : decode cX13_begin 32 = .ok (.aload_n 0, 1) := by decide +kernel
theorem dX13_begin_33 : decode cX13_begin 33 = .ok (.getfield 329, 3) := by decide +kernel
theorem dX13_begin_36 : decode cX13_begin 36 = .ok (.istore_n 3, 1) := by decide +kernel
theorem dX13_begin_37 : decode cX13_begin 37 = .ok (.aload_n 0, 1) := by decide +kernel
theorem dX13_begin_38 : decode cX13_begin 38 = .ok (.dup, 1) := by decide +kernel
theorem dX13_begin_39 : decode cX13_begin 39 = .ok (.getfield 329, 3) := by decide +kernel
theorem dX13_begin_42 : decode cX13_begin 42 = .ok (.iconst 1, 1) := by decide +kernel
theorem dX13_begin_43 : decode cX13_begin 43 = .ok (.iadd, 1) := by decide +kernel
theorem dX13_begin_44 : decode cX13_begin 44 = .ok (.putfield 329, 3) := by decide +kernel
theorem dX13_begin_47 : decode cX13_begin 47 = .ok (.aload_n 0, 1) := by decide +kernel
theorem dX13_begin_48 : decode cX13_begin 48 = .ok (.getfield 129, 3) := by decide +kernel
theorem dX13_begin_51 : decode cX13_begin 51 = .ok (.iload_n 3, 1) := by decide +kernel
theorem dX13_begin_52 : decode cX13_begin 52 = .ok (.aload_n 0, 1) := by decide +kernel
theorem dX13_begin_53 : decode cX13_begin 53 = .ok (.getfield 279, 3) := by decide +kernel
theorem dX13_begin_56 : decode cX13_begin 56 = .ok (.iastore, 1) := by decide +kernel
theorem dX13_begin_57 : decode cX13_begin 57 = .ok (.aload_n 0, 1) := by decide +kernel
theorem dX13_begin_58 : decode cX13_begin 58 = .ok (.getfield 132, 3) := by decide +kernel
theorem dX13_begin_61 : decode cX13_begin 61 = .ok (.iload_n 3, 1) := by decide +kernel
theorem dX13_begin_62 : decode cX13_begin 62 = .ok (.iload_n 1, 1) := by decide +kernel
theorem dX13_begin_63 : decode cX13_begin 63 = .ok (.iastore, 1) := by decide +kernel
theorem dX13_begin_64 : decode cX13_begin 64 = .ok (.aload_n 0, 1) := by decide +kernel
theorem dX13_begin_65 : decode cX13_begin 65 = .ok (.getfield 135, 3) := by decide +kernel
theorem dX13_begin_68 : decode cX13_begin 68 = .ok (.iload_n 3, 1) := by decide +kernel
theorem dX13_begin_69 : decode cX13_begin 69 = .ok (.iconst 0, 1) := by decide +kernel
theorem dX13_begin_70 : decode cX13_begin 70 = .ok (.iastore, 1) := by decide +kernel
theorem dX13_begin_71 : decode cX13_begin 71 = .ok (.aload_n 0, 1) := by decide +kernel
theorem dX13_begin_72 : decode cX13_begin 72 = .ok (.getfield 138, 3) := by decide +kernel
theorem dX13_begin_75 : decode cX13_begin 75 = .ok (.iload_n 3, 1) := by decide +kernel
theorem dX13_begin_76 : decode cX13_begin 76 = .ok (.iconst 0, 1) := by decide +kernel
theorem dX13_begin_77 : decode cX13_begin 77 = .ok (.iastore, 1) := by decide +kernel
theorem dX13_begin_78 : decode cX13_begin 78 = .ok (.aload_n 0, 1) := by decide +kernel
theorem dX13_begin_79 : decode cX13_begin 79 = .ok (.getfield 141, 3) := by decide +kernel
theorem dX13_begin_82 : decode cX13_begin 82 = .ok (.iload_n 3, 1) := by decide +kernel
theorem dX13_begin_83 : decode cX13_begin 83 = .ok (.iconst 0, 1) := by decide +kernel
theorem dX13_begin_84 : decode cX13_begin 84 = .ok (.iastore, 1) := by decide +kernel
theorem dX13_begin_85 : decode cX13_begin 85 = .ok (.aload_n 0, 1) := by decide +kernel
theorem dX13_begin_86 : decode cX13_begin 86 = .ok (.getfield 144, 3) := by decide +kernel
theorem dX13_begin_89 : decode cX13_begin 89 = .ok (.iload_n 3, 1) := by decide +kernel
theorem dX13_begin_90 : decode cX13_begin 90 = .ok (.iconst 0, 1) := by decide +kernel
theorem dX13_begin_91 : decode cX13_begin 91 = .ok (.iastore, 1) := by decide +kernel
theorem dX13_begin_92 : decode cX13_begin 92 = .ok (.iload_n 1, 1) := by decide +kernel
theorem dX13_begin_93 : decode cX13_begin 93 = .ok (.iconst (-1), 1) := by decide +kernel
theorem dX13_begin_94 : decode cX13_begin 94 = .ok (.if_icmp .eq 13, 3) := by decide +kernel
theorem dX13_begin_97 : decode cX13_begin 97 = .ok (.aload_n 0, 1) := by decide +kernel
theorem dX13_begin_98 : decode cX13_begin 98 = .ok (.getfield 135, 3) := by decide +kernel
theorem dX13_begin_101 : decode cX13_begin 101 = .ok (.iload_n 1, 1) := by decide +kernel
theorem dX13_begin_102 : decode cX13_begin 102 = .ok (.dup2, 1) := by decide +kernel
theorem dX13_begin_103 : decode cX13_begin 103 = .ok (.iaload, 1) := by decide +kernel
theorem dX13_begin_104 : decode cX13_begin 104 = .ok (.iconst 1, 1) := by decide +kernel
theorem dX13_begin_105 : decode cX13_begin 105 = .ok (.iadd, 1) := by decide +kernel
theorem dX13_begin_106 : decode cX13_begin 106 = .ok (.iastore, 1) := by decide +kernel
theorem dX13_begin_107 : decode cX13_begin 107 = .ok (.aload_n 0, 1) := by decide +kernel
theorem dX13_begin_108 : decode cX13_begin 108 = .ok (.dup, 1) := by decide +kernel
theorem dX13_begin_109 : decode cX13_begin 109 = .ok (.getfield 279, 3) := by decide +kernel
theorem dX13_begin_112 : decode cX13_begin 112 = .ok (.iconst 1, 1) := by decide +kernel
theorem dX13_begin_113 : decode cX13_begin 113 = .ok (.iadd, 1) := by decide +kernel
theorem dX13_begin_114 : decode cX13_begin 114 = .ok (.putfield 279, 3) := by decide +kernel
theorem dX13_begin_117 : decode cX13_begin 117 = .ok (.aload_n 0, 1) := by decide +kernel
theorem dX13_begin_118 : decode cX13_begin 118 = .ok (.getfield 150, 3) := by decide +kernel
theorem dX13_begin_121 : decode cX13_begin 121 = .ok (.iload_n 3, 1) := by decide +kernel
theorem dX13_begin_122 : decode cX13_begin 122 = .ok (.aload_n 0, 1) := by decide +kernel
theorem dX13_begin_123 : decode cX13_begin 123 = .ok (.invokevirtual 315, 3) := by decide +kernel
theorem dX13_begin_126 : decode cX13_begin 126 = .ok (.lastore, 1) := by decide +kernel
theorem dX13_begin_127 : decode cX13_begin 127 = .ok (.iconst 1, 1) := by decide +kernel
theorem dX13_begin_128 : decode cX13_begin 128 = .ok (.istore 4, 2) := by decide +kernel
theorem dX13_begin_130 : decode cX13_begin 130 = .ok (.iload 4, 2) := by decide +kernel
theorem dX13_begin_132 : decode cX13_begin 132 = .ok (.ifCond .eq 53, 3) := by decide +kernel
theorem dX13_begin_135 : decode cX13_begin 135 = .ok (.aload_n 0, 1) := by decide +kernel
theorem dX13_begin_136 : decode cX13_begin 136 = .ok (.getfield 276, 3) := by decide +kernel
theorem dX13_begin_139 : decode cX13_begin 139 = .ok (.ifCond .ne 46, 3) := by decide +kernel
theorem dX13_begin_142 : decode cX13_begin 142 = .ok (.aload_n 0, 1) := by decide +kernel
theorem dX13_begin_143 : decode cX13_begin 143 = .ok (.invokevirtual 296, 3) := by decide +kernel
theorem dX13_begin_146 : decode cX13_begin 146 = .ok (.istore 5, 2) := by decide +kernel
theorem dX13_begin_148 : decode cX13_begin 148 = .ok (.iload 5, 2) := by decide +kernel
theorem dX13_begin_150 : decode cX13_begin 150 = .ok (.ifCond .le 19, 3) := by decide +kernel
theorem dX13_begin_153 : decode cX13_begin 153 = .ok (.aload_n 0, 1) := by decide +kernel
theorem dX13_begin_154 : decode cX13_begin 154 = .ok (.aload_n 0, 1) := by decide +kernel
theorem dX13_begin_155 : decode cX13_begin 155 = .ok (.iconst 0, 1) := by decide +kernel
theorem dX13_begin_156 : decode cX13_begin 156 = .ok (.invokevirtual 282, 3) := by decide +kernel
theorem dX13_begin_159 : decode cX13_begin 159 = .ok (.invokevirtual 303, 3) := by decide +kernel
theorem dX13_begin_162 : decode cX13_begin 162 = .ok (.ifCond .eq 7, 3) := by decide +kernel
theorem dX13_begin_165 : decode cX13_begin 165 = .ok (.iconst 1, 1) := by decide +kernel
theorem dX13_begin_166 : decode cX13_begin 166 = .ok (.goto 4, 3) := by decide +kernel
theorem dX13_begin_169 : decode cX13_begin 169 = .ok (.iconst 0, 1) := by decide +kernel
theorem dX13_begin_170 : decode cX13_begin 170 = .ok (.istore 4, 2) := by decide +kernel
theorem dX13_begin_172 : decode cX13_begin 172 = .ok (.iload 4, 2) := by decide +kernel
theorem dX13_begin_174 : decode cX13_begin 174 = .ok (.ifCond .eq 8, 3) := by decide +kernel
theorem dX13_begin_177 : decode cX13_begin 177 = .ok (.aload_n 0, 1) := by decide +kernel
theorem dX13_begin_178 : decode cX13_begin 178 = .ok (.iload_n 3, 1) := by decide +kernel
theorem dX13_begin_179 : decode cX13_begin 179 = .ok (.invokevirtual 332, 3) := by decide +kernel
theorem dX13_begin_182 : decode cX13_begin 182 = .ok (.goto (-52), 3) := by decide +kernel
theorem dX13_begin_185 : decode cX13_begin 185 = .ok (.aload_n 0, 1) := by decide +kernel
theorem dX13_begin_186 : decode cX13_begin 186 = .ok (.aload_n 0, 1) := by decide +kernel
theorem dX13_begin_187 : decode cX13_begin 187 = .ok (.iconst 0, 1) := by decide +kernel
theorem dX13_begin_188 : decode cX13_begin 188 = .ok (.invokevirtual 282, 3) := by decide +kernel
theorem dX13_begin_191 : decode cX13_begin 191 = .ok (.bipush 47, 2) := by decide +kernel
theorem dX13_begin_193 : decode cX13_begin 193 = .ok (.if_icmp .ne 7, 3) := by decide +kernel
theorem dX13_begin_196 : decode cX13_begin 196 = .ok (.iconst 1, 1) := by decide +kernel
theorem dX13_begin_197 : decode cX13_begin 197 = .ok (.goto 4, 3) := by decide +kernel
theorem dX13_begin_200 : decode cX13_begin 200 = .ok (.iconst 0, 1) := by decide +kernel
theorem dX13_begin_201 : decode cX13_begin 201 = .ok (.putfield 335, 3) := by decide +kernel
theorem dX13_begin_204 : decode cX13_begin 204 = .ok (.aload_n 0, 1) := by decide +kernel
theorem dX13_begin_205 : decode cX13_begin 205 = .ok (.getfield 335, 3) := by decide +kernel
theorem dX13_begin_208 : decode cX13_begin 208 = .ok (.ifCond .eq 13, 3) := by decide +kernel
theorem dX13_begin_211 : decode cX13_begin 211 = .ok (.aload_n 0, 1) := by decide +kernel
theorem dX13_begin_212 : decode cX13_begin 212 = .ok (.dup, 1) := by decide +kernel
theorem dX13_begin_213 : decode cX13_begin 213 = .ok (.getfield 279, 3) := by decide +kernel
theorem dX13_begin_216 : decode cX13_begin 216 = .ok (.iconst 1, 1) := by decide +kernel
theorem dX13_begin_217 : decode cX13_begin 217 = .ok (.iadd, 1) := by decide +kernel
theorem dX13_begin_218 : decode cX13_begin 218 = .ok (.putfield 279, 3) := by decide +kernel
theorem dX13_begin_221 : decode cX13_begin 221 = .ok (.aload_n 0, 1) := by decide +kernel
theorem dX13_begin_222 : decode cX13_begin 222 = .ok (.bipush 62, 2) := by decide +kernel
theorem dX13_begin_224 : decode cX13_begin 224 = .ok (.invokevirtual 293, 3) := by decide +kernel
theorem dX13_begin_227 : decode cX13_begin 227 = .ok (.iload_n 3, 1) := by decide +kernel
theorem dX13_begin_228 : decode cX13_begin 228 = .ok (.ireturn, 1) := by decide +kernel
theorem dX13_readDocument_0 : decode cX13_readDocument 0 = .ok (.aload_n 0, 1) := by decide +kernel
theorem dX13_readDocument_1 : decode cX13_readDocument 1 = .ok (.invokevirtual 339, 3) := by decide +kernel
theorem dX13_readDocument_4 : decode cX13_readDocument 4 = .ok (.aload_n 0, 1) := by decide +kernel
theorem dX13_readDocument_5 : decode cX13_readDocument 5 = .ok (.getfield 276, 3) := by decide +kernel
theorem dX13_readDocument_8 : decode cX13_readDocument 8 = .ok (.ifCond .ne 21, 3) := by decide +kernel
theorem dX13_readDocument_11 : decode cX13_readDocument 11 = .ok (.aload_n 0, 1) := by decide +kernel
theorem dX13_readDocument_12 : decode cX13_readDocument 12 = .ok (.iconst 0, 1) := by decide +kernel
theorem dX13_readDocument_13 : decode cX13_readDocument 13 = .ok (.invokevirtual 282, 3) := by decide +kernel
theorem dX13_readDocument_16 : decode cX13_readDocument 16 = .ok (.bipush 60, 2) := by decide +kernel
theorem dX13_readDocument_18 : decode cX13_readDocument 18 = .ok (.if_icmp .eq 11, 3) := by decide +kernel
theorem dX13_readDocument_21 : decode cX13_readDocument 21 = .ok (.aload_n 0, 1) := by decide +kernel
theorem dX13_readDocument_22 : decode cX13_readDocument 22 = .ok (.aload_n 0, 1) := by decide +kernel
theorem dX13_readDocument_23 : decode cX13_readDocument 23 = .ok (.getfield 279, 3) := by decide +kernel
theorem dX13_readDocument_26 : decode cX13_readDocument 26 = .ok (.invokevirtual 289, 3) := by decide +kernel
theorem dX13_readDocument_29 : decode cX13_readDocument 29 = .ok (.aload_n 0, 1) := by decide +kernel
theorem dX13_readDocument_30 : decode cX13_readDocument 30 = .ok (.getfield 276, 3) := by decide +kernel
theorem dX13_readDocument_33 : decode cX13_readDocument 33 = .ok (.ifCond .ne 25, 3) := by decide +kernel
theorem dX13_readDocument_36 : decode cX13_readDocument 36 = .ok (.aload_n 0, 1) := by decide +kernel
theorem dX13_readDocument_37 : decode cX13_readDocument 37 = .ok (.aload_n 0, 1) := by decide +kernel
theorem dX13_readDocument_38 : decode cX13_readDocument 38 = .ok (.iconst 1, 1) := by decide +kernel
theorem dX13_readDocument_39 : decode cX13_readDocument 39 = .ok (.invokevirtual 282, 3) := by decide +kernel
theorem dX13_readDocument_42 : decode cX13_readDocument 42 = .ok (.invokevirtual 303, 3) := by decide +kernel
theorem dX13_readDocument_45 : decode cX13_readDocument 45 = .ok (.ifCond .ne 13, 3) := by decide +kernel
theorem dX13_readDocument_48 : decode cX13_readDocument 48 = .ok (.aload_n 0, 1) := by decide +kernel
theorem dX13_readDocument_49 : decode cX13_readDocument 49 = .ok (.aload_n 0, 1) := by decide +kernel
theorem dX13_readDocument_50 : decode cX13_readDocument 50 = .ok (.getfield 279, 3) := by decide +kernel
theorem dX13_readDocument_53 : decode cX13_readDocument 53 = .ok (.iconst 1, 1) := by decide +kernel
theorem dX13_readDocument_54 : decode cX13_readDocument 54 = .ok (.iadd, 1) := by decide +kernel
theorem dX13_readDocument_55 : decode cX13_readDocument 55 = .ok (.invokevirtual 289, 3) := by decide +kernel
theorem dX13_readDocument_58 : decode cX13_readDocument 58 = .ok (.aload_n 0, 1) := by decide +kernel
theorem dX13_readDocument_59 : decode cX13_readDocument 59 = .ok (.iconst (-1), 1) := by decide +kernel
theorem dX13_readDocument_60 : decode cX13_readDocument 60 = .ok (.iconst 0, 1) := by decide +kernel
theorem dX13_readDocument_61 : decode cX13_readDocument 61 = .ok (.invokevirtual 342, 3) := by decide +kernel
theorem dX13_readDocument_64 : decode cX13_readDocument 64 = .ok (.istore_n 1, 1) := by decide +kernel
theorem dX13_readDocument_65 : decode cX13_readDocument 65 = .ok (.iconst 1, 1) := by decide +kernel
theorem dX13_readDocument_66 : decode cX13_readDocument 66 = .ok (.istore_n 2, 1) := by decide +kernel
theorem dX13_readDocument_67 : decode cX13_readDocument 67 = .ok (.aload_n 0, 1) := by decide +kernel
theorem dX13_readDocument_68 : decode cX13_readDocument 68 = .ok (.getfield 335, 3) := by decide +kernel
theorem dX13_readDocument_71 : decode cX13_readDocument 71 = .ok (.ifCond .eq 5, 3) := by decide +kernel
theorem dX13_readDocument_74 : decode cX13_readDocument 74 = .ok (.iconst 0, 1) := by decide +kernel
theorem dX13_readDocument_75 : decode cX13_readDocument 75 = .ok (.istore_n 2, 1) := by decide +kernel
theorem dX13_readDocument_76 : decode cX13_readDocument 76 = .ok (.aload_n 0, 1) := by decide +kernel
theorem dX13_readDocument_77 : decode cX13_readDocument 77 = .ok (.getfield 276, 3) := by decide +kernel
theorem dX13_readDocument_80 : decode cX13_readDocument 80 = .ok (.ifCond .ne 173, 3) := by decide +kernel
theorem dX13_readDocument_83 : decode cX13_readDocument 83 = .ok (.iload_n 2, 1) := by decide +kernel
theorem dX13_readDocument_84 : decode cX13_readDocument 84 = .ok (.ifCond .le 169, 3) := by decide +kernel
theorem dX13_readDocument_87 : decode cX13_readDocument 87 = .ok (.aload_n 0, 1) := by decide +kernel
theorem dX13_readDocument_88 : decode cX13_readDocument 88 = .ok (.iconst 0, 1) := by decide +kernel
theorem dX13_readDocument_89 : decode cX13_readDocument 89 = .ok (.invokevirtual 282, 3) := by decide +kernel
theorem dX13_readDocument_92 : decode cX13_readDocument 92 = .ok (.istore_n 3, 1) := by decide +kernel
theorem dX13_readDocument_93 : decode cX13_readDocument 93 = .ok (.iload_n 3, 1) := by decide +kernel
theorem dX13_readDocument_94 : decode cX13_readDocument 94 = .ok (.iconst (-1), 1) := by decide +kernel
theorem dX13_readDocument_95 : decode cX13_readDocument 95 = .ok (.if_icmp .ne 14, 3) := by decide +kernel
theorem dX13_readDocument_98 : decode cX13_readDocument 98 = .ok (.aload_n 0, 1) := by decide +kernel
theorem dX13_readDocument_99 : decode cX13_readDocument 99 = .ok (.aload_n 0, 1) := by decide +kernel
theorem dX13_readDocument_100 : decode cX13_readDocument 100 = .ok (.getfield 279, 3) := by decide +kernel
theorem dX13_readDocument_103 : decode cX13_readDocument 103 = .ok (.invokevirtual 289, 3) := by decide +kernel
theorem dX13_readDocument_106 : decode cX13_readDocument 106 = .ok (.goto 144, 3) := by decide +kernel
theorem dX13_readDocument_109 : decode cX13_readDocument 109 = .ok (.iload_n 3, 1) := by decide +kernel
theorem dX13_readDocument_110 : decode cX13_readDocument 110 = .ok (.bipush 60, 2) := by decide +kernel
theorem dX13_readDocument_112 : decode cX13_readDocument 112 = .ok (.if_icmp .eq 40, 3) := by decide +kernel
theorem dX13_readDocument_115 : decode cX13_readDocument 115 = .ok (.iload_n 3, 1) := by decide +kernel
theorem dX13_readDocument_116 : decode cX13_readDocument 116 = .ok (.bipush 38, 2) := by decide +kernel
theorem dX13_readDocument_118 : decode cX13_readDocument 118 = .ok (.if_icmp .ne 8, 3) := by decide +kernel
theorem dX13_readDocument_121 : decode cX13_readDocument 121 = .ok (.aload_n 0, 1) := by decide +kernel
theorem dX13_readDocument_122 : decode cX13_readDocument 122 = .ok (.invokevirtual 326, 3) := by decide +kernel
theorem dX13_readDocument_125 : decode cX13_readDocument 125 = .ok (.istore_n 3, 1) := by decide +kernel
theorem dX13_readDocument_126 : decode cX13_readDocument 126 = .ok (.aload_n 0, 1) := by decide +kernel
theorem dX13_readDocument_127 : decode cX13_readDocument 127 = .ok (.getfield 276, 3) := by decide +kernel
theorem dX13_readDocument_130 : decode cX13_readDocument 130 = .ok (.ifCond .ne 9, 3) := by decide +kernel
theorem dX13_readDocument_133 : decode cX13_readDocument 133 = .ok (.aload_n 0, 1) := by decide +kernel
theorem dX13_readDocument_134 : decode cX13_readDocument 134 = .ok (.iload_n 1, 1) := by decide +kernel
theorem dX13_readDocument_135 : decode cX13_readDocument 135 = .ok (.iload_n 3, 1) := by decide +kernel
theorem dX13_readDocument_136 : decode cX13_readDocument 136 = .ok (.invokevirtual 346, 3) := by decide +kernel
theorem dX13_readDocument_139 : decode cX13_readDocument 139 = .ok (.aload_n 0, 1) := by decide +kernel
theorem dX13_readDocument_140 : decode cX13_readDocument 140 = .ok (.dup, 1) := by decide +kernel
theorem dX13_readDocument_141 : decode cX13_readDocument 141 = .ok (.getfield 279, 3) := by decide +kernel
theorem dX13_readDocument_144 : decode cX13_readDocument 144 = .ok (.iconst 1, 1) := by decide +kernel
theorem dX13_readDocument_145 : decode cX13_readDocument 145 = .ok (.iadd, 1) := by decide +kernel
theorem dX13_readDocument_146 : decode cX13_readDocument 146 = .ok (.putfield 279, 3) := by decide +kernel
theorem dX13_readDocument_149 : decode cX13_readDocument 149 = .ok (.goto 101, 3) := by decide +kernel
theorem dX13_readDocument_152 : decode cX13_readDocument 152 = .ok (.aload_n 0, 1) := by decide +kernel
theorem dX13_readDocument_153 : decode cX13_readDocument 153 = .ok (.iconst 1, 1) := by decide +kernel
theorem dX13_readDocument_154 : decode cX13_readDocument 154 = .ok (.invokevirtual 282, 3) := by decide +kernel
theorem dX13_readDocument_157 : decode cX13_readDocument 157 = .ok (.bipush 33, 2) := by decide +kernel
theorem dX13_readDocument_159 : decode cX13_readDocument 159 = .ok (.if_icmp .ne 10, 3) := by decide +kernel
theorem dX13_readDocument_162 : decode cX13_readDocument 162 = .ok (.aload_n 0, 1) := by decide +kernel
theorem dX13_readDocument_163 : decode cX13_readDocument 163 = .ok (.invokevirtual 300, 3) := by decide +kernel
theorem dX13_readDocument_166 : decode cX13_readDocument 166 = .ok (.goto 84, 3) := by decide +kernel
theorem dX13_readDocument_169 : decode cX13_readDocument 169 = .ok (.aload_n 0, 1) := by decide +kernel
theorem dX13_readDocument_170 : decode cX13_readDocument 170 = .ok (.iconst 1, 1) := by decide +kernel
theorem dX13_readDocument_171 : decode cX13_readDocument 171 = .ok (.invokevirtual 282, 3) := by decide +kernel
theorem dX13_readDocument_174 : decode cX13_readDocument 174 = .ok (.bipush 47, 2) := by decide +kernel
theorem dX13_readDocument_176 : decode cX13_readDocument 176 = .ok (.if_icmp .ne 21, 3) := by decide +kernel
theorem dX13_readDocument_179 : decode cX13_readDocument 179 = .ok (.aload_n 0, 1) := by decide +kernel
theorem dX13_readDocument_180 : decode cX13_readDocument 180 = .ok (.iload_n 1, 1) := by decide +kernel
theorem dX13_readDocument_181 : decode cX13_readDocument 181 = .ok (.invokevirtual 350, 3) := by decide +kernel
theorem dX13_readDocument_184 : decode cX13_readDocument 184 = .ok (.aload_n 0, 1) := by decide +kernel
theorem dX13_readDocument_185 : decode cX13_readDocument 185 = .ok (.getfield 132, 3) := by decide +kernel
theorem dX13_readDocument_188 : decode cX13_readDocument 188 = .ok (.iload_n 1, 1) := by decide +kernel
theorem dX13_readDocument_189 : decode cX13_readDocument 189 = .ok (.iaload, 1) := by decide +kernel
theorem dX13_readDocument_190 : decode cX13_readDocument 190 = .ok (.istore_n 1, 1) := by decide +kernel
theorem dX13_readDocument_191 : decode cX13_readDocument 191 = .ok (.iinc 2 (-1), 3) := by decide +kernel
theorem dX13_readDocument_194 : decode cX13_readDocument 194 = .ok (.goto 56, 3) := by decide +kernel
theorem dX13_readDocument_197 : decode cX13_readDocument 197 = .ok (.aload_n 0, 1) := by decide +kernel
theorem dX13_readDocument_198 : decode cX13_readDocument 198 = .ok (.aload_n 0, 1) := by decide +kernel
theorem dX13_readDocument_199 : decode cX13_readDocument 199 = .ok (.iconst 1, 1) := by decide +kernel
theorem dX13_readDocument_200 : decode cX13_readDocument 200 = .ok (.invokevirtual 282, 3) := by decide +kernel
theorem dX13_readDocument_203 : decode cX13_readDocument 203 = .ok (.invokevirtual 303, 3) := by decide +kernel
theorem dX13_readDocument_206 : decode cX13_readDocument 206 = .ok (.ifCond .eq 34, 3) := by decide +kernel
theorem dX13_readDocument_209 : decode cX13_readDocument 209 = .ok (.aload_n 0, 1) := by decide +kernel
theorem dX13_readDocument_210 : decode cX13_readDocument 210 = .ok (.iload_n 1, 1) := by decide +kernel
theorem dX13_readDocument_211 : decode cX13_readDocument 211 = .ok (.iload_n 2, 1) := by decide +kernel
theorem dX13_readDocument_212 : decode cX13_readDocument 212 = .ok (.invokevirtual 342, 3) := by decide +kernel
theorem dX13_readDocument_215 : decode cX13_readDocument 215 = .ok (.istore 4, 2) := by decide +kernel
theorem dX13_readDocument_217 : decode cX13_readDocument 217 = .ok (.aload_n 0, 1) := by decide +kernel
theorem dX13_readDocument_218 : decode cX13_readDocument 218 = .ok (.getfield 276, 3) := by decide +kernel
theorem dX13_readDocument_221 : decode cX13_readDocument 221 = .ok (.ifCond .ne 16, 3) := by decide +kernel
theorem dX13_readDocument_224 : decode cX13_readDocument 224 = .ok (.aload_n 0, 1) := by decide +kernel
theorem dX13_readDocument_225 : decode cX13_readDocument 225 = .ok (.getfield 335, 3) := by decide +kernel
theorem dX13_readDocument_228 : decode cX13_readDocument 228 = .ok (.ifCond .ne 9, 3) := by decide +kernel
theorem dX13_readDocument_231 : decode cX13_readDocument 231 = .ok (.iload 4, 2) := by decide +kernel
theorem dX13_readDocument_233 : decode cX13_readDocument 233 = .ok (.istore_n 1, 1) := by decide +kernel
theorem dX13_readDocument_234 : decode cX13_readDocument 234 = .ok (.iinc 2 1, 3) := by decide +kernel
theorem dX13_readDocument_237 : decode cX13_readDocument 237 = .ok (.goto 13, 3) := by decide +kernel
theorem dX13_readDocument_240 : decode cX13_readDocument 240 = .ok (.aload_n 0, 1) := by decide +kernel
theorem dX13_readDocument_241 : decode cX13_readDocument 241 = .ok (.aload_n 0, 1) := by decide +kernel
theorem dX13_readDocument_242 : decode cX13_readDocument 242 = .ok (.getfield 279, 3) := by decide +kernel
theorem dX13_readDocument_245 : decode cX13_readDocument 245 = .ok (.iconst 1, 1) := by decide +kernel
theorem dX13_readDocument_246 : decode cX13_readDocument 246 = .ok (.iadd, 1) := by decide +kernel
theorem dX13_readDocument_247 : decode cX13_readDocument 247 = .ok (.invokevirtual 289, 3) := by decide +kernel
theorem dX13_readDocument_250 : decode cX13_readDocument 250 = .ok (.goto (-174), 3) := by decide +kernel
theorem dX13_readDocument_253 : decode cX13_readDocument 253 = .ok (.aload_n 0, 1) := by decide +kernel
theorem dX13_readDocument_254 : decode cX13_readDocument 254 = .ok (.getfield 276, 3) := by decide +kernel
theorem dX13_readDocument_257 : decode cX13_readDocument 257 = .ok (.ifCond .ne 7, 3) := by decide +kernel
theorem dX13_readDocument_260 : decode cX13_readDocument 260 = .ok (.aload_n 0, 1) := by decide +kernel
theorem dX13_readDocument_261 : decode cX13_readDocument 261 = .ok (.invokevirtual 339, 3) := by decide +kernel
theorem dX13_readDocument_264 : decode cX13_readDocument 264 = .ok (.aload_n 0, 1) := by decide +kernel
theorem dX13_readDocument_265 : decode cX13_readDocument 265 = .ok (.getfield 276, 3) := by decide +kernel
theorem dX13_readDocument_268 : decode cX13_readDocument 268 = .ok (.ifCond .ne 41, 3) := by decide +kernel
theorem dX13_readDocument_271 : decode cX13_readDocument 271 = .ok (.aload_n 0, 1) := by decide +kernel
theorem dX13_readDocument_272 : decode cX13_readDocument 272 = .ok (.getfield 279, 3) := by decide +kernel
theorem dX13_readDocument_275 : decode cX13_readDocument 275 = .ok (.aload_n 0, 1) := by decide +kernel
theorem dX13_readDocument_276 : decode cX13_readDocument 276 = .ok (.getfield 273, 3) := by decide +kernel
theorem dX13_readDocument_279 : decode cX13_readDocument 279 = .ok (.if_icmp .ge 30, 3) := by decide +kernel
theorem dX13_readDocument_282 : decode cX13_readDocument 282 = .ok (.aload_n 0, 1) := by decide +kernel
theorem dX13_readDocument_283 : decode cX13_readDocument 283 = .ok (.aload_n 0, 1) := by decide +kernel
theorem dX13_readDocument_284 : decode cX13_readDocument 284 = .ok (.iconst 0, 1) := by decide +kernel
theorem dX13_readDocument_285 : decode cX13_readDocument 285 = .ok (.invokevirtual 282, 3) := by decide +kernel
theorem dX13_readDocument_288 : decode cX13_readDocument 288 = .ok (.bipush 60, 2) := by decide +kernel
theorem dX13_readDocument_290 : decode cX13_readDocument 290 = .ok (.if_icmp .ne 12, 3) := by decide +kernel
theorem dX13_readDocument_293 : decode cX13_readDocument 293 = .ok (.aload_n 0, 1) := by decide +kernel
theorem dX13_readDocument_294 : decode cX13_readDocument 294 = .ok (.getfield 279, 3) := by decide +kernel
theorem dX13_readDocument_297 : decode cX13_readDocument 297 = .ok (.iconst 1, 1) := by decide +kernel
theorem dX13_readDocument_298 : decode cX13_readDocument 298 = .ok (.iadd, 1) := by decide +kernel
theorem dX13_readDocument_299 : decode cX13_readDocument 299 = .ok (.goto 7, 3) := by decide +kernel
theorem dX13_readDocument_302 : decode cX13_readDocument 302 = .ok (.aload_n 0, 1) := by decide +kernel
theorem dX13_readDocument_303 : decode cX13_readDocument 303 = .ok (.getfield 279, 3) := by decide +kernel
theorem dX13_readDocument_306 : decode cX13_readDocument 306 = .ok (.invokevirtual 289, 3) := by decide +kernel
theorem dX13_readDocument_309 : decode cX13_readDocument 309 = .ok (.return_, 1) := by decide +kernel
theorem dX13_clear_0 : decode cX13_clear 0 = .ok (.aload_n 0, 1) := by decide +kernel
theorem dX13_clear_1 : decode cX13_clear 1 = .ok (.iconst 0, 1) := by decide +kernel
theorem dX13_clear_2 : decode cX13_clear 2 = .ok (.putfield 471, 3) := by decide +kernel
theorem dX13_clear_5 : decode cX13_clear 5 = .ok (.aload_n 0, 1) := by decide +kernel
theorem dX13_clear_6 : decode cX13_clear 6 = .ok (.iconst 0, 1) := by decide +kernel
theorem dX13_clear_7 : decode cX13_clear 7 = .ok (.putfield 474, 3) := by decide +kernel
theorem dX13_clear_10 : decode cX13_clear 10 = .ok (.iconst 0, 1) := by decide +kernel
theorem dX13_clear_11 : decode cX13_clear 11 = .ok (.istore_n 1, 1) := by decide +kernel
theorem dX13_clear_12 : decode cX13_clear 12 = .ok (.iload_n 1, 1) := by decide +kernel
theorem dX13_clear_13 : decode cX13_clear 13 = .ok (.bipush 80, 2) := by decide +kernel
theorem dX13_clear_15 : decode cX13_clear 15 = .ok (.if_icmp .ge 30, 3) := by decide +kernel
theorem dX13_clear_18 : decode cX13_clear 18 = .ok (.aload_n 0, 1) := by decide +kernel
theorem dX13_clear_19 : decode cX13_clear 19 = .ok (.getfield 213, 3) := by decide +kernel
theorem dX13_clear_22 : decode cX13_clear 22 = .ok (.iload_n 1, 1) := by decide +kernel
theorem dX13_clear_23 : decode cX13_clear 23 = .ok (.iconst 0, 1) := by decide +kernel
theorem dX13_clear_24 : decode cX13_clear 24 = .ok (.bastore, 1) := by decide +kernel
theorem dX13_clear_25 : decode cX13_clear 25 = .ok (.aload_n 0, 1) := by decide +kernel
theorem dX13_clear_26 : decode cX13_clear 26 = .ok (.getfield 216, 3) := by decide +kernel
theorem dX13_clear_29 : decode cX13_clear 29 = .ok (.iload_n 1, 1) := by decide +kernel
theorem dX13_clear_30 : decode cX13_clear 30 = .ok (.iconst 0, 1) := by decide +kernel
theorem dX13_clear_31 : decode cX13_clear 31 = .ok (.bastore, 1) := by decide +kernel
theorem dX13_clear_32 : decode cX13_clear 32 = .ok (.aload_n 0, 1) := by decide +kernel
theorem dX13_clear_33 : decode cX13_clear 33 = .ok (.getfield 210, 3) := by decide +kernel
theorem dX13_clear_36 : decode cX13_clear 36 = .ok (.iload_n 1, 1) := by decide +kernel
theorem dX13_clear_37 : decode cX13_clear 37 = .ok (.iconst (-1), 1) := by decide +kernel
theorem dX13_clear_38 : decode cX13_clear 38 = .ok (.iastore, 1) := by decide +kernel
theorem dX13_clear_39 : decode cX13_clear 39 = .ok (.iinc 1 1, 3) := by decide +kernel
theorem dX13_clear_42 : decode cX13_clear 42 = .ok (.goto (-30), 3) := by decide +kernel
theorem dX13_clear_45 : decode cX13_clear 45 = .ok (.return_, 1) := by decide +kernel
theorem dX13_read_0 : decode cX13_read 0 = .ok (.aload_n 0, 1) := by decide +kernel
theorem dX13_read_1 : decode cX13_read 1 = .ok (.iconst 0, 1) := by decide +kernel
theorem dX13_read_2 : decode cX13_read 2 = .ok (.putfield 276, 3) := by decide +kernel
theorem dX13_read_5 : decode cX13_read 5 = .ok (.aload_n 0, 1) := by decide +kernel
theorem dX13_read_6 : decode cX13_read 6 = .ok (.iconst (-1), 1) := by decide +kernel
theorem dX13_read_7 : decode cX13_read 7 = .ok (.putfield 122, 3) := by decide +kernel
theorem dX13_read_10 : decode cX13_read 10 = .ok (.aload_n 0, 1) := by decide +kernel
theorem dX13_read_11 : decode cX13_read 11 = .ok (.iconst 0, 1) := by decide +kernel
theorem dX13_read_12 : decode cX13_read 12 = .ok (.putfield 279, 3) := by decide +kernel
theorem dX13_read_15 : decode cX13_read 15 = .ok (.aload_n 0, 1) := by decide +kernel
theorem dX13_read_16 : decode cX13_read 16 = .ok (.iconst 0, 1) := by decide +kernel
theorem dX13_read_17 : decode cX13_read 17 = .ok (.putfield 329, 3) := by decide +kernel
theorem dX13_read_20 : decode cX13_read 20 = .ok (.aload_n 0, 1) := by decide +kernel
theorem dX13_read_21 : decode cX13_read 21 = .ok (.iconst 0, 1) := by decide +kernel
theorem dX13_read_22 : decode cX13_read 22 = .ok (.putfield 323, 3) := by decide +kernel
theorem dX13_read_25 : decode cX13_read 25 = .ok (.aload_n 0, 1) := by decide +kernel
theorem dX13_read_26 : decode cX13_read 26 = .ok (.iconst 0, 1) := by decide +kernel
theorem dX13_read_27 : decode cX13_read 27 = .ok (.putfield 439, 3) := by decide +kernel
theorem dX13_read_30 : decode cX13_read 30 = .ok (.aload_n 0, 1) := by decide +kernel
theorem dX13_read_31 : decode cX13_read 31 = .ok (.iconst 0, 1) := by decide +kernel
theorem dX13_read_32 : decode cX13_read 32 = .ok (.putfield 477, 3) := by decide +kernel
theorem dX13_read_35 : decode cX13_read 35 = .ok (.aload_n 0, 1) := by decide +kernel
theorem dX13_read_36 : decode cX13_read 36 = .ok (.iconst 0, 1) := by decide +kernel
theorem dX13_read_37 : decode cX13_read 37 = .ok (.putfield 480, 3) := by decide +kernel
theorem dX13_read_40 : decode cX13_read 40 = .ok (.aload_n 0, 1) := by decide +kernel
theorem dX13_read_41 : decode cX13_read 41 = .ok (.invokevirtual 483, 3) := by decide +kernel
theorem dX13_read_44 : decode cX13_read 44 = .ok (.aload_n 0, 1) := by decide +kernel
theorem dX13_read_45 : decode cX13_read 45 = .ok (.invokevirtual 486, 3) := by decide +kernel
theorem dX13_read_48 : decode cX13_read 48 = .ok (.aload_n 0, 1) := by decide +kernel
theorem dX13_read_49 : decode cX13_read 49 = .ok (.getfield 276, 3) := by decide +kernel
theorem dX13_read_52 : decode cX13_read 52 = .ok (.ifCond .ne 10, 3) := by decide +kernel
theorem dX13_read_55 : decode cX13_read 55 = .ok (.aload_n 0, 1) := by decide +kernel
theorem dX13_read_56 : decode cX13_read 56 = .ok (.invokevirtual 489, 3) := by decide +kernel
theorem dX13_read_59 : decode cX13_read 59 = .ok (.goto 4, 3) := by decide +kernel
theorem dX13_read_62 : decode cX13_read 62 = .ok (.iconst (-1), 1) := by decide +kernel
theorem dX13_read_63 : decode cX13_read 63 = .ok (.istore_n 1, 1) := by decide +kernel
theorem dX13_read_64 : decode cX13_read 64 = .ok (.iconst 2, 1) := by decide +kernel
theorem dX13_read_65 : decode cX13_read 65 = .ok (.istore_n 2, 1) := by decide +kernel
theorem dX13_read_66 : decode cX13_read 66 = .ok (.aload_n 0, 1) := by decide +kernel
theorem dX13_read_67 : decode cX13_read 67 = .ok (.getfield 276, 3) := by decide +kernel
theorem dX13_read_70 : decode cX13_read 70 = .ok (.ifCond .ne 74, 3) := by decide +kernel
theorem dX13_read_73 : decode cX13_read 73 = .ok (.iload_n 1, 1) := by decide +kernel
theorem dX13_read_74 : decode cX13_read 74 = .ok (.iconst (-1), 1) := by decide +kernel
theorem dX13_read_75 : decode cX13_read 75 = .ok (.if_icmp .ne 69, 3) := by decide +kernel
theorem dX13_read_78 : decode cX13_read 78 = .ok (.iconst 0, 1) := by decide +kernel
theorem dX13_read_79 : decode cX13_read 79 = .ok (.istore_n 3, 1) := by decide +kernel
theorem dX13_read_80 : decode cX13_read 80 = .ok (.iload_n 3, 1) := by decide +kernel
theorem dX13_read_81 : decode cX13_read 81 = .ok (.aload_n 0, 1) := by decide +kernel
theorem dX13_read_82 : decode cX13_read 82 = .ok (.getfield 329, 3) := by decide +kernel
theorem dX13_read_85 : decode cX13_read 85 = .ok (.if_icmp .ge 52, 3) := by decide +kernel
theorem dX13_read_88 : decode cX13_read 88 = .ok (.aload_n 0, 1) := by decide +kernel
theorem dX13_read_89 : decode cX13_read 89 = .ok (.getfield 126, 3) := by decide +kernel
theorem dX13_read_92 : decode cX13_read 92 = .ok (.iload_n 3, 1) := by decide +kernel
theorem dX13_read_93 : decode cX13_read 93 = .ok (.iaload, 1) := by decide +kernel
theorem dX13_read_94 : decode cX13_read 94 = .ok (.iconst 3, 1) := by decide +kernel
theorem dX13_read_95 : decode cX13_read 95 = .ok (.if_icmp .eq 6, 3) := by decide +kernel
theorem dX13_read_98 : decode cX13_read 98 = .ok (.goto 33, 3) := by decide +kernel
theorem dX13_read_101 : decode cX13_read 101 = .ok (.aload_n 0, 1) := by decide +kernel
theorem dX13_read_102 : decode cX13_read 102 = .ok (.getfield 171, 3) := by decide +kernel
theorem dX13_read_105 : decode cX13_read 105 = .ok (.iload_n 3, 1) := by decide +kernel
theorem dX13_read_106 : decode cX13_read 106 = .ok (.aload_n 0, 1) := by decide +kernel
theorem dX13_read_107 : decode cX13_read 107 = .ok (.getfield 439, 3) := by decide +kernel
theorem dX13_read_110 : decode cX13_read 110 = .ok (.iastore, 1) := by decide +kernel
theorem dX13_read_111 : decode cX13_read 111 = .ok (.aload_n 0, 1) := by decide +kernel
theorem dX13_read_112 : decode cX13_read 112 = .ok (.getfield 168, 3) := by decide +kernel
theorem dX13_read_115 : decode cX13_read 115 = .ok (.aload_n 0, 1) := by decide +kernel
theorem dX13_read_116 : decode cX13_read 116 = .ok (.getfield 439, 3) := by decide +kernel
theorem dX13_read_119 : decode cX13_read 119 = .ok (.iload_n 3, 1) := by decide +kernel
theorem dX13_read_120 : decode cX13_read 120 = .ok (.iastore, 1) := by decide +kernel
theorem dX13_read_121 : decode cX13_read 121 = .ok (.aload_n 0, 1) := by decide +kernel
theorem dX13_read_122 : decode cX13_read 122 = .ok (.dup, 1) := by decide +kernel
theorem dX13_read_123 : decode cX13_read 123 = .ok (.getfield 439, 3) := by decide +kernel
theorem dX13_read_126 : decode cX13_read 126 = .ok (.iconst 1, 1) := by decide +kernel
theorem dX13_read_127 : decode cX13_read 127 = .ok (.iadd, 1) := by decide +kernel
theorem dX13_read_128 : decode cX13_read 128 = .ok (.putfield 439, 3) := by decide +kernel
theorem dX13_read_131 : decode cX13_read 131 = .ok (.iinc 3 1, 3) := by decide +kernel
theorem dX13_read_134 : decode cX13_read 134 = .ok (.goto (-54), 3) := by decide +kernel
theorem dX13_read_137 : decode cX13_read 137 = .ok (.aload_n 0, 1) := by decide +kernel
theorem dX13_read_138 : decode cX13_read 138 = .ok (.invokevirtual 492, 3) := by decide +kernel
theorem dX13_read_141 : decode cX13_read 141 = .ok (.istore_n 1, 1) := by decide +kernel
theorem dX13_read_142 : decode cX13_read 142 = .ok (.iconst 3, 1) := by decide +kernel
theorem dX13_read_143 : decode cX13_read 143 = .ok (.istore_n 2, 1) := by decide +kernel
theorem dX13_read_144 : decode cX13_read 144 = .ok (.aload_n 0, 1) := by decide +kernel
theorem dX13_read_145 : decode cX13_read 145 = .ok (.iconst 0, 1) := by decide +kernel
theorem dX13_read_146 : decode cX13_read 146 = .ok (.putfield 273, 3) := by decide +kernel
theorem dX13_read_149 : decode cX13_read 149 = .ok (.iload_n 1, 1) := by decide +kernel
theorem dX13_read_150 : decode cX13_read 150 = .ok (.iconst (-1), 1) := by decide +kernel
theorem dX13_read_151 : decode cX13_read 151 = .ok (.if_icmp .eq 18, 3) := by decide +kernel
theorem dX13_read_154 : decode cX13_read 154 = .ok (.aload_n 0, 1) := by decide +kernel
theorem dX13_read_155 : decode cX13_read 155 = .ok (.iload_n 2, 1) := by decide +kernel
theorem dX13_read_156 : decode cX13_read 156 = .ok (.putfield 276, 3) := by decide +kernel
theorem dX13_read_159 : decode cX13_read 159 = .ok (.aload_n 0, 1) := by decide +kernel
theorem dX13_read_160 : decode cX13_read 160 = .ok (.aload_n 0, 1) := by decide +kernel
theorem dX13_read_161 : decode cX13_read 161 = .ok (.getfield 129, 3) := by decide +kernel
theorem dX13_read_164 : decode cX13_read 164 = .ok (.iload_n 1, 1) := by decide +kernel
theorem dX13_read_165 : decode cX13_read 165 = .ok (.iaload, 1) := by decide +kernel
theorem dX13_read_166 : decode cX13_read 166 = .ok (.putfield 122, 3) := by decide +kernel
theorem dX13_read_169 : decode cX13_read 169 = .ok (.aload_n 0, 1) := by decide +kernel
theorem dX13_read_170 : decode cX13_read 170 = .ok (.aload_n 0, 1) := by decide +kernel
theorem dX13_read_171 : decode cX13_read 171 = .ok (.getfield 276, 3) := by decide +kernel
theorem dX13_read_174 : decode cX13_read 174 = .ok (.ifCond .le 7, 3) := by decide +kernel
theorem dX13_read_177 : decode cX13_read 177 = .ok (.iconst 1, 1) := by decide +kernel
theorem dX13_read_178 : decode cX13_read 178 = .ok (.goto 4, 3) := by decide +kernel
theorem dX13_read_181 : decode cX13_read 181 = .ok (.iconst 0, 1) := by decide +kernel
theorem dX13_read_182 : decode cX13_read 182 = .ok (.putfield 252, 3) := by decide +kernel
theorem dX13_read_185 : decode cX13_read 185 = .ok (.aload_n 0, 1) := by decide +kernel
theorem dX13_read_186 : decode cX13_read 186 = .ok (.getfield 276, 3) := by decide +kernel
theorem dX13_read_189 : decode cX13_read 189 = .ok (.ifCond .le 5, 3) := by decide +kernel
theorem dX13_read_192 : decode cX13_read 192 = .ok (.iconst 0, 1) := by decide +kernel
theorem dX13_read_193 : decode cX13_read 193 = .ok (.ireturn, 1) := by decide +kernel
theorem dX13_read_194 : decode cX13_read 194 = .ok (.iconst 0, 1) := by decide +kernel
theorem dX13_read_195 : decode cX13_read 195 = .ok (.istore_n 3, 1) := by decide +kernel
theorem dX13_read_196 : decode cX13_read 196 = .ok (.iload_n 3, 1) := by decide +kernel
theorem dX13_read_197 : decode cX13_read 197 = .ok (.aload_n 0, 1) := by decide +kernel
theorem dX13_read_198 : decode cX13_read 198 = .ok (.getfield 439, 3) := by decide +kernel
theorem dX13_read_201 : decode cX13_read 201 = .ok (.if_icmp .ge 14, 3) := by decide +kernel
theorem dX13_read_204 : decode cX13_read 204 = .ok (.aload_n 0, 1) := by decide +kernel
theorem dX13_read_205 : decode cX13_read 205 = .ok (.iload_n 3, 1) := by decide +kernel
theorem dX13_read_206 : decode cX13_read 206 = .ok (.invokevirtual 495, 3) := by decide +kernel
theorem dX13_read_209 : decode cX13_read 209 = .ok (.iinc 3 1, 3) := by decide +kernel
theorem dX13_read_212 : decode cX13_read 212 = .ok (.goto (-16), 3) := by decide +kernel
theorem dX13_read_215 : decode cX13_read 215 = .ok (.aload_n 0, 1) := by decide +kernel
theorem dX13_read_216 : decode cX13_read 216 = .ok (.iconst 1, 1) := by decide +kernel
theorem dX13_read_217 : decode cX13_read 217 = .ok (.putfield 477, 3) := by decide +kernel
theorem dX13_read_220 : decode cX13_read 220 = .ok (.aload_n 0, 1) := by decide +kernel
theorem dX13_read_221 : decode cX13_read 221 = .ok (.getfield 439, 3) := by decide +kernel
theorem dX13_read_224 : decode cX13_read 224 = .ok (.ireturn, 1) := by decide +kernel
theorem dX13_fault_0 : decode cX13_fault 0 = .ok (.aload_n 0, 1) := by decide +kernel
theorem dX13_fault_1 : decode cX13_fault 1 = .ok (.iconst 0, 1) := by decide +kernel
theorem dX13_fault_2 : decode cX13_fault 2 = .ok (.putfield 252, 3) := by decide +kernel
theorem dX13_fault_5 : decode cX13_fault 5 = .ok (.iload_n 1, 1) := by decide +kernel
theorem dX13_fault_6 : decode cX13_fault 6 = .ok (.tableswitch 50 0 3 #[30, 35, 40, 45], 30) := by decide +kernel
theorem dX13_fault_36 : decode cX13_fault 36 = .ok (.aload_n 0, 1) := by decide +kernel
theorem dX13_fault_37 : decode cX13_fault 37 = .ok (.getfield 276, 3) := by decide +kernel
theorem dX13_fault_40 : decode cX13_fault 40 = .ok (.ireturn, 1) := by decide +kernel
theorem dX13_fault_41 : decode cX13_fault 41 = .ok (.aload_n 0, 1) := by decide +kernel
theorem dX13_fault_42 : decode cX13_fault 42 = .ok (.getfield 122, 3) := by decide +kernel
theorem dX13_fault_45 : decode cX13_fault 45 = .ok (.ireturn, 1) := by decide +kernel
theorem dX13_fault_46 : decode cX13_fault 46 = .ok (.aload_n 0, 1) := by decide +kernel
theorem dX13_fault_47 : decode cX13_fault 47 = .ok (.getfield 498, 3) := by decide +kernel
theorem dX13_fault_50 : decode cX13_fault 50 = .ok (.ireturn, 1) := by decide +kernel
theorem dX13_fault_51 : decode cX13_fault 51 = .ok (.aload_n 0, 1) := by decide +kernel
theorem dX13_fault_52 : decode cX13_fault 52 = .ok (.getfield 186, 3) := by decide +kernel
theorem dX13_fault_55 : decode cX13_fault 55 = .ok (.ireturn, 1) := by decide +kernel
theorem dX13_fault_56 : decode cX13_fault 56 = .ok (.iconst (-1), 1) := by decide +kernel
theorem dX13_fault_57 : decode cX13_fault 57 = .ok (.ireturn, 1) := by decide +kernel
theorem dX13_refresh_0 : decode cX13_refresh 0 = .ok (.aload_n 0, 1) := by decide +kernel
theorem dX13_refresh_1 : decode cX13_refresh 1 = .ok (.iconst 0, 1) := by decide +kernel
theorem dX13_refresh_2 : decode cX13_refresh 2 = .ok (.putfield 498, 3) := by decide +kernel
theorem dX13_refresh_5 : decode cX13_refresh 5 = .ok (.aload_n 0, 1) := by decide +kernel
theorem dX13_refresh_6 : decode cX13_refresh 6 = .ok (.iconst (-1), 1) := by decide +kernel
theorem dX13_refresh_7 : decode cX13_refresh 7 = .ok (.putfield 186, 3) := by decide +kernel
theorem dX13_refresh_10 : decode cX13_refresh 10 = .ok (.aload_n 0, 1) := by decide +kernel
theorem dX13_refresh_11 : decode cX13_refresh 11 = .ok (.aload_n 0, 1) := by decide +kernel
theorem dX13_refresh_12 : decode cX13_refresh 12 = .ok (.getfield 477, 3) := by decide +kernel
theorem dX13_refresh_15 : decode cX13_refresh 15 = .ok (.ifCond .eq 7, 3) := by decide +kernel
theorem dX13_refresh_18 : decode cX13_refresh 18 = .ok (.iconst 0, 1) := by decide +kernel
theorem dX13_refresh_19 : decode cX13_refresh 19 = .ok (.goto 4, 3) := by decide +kernel
theorem dX13_refresh_22 : decode cX13_refresh 22 = .ok (.iconst 1, 1) := by decide +kernel
theorem dX13_refresh_23 : decode cX13_refresh 23 = .ok (.putfield 252, 3) := by decide +kernel
theorem dX13_refresh_26 : decode cX13_refresh 26 = .ok (.aload_n 0, 1) := by decide +kernel
theorem dX13_refresh_27 : decode cX13_refresh 27 = .ok (.getfield 252, 3) := by decide +kernel
theorem dX13_refresh_30 : decode cX13_refresh 30 = .ok (.ifCond .le 5, 3) := by decide +kernel
theorem dX13_refresh_33 : decode cX13_refresh 33 = .ok (.iconst 0, 1) := by decide +kernel
theorem dX13_refresh_34 : decode cX13_refresh 34 = .ok (.ireturn, 1) := by decide +kernel
theorem dX13_refresh_35 : decode cX13_refresh 35 = .ok (.aload_n 0, 1) := by decide +kernel
theorem dX13_refresh_36 : decode cX13_refresh 36 = .ok (.invokevirtual 483, 3) := by decide +kernel
theorem dX13_refresh_39 : decode cX13_refresh 39 = .ok (.iconst 1, 1) := by decide +kernel
theorem dX13_refresh_40 : decode cX13_refresh 40 = .ok (.istore_n 1, 1) := by decide +kernel
theorem dX13_refresh_41 : decode cX13_refresh 41 = .ok (.iconst 0, 1) := by decide +kernel
theorem dX13_refresh_42 : decode cX13_refresh 42 = .ok (.istore_n 2, 1) := by decide +kernel
theorem dX13_refresh_43 : decode cX13_refresh 43 = .ok (.iload_n 2, 1) := by decide +kernel
theorem dX13_refresh_44 : decode cX13_refresh 44 = .ok (.aload_n 0, 1) := by decide +kernel
theorem dX13_refresh_45 : decode cX13_refresh 45 = .ok (.getfield 439, 3) := by decide +kernel
theorem dX13_refresh_48 : decode cX13_refresh 48 = .ok (.if_icmp .ge 69, 3) := by decide +kernel
theorem dX13_refresh_51 : decode cX13_refresh 51 = .ok (.iload_n 1, 1) := by decide +kernel
theorem dX13_refresh_52 : decode cX13_refresh 52 = .ok (.ifCond .eq 65, 3) := by decide +kernel
theorem dX13_refresh_55 : decode cX13_refresh 55 = .ok (.aload_n 0, 1) := by decide +kernel
theorem dX13_refresh_56 : decode cX13_refresh 56 = .ok (.getfield 168, 3) := by decide +kernel
theorem dX13_refresh_59 : decode cX13_refresh 59 = .ok (.iload_n 2, 1) := by decide +kernel
theorem dX13_refresh_60 : decode cX13_refresh 60 = .ok (.iaload, 1) := by decide +kernel
theorem dX13_refresh_61 : decode cX13_refresh 61 = .ok (.istore_n 3, 1) := by decide +kernel
theorem dX13_refresh_62 : decode cX13_refresh 62 = .ok (.aload_n 0, 1) := by decide +kernel
theorem dX13_refresh_63 : decode cX13_refresh 63 = .ok (.getfield 132, 3) := by decide +kernel
theorem dX13_refresh_66 : decode cX13_refresh 66 = .ok (.iload_n 3, 1) := by decide +kernel
theorem dX13_refresh_67 : decode cX13_refresh 67 = .ok (.iaload, 1) := by decide +kernel
theorem dX13_refresh_68 : decode cX13_refresh 68 = .ok (.ifCond .ne 43, 3) := by decide +kernel
theorem dX13_refresh_71 : decode cX13_refresh 71 = .ok (.aload_n 0, 1) := by decide +kernel
theorem dX13_refresh_72 : decode cX13_refresh 72 = .ok (.iload_n 2, 1) := by decide +kernel
theorem dX13_refresh_73 : decode cX13_refresh 73 = .ok (.invokevirtual 507, 3) := by decide +kernel
theorem dX13_refresh_76 : decode cX13_refresh 76 = .ok (.ifCond .ne 35, 3) := by decide +kernel
theorem dX13_refresh_79 : decode cX13_refresh 79 = .ok (.aload_n 0, 1) := by decide +kernel
theorem dX13_refresh_80 : decode cX13_refresh 80 = .ok (.iload_n 2, 1) := by decide +kernel
theorem dX13_refresh_81 : decode cX13_refresh 81 = .ok (.invokevirtual 510, 3) := by decide +kernel
theorem dX13_refresh_84 : decode cX13_refresh 84 = .ok (.ifCond .ne 27, 3) := by decide +kernel
theorem dX13_refresh_87 : decode cX13_refresh 87 = .ok (.aload_n 0, 1) := by decide +kernel
theorem dX13_refresh_88 : decode cX13_refresh 88 = .ok (.iload_n 3, 1) := by decide +kernel
theorem dX13_refresh_89 : decode cX13_refresh 89 = .ok (.ldc2_w 394, 3) := by decide +kernel
theorem dX13_refresh_92 : decode cX13_refresh 92 = .ok (.invokevirtual 359, 3) := by decide +kernel
theorem dX13_refresh_95 : decode cX13_refresh 95 = .ok (.aload_n 0, 1) := by decide +kernel
theorem dX13_refresh_96 : decode cX13_refresh 96 = .ok (.getfield 55, 3) := by decide +kernel
theorem dX13_refresh_99 : decode cX13_refresh 99 = .ok (.iconst 0, 1) := by decide +kernel
theorem dX13_refresh_100 : decode cX13_refresh 100 = .ok (.laload, 1) := by decide +kernel
theorem dX13_refresh_101 : decode cX13_refresh 101 = .ok (.lcmp, 1) := by decide +kernel
theorem dX13_refresh_102 : decode cX13_refresh 102 = .ok (.ifCond .eq 9, 3) := by decide +kernel
theorem dX13_refresh_105 : decode cX13_refresh 105 = .ok (.aload_n 0, 1) := by decide +kernel
theorem dX13_refresh_106 : decode cX13_refresh 106 = .ok (.iload_n 2, 1) := by decide +kernel
theorem dX13_refresh_107 : decode cX13_refresh 107 = .ok (.invokevirtual 614, 3) := by decide +kernel
theorem dX13_refresh_110 : decode cX13_refresh 110 = .ok (.istore_n 1, 1) := by decide +kernel
theorem dX13_refresh_111 : decode cX13_refresh 111 = .ok (.iinc 2 1, 3) := by decide +kernel
theorem dX13_refresh_114 : decode cX13_refresh 114 = .ok (.goto (-71), 3) := by decide +kernel
theorem dX13_refresh_117 : decode cX13_refresh 117 = .ok (.iload_n 1, 1) := by decide +kernel
theorem dX13_refresh_118 : decode cX13_refresh 118 = .ok (.ifCond .ne 7, 3) := by decide +kernel
theorem dX13_refresh_121 : decode cX13_refresh 121 = .ok (.aload_n 0, 1) := by decide +kernel
theorem dX13_refresh_122 : decode cX13_refresh 122 = .ok (.invokevirtual 617, 3) := by decide +kernel
theorem dX13_refresh_125 : decode cX13_refresh 125 = .ok (.aload_n 0, 1) := by decide +kernel
theorem dX13_refresh_126 : decode cX13_refresh 126 = .ok (.iload_n 1, 1) := by decide +kernel
theorem dX13_refresh_127 : decode cX13_refresh 127 = .ok (.ifCond .eq 7, 3) := by decide +kernel
theorem dX13_refresh_130 : decode cX13_refresh 130 = .ok (.iconst 0, 1) := by decide +kernel
theorem dX13_refresh_131 : decode cX13_refresh 131 = .ok (.goto 4, 3) := by decide +kernel
theorem dX13_refresh_134 : decode cX13_refresh 134 = .ok (.iconst 2, 1) := by decide +kernel
theorem dX13_refresh_135 : decode cX13_refresh 135 = .ok (.putfield 252, 3) := by decide +kernel
theorem dX13_refresh_138 : decode cX13_refresh 138 = .ok (.iload_n 1, 1) := by decide +kernel
theorem dX13_refresh_139 : decode cX13_refresh 139 = .ok (.ifCond .eq 10, 3) := by decide +kernel
theorem dX13_refresh_142 : decode cX13_refresh 142 = .ok (.aload_n 0, 1) := by decide +kernel
theorem dX13_refresh_143 : decode cX13_refresh 143 = .ok (.getfield 480, 3) := by decide +kernel
theorem dX13_refresh_146 : decode cX13_refresh 146 = .ok (.goto 4, 3) := by decide +kernel
theorem dX13_refresh_149 : decode cX13_refresh 149 = .ok (.iconst 0, 1) := by decide +kernel
theorem dX13_refresh_150 : decode cX13_refresh 150 = .ok (.ireturn, 1) := by decide +kernel
theorem dX13_get_0 : decode cX13_get 0 = .ok (.aload_n 0, 1) := by decide +kernel
theorem dX13_get_1 : decode cX13_get 1 = .ok (.iconst 0, 1) := by decide +kernel
theorem dX13_get_2 : decode cX13_get 2 = .ok (.putfield 498, 3) := by decide +kernel
theorem dX13_get_5 : decode cX13_get 5 = .ok (.aload_n 0, 1) := by decide +kernel
theorem dX13_get_6 : decode cX13_get 6 = .ok (.iconst (-1), 1) := by decide +kernel
theorem dX13_get_7 : decode cX13_get 7 = .ok (.putfield 186, 3) := by decide +kernel
theorem dX13_get_10 : decode cX13_get 10 = .ok (.aload_n 0, 1) := by decide +kernel
theorem dX13_get_11 : decode cX13_get 11 = .ok (.aload_n 0, 1) := by decide +kernel
theorem dX13_get_12 : decode cX13_get 12 = .ok (.getfield 477, 3) := by decide +kernel
theorem dX13_get_15 : decode cX13_get 15 = .ok (.ifCond .eq 7, 3) := by decide +kernel
theorem dX13_get_18 : decode cX13_get 18 = .ok (.iconst 0, 1) := by decide +kernel
theorem dX13_get_19 : decode cX13_get 19 = .ok (.goto 4, 3) := by decide +kernel
theorem dX13_get_22 : decode cX13_get 22 = .ok (.iconst 1, 1) := by decide +kernel
theorem dX13_get_23 : decode cX13_get 23 = .ok (.putfield 252, 3) := by decide +kernel
theorem dX13_get_26 : decode cX13_get 26 = .ok (.aload_n 0, 1) := by decide +kernel
theorem dX13_get_27 : decode cX13_get 27 = .ok (.getfield 252, 3) := by decide +kernel
theorem dX13_get_30 : decode cX13_get 30 = .ok (.ifCond .le 5, 3) := by decide +kernel
theorem dX13_get_33 : decode cX13_get 33 = .ok (.iconst 0, 1) := by decide +kernel
theorem dX13_get_34 : decode cX13_get 34 = .ok (.ireturn, 1) := by decide +kernel
theorem dX13_get_35 : decode cX13_get 35 = .ok (.aload_n 0, 1) := by decide +kernel
theorem dX13_get_36 : decode cX13_get 36 = .ok (.aload_n 0, 1) := by decide +kernel
theorem dX13_get_37 : decode cX13_get 37 = .ok (.aload_n 0, 1) := by decide +kernel
theorem dX13_get_38 : decode cX13_get 38 = .ok (.lload_n 1, 1) := by decide +kernel
theorem dX13_get_39 : decode cX13_get 39 = .ok (.invokestatic 620, 3) := by decide +kernel
theorem dX13_get_42 : decode cX13_get 42 = .ok (.invokevirtual 520, 3) := by decide +kernel
theorem dX13_get_45 : decode cX13_get 45 = .ok (.invokevirtual 614, 3) := by decide +kernel
theorem dX13_get_48 : decode cX13_get 48 = .ok (.ifCond .eq 7, 3) := by decide +kernel
theorem dX13_get_51 : decode cX13_get 51 = .ok (.iconst 0, 1) := by decide +kernel
theorem dX13_get_52 : decode cX13_get 52 = .ok (.goto 4, 3) := by decide +kernel
theorem dX13_get_55 : decode cX13_get 55 = .ok (.iconst 2, 1) := by decide +kernel
theorem dX13_get_56 : decode cX13_get 56 = .ok (.putfield 252, 3) := by decide +kernel
theorem dX13_get_59 : decode cX13_get 59 = .ok (.aload_n 0, 1) := by decide +kernel
theorem dX13_get_60 : decode cX13_get 60 = .ok (.getfield 252, 3) := by decide +kernel
theorem dX13_get_63 : decode cX13_get 63 = .ok (.ifCond .le 7, 3) := by decide +kernel
theorem dX13_get_66 : decode cX13_get 66 = .ok (.iconst 0, 1) := by decide +kernel
theorem dX13_get_67 : decode cX13_get 67 = .ok (.goto 7, 3) := by decide +kernel
theorem dX13_get_70 : decode cX13_get 70 = .ok (.aload_n 0, 1) := by decide +kernel
theorem dX13_get_71 : decode cX13_get 71 = .ok (.getfield 513, 3) := by decide +kernel
theorem dX13_get_74 : decode cX13_get 74 = .ok (.ireturn, 1) := by decide +kernel
theorem dX13_call_0 : decode cX13_call 0 = .ok (.aload_n 0, 1) := by decide +kernel
theorem dX13_call_1 : decode cX13_call 1 = .ok (.iconst 0, 1) := by decide +kernel
theorem dX13_call_2 : decode cX13_call 2 = .ok (.putfield 498, 3) := by decide +kernel
theorem dX13_call_5 : decode cX13_call 5 = .ok (.aload_n 0, 1) := by decide +kernel
theorem dX13_call_6 : decode cX13_call 6 = .ok (.iconst (-1), 1) := by decide +kernel
theorem dX13_call_7 : decode cX13_call 7 = .ok (.putfield 186, 3) := by decide +kernel
theorem dX13_call_10 : decode cX13_call 10 = .ok (.aload_n 0, 1) := by decide +kernel
theorem dX13_call_11 : decode cX13_call 11 = .ok (.aload_n 0, 1) := by decide +kernel
theorem dX13_call_12 : decode cX13_call 12 = .ok (.getfield 477, 3) := by decide +kernel
theorem dX13_call_15 : decode cX13_call 15 = .ok (.ifCond .eq 7, 3) := by decide +kernel
theorem dX13_call_18 : decode cX13_call 18 = .ok (.iconst 0, 1) := by decide +kernel
theorem dX13_call_19 : decode cX13_call 19 = .ok (.goto 4, 3) := by decide +kernel
theorem dX13_call_22 : decode cX13_call 22 = .ok (.iconst 1, 1) := by decide +kernel
theorem dX13_call_23 : decode cX13_call 23 = .ok (.putfield 252, 3) := by decide +kernel
theorem dX13_call_26 : decode cX13_call 26 = .ok (.aload_n 0, 1) := by decide +kernel
theorem dX13_call_27 : decode cX13_call 27 = .ok (.getfield 252, 3) := by decide +kernel
theorem dX13_call_30 : decode cX13_call 30 = .ok (.ifCond .le 5, 3) := by decide +kernel
theorem dX13_call_33 : decode cX13_call 33 = .ok (.iconst 0, 1) := by decide +kernel
theorem dX13_call_34 : decode cX13_call 34 = .ok (.ireturn, 1) := by decide +kernel
theorem dX13_call_35 : decode cX13_call 35 = .ok (.iconst (-1), 1) := by decide +kernel
theorem dX13_call_36 : decode cX13_call 36 = .ok (.istore_n 3, 1) := by decide +kernel
theorem dX13_call_37 : decode cX13_call 37 = .ok (.iload_n 1, 1) := by decide +kernel
theorem dX13_call_38 : decode cX13_call 38 = .ok (.ifCond .lt 15, 3) := by decide +kernel
theorem dX13_call_41 : decode cX13_call 41 = .ok (.iload_n 1, 1) := by decide +kernel
theorem dX13_call_42 : decode cX13_call 42 = .ok (.aload_n 0, 1) := by decide +kernel
theorem dX13_call_43 : decode cX13_call 43 = .ok (.getfield 480, 3) := by decide +kernel
theorem dX13_call_46 : decode cX13_call 46 = .ok (.if_icmp .ge 7, 3) := by decide +kernel
theorem dX13_call_49 : decode cX13_call 49 = .ok (.iconst 1, 1) := by decide +kernel
theorem dX13_call_50 : decode cX13_call 50 = .ok (.goto 4, 3) := by decide +kernel
theorem dX13_call_53 : decode cX13_call 53 = .ok (.iconst 0, 1) := by decide +kernel
theorem dX13_call_54 : decode cX13_call 54 = .ok (.istore 4, 2) := by decide +kernel
theorem dX13_call_56 : decode cX13_call 56 = .ok (.iconst 0, 1) := by decide +kernel
theorem dX13_call_57 : decode cX13_call 57 = .ok (.istore 5, 2) := by decide +kernel
theorem dX13_call_59 : decode cX13_call 59 = .ok (.iload 4, 2) := by decide +kernel
theorem dX13_call_61 : decode cX13_call 61 = .ok (.ifCond .eq 68, 3) := by decide +kernel
theorem dX13_call_64 : decode cX13_call 64 = .ok (.iload 5, 2) := by decide +kernel
theorem dX13_call_66 : decode cX13_call 66 = .ok (.aload_n 0, 1) := by decide +kernel
theorem dX13_call_67 : decode cX13_call 67 = .ok (.getfield 180, 3) := by decide +kernel
theorem dX13_call_70 : decode cX13_call 70 = .ok (.aload_n 0, 1) := by decide +kernel
theorem dX13_call_71 : decode cX13_call 71 = .ok (.getfield 192, 3) := by decide +kernel
theorem dX13_call_74 : decode cX13_call 74 = .ok (.iload_n 1, 1) := by decide +kernel
theorem dX13_call_75 : decode cX13_call 75 = .ok (.iaload, 1) := by decide +kernel
theorem dX13_call_76 : decode cX13_call 76 = .ok (.iaload, 1) := by decide +kernel
theorem dX13_call_77 : decode cX13_call 77 = .ok (.if_icmp .ge 52, 3) := by decide +kernel
theorem dX13_call_80 : decode cX13_call 80 = .ok (.aload_n 0, 1) := by decide +kernel
theorem dX13_call_81 : decode cX13_call 81 = .ok (.getfield 183, 3) := by decide +kernel
theorem dX13_call_84 : decode cX13_call 84 = .ok (.bipush 26, 2) := by decide +kernel
theorem dX13_call_86 : decode cX13_call 86 = .ok (.aload_n 0, 1) := by decide +kernel
theorem dX13_call_87 : decode cX13_call 87 = .ok (.getfield 192, 3) := by decide +kernel
theorem dX13_call_90 : decode cX13_call 90 = .ok (.iload_n 1, 1) := by decide +kernel
theorem dX13_call_91 : decode cX13_call 91 = .ok (.iaload, 1) := by decide +kernel
theorem dX13_call_92 : decode cX13_call 92 = .ok (.imul, 1) := by decide +kernel
theorem dX13_call_93 : decode cX13_call 93 = .ok (.iload 5, 2) := by decide +kernel
theorem dX13_call_95 : decode cX13_call 95 = .ok (.iadd, 1) := by decide +kernel
theorem dX13_call_96 : decode cX13_call 96 = .ok (.iaload, 1) := by decide +kernel
theorem dX13_call_97 : decode cX13_call 97 = .ok (.istore 6, 2) := by decide +kernel
theorem dX13_call_99 : decode cX13_call 99 = .ok (.aload_n 0, 1) := by decide +kernel
theorem dX13_call_100 : decode cX13_call 100 = .ok (.iload 6, 2) := by decide +kernel
theorem dX13_call_102 : decode cX13_call 102 = .ok (.ldc2_w 380, 3) := by decide +kernel
theorem dX13_call_105 : decode cX13_call 105 = .ok (.invokevirtual 359, 3) := by decide +kernel
theorem dX13_call_108 : decode cX13_call 108 = .ok (.l2i, 1) := by decide +kernel
theorem dX13_call_109 : decode cX13_call 109 = .ok (.bipush 97, 2) := by decide +kernel
theorem dX13_call_111 : decode cX13_call 111 = .ok (.isub, 1) := by decide +kernel
theorem dX13_call_112 : decode cX13_call 112 = .ok (.iload_n 2, 1) := by decide +kernel
theorem dX13_call_113 : decode cX13_call 113 = .ok (.if_icmp .ne 8, 3) := by decide +kernel
theorem dX13_call_116 : decode cX13_call 116 = .ok (.iload 6, 2) := by decide +kernel
theorem dX13_call_118 : decode cX13_call 118 = .ok (.goto 4, 3) := by decide +kernel
theorem dX13_call_121 : decode cX13_call 121 = .ok (.iload_n 3, 1) := by decide +kernel
theorem dX13_call_122 : decode cX13_call 122 = .ok (.istore_n 3, 1) := by decide +kernel
theorem dX13_call_123 : decode cX13_call 123 = .ok (.iinc 5 1, 3) := by decide +kernel
theorem dX13_call_126 : decode cX13_call 126 = .ok (.goto (-67), 3) := by decide +kernel
theorem dX13_call_129 : decode cX13_call 129 = .ok (.aload_n 0, 1) := by decide +kernel
theorem dX13_call_130 : decode cX13_call 130 = .ok (.iload_n 3, 1) := by decide +kernel
theorem dX13_call_131 : decode cX13_call 131 = .ok (.iconst (-1), 1) := by decide +kernel
theorem dX13_call_132 : decode cX13_call 132 = .ok (.if_icmp .ne 7, 3) := by decide +kernel
theorem dX13_call_135 : decode cX13_call 135 = .ok (.iconst 2, 1) := by decide +kernel
theorem dX13_call_136 : decode cX13_call 136 = .ok (.goto 4, 3) := by decide +kernel
theorem dX13_call_139 : decode cX13_call 139 = .ok (.iconst 0, 1) := by decide +kernel
theorem dX13_call_140 : decode cX13_call 140 = .ok (.putfield 252, 3) := by decide +kernel
theorem dX13_call_143 : decode cX13_call 143 = .ok (.aload_n 0, 1) := by decide +kernel
theorem dX13_call_144 : decode cX13_call 144 = .ok (.getfield 252, 3) := by decide +kernel
theorem dX13_call_147 : decode cX13_call 147 = .ok (.ifCond .le 5, 3) := by decide +kernel
theorem dX13_call_150 : decode cX13_call 150 = .ok (.iconst 0, 1) := by decide +kernel
theorem dX13_call_151 : decode cX13_call 151 = .ok (.ireturn, 1) := by decide +kernel
theorem dX13_call_152 : decode cX13_call 152 = .ok (.aload_n 0, 1) := by decide +kernel
theorem dX13_call_153 : decode cX13_call 153 = .ok (.aload_n 0, 1) := by decide +kernel
theorem dX13_call_154 : decode cX13_call 154 = .ok (.aload_n 0, 1) := by decide +kernel
theorem dX13_call_155 : decode cX13_call 155 = .ok (.aload_n 0, 1) := by decide +kernel
theorem dX13_call_156 : decode cX13_call 156 = .ok (.iload_n 3, 1) := by decide +kernel
theorem dX13_call_157 : decode cX13_call 157 = .ok (.ldc2_w 11, 3) := by decide +kernel
theorem dX13_call_160 : decode cX13_call 160 = .ok (.invokevirtual 359, 3) := by decide +kernel
theorem dX13_call_163 : decode cX13_call 163 = .ok (.invokevirtual 520, 3) := by decide +kernel
theorem dX13_call_166 : decode cX13_call 166 = .ok (.invokevirtual 614, 3) := by decide +kernel
theorem dX13_call_169 : decode cX13_call 169 = .ok (.ifCond .eq 7, 3) := by decide +kernel
theorem dX13_call_172 : decode cX13_call 172 = .ok (.iconst 0, 1) := by decide +kernel
theorem dX13_call_173 : decode cX13_call 173 = .ok (.goto 4, 3) := by decide +kernel
theorem dX13_call_176 : decode cX13_call 176 = .ok (.iconst 3, 1) := by decide +kernel
theorem dX13_call_177 : decode cX13_call 177 = .ok (.putfield 252, 3) := by decide +kernel
theorem dX13_call_180 : decode cX13_call 180 = .ok (.aload_n 0, 1) := by decide +kernel
theorem dX13_call_181 : decode cX13_call 181 = .ok (.getfield 252, 3) := by decide +kernel
theorem dX13_call_184 : decode cX13_call 184 = .ok (.ifCond .le 7, 3) := by decide +kernel
theorem dX13_call_187 : decode cX13_call 187 = .ok (.iconst 0, 1) := by decide +kernel
theorem dX13_call_188 : decode cX13_call 188 = .ok (.goto 7, 3) := by decide +kernel
theorem dX13_call_191 : decode cX13_call 191 = .ok (.aload_n 0, 1) := by decide +kernel
theorem dX13_call_192 : decode cX13_call 192 = .ok (.getfield 513, 3) := by decide +kernel
theorem dX13_call_195 : decode cX13_call 195 = .ok (.ireturn, 1) := by decide +kernel
theorem dX13_close_0 : decode cX13_close 0 = .ok (.aload_n 0, 1) := by decide +kernel
theorem dX13_close_1 : decode cX13_close 1 = .ok (.iconst 0, 1) := by decide +kernel
theorem dX13_close_2 : decode cX13_close 2 = .ok (.putfield 252, 3) := by decide +kernel
theorem dX13_close_5 : decode cX13_close 5 = .ok (.aload_n 0, 1) := by decide +kernel
theorem dX13_close_6 : decode cX13_close 6 = .ok (.getfield 477, 3) := by decide +kernel
theorem dX13_close_9 : decode cX13_close 9 = .ok (.ifCond .eq 7, 3) := by decide +kernel
theorem dX13_close_12 : decode cX13_close 12 = .ok (.aload_n 0, 1) := by decide +kernel
theorem dX13_close_13 : decode cX13_close 13 = .ok (.invokevirtual 617, 3) := by decide +kernel
theorem dX13_close_16 : decode cX13_close 16 = .ok (.aload_n 0, 1) := by decide +kernel
theorem dX13_close_17 : decode cX13_close 17 = .ok (.getfield 471, 3) := by decide +kernel
theorem dX13_close_20 : decode cX13_close 20 = .ok (.ireturn, 1) := by decide +kernel
theorem dX13_events_0 : decode cX13_events 0 = .ok (.aload_n 0, 1) := by decide +kernel
theorem dX13_events_1 : decode cX13_events 1 = .ok (.iconst 0, 1) := by decide +kernel
theorem dX13_events_2 : decode cX13_events 2 = .ok (.putfield 252, 3) := by decide +kernel
theorem dX13_events_5 : decode cX13_events 5 = .ok (.aload_n 0, 1) := by decide +kernel
theorem dX13_events_6 : decode cX13_events 6 = .ok (.getfield 471, 3) := by decide +kernel
theorem dX13_events_9 : decode cX13_events 9 = .ok (.ireturn, 1) := by decide +kernel
theorem dX13_event_0 : decode cX13_event 0 = .ok (.aload_n 0, 1) := by decide +kernel
theorem dX13_event_1 : decode cX13_event 1 = .ok (.iconst 0, 1) := by decide +kernel
theorem dX13_event_2 : decode cX13_event 2 = .ok (.putfield 252, 3) := by decide +kernel
theorem dX13_event_5 : decode cX13_event 5 = .ok (.iload_n 1, 1) := by decide +kernel
theorem dX13_event_6 : decode cX13_event 6 = .ok (.ifCond .lt 11, 3) := by decide +kernel
theorem dX13_event_9 : decode cX13_event 9 = .ok (.iload_n 1, 1) := by decide +kernel
theorem dX13_event_10 : decode cX13_event 10 = .ok (.aload_n 0, 1) := by decide +kernel
theorem dX13_event_11 : decode cX13_event 11 = .ok (.getfield 471, 3) := by decide +kernel
theorem dX13_event_14 : decode cX13_event 14 = .ok (.if_icmp .lt 5, 3) := by decide +kernel
theorem dX13_event_17 : decode cX13_event 17 = .ok (.iconst (-1), 1) := by decide +kernel
theorem dX13_event_18 : decode cX13_event 18 = .ok (.ireturn, 1) := by decide +kernel
theorem dX13_event_19 : decode cX13_event 19 = .ok (.iload_n 2, 1) := by decide +kernel
theorem dX13_event_20 : decode cX13_event 20 = .ok (.tableswitch 60 0 3 #[32, 39, 46, 53], 32) := by decide +kernel
theorem dX13_event_52 : decode cX13_event 52 = .ok (.aload_n 0, 1) := by decide +kernel
theorem dX13_event_53 : decode cX13_event 53 = .ok (.getfield 195, 3) := by decide +kernel
theorem dX13_event_56 : decode cX13_event 56 = .ok (.iload_n 1, 1) := by decide +kernel
theorem dX13_event_57 : decode cX13_event 57 = .ok (.iaload, 1) := by decide +kernel
theorem dX13_event_58 : decode cX13_event 58 = .ok (.ireturn, 1) := by decide +kernel
theorem dX13_event_59 : decode cX13_event 59 = .ok (.aload_n 0, 1) := by decide +kernel
theorem dX13_event_60 : decode cX13_event 60 = .ok (.getfield 198, 3) := by decide +kernel
theorem dX13_event_63 : decode cX13_event 63 = .ok (.iload_n 1, 1) := by decide +kernel
theorem dX13_event_64 : decode cX13_event 64 = .ok (.iaload, 1) := by decide +kernel
theorem dX13_event_65 : decode cX13_event 65 = .ok (.ireturn, 1) := by decide +kernel
theorem dX13_event_66 : decode cX13_event 66 = .ok (.aload_n 0, 1) := by decide +kernel
theorem dX13_event_67 : decode cX13_event 67 = .ok (.getfield 201, 3) := by decide +kernel
theorem dX13_event_70 : decode cX13_event 70 = .ok (.iload_n 1, 1) := by decide +kernel
theorem dX13_event_71 : decode cX13_event 71 = .ok (.iaload, 1) := by decide +kernel
theorem dX13_event_72 : decode cX13_event 72 = .ok (.ireturn, 1) := by decide +kernel
theorem dX13_event_73 : decode cX13_event 73 = .ok (.aload_n 0, 1) := by decide +kernel
theorem dX13_event_74 : decode cX13_event 74 = .ok (.getfield 204, 3) := by decide +kernel
theorem dX13_event_77 : decode cX13_event 77 = .ok (.iload_n 1, 1) := by decide +kernel
theorem dX13_event_78 : decode cX13_event 78 = .ok (.iaload, 1) := by decide +kernel
theorem dX13_event_79 : decode cX13_event 79 = .ok (.ireturn, 1) := by decide +kernel
theorem dX13_event_80 : decode cX13_event 80 = .ok (.iconst (-1), 1) := by decide +kernel
theorem dX13_event_81 : decode cX13_event 81 = .ok (.ireturn, 1) := by decide +kernel
theorem dX13_object_0 : decode cX13_object 0 = .ok (.aload_n 0, 1) := by decide +kernel
theorem dX13_object_1 : decode cX13_object 1 = .ok (.iconst 0, 1) := by decide +kernel
theorem dX13_object_2 : decode cX13_object 2 = .ok (.putfield 252, 3) := by decide +kernel
theorem dX13_object_5 : decode cX13_object 5 = .ok (.iload_n 1, 1) := by decide +kernel
theorem dX13_object_6 : decode cX13_object 6 = .ok (.ifCond .lt 20, 3) := by decide +kernel
theorem dX13_object_9 : decode cX13_object 9 = .ok (.iload_n 1, 1) := by decide +kernel
theorem dX13_object_10 : decode cX13_object 10 = .ok (.aload_n 0, 1) := by decide +kernel
theorem dX13_object_11 : decode cX13_object 11 = .ok (.getfield 480, 3) := by decide +kernel
theorem dX13_object_14 : decode cX13_object 14 = .ok (.if_icmp .ge 12, 3) := by decide +kernel
theorem dX13_object_17 : decode cX13_object 17 = .ok (.iload_n 2, 1) := by decide +kernel
theorem dX13_object_18 : decode cX13_object 18 = .ok (.ifCond .lt 8, 3) := by decide +kernel
theorem dX13_object_21 : decode cX13_object 21 = .ok (.iload_n 2, 1) := by decide +kernel
theorem dX13_object_22 : decode cX13_object 22 = .ok (.iconst 1, 1) := by decide +kernel
theorem dX13_object_23 : decode cX13_object 23 = .ok (.if_icmp .le 7, 3) := by decide +kernel
theorem dX13_object_26 : decode cX13_object 26 = .ok (.iconst (-1), 1) := by decide +kernel
theorem dX13_object_27 : decode cX13_object 27 = .ok (.goto 22, 3) := by decide +kernel
theorem dX13_object_30 : decode cX13_object 30 = .ok (.iload_n 2, 1) := by decide +kernel
theorem dX13_object_31 : decode cX13_object 31 = .ok (.ifCond .ne 12, 3) := by decide +kernel
theorem dX13_object_34 : decode cX13_object 34 = .ok (.aload_n 0, 1) := by decide +kernel
theorem dX13_object_35 : decode cX13_object 35 = .ok (.getfield 189, 3) := by decide +kernel
theorem dX13_object_38 : decode cX13_object 38 = .ok (.iload_n 1, 1) := by decide +kernel
theorem dX13_object_39 : decode cX13_object 39 = .ok (.iaload, 1) := by decide +kernel
theorem dX13_object_40 : decode cX13_object 40 = .ok (.goto 9, 3) := by decide +kernel
theorem dX13_object_43 : decode cX13_object 43 = .ok (.aload_n 0, 1) := by decide +kernel
theorem dX13_object_44 : decode cX13_object 44 = .ok (.getfield 192, 3) := by decide +kernel
theorem dX13_object_47 : decode cX13_object 47 = .ok (.iload_n 1, 1) := by decide +kernel
theorem dX13_object_48 : decode cX13_object 48 = .ok (.iaload, 1) := by decide +kernel
theorem dX13_object_49 : decode cX13_object 49 = .ok (.ireturn, 1) := by decide +kernel
theorem dX13_bean_0 : decode cX13_bean 0 = .ok (.aload_n 0, 1) := by decide +kernel
theorem dX13_bean_1 : decode cX13_bean 1 = .ok (.iconst 0, 1) := by decide +kernel
theorem dX13_bean_2 : decode cX13_bean 2 = .ok (.putfield 252, 3) := by decide +kernel
theorem dX13_bean_5 : decode cX13_bean 5 = .ok (.iload_n 1, 1) := by decide +kernel
theorem dX13_bean_6 : decode cX13_bean 6 = .ok (.ifCond .lt 18, 3) := by decide +kernel
theorem dX13_bean_9 : decode cX13_bean 9 = .ok (.iload_n 1, 1) := by decide +kernel
theorem dX13_bean_10 : decode cX13_bean 10 = .ok (.aload_n 0, 1) := by decide +kernel
theorem dX13_bean_11 : decode cX13_bean 11 = .ok (.getfield 439, 3) := by decide +kernel
theorem dX13_bean_14 : decode cX13_bean 14 = .ok (.if_icmp .ge 10, 3) := by decide +kernel
theorem dX13_bean_17 : decode cX13_bean 17 = .ok (.aload_n 0, 1) := by decide +kernel
theorem dX13_bean_18 : decode cX13_bean 18 = .ok (.getfield 477, 3) := by decide +kernel
theorem dX13_bean_21 : decode cX13_bean 21 = .ok (.ifCond .ne 5, 3) := by decide +kernel
theorem dX13_bean_24 : decode cX13_bean 24 = .ok (.iconst (-1), 1) := by decide +kernel
theorem dX13_bean_25 : decode cX13_bean 25 = .ok (.ireturn, 1) := by decide +kernel
theorem dX13_bean_26 : decode cX13_bean 26 = .ok (.aload_n 0, 1) := by decide +kernel
theorem dX13_bean_27 : decode cX13_bean 27 = .ok (.getfield 168, 3) := by decide +kernel
theorem dX13_bean_30 : decode cX13_bean 30 = .ok (.iload_n 1, 1) := by decide +kernel
theorem dX13_bean_31 : decode cX13_bean 31 = .ok (.iaload, 1) := by decide +kernel
theorem dX13_bean_32 : decode cX13_bean 32 = .ok (.istore_n 3, 1) := by decide +kernel
theorem dX13_bean_33 : decode cX13_bean 33 = .ok (.iload_n 2, 1) := by decide +kernel
theorem dX13_bean_34 : decode cX13_bean 34 = .ok (.tableswitch 199 0 11 #[62, 68, 74, 81, 88, 97, 106, 115, 129, 153, 177, 192], 62) := by decide +kernel
theorem dX13_bean_96 : decode cX13_bean 96 = .ok (.aload_n 0, 1) := by decide +kernel
theorem dX13_bean_97 : decode cX13_bean 97 = .ok (.iload_n 1, 1) := by decide +kernel
theorem dX13_bean_98 : decode cX13_bean 98 = .ok (.invokevirtual 574, 3) := by decide +kernel
theorem dX13_bean_101 : decode cX13_bean 101 = .ok (.ireturn, 1) := by decide +kernel
theorem dX13_bean_102 : decode cX13_bean 102 = .ok (.aload_n 0, 1) := by decide +kernel
theorem dX13_bean_103 : decode cX13_bean 103 = .ok (.iload_n 1, 1) := by decide +kernel
theorem dX13_bean_104 : decode cX13_bean 104 = .ok (.invokevirtual 557, 3) := by decide +kernel
theorem dX13_bean_107 : decode cX13_bean 107 = .ok (.ireturn, 1) := by decide +kernel
theorem dX13_bean_108 : decode cX13_bean 108 = .ok (.aload_n 0, 1) := by decide +kernel
theorem dX13_bean_109 : decode cX13_bean 109 = .ok (.getfield 174, 3) := by decide +kernel
theorem dX13_bean_112 : decode cX13_bean 112 = .ok (.iload_n 1, 1) := by decide +kernel
theorem dX13_bean_113 : decode cX13_bean 113 = .ok (.iaload, 1) := by decide +kernel
theorem dX13_bean_114 : decode cX13_bean 114 = .ok (.ireturn, 1) := by decide +kernel
theorem dX13_bean_115 : decode cX13_bean 115 = .ok (.aload_n 0, 1) := by decide +kernel
theorem dX13_bean_116 : decode cX13_bean 116 = .ok (.getfield 180, 3) := by decide +kernel
theorem dX13_bean_119 : decode cX13_bean 119 = .ok (.iload_n 1, 1) := by decide +kernel
theorem dX13_bean_120 : decode cX13_bean 120 = .ok (.iaload, 1) := by decide +kernel
theorem dX13_bean_121 : decode cX13_bean 121 = .ok (.ireturn, 1) := by decide +kernel
theorem dX13_bean_122 : decode cX13_bean 122 = .ok (.aload_n 0, 1) := by decide +kernel
theorem dX13_bean_123 : decode cX13_bean 123 = .ok (.iload_n 1, 1) := by decide +kernel
theorem dX13_bean_124 : decode cX13_bean 124 = .ok (.ldc2_w 398, 3) := by decide +kernel
theorem dX13_bean_127 : decode cX13_bean 127 = .ok (.invokevirtual 567, 3) := by decide +kernel
theorem dX13_bean_130 : decode cX13_bean 130 = .ok (.ireturn, 1) := by decide +kernel
theorem dX13_bean_131 : decode cX13_bean 131 = .ok (.aload_n 0, 1) := by decide +kernel
theorem dX13_bean_132 : decode cX13_bean 132 = .ok (.iload_n 1, 1) := by decide +kernel
theorem dX13_bean_133 : decode cX13_bean 133 = .ok (.ldc2_w 400, 3) := by decide +kernel
theorem dX13_bean_136 : decode cX13_bean 136 = .ok (.invokevirtual 567, 3) := by decide +kernel
theorem dX13_bean_139 : decode cX13_bean 139 = .ok (.ireturn, 1) := by decide +kernel
theorem dX13_bean_140 : decode cX13_bean 140 = .ok (.aload_n 0, 1) := by decide +kernel
theorem dX13_bean_141 : decode cX13_bean 141 = .ok (.iload_n 1, 1) := by decide +kernel
theorem dX13_bean_142 : decode cX13_bean 142 = .ok (.ldc2_w 402, 3) := by decide +kernel
theorem dX13_bean_145 : decode cX13_bean 145 = .ok (.invokevirtual 567, 3) := by decide +kernel
theorem dX13_bean_148 : decode cX13_bean 148 = .ok (.ireturn, 1) := by decide +kernel
theorem dX13_bean_149 : decode cX13_bean 149 = .ok (.aload_n 0, 1) := by decide +kernel
theorem dX13_bean_150 : decode cX13_bean 150 = .ok (.iload_n 1, 1) := by decide +kernel
theorem dX13_bean_151 : decode cX13_bean 151 = .ok (.invokevirtual 507, 3) := by decide +kernel
theorem dX13_bean_154 : decode cX13_bean 154 = .ok (.ifCond .eq 7, 3) := by decide +kernel
theorem dX13_bean_157 : decode cX13_bean 157 = .ok (.iconst 1, 1) := by decide +kernel
theorem dX13_bean_158 : decode cX13_bean 158 = .ok (.goto 4, 3) := by decide +kernel
theorem dX13_bean_161 : decode cX13_bean 161 = .ok (.iconst 0, 1) := by decide +kernel
theorem dX13_bean_162 : decode cX13_bean 162 = .ok (.ireturn, 1) := by decide +kernel
theorem dX13_bean_163 : decode cX13_bean 163 = .ok (.aload_n 0, 1) := by decide +kernel
theorem dX13_bean_164 : decode cX13_bean 164 = .ok (.iload_n 3, 1) := by decide +kernel
theorem dX13_bean_165 : decode cX13_bean 165 = .ok (.ldc2_w 392, 3) := by decide +kernel
theorem dX13_bean_168 : decode cX13_bean 168 = .ok (.invokevirtual 359, 3) := by decide +kernel
theorem dX13_bean_171 : decode cX13_bean 171 = .ok (.aload_n 0, 1) := by decide +kernel
theorem dX13_bean_172 : decode cX13_bean 172 = .ok (.getfield 55, 3) := by decide +kernel
theorem dX13_bean_175 : decode cX13_bean 175 = .ok (.iconst 3, 1) := by decide +kernel
theorem dX13_bean_176 : decode cX13_bean 176 = .ok (.laload, 1) := by decide +kernel
theorem dX13_bean_177 : decode cX13_bean 177 = .ok (.lcmp, 1) := by decide +kernel
theorem dX13_bean_178 : decode cX13_bean 178 = .ok (.ifCond .ne 7, 3) := by decide +kernel
theorem dX13_bean_181 : decode cX13_bean 181 = .ok (.iconst 1, 1) := by decide +kernel
theorem dX13_bean_182 : decode cX13_bean 182 = .ok (.goto 4, 3) := by decide +kernel
theorem dX13_bean_185 : decode cX13_bean 185 = .ok (.iconst 0, 1) := by decide +kernel
theorem dX13_bean_186 : decode cX13_bean 186 = .ok (.ireturn, 1) := by decide +kernel
theorem dX13_bean_187 : decode cX13_bean 187 = .ok (.aload_n 0, 1) := by decide +kernel
theorem dX13_bean_188 : decode cX13_bean 188 = .ok (.iload_n 3, 1) := by decide +kernel
theorem dX13_bean_189 : decode cX13_bean 189 = .ok (.ldc2_w 394, 3) := by decide +kernel
theorem dX13_bean_192 : decode cX13_bean 192 = .ok (.invokevirtual 359, 3) := by decide +kernel
theorem dX13_bean_195 : decode cX13_bean 195 = .ok (.aload_n 0, 1) := by decide +kernel
theorem dX13_bean_196 : decode cX13_bean 196 = .ok (.getfield 55, 3) := by decide +kernel
theorem dX13_bean_199 : decode cX13_bean 199 = .ok (.iconst 0, 1) := by decide +kernel
theorem dX13_bean_200 : decode cX13_bean 200 = .ok (.laload, 1) := by decide +kernel
theorem dX13_bean_201 : decode cX13_bean 201 = .ok (.lcmp, 1) := by decide +kernel
theorem dX13_bean_202 : decode cX13_bean 202 = .ok (.ifCond .ne 7, 3) := by decide +kernel
theorem dX13_bean_205 : decode cX13_bean 205 = .ok (.iconst 1, 1) := by decide +kernel
theorem dX13_bean_206 : decode cX13_bean 206 = .ok (.goto 4, 3) := by decide +kernel
theorem dX13_bean_209 : decode cX13_bean 209 = .ok (.iconst 0, 1) := by decide +kernel
theorem dX13_bean_210 : decode cX13_bean 210 = .ok (.ireturn, 1) := by decide +kernel
theorem dX13_bean_211 : decode cX13_bean 211 = .ok (.aload_n 0, 1) := by decide +kernel
theorem dX13_bean_212 : decode cX13_bean 212 = .ok (.getfield 213, 3) := by decide +kernel
theorem dX13_bean_215 : decode cX13_bean 215 = .ok (.iload_n 1, 1) := by decide +kernel
theorem dX13_bean_216 : decode cX13_bean 216 = .ok (.baload, 1) := by decide +kernel
theorem dX13_bean_217 : decode cX13_bean 217 = .ok (.ifCond .eq 7, 3) := by decide +kernel
theorem dX13_bean_220 : decode cX13_bean 220 = .ok (.iconst 1, 1) := by decide +kernel
theorem dX13_bean_221 : decode cX13_bean 221 = .ok (.goto 4, 3) := by decide +kernel
theorem dX13_bean_224 : decode cX13_bean 224 = .ok (.iconst 0, 1) := by decide +kernel
theorem dX13_bean_225 : decode cX13_bean 225 = .ok (.ireturn, 1) := by decide +kernel
theorem dX13_bean_226 : decode cX13_bean 226 = .ok (.aload_n 0, 1) := by decide +kernel
theorem dX13_bean_227 : decode cX13_bean 227 = .ok (.getfield 129, 3) := by decide +kernel
theorem dX13_bean_230 : decode cX13_bean 230 = .ok (.iload_n 3, 1) := by decide +kernel
theorem dX13_bean_231 : decode cX13_bean 231 = .ok (.iaload, 1) := by decide +kernel
theorem dX13_bean_232 : decode cX13_bean 232 = .ok (.ireturn, 1) := by decide +kernel
theorem dX13_bean_233 : decode cX13_bean 233 = .ok (.iconst (-1), 1) := by decide +kernel
theorem dX13_bean_234 : decode cX13_bean 234 = .ok (.ireturn, 1) := by decide +kernel
end
section
theorem dL_law_0 : decode cL_law 0 = .ok (.new 8, 3) := by decide +kernel
theorem dL_law_3 : decode cL_law 3 = .ok (.dup, 1) := by decide +kernel
theorem dL_law_4 : decode cL_law 4 = .ok (.invokespecial 32, 3) := by decide +kernel
theorem dL_law_7 : decode cL_law 7 = .ok (.astore_n 1, 1) := by decide +kernel
theorem dL_law_8 : decode cL_law 8 = .ok (.new 33, 3) := by decide +kernel
theorem dL_law_11 : decode cL_law 11 = .ok (.dup, 1) := by decide +kernel
theorem dL_law_12 : decode cL_law 12 = .ok (.invokespecial 35, 3) := by decide +kernel
theorem dL_law_15 : decode cL_law 15 = .ok (.astore_n 2, 1) := by decide +kernel
theorem dL_law_16 : decode cL_law 16 = .ok (.iconst 1, 1) := by decide +kernel
theorem dL_law_17 : decode cL_law 17 = .ok (.newarray .long, 2) := by decide +kernel
theorem dL_law_19 : decode cL_law 19 = .ok (.astore_n 3, 1) := by decide +kernel
theorem dL_law_20 : decode cL_law 20 = .ok (.iconst 0, 1) := by decide +kernel
theorem dL_law_21 : decode cL_law 21 = .ok (.istore 4, 2) := by decide +kernel
theorem dL_law_23 : decode cL_law 23 = .ok (.iload 4, 2) := by decide +kernel
theorem dL_law_25 : decode cL_law 25 = .ok (.aload_n 0, 1) := by decide +kernel
theorem dL_law_26 : decode cL_law 26 = .ok (.arraylength, 1) := by decide +kernel
theorem dL_law_27 : decode cL_law 27 = .ok (.bipush 9, 2) := by decide +kernel
theorem dL_law_29 : decode cL_law 29 = .ok (.isub, 1) := by decide +kernel
theorem dL_law_30 : decode cL_law 30 = .ok (.if_icmp .gt 861, 3) := by decide +kernel
theorem dL_law_33 : decode cL_law 33 = .ok (.aload_n 0, 1) := by decide +kernel
theorem dL_law_34 : decode cL_law 34 = .ok (.iload 4, 2) := by decide +kernel
theorem dL_law_36 : decode cL_law 36 = .ok (.iaload, 1) := by decide +kernel
theorem dL_law_37 : decode cL_law 37 = .ok (.bipush 15, 2) := by decide +kernel
theorem dL_law_39 : decode cL_law 39 = .ok (.iand, 1) := by decide +kernel
theorem dL_law_40 : decode cL_law 40 = .ok (.tableswitch 845 0 14 #[76, 113, 186, 235, 366, 439, 483, 508, 552, 640, 708, 721, 734, 771, 808], 76) := by decide +kernel
theorem dL_law_116 : decode cL_law 116 = .ok (.aload_n 1, 1) := by decide +kernel
theorem dL_law_117 : decode cL_law 117 = .ok (.aload_n 0, 1) := by decide +kernel
theorem dL_law_118 : decode cL_law 118 = .ok (.iload 4, 2) := by decide +kernel
theorem dL_law_120 : decode cL_law 120 = .ok (.iconst 1, 1) := by decide +kernel
theorem dL_law_121 : decode cL_law 121 = .ok (.iadd, 1) := by decide +kernel
theorem dL_law_122 : decode cL_law 122 = .ok (.iaload, 1) := by decide +kernel
theorem dL_law_123 : decode cL_law 123 = .ok (.aload_n 0, 1) := by decide +kernel
theorem dL_law_124 : decode cL_law 124 = .ok (.iload 4, 2) := by decide +kernel
theorem dL_law_126 : decode cL_law 126 = .ok (.iconst 2, 1) := by decide +kernel
theorem dL_law_127 : decode cL_law 127 = .ok (.iadd, 1) := by decide +kernel
theorem dL_law_128 : decode cL_law 128 = .ok (.iaload, 1) := by decide +kernel
theorem dL_law_129 : decode cL_law 129 = .ok (.invokevirtual 36, 3) := by decide +kernel
theorem dL_law_132 : decode cL_law 132 = .ok (.aload_n 2, 1) := by decide +kernel
theorem dL_law_133 : decode cL_law 133 = .ok (.aload_n 0, 1) := by decide +kernel
theorem dL_law_134 : decode cL_law 134 = .ok (.iload 4, 2) := by decide +kernel
theorem dL_law_136 : decode cL_law 136 = .ok (.iconst 1, 1) := by decide +kernel
theorem dL_law_137 : decode cL_law 137 = .ok (.iadd, 1) := by decide +kernel
theorem dL_law_138 : decode cL_law 138 = .ok (.iaload, 1) := by decide +kernel
theorem dL_law_139 : decode cL_law 139 = .ok (.aload_n 0, 1) := by decide +kernel
theorem dL_law_140 : decode cL_law 140 = .ok (.iload 4, 2) := by decide +kernel
theorem dL_law_142 : decode cL_law 142 = .ok (.iconst 2, 1) := by decide +kernel
theorem dL_law_143 : decode cL_law 143 = .ok (.iadd, 1) := by decide +kernel
theorem dL_law_144 : decode cL_law 144 = .ok (.iaload, 1) := by decide +kernel
theorem dL_law_145 : decode cL_law 145 = .ok (.invokevirtual 40, 3) := by decide +kernel
theorem dL_law_148 : decode cL_law 148 = .ok (.if_icmp .eq 737, 3) := by decide +kernel
theorem dL_law_151 : decode cL_law 151 = .ok (.iconst 0, 1) := by decide +kernel
theorem dL_law_152 : decode cL_law 152 = .ok (.ireturn, 1) := by decide +kernel
theorem dL_law_153 : decode cL_law 153 = .ok (.aload_n 1, 1) := by decide +kernel
theorem dL_law_154 : decode cL_law 154 = .ok (.aload_n 0, 1) := by decide +kernel
theorem dL_law_155 : decode cL_law 155 = .ok (.iload 4, 2) := by decide +kernel
theorem dL_law_157 : decode cL_law 157 = .ok (.iconst 1, 1) := by decide +kernel
theorem dL_law_158 : decode cL_law 158 = .ok (.iadd, 1) := by decide +kernel
theorem dL_law_159 : decode cL_law 159 = .ok (.iaload, 1) := by decide +kernel
theorem dL_law_160 : decode cL_law 160 = .ok (.aload_n 0, 1) := by decide +kernel
theorem dL_law_161 : decode cL_law 161 = .ok (.iload 4, 2) := by decide +kernel
theorem dL_law_163 : decode cL_law 163 = .ok (.iconst 2, 1) := by decide +kernel
theorem dL_law_164 : decode cL_law 164 = .ok (.iadd, 1) := by decide +kernel
theorem dL_law_165 : decode cL_law 165 = .ok (.iaload, 1) := by decide +kernel
theorem dL_law_166 : decode cL_law 166 = .ok (.aload_n 0, 1) := by decide +kernel
theorem dL_law_167 : decode cL_law 167 = .ok (.iload 4, 2) := by decide +kernel
theorem dL_law_169 : decode cL_law 169 = .ok (.iconst 3, 1) := by decide +kernel
theorem dL_law_170 : decode cL_law 170 = .ok (.iadd, 1) := by decide +kernel
theorem dL_law_171 : decode cL_law 171 = .ok (.iaload, 1) := by decide +kernel
theorem dL_law_172 : decode cL_law 172 = .ok (.aload_n 0, 1) := by decide +kernel
theorem dL_law_173 : decode cL_law 173 = .ok (.iload 4, 2) := by decide +kernel
theorem dL_law_175 : decode cL_law 175 = .ok (.iconst 4, 1) := by decide +kernel
theorem dL_law_176 : decode cL_law 176 = .ok (.iadd, 1) := by decide +kernel
theorem dL_law_177 : decode cL_law 177 = .ok (.iaload, 1) := by decide +kernel
theorem dL_law_178 : decode cL_law 178 = .ok (.aload_n 0, 1) := by decide +kernel
theorem dL_law_179 : decode cL_law 179 = .ok (.iload 4, 2) := by decide +kernel
theorem dL_law_181 : decode cL_law 181 = .ok (.iconst 5, 1) := by decide +kernel
theorem dL_law_182 : decode cL_law 182 = .ok (.iadd, 1) := by decide +kernel
theorem dL_law_183 : decode cL_law 183 = .ok (.iaload, 1) := by decide +kernel
theorem dL_law_184 : decode cL_law 184 = .ok (.invokevirtual 41, 3) := by decide +kernel
theorem dL_law_187 : decode cL_law 187 = .ok (.aload_n 2, 1) := by decide +kernel
theorem dL_law_188 : decode cL_law 188 = .ok (.aload_n 0, 1) := by decide +kernel
theorem dL_law_189 : decode cL_law 189 = .ok (.iload 4, 2) := by decide +kernel
theorem dL_law_191 : decode cL_law 191 = .ok (.iconst 1, 1) := by decide +kernel
theorem dL_law_192 : decode cL_law 192 = .ok (.iadd, 1) := by decide +kernel
theorem dL_law_193 : decode cL_law 193 = .ok (.iaload, 1) := by decide +kernel
theorem dL_law_194 : decode cL_law 194 = .ok (.aload_n 0, 1) := by decide +kernel
theorem dL_law_195 : decode cL_law 195 = .ok (.iload 4, 2) := by decide +kernel
theorem dL_law_197 : decode cL_law 197 = .ok (.iconst 2, 1) := by decide +kernel
theorem dL_law_198 : decode cL_law 198 = .ok (.iadd, 1) := by decide +kernel
theorem dL_law_199 : decode cL_law 199 = .ok (.iaload, 1) := by decide +kernel
theorem dL_law_200 : decode cL_law 200 = .ok (.aload_n 0, 1) := by decide +kernel
theorem dL_law_201 : decode cL_law 201 = .ok (.iload 4, 2) := by decide +kernel
theorem dL_law_203 : decode cL_law 203 = .ok (.iconst 3, 1) := by decide +kernel
theorem dL_law_204 : decode cL_law 204 = .ok (.iadd, 1) := by decide +kernel
theorem dL_law_205 : decode cL_law 205 = .ok (.iaload, 1) := by decide +kernel
theorem dL_law_206 : decode cL_law 206 = .ok (.aload_n 0, 1) := by decide +kernel
theorem dL_law_207 : decode cL_law 207 = .ok (.iload 4, 2) := by decide +kernel
theorem dL_law_209 : decode cL_law 209 = .ok (.iconst 4, 1) := by decide +kernel
theorem dL_law_210 : decode cL_law 210 = .ok (.iadd, 1) := by decide +kernel
theorem dL_law_211 : decode cL_law 211 = .ok (.iaload, 1) := by decide +kernel
theorem dL_law_212 : decode cL_law 212 = .ok (.aload_n 0, 1) := by decide +kernel
theorem dL_law_213 : decode cL_law 213 = .ok (.iload 4, 2) := by decide +kernel
theorem dL_law_215 : decode cL_law 215 = .ok (.iconst 5, 1) := by decide +kernel
theorem dL_law_216 : decode cL_law 216 = .ok (.iadd, 1) := by decide +kernel
theorem dL_law_217 : decode cL_law 217 = .ok (.iaload, 1) := by decide +kernel
theorem dL_law_218 : decode cL_law 218 = .ok (.invokevirtual 45, 3) := by decide +kernel
theorem dL_law_221 : decode cL_law 221 = .ok (.if_icmp .eq 664, 3) := by decide +kernel
theorem dL_law_224 : decode cL_law 224 = .ok (.iconst 0, 1) := by decide +kernel
theorem dL_law_225 : decode cL_law 225 = .ok (.ireturn, 1) := by decide +kernel
theorem dL_law_226 : decode cL_law 226 = .ok (.aload_n 1, 1) := by decide +kernel
theorem dL_law_227 : decode cL_law 227 = .ok (.aload_n 0, 1) := by decide +kernel
theorem dL_law_228 : decode cL_law 228 = .ok (.iload 4, 2) := by decide +kernel
theorem dL_law_230 : decode cL_law 230 = .ok (.iconst 1, 1) := by decide +kernel
theorem dL_law_231 : decode cL_law 231 = .ok (.iadd, 1) := by decide +kernel
theorem dL_law_232 : decode cL_law 232 = .ok (.iaload, 1) := by decide +kernel
theorem dL_law_233 : decode cL_law 233 = .ok (.aload_n 0, 1) := by decide +kernel
theorem dL_law_234 : decode cL_law 234 = .ok (.iload 4, 2) := by decide +kernel
theorem dL_law_236 : decode cL_law 236 = .ok (.iconst 2, 1) := by decide +kernel
theorem dL_law_237 : decode cL_law 237 = .ok (.iadd, 1) := by decide +kernel
theorem dL_law_238 : decode cL_law 238 = .ok (.iaload, 1) := by decide +kernel
theorem dL_law_239 : decode cL_law 239 = .ok (.aload_n 0, 1) := by decide +kernel
theorem dL_law_240 : decode cL_law 240 = .ok (.iload 4, 2) := by decide +kernel
theorem dL_law_242 : decode cL_law 242 = .ok (.iconst 3, 1) := by decide +kernel
theorem dL_law_243 : decode cL_law 243 = .ok (.iadd, 1) := by decide +kernel
theorem dL_law_244 : decode cL_law 244 = .ok (.iaload, 1) := by decide +kernel
theorem dL_law_245 : decode cL_law 245 = .ok (.invokevirtual 46, 3) := by decide +kernel
theorem dL_law_248 : decode cL_law 248 = .ok (.aload_n 2, 1) := by decide +kernel
theorem dL_law_249 : decode cL_law 249 = .ok (.aload_n 0, 1) := by decide +kernel
theorem dL_law_250 : decode cL_law 250 = .ok (.iload 4, 2) := by decide +kernel
theorem dL_law_252 : decode cL_law 252 = .ok (.iconst 1, 1) := by decide +kernel
theorem dL_law_253 : decode cL_law 253 = .ok (.iadd, 1) := by decide +kernel
theorem dL_law_254 : decode cL_law 254 = .ok (.iaload, 1) := by decide +kernel
theorem dL_law_255 : decode cL_law 255 = .ok (.aload_n 0, 1) := by decide +kernel
theorem dL_law_256 : decode cL_law 256 = .ok (.iload 4, 2) := by decide +kernel
theorem dL_law_258 : decode cL_law 258 = .ok (.iconst 2, 1) := by decide +kernel
theorem dL_law_259 : decode cL_law 259 = .ok (.iadd, 1) := by decide +kernel
theorem dL_law_260 : decode cL_law 260 = .ok (.iaload, 1) := by decide +kernel
theorem dL_law_261 : decode cL_law 261 = .ok (.aload_n 0, 1) := by decide +kernel
theorem dL_law_262 : decode cL_law 262 = .ok (.iload 4, 2) := by decide +kernel
theorem dL_law_264 : decode cL_law 264 = .ok (.iconst 3, 1) := by decide +kernel
theorem dL_law_265 : decode cL_law 265 = .ok (.iadd, 1) := by decide +kernel
theorem dL_law_266 : decode cL_law 266 = .ok (.iaload, 1) := by decide +kernel
theorem dL_law_267 : decode cL_law 267 = .ok (.invokevirtual 50, 3) := by decide +kernel
theorem dL_law_270 : decode cL_law 270 = .ok (.if_icmp .eq 615, 3) := by decide +kernel
theorem dL_law_273 : decode cL_law 273 = .ok (.iconst 0, 1) := by decide +kernel
theorem dL_law_274 : decode cL_law 274 = .ok (.ireturn, 1) := by decide +kernel
theorem dL_law_275 : decode cL_law 275 = .ok (.aload_n 1, 1) := by decide +kernel
theorem dL_law_276 : decode cL_law 276 = .ok (.aload_n 0, 1) := by decide +kernel
theorem dL_law_277 : decode cL_law 277 = .ok (.iload 4, 2) := by decide +kernel
theorem dL_law_279 : decode cL_law 279 = .ok (.iconst 1, 1) := by decide +kernel
theorem dL_law_280 : decode cL_law 280 = .ok (.iadd, 1) := by decide +kernel
theorem dL_law_281 : decode cL_law 281 = .ok (.iaload, 1) := by decide +kernel
theorem dL_law_282 : decode cL_law 282 = .ok (.aload_n 0, 1) := by decide +kernel
theorem dL_law_283 : decode cL_law 283 = .ok (.iload 4, 2) := by decide +kernel
theorem dL_law_285 : decode cL_law 285 = .ok (.iconst 2, 1) := by decide +kernel
theorem dL_law_286 : decode cL_law 286 = .ok (.iadd, 1) := by decide +kernel
theorem dL_law_287 : decode cL_law 287 = .ok (.iaload, 1) := by decide +kernel
theorem dL_law_288 : decode cL_law 288 = .ok (.aload_n 0, 1) := by decide +kernel
theorem dL_law_289 : decode cL_law 289 = .ok (.iload 4, 2) := by decide +kernel
theorem dL_law_291 : decode cL_law 291 = .ok (.iconst 3, 1) := by decide +kernel
theorem dL_law_292 : decode cL_law 292 = .ok (.iadd, 1) := by decide +kernel
theorem dL_law_293 : decode cL_law 293 = .ok (.iaload, 1) := by decide +kernel
theorem dL_law_294 : decode cL_law 294 = .ok (.ifCond .eq 7, 3) := by decide +kernel
theorem dL_law_297 : decode cL_law 297 = .ok (.iconst 1, 1) := by decide +kernel
theorem dL_law_298 : decode cL_law 298 = .ok (.goto 4, 3) := by decide +kernel
theorem dL_law_301 : decode cL_law 301 = .ok (.iconst 0, 1) := by decide +kernel
theorem dL_law_302 : decode cL_law 302 = .ok (.aload_n 0, 1) := by decide +kernel
theorem dL_law_303 : decode cL_law 303 = .ok (.iload 4, 2) := by decide +kernel
theorem dL_law_305 : decode cL_law 305 = .ok (.iconst 4, 1) := by decide +kernel
theorem dL_law_306 : decode cL_law 306 = .ok (.iadd, 1) := by decide +kernel
theorem dL_law_307 : decode cL_law 307 = .ok (.iaload, 1) := by decide +kernel
theorem dL_law_308 : decode cL_law 308 = .ok (.aload_n 0, 1) := by decide +kernel
theorem dL_law_309 : decode cL_law 309 = .ok (.iload 4, 2) := by decide +kernel
theorem dL_law_311 : decode cL_law 311 = .ok (.iconst 5, 1) := by decide +kernel
theorem dL_law_312 : decode cL_law 312 = .ok (.iadd, 1) := by decide +kernel
theorem dL_law_313 : decode cL_law 313 = .ok (.iaload, 1) := by decide +kernel
theorem dL_law_314 : decode cL_law 314 = .ok (.aload_n 0, 1) := by decide +kernel
theorem dL_law_315 : decode cL_law 315 = .ok (.iload 4, 2) := by decide +kernel
theorem dL_law_317 : decode cL_law 317 = .ok (.bipush 6, 2) := by decide +kernel
theorem dL_law_319 : decode cL_law 319 = .ok (.iadd, 1) := by decide +kernel
theorem dL_law_320 : decode cL_law 320 = .ok (.iaload, 1) := by decide +kernel
theorem dL_law_321 : decode cL_law 321 = .ok (.aload_n 0, 1) := by decide +kernel
theorem dL_law_322 : decode cL_law 322 = .ok (.iload 4, 2) := by decide +kernel
theorem dL_law_324 : decode cL_law 324 = .ok (.bipush 7, 2) := by decide +kernel
theorem dL_law_326 : decode cL_law 326 = .ok (.iadd, 1) := by decide +kernel
theorem dL_law_327 : decode cL_law 327 = .ok (.iaload, 1) := by decide +kernel
theorem dL_law_328 : decode cL_law 328 = .ok (.aload_n 0, 1) := by decide +kernel
theorem dL_law_329 : decode cL_law 329 = .ok (.iload 4, 2) := by decide +kernel
theorem dL_law_331 : decode cL_law 331 = .ok (.bipush 8, 2) := by decide +kernel
theorem dL_law_333 : decode cL_law 333 = .ok (.iadd, 1) := by decide +kernel
theorem dL_law_334 : decode cL_law 334 = .ok (.iaload, 1) := by decide +kernel
theorem dL_law_335 : decode cL_law 335 = .ok (.invokevirtual 51, 3) := by decide +kernel
theorem dL_law_338 : decode cL_law 338 = .ok (.aload_n 2, 1) := by decide +kernel
theorem dL_law_339 : decode cL_law 339 = .ok (.aload_n 0, 1) := by decide +kernel
theorem dL_law_340 : decode cL_law 340 = .ok (.iload 4, 2) := by decide +kernel
theorem dL_law_342 : decode cL_law 342 = .ok (.iconst 1, 1) := by decide +kernel
theorem dL_law_343 : decode cL_law 343 = .ok (.iadd, 1) := by decide +kernel
theorem dL_law_344 : decode cL_law 344 = .ok (.iaload, 1) := by decide +kernel
theorem dL_law_345 : decode cL_law 345 = .ok (.aload_n 0, 1) := by decide +kernel
theorem dL_law_346 : decode cL_law 346 = .ok (.iload 4, 2) := by decide +kernel
theorem dL_law_348 : decode cL_law 348 = .ok (.iconst 2, 1) := by decide +kernel
theorem dL_law_349 : decode cL_law 349 = .ok (.iadd, 1) := by decide +kernel
theorem dL_law_350 : decode cL_law 350 = .ok (.iaload, 1) := by decide +kernel
theorem dL_law_351 : decode cL_law 351 = .ok (.aload_n 0, 1) := by decide +kernel
theorem dL_law_352 : decode cL_law 352 = .ok (.iload 4, 2) := by decide +kernel
theorem dL_law_354 : decode cL_law 354 = .ok (.iconst 3, 1) := by decide +kernel
theorem dL_law_355 : decode cL_law 355 = .ok (.iadd, 1) := by decide +kernel
theorem dL_law_356 : decode cL_law 356 = .ok (.iaload, 1) := by decide +kernel
theorem dL_law_357 : decode cL_law 357 = .ok (.ifCond .eq 7, 3) := by decide +kernel
theorem dL_law_360 : decode cL_law 360 = .ok (.iconst 1, 1) := by decide +kernel
theorem dL_law_361 : decode cL_law 361 = .ok (.goto 4, 3) := by decide +kernel
theorem dL_law_364 : decode cL_law 364 = .ok (.iconst 0, 1) := by decide +kernel
theorem dL_law_365 : decode cL_law 365 = .ok (.aload_n 0, 1) := by decide +kernel
theorem dL_law_366 : decode cL_law 366 = .ok (.iload 4, 2) := by decide +kernel
theorem dL_law_368 : decode cL_law 368 = .ok (.iconst 4, 1) := by decide +kernel
theorem dL_law_369 : decode cL_law 369 = .ok (.iadd, 1) := by decide +kernel
theorem dL_law_370 : decode cL_law 370 = .ok (.iaload, 1) := by decide +kernel
theorem dL_law_371 : decode cL_law 371 = .ok (.aload_n 0, 1) := by decide +kernel
theorem dL_law_372 : decode cL_law 372 = .ok (.iload 4, 2) := by decide +kernel
theorem dL_law_374 : decode cL_law 374 = .ok (.iconst 5, 1) := by decide +kernel
theorem dL_law_375 : decode cL_law 375 = .ok (.iadd, 1) := by decide +kernel
theorem dL_law_376 : decode cL_law 376 = .ok (.iaload, 1) := by decide +kernel
theorem dL_law_377 : decode cL_law 377 = .ok (.aload_n 0, 1) := by decide +kernel
theorem dL_law_378 : decode cL_law 378 = .ok (.iload 4, 2) := by decide +kernel
theorem dL_law_380 : decode cL_law 380 = .ok (.bipush 6, 2) := by decide +kernel
theorem dL_law_382 : decode cL_law 382 = .ok (.iadd, 1) := by decide +kernel
theorem dL_law_383 : decode cL_law 383 = .ok (.iaload, 1) := by decide +kernel
theorem dL_law_384 : decode cL_law 384 = .ok (.aload_n 0, 1) := by decide +kernel
theorem dL_law_385 : decode cL_law 385 = .ok (.iload 4, 2) := by decide +kernel
theorem dL_law_387 : decode cL_law 387 = .ok (.bipush 7, 2) := by decide +kernel
theorem dL_law_389 : decode cL_law 389 = .ok (.iadd, 1) := by decide +kernel
theorem dL_law_390 : decode cL_law 390 = .ok (.iaload, 1) := by decide +kernel
theorem dL_law_391 : decode cL_law 391 = .ok (.aload_n 0, 1) := by decide +kernel
theorem dL_law_392 : decode cL_law 392 = .ok (.iload 4, 2) := by decide +kernel
theorem dL_law_394 : decode cL_law 394 = .ok (.bipush 8, 2) := by decide +kernel
theorem dL_law_396 : decode cL_law 396 = .ok (.iadd, 1) := by decide +kernel
theorem dL_law_397 : decode cL_law 397 = .ok (.iaload, 1) := by decide +kernel
theorem dL_law_398 : decode cL_law 398 = .ok (.invokevirtual 55, 3) := by decide +kernel
theorem dL_law_401 : decode cL_law 401 = .ok (.if_icmp .eq 484, 3) := by decide +kernel
theorem dL_law_404 : decode cL_law 404 = .ok (.iconst 0, 1) := by decide +kernel
theorem dL_law_405 : decode cL_law 405 = .ok (.ireturn, 1) := by decide +kernel
theorem dL_law_406 : decode cL_law 406 = .ok (.aload_n 1, 1) := by decide +kernel
theorem dL_law_407 : decode cL_law 407 = .ok (.aload_n 0, 1) := by decide +kernel
theorem dL_law_408 : decode cL_law 408 = .ok (.iload 4, 2) := by decide +kernel
theorem dL_law_410 : decode cL_law 410 = .ok (.iconst 1, 1) := by decide +kernel
theorem dL_law_411 : decode cL_law 411 = .ok (.iadd, 1) := by decide +kernel
theorem dL_law_412 : decode cL_law 412 = .ok (.iaload, 1) := by decide +kernel
theorem dL_law_413 : decode cL_law 413 = .ok (.aload_n 0, 1) := by decide +kernel
theorem dL_law_414 : decode cL_law 414 = .ok (.iload 4, 2) := by decide +kernel
theorem dL_law_416 : decode cL_law 416 = .ok (.iconst 2, 1) := by decide +kernel
theorem dL_law_417 : decode cL_law 417 = .ok (.iadd, 1) := by decide +kernel
theorem dL_law_418 : decode cL_law 418 = .ok (.iaload, 1) := by decide +kernel
theorem dL_law_419 : decode cL_law 419 = .ok (.aload_n 0, 1) := by decide +kernel
theorem dL_law_420 : decode cL_law 420 = .ok (.iload 4, 2) := by decide +kernel
theorem dL_law_422 : decode cL_law 422 = .ok (.iconst 3, 1) := by decide +kernel
theorem dL_law_423 : decode cL_law 423 = .ok (.iadd, 1) := by decide +kernel
theorem dL_law_424 : decode cL_law 424 = .ok (.iaload, 1) := by decide +kernel
theorem dL_law_425 : decode cL_law 425 = .ok (.aload_n 0, 1) := by decide +kernel
theorem dL_law_426 : decode cL_law 426 = .ok (.iload 4, 2) := by decide +kernel
theorem dL_law_428 : decode cL_law 428 = .ok (.iconst 4, 1) := by decide +kernel
theorem dL_law_429 : decode cL_law 429 = .ok (.iadd, 1) := by decide +kernel
theorem dL_law_430 : decode cL_law 430 = .ok (.iaload, 1) := by decide +kernel
theorem dL_law_431 : decode cL_law 431 = .ok (.aload_n 0, 1) := by decide +kernel
theorem dL_law_432 : decode cL_law 432 = .ok (.iload 4, 2) := by decide +kernel
theorem dL_law_434 : decode cL_law 434 = .ok (.iconst 5, 1) := by decide +kernel
theorem dL_law_435 : decode cL_law 435 = .ok (.iadd, 1) := by decide +kernel
theorem dL_law_436 : decode cL_law 436 = .ok (.iaload, 1) := by decide +kernel
theorem dL_law_437 : decode cL_law 437 = .ok (.invokevirtual 56, 3) := by decide +kernel
theorem dL_law_440 : decode cL_law 440 = .ok (.aload_n 2, 1) := by decide +kernel
theorem dL_law_441 : decode cL_law 441 = .ok (.aload_n 0, 1) := by decide +kernel
theorem dL_law_442 : decode cL_law 442 = .ok (.iload 4, 2) := by decide +kernel
theorem dL_law_444 : decode cL_law 444 = .ok (.iconst 1, 1) := by decide +kernel
theorem dL_law_445 : decode cL_law 445 = .ok (.iadd, 1) := by decide +kernel
theorem dL_law_446 : decode cL_law 446 = .ok (.iaload, 1) := by decide +kernel
theorem dL_law_447 : decode cL_law 447 = .ok (.aload_n 0, 1) := by decide +kernel
theorem dL_law_448 : decode cL_law 448 = .ok (.iload 4, 2) := by decide +kernel
theorem dL_law_450 : decode cL_law 450 = .ok (.iconst 2, 1) := by decide +kernel
theorem dL_law_451 : decode cL_law 451 = .ok (.iadd, 1) := by decide +kernel
theorem dL_law_452 : decode cL_law 452 = .ok (.iaload, 1) := by decide +kernel
theorem dL_law_453 : decode cL_law 453 = .ok (.aload_n 0, 1) := by decide +kernel
theorem dL_law_454 : decode cL_law 454 = .ok (.iload 4, 2) := by decide +kernel
theorem dL_law_456 : decode cL_law 456 = .ok (.iconst 3, 1) := by decide +kernel
theorem dL_law_457 : decode cL_law 457 = .ok (.iadd, 1) := by decide +kernel
theorem dL_law_458 : decode cL_law 458 = .ok (.iaload, 1) := by decide +kernel
end
section
theorem dL_law_459 : decode cL_law 459 = .ok (.aload_n 0, 1) := by decide +kernel
theorem dL_law_460 : decode cL_law 460 = .ok (.iload 4, 2) := by decide +kernel
theorem dL_law_462 : decode cL_law 462 = .ok (.iconst 4, 1) := by decide +kernel
theorem dL_law_463 : decode cL_law 463 = .ok (.iadd, 1) := by decide +kernel
theorem dL_law_464 : decode cL_law 464 = .ok (.iaload, 1) := by decide +kernel
theorem dL_law_465 : decode cL_law 465 = .ok (.aload_n 0, 1) := by decide +kernel
theorem dL_law_466 : decode cL_law 466 = .ok (.iload 4, 2) := by decide +kernel
theorem dL_law_468 : decode cL_law 468 = .ok (.iconst 5, 1) := by decide +kernel
theorem dL_law_469 : decode cL_law 469 = .ok (.iadd, 1) := by decide +kernel
theorem dL_law_470 : decode cL_law 470 = .ok (.iaload, 1) := by decide +kernel
theorem dL_law_471 : decode cL_law 471 = .ok (.invokevirtual 60, 3) := by decide +kernel
theorem dL_law_474 : decode cL_law 474 = .ok (.if_icmp .eq 411, 3) := by decide +kernel
theorem dL_law_477 : decode cL_law 477 = .ok (.iconst 0, 1) := by decide +kernel
theorem dL_law_478 : decode cL_law 478 = .ok (.ireturn, 1) := by decide +kernel
theorem dL_law_479 : decode cL_law 479 = .ok (.aload_n 1, 1) := by decide +kernel
theorem dL_law_480 : decode cL_law 480 = .ok (.aload_n 3, 1) := by decide +kernel
theorem dL_law_481 : decode cL_law 481 = .ok (.invokestatic 61, 3) := by decide +kernel
theorem dL_law_484 : decode cL_law 484 = .ok (.istore 5, 2) := by decide +kernel
theorem dL_law_486 : decode cL_law 486 = .ok (.aload_n 2, 1) := by decide +kernel
theorem dL_law_487 : decode cL_law 487 = .ok (.invokevirtual 66, 3) := by decide +kernel
theorem dL_law_490 : decode cL_law 490 = .ok (.istore 6, 2) := by decide +kernel
theorem dL_law_492 : decode cL_law 492 = .ok (.aload_n 2, 1) := by decide +kernel
theorem dL_law_493 : decode cL_law 493 = .ok (.invokevirtual 67, 3) := by decide +kernel
theorem dL_law_496 : decode cL_law 496 = .ok (.iload 5, 2) := by decide +kernel
theorem dL_law_498 : decode cL_law 498 = .ok (.if_icmp .eq 5, 3) := by decide +kernel
theorem dL_law_501 : decode cL_law 501 = .ok (.iconst 0, 1) := by decide +kernel
theorem dL_law_502 : decode cL_law 502 = .ok (.ireturn, 1) := by decide +kernel
theorem dL_law_503 : decode cL_law 503 = .ok (.iload 5, 2) := by decide +kernel
theorem dL_law_505 : decode cL_law 505 = .ok (.ifCond .ne 15, 3) := by decide +kernel
theorem dL_law_508 : decode cL_law 508 = .ok (.aload_n 3, 1) := by decide +kernel
theorem dL_law_509 : decode cL_law 509 = .ok (.iconst 0, 1) := by decide +kernel
theorem dL_law_510 : decode cL_law 510 = .ok (.laload, 1) := by decide +kernel
theorem dL_law_511 : decode cL_law 511 = .ok (.iload 6, 2) := by decide +kernel
theorem dL_law_513 : decode cL_law 513 = .ok (.i2l, 1) := by decide +kernel
theorem dL_law_514 : decode cL_law 514 = .ok (.lcmp, 1) := by decide +kernel
theorem dL_law_515 : decode cL_law 515 = .ok (.ifCond .eq 5, 3) := by decide +kernel
theorem dL_law_518 : decode cL_law 518 = .ok (.iconst 0, 1) := by decide +kernel
theorem dL_law_519 : decode cL_law 519 = .ok (.ireturn, 1) := by decide +kernel
theorem dL_law_520 : decode cL_law 520 = .ok (.goto 365, 3) := by decide +kernel
theorem dL_law_523 : decode cL_law 523 = .ok (.aload_n 1, 1) := by decide +kernel
theorem dL_law_524 : decode cL_law 524 = .ok (.aload_n 0, 1) := by decide +kernel
theorem dL_law_525 : decode cL_law 525 = .ok (.iload 4, 2) := by decide +kernel
theorem dL_law_527 : decode cL_law 527 = .ok (.iconst 1, 1) := by decide +kernel
theorem dL_law_528 : decode cL_law 528 = .ok (.iadd, 1) := by decide +kernel
theorem dL_law_529 : decode cL_law 529 = .ok (.iaload, 1) := by decide +kernel
theorem dL_law_530 : decode cL_law 530 = .ok (.invokevirtual 70, 3) := by decide +kernel
theorem dL_law_533 : decode cL_law 533 = .ok (.aload_n 2, 1) := by decide +kernel
theorem dL_law_534 : decode cL_law 534 = .ok (.aload_n 0, 1) := by decide +kernel
theorem dL_law_535 : decode cL_law 535 = .ok (.iload 4, 2) := by decide +kernel
theorem dL_law_537 : decode cL_law 537 = .ok (.iconst 1, 1) := by decide +kernel
theorem dL_law_538 : decode cL_law 538 = .ok (.iadd, 1) := by decide +kernel
theorem dL_law_539 : decode cL_law 539 = .ok (.iaload, 1) := by decide +kernel
theorem dL_law_540 : decode cL_law 540 = .ok (.invokevirtual 74, 3) := by decide +kernel
theorem dL_law_543 : decode cL_law 543 = .ok (.if_icmp .eq 342, 3) := by decide +kernel
theorem dL_law_546 : decode cL_law 546 = .ok (.iconst 0, 1) := by decide +kernel
theorem dL_law_547 : decode cL_law 547 = .ok (.ireturn, 1) := by decide +kernel
theorem dL_law_548 : decode cL_law 548 = .ok (.aload_n 1, 1) := by decide +kernel
theorem dL_law_549 : decode cL_law 549 = .ok (.aload_n 3, 1) := by decide +kernel
theorem dL_law_550 : decode cL_law 550 = .ok (.invokestatic 75, 3) := by decide +kernel
theorem dL_law_553 : decode cL_law 553 = .ok (.istore 5, 2) := by decide +kernel
theorem dL_law_555 : decode cL_law 555 = .ok (.aload_n 2, 1) := by decide +kernel
theorem dL_law_556 : decode cL_law 556 = .ok (.invokevirtual 77, 3) := by decide +kernel
theorem dL_law_559 : decode cL_law 559 = .ok (.istore 6, 2) := by decide +kernel
theorem dL_law_561 : decode cL_law 561 = .ok (.aload_n 2, 1) := by decide +kernel
theorem dL_law_562 : decode cL_law 562 = .ok (.invokevirtual 67, 3) := by decide +kernel
theorem dL_law_565 : decode cL_law 565 = .ok (.iload 5, 2) := by decide +kernel
theorem dL_law_567 : decode cL_law 567 = .ok (.if_icmp .eq 5, 3) := by decide +kernel
theorem dL_law_570 : decode cL_law 570 = .ok (.iconst 0, 1) := by decide +kernel
theorem dL_law_571 : decode cL_law 571 = .ok (.ireturn, 1) := by decide +kernel
theorem dL_law_572 : decode cL_law 572 = .ok (.iload 5, 2) := by decide +kernel
theorem dL_law_574 : decode cL_law 574 = .ok (.ifCond .ne 15, 3) := by decide +kernel
theorem dL_law_577 : decode cL_law 577 = .ok (.aload_n 3, 1) := by decide +kernel
theorem dL_law_578 : decode cL_law 578 = .ok (.iconst 0, 1) := by decide +kernel
theorem dL_law_579 : decode cL_law 579 = .ok (.laload, 1) := by decide +kernel
theorem dL_law_580 : decode cL_law 580 = .ok (.iload 6, 2) := by decide +kernel
theorem dL_law_582 : decode cL_law 582 = .ok (.i2l, 1) := by decide +kernel
theorem dL_law_583 : decode cL_law 583 = .ok (.lcmp, 1) := by decide +kernel
theorem dL_law_584 : decode cL_law 584 = .ok (.ifCond .eq 5, 3) := by decide +kernel
theorem dL_law_587 : decode cL_law 587 = .ok (.iconst 0, 1) := by decide +kernel
theorem dL_law_588 : decode cL_law 588 = .ok (.ireturn, 1) := by decide +kernel
theorem dL_law_589 : decode cL_law 589 = .ok (.goto 296, 3) := by decide +kernel
theorem dL_law_592 : decode cL_law 592 = .ok (.aload_n 1, 1) := by decide +kernel
theorem dL_law_593 : decode cL_law 593 = .ok (.aload_n 0, 1) := by decide +kernel
theorem dL_law_594 : decode cL_law 594 = .ok (.iload 4, 2) := by decide +kernel
theorem dL_law_596 : decode cL_law 596 = .ok (.iconst 1, 1) := by decide +kernel
theorem dL_law_597 : decode cL_law 597 = .ok (.iadd, 1) := by decide +kernel
theorem dL_law_598 : decode cL_law 598 = .ok (.iaload, 1) := by decide +kernel
theorem dL_law_599 : decode cL_law 599 = .ok (.i2l, 1) := by decide +kernel
theorem dL_law_600 : decode cL_law 600 = .ok (.bipush 32, 2) := by decide +kernel
theorem dL_law_602 : decode cL_law 602 = .ok (.lshl, 1) := by decide +kernel
theorem dL_law_603 : decode cL_law 603 = .ok (.aload_n 0, 1) := by decide +kernel
theorem dL_law_604 : decode cL_law 604 = .ok (.iload 4, 2) := by decide +kernel
theorem dL_law_606 : decode cL_law 606 = .ok (.iconst 2, 1) := by decide +kernel
theorem dL_law_607 : decode cL_law 607 = .ok (.iadd, 1) := by decide +kernel
theorem dL_law_608 : decode cL_law 608 = .ok (.iaload, 1) := by decide +kernel
theorem dL_law_609 : decode cL_law 609 = .ok (.i2l, 1) := by decide +kernel
theorem dL_law_610 : decode cL_law 610 = .ok (.ldc2_w 78, 3) := by decide +kernel
theorem dL_law_613 : decode cL_law 613 = .ok (.land, 1) := by decide +kernel
theorem dL_law_614 : decode cL_law 614 = .ok (.lor, 1) := by decide +kernel
theorem dL_law_615 : decode cL_law 615 = .ok (.aload_n 3, 1) := by decide +kernel
theorem dL_law_616 : decode cL_law 616 = .ok (.invokestatic 80, 3) := by decide +kernel
theorem dL_law_619 : decode cL_law 619 = .ok (.istore 5, 2) := by decide +kernel
theorem dL_law_621 : decode cL_law 621 = .ok (.aload_n 2, 1) := by decide +kernel
theorem dL_law_622 : decode cL_law 622 = .ok (.aload_n 0, 1) := by decide +kernel
theorem dL_law_623 : decode cL_law 623 = .ok (.iload 4, 2) := by decide +kernel
theorem dL_law_625 : decode cL_law 625 = .ok (.iconst 1, 1) := by decide +kernel
theorem dL_law_626 : decode cL_law 626 = .ok (.iadd, 1) := by decide +kernel
theorem dL_law_627 : decode cL_law 627 = .ok (.iaload, 1) := by decide +kernel
theorem dL_law_628 : decode cL_law 628 = .ok (.i2l, 1) := by decide +kernel
theorem dL_law_629 : decode cL_law 629 = .ok (.bipush 32, 2) := by decide +kernel
theorem dL_law_631 : decode cL_law 631 = .ok (.lshl, 1) := by decide +kernel
theorem dL_law_632 : decode cL_law 632 = .ok (.aload_n 0, 1) := by decide +kernel
theorem dL_law_633 : decode cL_law 633 = .ok (.iload 4, 2) := by decide +kernel
theorem dL_law_635 : decode cL_law 635 = .ok (.iconst 2, 1) := by decide +kernel
theorem dL_law_636 : decode cL_law 636 = .ok (.iadd, 1) := by decide +kernel
theorem dL_law_637 : decode cL_law 637 = .ok (.iaload, 1) := by decide +kernel
theorem dL_law_638 : decode cL_law 638 = .ok (.i2l, 1) := by decide +kernel
theorem dL_law_639 : decode cL_law 639 = .ok (.ldc2_w 78, 3) := by decide +kernel
theorem dL_law_642 : decode cL_law 642 = .ok (.land, 1) := by decide +kernel
theorem dL_law_643 : decode cL_law 643 = .ok (.lor, 1) := by decide +kernel
theorem dL_law_644 : decode cL_law 644 = .ok (.invokevirtual 83, 3) := by decide +kernel
theorem dL_law_647 : decode cL_law 647 = .ok (.istore 6, 2) := by decide +kernel
theorem dL_law_649 : decode cL_law 649 = .ok (.aload_n 2, 1) := by decide +kernel
theorem dL_law_650 : decode cL_law 650 = .ok (.invokevirtual 67, 3) := by decide +kernel
theorem dL_law_653 : decode cL_law 653 = .ok (.iload 5, 2) := by decide +kernel
theorem dL_law_655 : decode cL_law 655 = .ok (.if_icmp .eq 5, 3) := by decide +kernel
theorem dL_law_658 : decode cL_law 658 = .ok (.iconst 0, 1) := by decide +kernel
theorem dL_law_659 : decode cL_law 659 = .ok (.ireturn, 1) := by decide +kernel
theorem dL_law_660 : decode cL_law 660 = .ok (.iload 5, 2) := by decide +kernel
theorem dL_law_662 : decode cL_law 662 = .ok (.ifCond .ne 15, 3) := by decide +kernel
theorem dL_law_665 : decode cL_law 665 = .ok (.aload_n 3, 1) := by decide +kernel
theorem dL_law_666 : decode cL_law 666 = .ok (.iconst 0, 1) := by decide +kernel
theorem dL_law_667 : decode cL_law 667 = .ok (.laload, 1) := by decide +kernel
theorem dL_law_668 : decode cL_law 668 = .ok (.iload 6, 2) := by decide +kernel
theorem dL_law_670 : decode cL_law 670 = .ok (.i2l, 1) := by decide +kernel
theorem dL_law_671 : decode cL_law 671 = .ok (.lcmp, 1) := by decide +kernel
theorem dL_law_672 : decode cL_law 672 = .ok (.ifCond .eq 5, 3) := by decide +kernel
theorem dL_law_675 : decode cL_law 675 = .ok (.iconst 0, 1) := by decide +kernel
theorem dL_law_676 : decode cL_law 676 = .ok (.ireturn, 1) := by decide +kernel
theorem dL_law_677 : decode cL_law 677 = .ok (.goto 208, 3) := by decide +kernel
theorem dL_law_680 : decode cL_law 680 = .ok (.aload_n 1, 1) := by decide +kernel
theorem dL_law_681 : decode cL_law 681 = .ok (.aload_n 0, 1) := by decide +kernel
theorem dL_law_682 : decode cL_law 682 = .ok (.iload 4, 2) := by decide +kernel
theorem dL_law_684 : decode cL_law 684 = .ok (.iconst 1, 1) := by decide +kernel
theorem dL_law_685 : decode cL_law 685 = .ok (.iadd, 1) := by decide +kernel
theorem dL_law_686 : decode cL_law 686 = .ok (.iaload, 1) := by decide +kernel
theorem dL_law_687 : decode cL_law 687 = .ok (.aload_n 0, 1) := by decide +kernel
theorem dL_law_688 : decode cL_law 688 = .ok (.iload 4, 2) := by decide +kernel
theorem dL_law_690 : decode cL_law 690 = .ok (.iconst 2, 1) := by decide +kernel
theorem dL_law_691 : decode cL_law 691 = .ok (.iadd, 1) := by decide +kernel
theorem dL_law_692 : decode cL_law 692 = .ok (.iaload, 1) := by decide +kernel
theorem dL_law_693 : decode cL_law 693 = .ok (.aload_n 3, 1) := by decide +kernel
theorem dL_law_694 : decode cL_law 694 = .ok (.invokestatic 84, 3) := by decide +kernel
theorem dL_law_697 : decode cL_law 697 = .ok (.istore 5, 2) := by decide +kernel
theorem dL_law_699 : decode cL_law 699 = .ok (.aload_n 2, 1) := by decide +kernel
theorem dL_law_700 : decode cL_law 700 = .ok (.aload_n 0, 1) := by decide +kernel
theorem dL_law_701 : decode cL_law 701 = .ok (.iload 4, 2) := by decide +kernel
theorem dL_law_703 : decode cL_law 703 = .ok (.iconst 1, 1) := by decide +kernel
theorem dL_law_704 : decode cL_law 704 = .ok (.iadd, 1) := by decide +kernel
theorem dL_law_705 : decode cL_law 705 = .ok (.iaload, 1) := by decide +kernel
theorem dL_law_706 : decode cL_law 706 = .ok (.aload_n 0, 1) := by decide +kernel
theorem dL_law_707 : decode cL_law 707 = .ok (.iload 4, 2) := by decide +kernel
theorem dL_law_709 : decode cL_law 709 = .ok (.iconst 2, 1) := by decide +kernel
theorem dL_law_710 : decode cL_law 710 = .ok (.iadd, 1) := by decide +kernel
theorem dL_law_711 : decode cL_law 711 = .ok (.iaload, 1) := by decide +kernel
theorem dL_law_712 : decode cL_law 712 = .ok (.invokevirtual 87, 3) := by decide +kernel
theorem dL_law_715 : decode cL_law 715 = .ok (.istore 6, 2) := by decide +kernel
theorem dL_law_717 : decode cL_law 717 = .ok (.aload_n 2, 1) := by decide +kernel
theorem dL_law_718 : decode cL_law 718 = .ok (.invokevirtual 67, 3) := by decide +kernel
theorem dL_law_721 : decode cL_law 721 = .ok (.iload 5, 2) := by decide +kernel
theorem dL_law_723 : decode cL_law 723 = .ok (.if_icmp .eq 5, 3) := by decide +kernel
theorem dL_law_726 : decode cL_law 726 = .ok (.iconst 0, 1) := by decide +kernel
theorem dL_law_727 : decode cL_law 727 = .ok (.ireturn, 1) := by decide +kernel
theorem dL_law_728 : decode cL_law 728 = .ok (.iload 5, 2) := by decide +kernel
theorem dL_law_730 : decode cL_law 730 = .ok (.ifCond .ne 15, 3) := by decide +kernel
theorem dL_law_733 : decode cL_law 733 = .ok (.aload_n 3, 1) := by decide +kernel
theorem dL_law_734 : decode cL_law 734 = .ok (.iconst 0, 1) := by decide +kernel
theorem dL_law_735 : decode cL_law 735 = .ok (.laload, 1) := by decide +kernel
theorem dL_law_736 : decode cL_law 736 = .ok (.iload 6, 2) := by decide +kernel
theorem dL_law_738 : decode cL_law 738 = .ok (.i2l, 1) := by decide +kernel
theorem dL_law_739 : decode cL_law 739 = .ok (.lcmp, 1) := by decide +kernel
theorem dL_law_740 : decode cL_law 740 = .ok (.ifCond .eq 5, 3) := by decide +kernel
theorem dL_law_743 : decode cL_law 743 = .ok (.iconst 0, 1) := by decide +kernel
theorem dL_law_744 : decode cL_law 744 = .ok (.ireturn, 1) := by decide +kernel
theorem dL_law_745 : decode cL_law 745 = .ok (.goto 140, 3) := by decide +kernel
theorem dL_law_748 : decode cL_law 748 = .ok (.aload_n 1, 1) := by decide +kernel
theorem dL_law_749 : decode cL_law 749 = .ok (.invokevirtual 88, 3) := by decide +kernel
theorem dL_law_752 : decode cL_law 752 = .ok (.aload_n 2, 1) := by decide +kernel
theorem dL_law_753 : decode cL_law 753 = .ok (.invokevirtual 91, 3) := by decide +kernel
theorem dL_law_756 : decode cL_law 756 = .ok (.if_icmp .eq 129, 3) := by decide +kernel
theorem dL_law_759 : decode cL_law 759 = .ok (.iconst 0, 1) := by decide +kernel
theorem dL_law_760 : decode cL_law 760 = .ok (.ireturn, 1) := by decide +kernel
theorem dL_law_761 : decode cL_law 761 = .ok (.aload_n 1, 1) := by decide +kernel
theorem dL_law_762 : decode cL_law 762 = .ok (.invokevirtual 92, 3) := by decide +kernel
theorem dL_law_765 : decode cL_law 765 = .ok (.aload_n 2, 1) := by decide +kernel
theorem dL_law_766 : decode cL_law 766 = .ok (.invokevirtual 95, 3) := by decide +kernel
theorem dL_law_769 : decode cL_law 769 = .ok (.if_icmp .eq 116, 3) := by decide +kernel
theorem dL_law_772 : decode cL_law 772 = .ok (.iconst 0, 1) := by decide +kernel
theorem dL_law_773 : decode cL_law 773 = .ok (.ireturn, 1) := by decide +kernel
theorem dL_law_774 : decode cL_law 774 = .ok (.aload_n 1, 1) := by decide +kernel
theorem dL_law_775 : decode cL_law 775 = .ok (.aload_n 0, 1) := by decide +kernel
theorem dL_law_776 : decode cL_law 776 = .ok (.iload 4, 2) := by decide +kernel
theorem dL_law_778 : decode cL_law 778 = .ok (.iconst 1, 1) := by decide +kernel
theorem dL_law_779 : decode cL_law 779 = .ok (.iadd, 1) := by decide +kernel
theorem dL_law_780 : decode cL_law 780 = .ok (.iaload, 1) := by decide +kernel
theorem dL_law_781 : decode cL_law 781 = .ok (.aload_n 0, 1) := by decide +kernel
theorem dL_law_782 : decode cL_law 782 = .ok (.iload 4, 2) := by decide +kernel
theorem dL_law_784 : decode cL_law 784 = .ok (.iconst 2, 1) := by decide +kernel
theorem dL_law_785 : decode cL_law 785 = .ok (.iadd, 1) := by decide +kernel
theorem dL_law_786 : decode cL_law 786 = .ok (.iaload, 1) := by decide +kernel
theorem dL_law_787 : decode cL_law 787 = .ok (.invokevirtual 96, 3) := by decide +kernel
theorem dL_law_790 : decode cL_law 790 = .ok (.aload_n 2, 1) := by decide +kernel
theorem dL_law_791 : decode cL_law 791 = .ok (.aload_n 0, 1) := by decide +kernel
theorem dL_law_792 : decode cL_law 792 = .ok (.iload 4, 2) := by decide +kernel
theorem dL_law_794 : decode cL_law 794 = .ok (.iconst 1, 1) := by decide +kernel
theorem dL_law_795 : decode cL_law 795 = .ok (.iadd, 1) := by decide +kernel
theorem dL_law_796 : decode cL_law 796 = .ok (.iaload, 1) := by decide +kernel
theorem dL_law_797 : decode cL_law 797 = .ok (.aload_n 0, 1) := by decide +kernel
theorem dL_law_798 : decode cL_law 798 = .ok (.iload 4, 2) := by decide +kernel
theorem dL_law_800 : decode cL_law 800 = .ok (.iconst 2, 1) := by decide +kernel
theorem dL_law_801 : decode cL_law 801 = .ok (.iadd, 1) := by decide +kernel
theorem dL_law_802 : decode cL_law 802 = .ok (.iaload, 1) := by decide +kernel
theorem dL_law_803 : decode cL_law 803 = .ok (.invokevirtual 99, 3) := by decide +kernel
theorem dL_law_806 : decode cL_law 806 = .ok (.if_icmp .eq 79, 3) := by decide +kernel
theorem dL_law_809 : decode cL_law 809 = .ok (.iconst 0, 1) := by decide +kernel
theorem dL_law_810 : decode cL_law 810 = .ok (.ireturn, 1) := by decide +kernel
theorem dL_law_811 : decode cL_law 811 = .ok (.aload_n 1, 1) := by decide +kernel
theorem dL_law_812 : decode cL_law 812 = .ok (.aload_n 0, 1) := by decide +kernel
theorem dL_law_813 : decode cL_law 813 = .ok (.iload 4, 2) := by decide +kernel
theorem dL_law_815 : decode cL_law 815 = .ok (.iconst 1, 1) := by decide +kernel
theorem dL_law_816 : decode cL_law 816 = .ok (.iadd, 1) := by decide +kernel
theorem dL_law_817 : decode cL_law 817 = .ok (.iaload, 1) := by decide +kernel
theorem dL_law_818 : decode cL_law 818 = .ok (.aload_n 0, 1) := by decide +kernel
theorem dL_law_819 : decode cL_law 819 = .ok (.iload 4, 2) := by decide +kernel
theorem dL_law_821 : decode cL_law 821 = .ok (.iconst 2, 1) := by decide +kernel
theorem dL_law_822 : decode cL_law 822 = .ok (.iadd, 1) := by decide +kernel
theorem dL_law_823 : decode cL_law 823 = .ok (.iaload, 1) := by decide +kernel
theorem dL_law_824 : decode cL_law 824 = .ok (.invokevirtual 100, 3) := by decide +kernel
theorem dL_law_827 : decode cL_law 827 = .ok (.aload_n 2, 1) := by decide +kernel
theorem dL_law_828 : decode cL_law 828 = .ok (.aload_n 0, 1) := by decide +kernel
theorem dL_law_829 : decode cL_law 829 = .ok (.iload 4, 2) := by decide +kernel
theorem dL_law_831 : decode cL_law 831 = .ok (.iconst 1, 1) := by decide +kernel
theorem dL_law_832 : decode cL_law 832 = .ok (.iadd, 1) := by decide +kernel
theorem dL_law_833 : decode cL_law 833 = .ok (.iaload, 1) := by decide +kernel
theorem dL_law_834 : decode cL_law 834 = .ok (.aload_n 0, 1) := by decide +kernel
theorem dL_law_835 : decode cL_law 835 = .ok (.iload 4, 2) := by decide +kernel
theorem dL_law_837 : decode cL_law 837 = .ok (.iconst 2, 1) := by decide +kernel
theorem dL_law_838 : decode cL_law 838 = .ok (.iadd, 1) := by decide +kernel
theorem dL_law_839 : decode cL_law 839 = .ok (.iaload, 1) := by decide +kernel
theorem dL_law_840 : decode cL_law 840 = .ok (.invokevirtual 103, 3) := by decide +kernel
theorem dL_law_843 : decode cL_law 843 = .ok (.if_icmp .eq 42, 3) := by decide +kernel
theorem dL_law_846 : decode cL_law 846 = .ok (.iconst 0, 1) := by decide +kernel
theorem dL_law_847 : decode cL_law 847 = .ok (.ireturn, 1) := by decide +kernel
theorem dL_law_848 : decode cL_law 848 = .ok (.aload_n 1, 1) := by decide +kernel
theorem dL_law_849 : decode cL_law 849 = .ok (.aload_n 0, 1) := by decide +kernel
theorem dL_law_850 : decode cL_law 850 = .ok (.iload 4, 2) := by decide +kernel
theorem dL_law_852 : decode cL_law 852 = .ok (.iconst 1, 1) := by decide +kernel
theorem dL_law_853 : decode cL_law 853 = .ok (.iadd, 1) := by decide +kernel
theorem dL_law_854 : decode cL_law 854 = .ok (.iaload, 1) := by decide +kernel
theorem dL_law_855 : decode cL_law 855 = .ok (.aload_n 0, 1) := by decide +kernel
theorem dL_law_856 : decode cL_law 856 = .ok (.iload 4, 2) := by decide +kernel
theorem dL_law_858 : decode cL_law 858 = .ok (.iconst 2, 1) := by decide +kernel
theorem dL_law_859 : decode cL_law 859 = .ok (.iadd, 1) := by decide +kernel
theorem dL_law_860 : decode cL_law 860 = .ok (.iaload, 1) := by decide +kernel
theorem dL_law_861 : decode cL_law 861 = .ok (.invokevirtual 104, 3) := by decide +kernel
theorem dL_law_864 : decode cL_law 864 = .ok (.aload_n 2, 1) := by decide +kernel
theorem dL_law_865 : decode cL_law 865 = .ok (.aload_n 0, 1) := by decide +kernel
theorem dL_law_866 : decode cL_law 866 = .ok (.iload 4, 2) := by decide +kernel
theorem dL_law_868 : decode cL_law 868 = .ok (.iconst 1, 1) := by decide +kernel
theorem dL_law_869 : decode cL_law 869 = .ok (.iadd, 1) := by decide +kernel
theorem dL_law_870 : decode cL_law 870 = .ok (.iaload, 1) := by decide +kernel
theorem dL_law_871 : decode cL_law 871 = .ok (.aload_n 0, 1) := by decide +kernel
theorem dL_law_872 : decode cL_law 872 = .ok (.iload 4, 2) := by decide +kernel
theorem dL_law_874 : decode cL_law 874 = .ok (.iconst 2, 1) := by decide +kernel
theorem dL_law_875 : decode cL_law 875 = .ok (.iadd, 1) := by decide +kernel
theorem dL_law_876 : decode cL_law 876 = .ok (.iaload, 1) := by decide +kernel
theorem dL_law_877 : decode cL_law 877 = .ok (.invokevirtual 107, 3) := by decide +kernel
theorem dL_law_880 : decode cL_law 880 = .ok (.if_icmp .eq 5, 3) := by decide +kernel
theorem dL_law_883 : decode cL_law 883 = .ok (.iconst 0, 1) := by decide +kernel
theorem dL_law_884 : decode cL_law 884 = .ok (.ireturn, 1) := by decide +kernel
theorem dL_law_885 : decode cL_law 885 = .ok (.iinc 4 9, 3) := by decide +kernel
theorem dL_law_888 : decode cL_law 888 = .ok (.goto (-865), 3) := by decide +kernel
theorem dL_law_891 : decode cL_law 891 = .ok (.iconst 1, 1) := by decide +kernel
theorem dL_law_892 : decode cL_law 892 = .ok (.ireturn, 1) := by decide +kernel
theorem dL_read_0 : decode cL_read 0 = .ok (.aload_n 1, 1) := by decide +kernel
theorem dL_read_1 : decode cL_read 1 = .ok (.iconst 0, 1) := by decide +kernel
theorem dL_read_2 : decode cL_read 2 = .ok (.aload_n 0, 1) := by decide +kernel
theorem dL_read_3 : decode cL_read 3 = .ok (.invokevirtual 7, 3) := by decide +kernel
theorem dL_read_6 : decode cL_read 6 = .ok (.i2l, 1) := by decide +kernel
theorem dL_read_7 : decode cL_read 7 = .ok (.lastore, 1) := by decide +kernel
theorem dL_read_8 : decode cL_read 8 = .ok (.goto 6, 3) := by decide +kernel
theorem dL_read_11 : decode cL_read 11 = .ok (.astore_n 2, 1) := by decide +kernel
theorem dL_read_12 : decode cL_read 12 = .ok (.iconst 1, 1) := by decide +kernel
theorem dL_read_13 : decode cL_read 13 = .ok (.ireturn, 1) := by decide +kernel
theorem dL_read_14 : decode cL_read 14 = .ok (.iconst 0, 1) := by decide +kernel
theorem dL_read_15 : decode cL_read 15 = .ok (.ireturn, 1) := by decide +kernel
theorem dL_refresh_0 : decode cL_refresh 0 = .ok (.aload_n 1, 1) := by decide +kernel
theorem dL_refresh_1 : decode cL_refresh 1 = .ok (.iconst 0, 1) := by decide +kernel
theorem dL_refresh_2 : decode cL_refresh 2 = .ok (.aload_n 0, 1) := by decide +kernel
theorem dL_refresh_3 : decode cL_refresh 3 = .ok (.invokevirtual 15, 3) := by decide +kernel
theorem dL_refresh_6 : decode cL_refresh 6 = .ok (.i2l, 1) := by decide +kernel
theorem dL_refresh_7 : decode cL_refresh 7 = .ok (.lastore, 1) := by decide +kernel
theorem dL_refresh_8 : decode cL_refresh 8 = .ok (.goto 9, 3) := by decide +kernel
theorem dL_refresh_11 : decode cL_refresh 11 = .ok (.astore_n 2, 1) := by decide +kernel
theorem dL_refresh_12 : decode cL_refresh 12 = .ok (.iconst 1, 1) := by decide +kernel
theorem dL_refresh_13 : decode cL_refresh 13 = .ok (.ireturn, 1) := by decide +kernel
theorem dL_refresh_14 : decode cL_refresh 14 = .ok (.astore_n 2, 1) := by decide +kernel
theorem dL_refresh_15 : decode cL_refresh 15 = .ok (.iconst 2, 1) := by decide +kernel
theorem dL_refresh_16 : decode cL_refresh 16 = .ok (.ireturn, 1) := by decide +kernel
theorem dL_refresh_17 : decode cL_refresh 17 = .ok (.iconst 0, 1) := by decide +kernel
theorem dL_refresh_18 : decode cL_refresh 18 = .ok (.ireturn, 1) := by decide +kernel
theorem dL_get_0 : decode cL_get 0 = .ok (.aload_n 3, 1) := by decide +kernel
theorem dL_get_1 : decode cL_get 1 = .ok (.iconst 0, 1) := by decide +kernel
theorem dL_get_2 : decode cL_get 2 = .ok (.aload_n 0, 1) := by decide +kernel
theorem dL_get_3 : decode cL_get 3 = .ok (.lload_n 1, 1) := by decide +kernel
theorem dL_get_4 : decode cL_get 4 = .ok (.invokevirtual 22, 3) := by decide +kernel
theorem dL_get_7 : decode cL_get 7 = .ok (.i2l, 1) := by decide +kernel
theorem dL_get_8 : decode cL_get 8 = .ok (.lastore, 1) := by decide +kernel
theorem dL_get_9 : decode cL_get 9 = .ok (.goto 11, 3) := by decide +kernel
theorem dL_get_12 : decode cL_get 12 = .ok (.astore 4, 2) := by decide +kernel
theorem dL_get_14 : decode cL_get 14 = .ok (.iconst 1, 1) := by decide +kernel
theorem dL_get_15 : decode cL_get 15 = .ok (.ireturn, 1) := by decide +kernel
theorem dL_get_16 : decode cL_get 16 = .ok (.astore 4, 2) := by decide +kernel
theorem dL_get_18 : decode cL_get 18 = .ok (.iconst 2, 1) := by decide +kernel
theorem dL_get_19 : decode cL_get 19 = .ok (.ireturn, 1) := by decide +kernel
theorem dL_get_20 : decode cL_get 20 = .ok (.iconst 0, 1) := by decide +kernel
theorem dL_get_21 : decode cL_get 21 = .ok (.ireturn, 1) := by decide +kernel
theorem dL_call_0 : decode cL_call 0 = .ok (.aload_n 3, 1) := by decide +kernel
theorem dL_call_1 : decode cL_call 1 = .ok (.iconst 0, 1) := by decide +kernel
theorem dL_call_2 : decode cL_call 2 = .ok (.aload_n 0, 1) := by decide +kernel
theorem dL_call_3 : decode cL_call 3 = .ok (.iload_n 1, 1) := by decide +kernel
theorem dL_call_4 : decode cL_call 4 = .ok (.iload_n 2, 1) := by decide +kernel
theorem dL_call_5 : decode cL_call 5 = .ok (.invokevirtual 26, 3) := by decide +kernel
theorem dL_call_8 : decode cL_call 8 = .ok (.i2l, 1) := by decide +kernel
theorem dL_call_9 : decode cL_call 9 = .ok (.lastore, 1) := by decide +kernel
theorem dL_call_10 : decode cL_call 10 = .ok (.goto 15, 3) := by decide +kernel
theorem dL_call_13 : decode cL_call 13 = .ok (.astore 4, 2) := by decide +kernel
theorem dL_call_15 : decode cL_call 15 = .ok (.iconst 1, 1) := by decide +kernel
theorem dL_call_16 : decode cL_call 16 = .ok (.ireturn, 1) := by decide +kernel
theorem dL_call_17 : decode cL_call 17 = .ok (.astore 4, 2) := by decide +kernel
theorem dL_call_19 : decode cL_call 19 = .ok (.iconst 2, 1) := by decide +kernel
theorem dL_call_20 : decode cL_call 20 = .ok (.ireturn, 1) := by decide +kernel
theorem dL_call_21 : decode cL_call 21 = .ok (.astore 4, 2) := by decide +kernel
theorem dL_call_23 : decode cL_call 23 = .ok (.iconst 3, 1) := by decide +kernel
theorem dL_call_24 : decode cL_call 24 = .ok (.ireturn, 1) := by decide +kernel
theorem dL_call_25 : decode cL_call 25 = .ok (.iconst 0, 1) := by decide +kernel
theorem dL_call_26 : decode cL_call 26 = .ok (.ireturn, 1) := by decide +kernel
end
section
-- the walks follow
theorem zz_0 : True := trivial
end
