theorem gdA_0 : tbA_0.all goodWord = true := by decide +kernel
theorem gdA_1 : tbA_1.all goodWord = true := by decide +kernel
theorem gdA_2 : tbA_2.all goodWord = true := by decide +kernel
theorem gdA_3 : tbA_3.all goodWord = true := by decide +kernel
theorem gdA_4 : tbA_4.all goodWord = true := by decide +kernel
theorem gdA_5 : tbA_5.all goodWord = true := by decide +kernel
theorem gdA_6 : tbA_6.all goodWord = true := by decide +kernel
theorem gdA_7 : tbA_7.all goodWord = true := by decide +kernel
theorem gdA_8 : tbA_8.all goodWord = true := by decide +kernel
theorem gdA_9 : tbA_9.all goodWord = true := by decide +kernel
theorem gdA_10 : tbA_10.all goodWord = true := by decide +kernel
theorem gdA_11 : tbA_11.all goodWord = true := by decide +kernel
theorem gdA_12 : tbA_12.all goodWord = true := by decide +kernel
theorem gdA_13 : tbA_13.all goodWord = true := by decide +kernel
theorem gdA_14 : tbA_14.all goodWord = true := by decide +kernel
theorem gdA_15 : tbA_15.all goodWord = true := by decide +kernel
theorem gdA_16 : tbA_16.all goodWord = true := by decide +kernel
theorem gdA_17 : tbA_17.all goodWord = true := by decide +kernel
theorem gdA_18 : tbA_18.all goodWord = true := by decide +kernel
theorem gdA_19 : tbA_19.all goodWord = true := by decide +kernel
theorem gdA_20 : tbA_20.all goodWord = true := by decide +kernel
theorem gdA_21 : tbA_21.all goodWord = true := by decide +kernel
theorem gdA_22 : tbA_22.all goodWord = true := by decide +kernel
theorem gdA_23 : tbA_23.all goodWord = true := by decide +kernel
theorem gdA_24 : tbA_24.all goodWord = true := by decide +kernel
theorem gdA_25 : tbA_25.all goodWord = true := by decide +kernel
theorem gdA_26 : tbA_26.all goodWord = true := by decide +kernel
theorem gdA_27 : tbA_27.all goodWord = true := by decide +kernel
theorem gdA_28 : tbA_28.all goodWord = true := by decide +kernel
theorem gdA_29 : tbA_29.all goodWord = true := by decide +kernel
theorem gdA_30 : tbA_30.all goodWord = true := by decide +kernel
theorem gdA_31 : tbA_31.all goodWord = true := by decide +kernel
theorem gdA_32 : tbA_32.all goodWord = true := by decide +kernel
theorem gdA_33 : tbA_33.all goodWord = true := by decide +kernel
theorem gdA_34 : tbA_34.all goodWord = true := by decide +kernel
theorem gdA_35 : tbA_35.all goodWord = true := by decide +kernel
theorem gdA_36 : tbA_36.all goodWord = true := by decide +kernel
theorem gdA_37 : tbA_37.all goodWord = true := by decide +kernel
theorem gdA_38 : tbA_38.all goodWord = true := by decide +kernel
theorem gdA_39 : tbA_39.all goodWord = true := by decide +kernel
theorem gdA_40 : tbA_40.all goodWord = true := by decide +kernel
theorem gdA_41 : tbA_41.all goodWord = true := by decide +kernel
theorem gdA_42 : tbA_42.all goodWord = true := by decide +kernel
theorem gdA_43 : tbA_43.all goodWord = true := by decide +kernel
theorem gdA_44 : tbA_44.all goodWord = true := by decide +kernel
theorem gdA_45 : tbA_45.all goodWord = true := by decide +kernel
theorem gdA_46 : tbA_46.all goodWord = true := by decide +kernel
theorem gdA_47 : tbA_47.all goodWord = true := by decide +kernel
theorem gdA_48 : tbA_48.all goodWord = true := by decide +kernel
theorem gdA_49 : tbA_49.all goodWord = true := by decide +kernel
theorem gdA_50 : tbA_50.all goodWord = true := by decide +kernel
theorem gdA_51 : tbA_51.all goodWord = true := by decide +kernel
theorem gdA_52 : tbA_52.all goodWord = true := by decide +kernel
theorem gdA_53 : tbA_53.all goodWord = true := by decide +kernel
theorem gdA_54 : tbA_54.all goodWord = true := by decide +kernel
theorem gdA_55 : tbA_55.all goodWord = true := by decide +kernel
theorem gdA_56 : tbA_56.all goodWord = true := by decide +kernel
theorem gdA_57 : tbA_57.all goodWord = true := by decide +kernel
theorem gdA_58 : tbA_58.all goodWord = true := by decide +kernel
theorem gdA_59 : tbA_59.all goodWord = true := by decide +kernel
theorem gdA_60 : tbA_60.all goodWord = true := by decide +kernel
theorem gdA_61 : tbA_61.all goodWord = true := by decide +kernel
theorem gdA_62 : tbA_62.all goodWord = true := by decide +kernel
theorem gdA_63 : tbA_63.all goodWord = true := by decide +kernel
theorem gdA_64 : tbA_64.all goodWord = true := by decide +kernel
theorem gdA_65 : tbA_65.all goodWord = true := by decide +kernel
theorem gdA_66 : tbA_66.all goodWord = true := by decide +kernel
theorem gdA_67 : tbA_67.all goodWord = true := by decide +kernel
theorem gdA_68 : tbA_68.all goodWord = true := by decide +kernel
theorem gdA_69 : tbA_69.all goodWord = true := by decide +kernel
theorem gdF : tbF.all goodWord = true := by decide +kernel
theorem gdX : tbX.all goodWord = true := by decide +kernel
theorem all_app {a b : List Cond} (ha : a.all goodWord = true) (hb : b.all goodWord = true) : (a ++ b).all goodWord = true := by rw [List.all_append, ha, hb]; rfl
theorem gdG_0 : tbG_0.all goodWord = true := all_app gdA_0 (all_app gdA_1 (all_app gdA_2 (all_app gdA_3 (all_app gdA_4 (all_app gdA_5 (all_app gdA_6 (all_app gdA_7 (all_app gdA_8 (gdA_9)))))))))
theorem gdG_1 : tbG_1.all goodWord = true := all_app gdA_10 (all_app gdA_11 (all_app gdA_12 (all_app gdA_13 (all_app gdA_14 (all_app gdA_15 (all_app gdA_16 (all_app gdA_17 (all_app gdA_18 (gdA_19)))))))))
theorem gdG_2 : tbG_2.all goodWord = true := all_app gdA_20 (all_app gdA_21 (all_app gdA_22 (all_app gdA_23 (all_app gdA_24 (all_app gdA_25 (all_app gdA_26 (all_app gdA_27 (all_app gdA_28 (gdA_29)))))))))
theorem gdG_3 : tbG_3.all goodWord = true := all_app gdA_30 (all_app gdA_31 (all_app gdA_32 (all_app gdA_33 (all_app gdA_34 (all_app gdA_35 (all_app gdA_36 (all_app gdA_37 (all_app gdA_38 (gdA_39)))))))))
theorem gdG_4 : tbG_4.all goodWord = true := all_app gdA_40 (all_app gdA_41 (all_app gdA_42 (all_app gdA_43 (all_app gdA_44 (all_app gdA_45 (all_app gdA_46 (all_app gdA_47 (all_app gdA_48 (gdA_49)))))))))
theorem gdG_5 : tbG_5.all goodWord = true := all_app gdA_50 (all_app gdA_51 (all_app gdA_52 (all_app gdA_53 (all_app gdA_54 (all_app gdA_55 (all_app gdA_56 (all_app gdA_57 (all_app gdA_58 (gdA_59)))))))))
theorem gdG_6 : tbG_6.all goodWord = true := all_app gdA_60 (all_app gdA_61 (all_app gdA_62 (all_app gdA_63 (all_app gdA_64 (all_app gdA_65 (all_app gdA_66 (all_app gdA_67 (all_app gdA_68 (gdA_69)))))))))
theorem gdAll : tbA.all goodWord = true := all_app gdG_0 (all_app gdG_1 (all_app gdG_2 (all_app gdG_3 (all_app gdG_4 (all_app gdG_5 (gdG_6))))))
theorem tb_good : GoodIn tb tb := goodIn_sub (fun _ h => h) (all_app gdAll (all_app gdF gdX))
theorem gd_c {w : Cond} (h : w ∈ tb) : GoodIn tb (w :: tb) := fun v hv => (List.mem_cons.mp hv).elim (fun e => by rw [e]; exact tb_good _ h) (tb_good v)
theorem gd_V {own C : String} {idx : Nat} {y : MethodName} {w : Cond} (h1 : Cond.methodLink own idx y ∈ tb) (h2 : Cond.instanceMethod y ∈ tb) (h3 : Cond.selects C y y ∈ tb) (h4 : Cond.initialized C ∈ tb) (h5 : w ∈ tb) : GoodIn tb (wsV own idx C y (w :: tb)) := by
  intro v hv
  unfold wsV at hv
  rcases List.mem_append.mp hv with h | h
  · simp only [List.mem_cons, List.not_mem_nil, or_false] at h
    rcases h with rfl | rfl | rfl | rfl
    · exact tb_good _ h1
    · exact tb_good _ h2
    · exact tb_good _ h3
    · exact tb_good _ h4
  · exact gd_c h5 v h
theorem gd_S {own : String} {idx : Nat} {y : MethodName} {w : Cond} (h1 : Cond.methodLink own idx y ∈ tb) (h2 : Cond.static y ∈ tb) (h3 : Cond.initialized y.cls ∈ tb) (h5 : w ∈ tb) : GoodIn tb (va_wsS own idx y (w :: tb)) := by
  intro v hv
  unfold va_wsS at hv
  rcases List.mem_append.mp hv with h | h
  · simp only [List.mem_cons, List.not_mem_nil, or_false] at h
    rcases h with rfl | rfl | rfl
    · exact tb_good _ h1
    · exact tb_good _ h2
    · exact tb_good _ h3
  · exact gd_c h5 v h
def wm_X12_init : List Cond := .code yX12_init cX12_init 2 none :: tb
def wm_X2_init : List Cond := .code yX2_init cX2_init 3 none :: tb
def wm_X8_init : List Cond := .code yX8_init cX8_init 3 none :: tb
def wm_X6_init : List Cond := .code yX6_init cX6_init 3 none :: tb
def wm_X3_init : List Cond := .code yX3_init cX3_init 1 none :: tb
def wm_X7_init : List Cond := .code yX7_init cX7_init 2 none :: tb
def wm_X9_init : List Cond := .code yX9_init cX9_init 2 none :: tb
def wm_X10_init : List Cond := .code yX10_init cX10_init 3 none :: tb
def wm_X1_init : List Cond := .code yX1_init cX1_init 2 none :: tb
def wm_Jx4a65c_init_da8c8 : List Cond := .code yJx4a65c_init_da8c8 cJx4a65c_init_da8c8 1 none :: tb
def wm_Jxc12de_init_da8c8 : List Cond := .code yJxc12de_init_da8c8 cJxc12de_init_da8c8 1 none :: tb
def wm_Jxa1e45_init_da8c8 : List Cond := .code yJxa1e45_init_da8c8 cJxa1e45_init_da8c8 1 none :: tb
def wm_X4_init : List Cond := .code yX4_init cX4_init 1 none :: tb
def wm_X5_init : List Cond := .code yX5_init cX5_init 4 none :: tb
def wm_X12_declare : List Cond := .code yX12_declare cX12_declare 3 (some .boolean) :: tb
def wm_X12_isClass : List Cond := .code yX12_isClass cX12_isClass 1 (some .boolean) :: tb
def wm_X2_begin : List Cond := .code yX2_begin cX2_begin 3 none :: tb
def wm_X12_constructor : List Cond := .code yX12_constructor cX12_constructor 6 (some .boolean) :: tb
def wm_X12_areTypes : List Cond := .code yX12_areTypes cX12_areTypes 4 (some .boolean) :: tb
def wm_X12_isType : List Cond := .code yX12_isType cX12_isType 1 (some .boolean) :: tb
def wm_X2_addConstructor : List Cond := .code yX2_addConstructor cX2_addConstructor 5 (some .boolean) :: tb
def wm_X8_describe : List Cond := .code yX8_describe cX8_describe 4 none :: tb
def wm_X8_setTypes : List Cond := .code yX8_setTypes cX8_setTypes 5 none :: tb
def wm_X12_setter : List Cond := .code yX12_setter cX12_setter 4 (some .boolean) :: tb
def wm_X12_isLetter : List Cond := .code yX12_isLetter cX12_isLetter 1 (some .boolean) :: tb
def wm_X2_addSetter : List Cond := .code yX2_addSetter cX2_addSetter 3 (some .boolean) :: tb
def wm_X12_factory : List Cond := .code yX12_factory cX12_factory 9 (some .boolean) :: tb
def wm_X2_addFactory : List Cond := .code yX2_addFactory cX2_addFactory 8 (some .boolean) :: tb
def wm_X12_type : List Cond := .code yX12_type cX12_type 7 (some .int) :: tb
def wm_X12_typedBehind : List Cond := .code yX12_typedBehind cX12_typedBehind 6 (some .int) :: tb
def wm_X12_fault : List Cond := .code yX12_fault cX12_fault 2 (some .int) :: tb
def wm_X5_failure : List Cond := .code yX5_failure cX5_failure 1 (some .int) :: tb
def wm_X5_failureBean : List Cond := .code yX5_failureBean cX5_failureBean 1 (some .int) :: tb
def wm_X12_close : List Cond := .code yX12_close cX12_close 1 (some .int) :: tb
def wm_X5_destroyAll : List Cond := .code yX5_destroyAll cX5_destroyAll 2 none :: tb
def wm_X4_add : List Cond := .code yX4_add cX4_add 6 none :: tb
def wm_X5_forgetMade : List Cond := .code yX5_forgetMade cX5_forgetMade 2 none :: tb
def wm_X10_count : List Cond := .code yX10_count cX10_count 1 (some .int) :: tb
def wm_X10_numbered : List Cond := .code yX10_numbered cX10_numbered 2 (some (.object "WiredBeans$Bean")) :: tb
def wm_X4_count : List Cond := .code yX4_count cX4_count 1 (some .int) :: tb
def wm_X12_events : List Cond := .code yX12_events cX12_events 1 (some .int) :: tb
def wm_X12_event : List Cond := .code yX12_event cX12_event 3 (some .int) :: tb
def wm_X4_number : List Cond := .code yX4_number cX4_number 3 (some .int) :: tb
def wm_X12_object : List Cond := .code yX12_object cX12_object 3 (some .int) :: tb
def wm_X5_classOfObject : List Cond := .code yX5_classOfObject cX5_classOfObject 2 (some .int) :: tb
def wm_X5_isObject : List Cond := .code yX5_isObject cX5_isObject 2 (some .boolean) :: tb
def wm_X5_beanOfObject : List Cond := .code yX5_beanOfObject cX5_beanOfObject 2 (some .int) :: tb
def wm_X12_bean : List Cond := .code yX12_bean cX12_bean 3 (some .int) :: tb
def wm_X1_told : List Cond := .code yX1_told cX1_told 2 (some .int) :: tb
def wm_Jx4a65c_size_8abf5 : List Cond := .code yJx4a65c_size_8abf5 cJx4a65c_size_8abf5 1 (some .int) :: tb
def wm_L_read : List Cond := .codeWith yL_read cL_read 3 (some .int) [(0, 8, 11, 13)] :: tb
def wm_X12_read : List Cond := .code yX12_read cX12_read 1 (some .int) :: tb
def wm_X5_startAfresh : List Cond := .code yX5_startAfresh cX5_startAfresh 1 none :: tb
def wm_X4_clear : List Cond := .code yX4_clear cX4_clear 1 none :: tb
def wm_X7_firstWrongPlace : List Cond := .codeWith yX7_firstWrongPlace cX7_firstWrongPlace 4 (some .int) [(32, 75, 78, 50)] :: tb
def wm_X6_clear : List Cond := .code yX6_clear cX6_clear 1 none :: tb
def wm_X7_skipAround : List Cond := .code yX7_skipAround cX7_skipAround 2 none :: tb
def wm_X7_skipsWhite : List Cond := .code yX7_skipsWhite cX7_skipsWhite 2 (some .boolean) :: tb
def wm_X7_charAt : List Cond := .code yX7_charAt cX7_charAt 2 (some .char) :: tb
def wm_X7_skipComment : List Cond := .code yX7_skipComment cX7_skipComment 1 none :: tb
def wm_X7_expect : List Cond := .code yX7_expect cX7_expect 2 none :: tb
def wm_X7_openElement : List Cond := .code yX7_openElement cX7_openElement 5 none :: tb
def wm_X7_isNameLetter : List Cond := .code yX7_isNameLetter cX7_isNameLetter 1 (some .boolean) :: tb
def wm_X6_isFull : List Cond := .code yX6_isFull cX6_isFull 1 (some .boolean) :: tb
def wm_X7_readName : List Cond := .code yX7_readName cX7_readName 4 (some .long) :: tb
def wm_X6_addElement : List Cond := .code yX6_addElement cX6_addElement 4 (some (.object "WiredBeans$Element")) :: tb
def wm_X3_begin : List Cond := .code yX3_begin cX3_begin 4 none :: tb
def wm_X3_forgetWiring : List Cond := .code yX3_forgetWiring cX3_forgetWiring 1 none :: tb
def wm_X3_addInner : List Cond := .code yX3_addInner cX3_addInner 4 none :: tb
def wm_X11_withKey : List Cond := .code yX11_withKey cX11_withKey 6 (some (.object "WiredBeans$Word")) :: tb
def wm_X7_readAttribute : List Cond := .code yX7_readAttribute cX7_readAttribute 4 none :: tb
def wm_X6_hasKey : List Cond := .code yX6_hasKey cX6_hasKey 5 (some .boolean) :: tb
def wm_X6_addAttribute : List Cond := .code yX6_addAttribute cX6_addAttribute 4 none :: tb
def wm_X7_readCharacter : List Cond := .code yX7_readCharacter cX7_readCharacter 1 (some .char) :: tb
def wm_X7_readEntity : List Cond := .code yX7_readEntity cX7_readEntity 4 (some .char) :: tb
def wm_J0_length_8abf5 : List Cond := .code yJ0_length_8abf5 cJ0_length_8abf5 1 (some .int) :: tb
def wm_J0_coder_7d493 : List Cond := .code yJ0_coder_7d493 cJ0_coder_7d493 1 (some .byte) :: tb
def wm_J0_charAt_5068e : List Cond := .code yJ0_charAt_5068e cJ0_charAt_5068e 2 (some .char) :: tb
def wm_J0_isLatin1_aae02 : List Cond := .code yJ0_isLatin1_aae02 cJ0_isLatin1_aae02 1 (some .boolean) :: tb
def wm_J1_charAt_3b067 : List Cond := .code yJ1_charAt_3b067 cJ1_charAt_3b067 2 (some .char) :: tb
def wm_J0_checkIndex_df160 : List Cond := .code yJ0_checkIndex_df160 cJ0_checkIndex_df160 2 none :: tb
def wm_J3_checkIndex_8e157 : List Cond := .code yJ3_checkIndex_8e157 cJ3_checkIndex_8e157 3 (some .int) :: tb
def wm_X7_readNumbered : List Cond := .code yX7_readNumbered cX7_readNumbered 3 (some .char) :: tb
def wm_X6_takesValue : List Cond := .code yX6_takesValue cX6_takesValue 3 (some .boolean) :: tb
def wm_X7_leaveElement : List Cond := .code yX7_leaveElement cX7_leaveElement 1 none :: tb
def wm_X7_readContent : List Cond := .code yX7_readContent cX7_readContent 2 none :: tb
def wm_X3_takesText : List Cond := .code yX3_takesText cX3_takesText 2 (some .boolean) :: tb
def wm_X3_takeWhite : List Cond := .code yX3_takeWhite cX3_takeWhite 2 none :: tb
def wm_X7_closeElement : List Cond := .code yX7_closeElement cX7_closeElement 3 none :: tb
def wm_X7_refuseMore : List Cond := .code yX7_refuseMore cX7_refuseMore 1 none :: tb
def wm_X9_firstWrongPlace : List Cond := .code yX9_firstWrongPlace cX9_firstWrongPlace 2 (some .int) :: tb
def wm_X6_count : List Cond := .code yX6_count cX6_count 1 (some .int) :: tb
def wm_X6_element : List Cond := .code yX6_element cX6_element 2 (some (.object "WiredBeans$Element")) :: tb
def wm_X9_isRight : List Cond := .code yX9_isRight cX9_isRight 2 (some .boolean) :: tb
def wm_X9_standsRight : List Cond := .code yX9_standsRight cX9_standsRight 2 (some .boolean) :: tb
def wm_Jx29ce0_ordinal_8abf5 : List Cond := .code yJx29ce0_ordinal_8abf5 cJx29ce0_ordinal_8abf5 1 (some .int) :: tb
def wm_X3_isIn : List Cond := .code yX3_isIn cX3_isIn 2 (some .boolean) :: tb
def wm_X9_isHeld : List Cond := .code yX9_isHeld cX9_isHeld 2 (some .boolean) :: tb
def wm_X9_likeBefore : List Cond := .code yX9_likeBefore cX9_likeBefore 5 (some .int) :: tb
def wm_X9_isFirstOfName : List Cond := .code yX9_isFirstOfName cX9_isFirstOfName 5 (some .boolean) :: tb
def wm_X6_letterValue : List Cond := .code yX6_letterValue cX6_letterValue 5 (some .int) :: tb
def wm_X6_find : List Cond := .code yX6_find cX6_find 4 (some .int) :: tb
def wm_X6_valueLength : List Cond := .code yX6_valueLength cX6_valueLength 2 (some .int) :: tb
def wm_X6_valueChar : List Cond := .code yX6_valueChar cX6_valueChar 3 (some .char) :: tb
def wm_X9_hasRightAttributes : List Cond := .code yX9_hasRightAttributes cX9_hasRightAttributes 4 (some .boolean) :: tb
def wm_X6_attributeWord : List Cond := .code yX6_attributeWord cX6_attributeWord 2 (some (.object "WiredBeans$Word")) :: tb
def wm_X9_mayHave : List Cond := .code yX9_mayHave cX9_mayHave 3 (some .boolean) :: tb
def wm_X9_beanMayHave : List Cond := .code yX9_beanMayHave cX9_beanMayHave 3 (some .boolean) :: tb
def wm_X9_hasRightValue : List Cond := .code yX9_hasRightValue cX9_hasRightValue 3 (some .boolean) :: tb
def wm_X6_nameValue : List Cond := .code yX6_nameValue cX6_nameValue 9 (some .long) :: tb
def wm_X6_classValue : List Cond := .code yX6_classValue cX6_classValue 5 (some .int) :: tb
def wm_X6_valueIs : List Cond := .code yX6_valueIs cX6_valueIs 4 (some .boolean) :: tb
def wm_X6_placeValue : List Cond := .code yX6_placeValue cX6_placeValue 5 (some .int) :: tb
def wm_X6_typeValue : List Cond := .code yX6_typeValue cX6_typeValue 5 (some .int) :: tb
def wm_X9_hasWhatItNeeds : List Cond := .code yX9_hasWhatItNeeds cX9_hasWhatItNeeds 2 (some .boolean) :: tb
def wm_X6_has : List Cond := .code yX6_has cX6_has 3 (some .boolean) :: tb
def wm_X9_beanHasWhatItNeeds : List Cond := .code yX9_beanHasWhatItNeeds cX9_beanHasWhatItNeeds 2 (some .boolean) :: tb
def wm_X9_hasRightCount : List Cond := .code yX9_hasRightCount cX9_hasRightCount 2 (some .boolean) :: tb
def wm_X10_firstWrongPlace : List Cond := .code yX10_firstWrongPlace cX10_firstWrongPlace 2 (some .int) :: tb
def wm_X10_settle : List Cond := .code yX10_settle cX10_settle 2 none :: tb
def wm_X1_begin : List Cond := .code yX1_begin cX1_begin 3 none :: tb
def wm_Jx4a65c_clear_da8c8 : List Cond := .code yJx4a65c_clear_da8c8 cJx4a65c_clear_da8c8 4 none :: tb
def wm_X10_settleContent : List Cond := .code yX10_settleContent cX10_settleContent 2 none :: tb
def wm_X6_valueToText : List Cond := .code yX6_valueToText cX6_valueToText 6 none :: tb
def wm_X3_weighText : List Cond := .code yX3_weighText cX3_weighText 1 none :: tb
def wm_X3_textAsNumber : List Cond := .code yX3_textAsNumber cX3_textAsNumber 7 (some .long) :: tb
def wm_X3_textIs : List Cond := .code yX3_textIs cX3_textIs 3 (some .boolean) :: tb
def wm_X10_isRight : List Cond := .code yX10_isRight cX10_isRight 4 (some .boolean) :: tb
def wm_X10_hasRightParent : List Cond := .code yX10_hasRightParent cX10_hasRightParent 3 (some .boolean) :: tb
def wm_X10_withId : List Cond := .code yX10_withId cX10_withId 4 (some (.object "WiredBeans$Bean")) :: tb
def wm_X10_comesToItself : List Cond := .code yX10_comesToItself cX10_comesToItself 4 (some .boolean) :: tb
def wm_X10_merge : List Cond := .code yX10_merge cX10_merge 5 none :: tb
def wm_X1_overlay : List Cond := .code yX1_overlay cX1_overlay 3 none :: tb
def wm_X1_overlayInner : List Cond := .code yX1_overlayInner cX1_overlayInner 5 none :: tb
def wm_Jx4a65c_add_9ea2d : List Cond := .code yJx4a65c_add_9ea2d cJx4a65c_add_9ea2d 2 (some .boolean) :: tb
def wm_Jx4a65c_add_72be8 : List Cond := .code yJx4a65c_add_72be8 cJx4a65c_add_72be8 4 none :: tb
def wm_Jx4a65c_grow_d5877 : List Cond := .code yJx4a65c_grow_d5877 cJx4a65c_grow_d5877 1 (some (.array (.object "java/lang/Object"))) :: tb
def wm_Jx4a65c_grow_92f84 : List Cond := .code yJx4a65c_grow_92f84 cJx4a65c_grow_92f84 4 (some (.array (.object "java/lang/Object"))) :: tb
def wm_J8_newLength_cabcc : List Cond := .code yJ8_newLength_cabcc cJ8_newLength_cabcc 4 (some .int) :: tb
def wm_J7_copyOf_1904c : List Cond := .code yJ7_copyOf_1904c cJ7_copyOf_1904c 2 (some (.array (.object "java/lang/Object"))) :: tb
def wm_J7_copyOf_6403c : List Cond := .code yJ7_copyOf_6403c cJ7_copyOf_6403c 4 (some (.array (.object "java/lang/Object"))) :: tb
def wm_X1_putNamed : List Cond := .code yX1_putNamed cX1_putNamed 3 none :: tb
def wm_Jx4a65c_get_915e3 : List Cond := .code yJx4a65c_get_915e3 cJx4a65c_get_915e3 2 (some (.object "java/lang/Object")) :: tb
def wm_J15_checkIndex_7cf53 : List Cond := .code yJ15_checkIndex_7cf53 cJ15_checkIndex_7cf53 2 (some .int) :: tb
def wm_Jx4a65c_elementData_915e3 : List Cond := .code yJx4a65c_elementData_915e3 cJx4a65c_elementData_915e3 2 (some (.object "java/lang/Object")) :: tb
def wm_Jx4a65c_set_bcc79 : List Cond := .code yJx4a65c_set_bcc79 cJx4a65c_set_bcc79 4 (some (.object "java/lang/Object")) :: tb
def wm_X10_forgetBeans : List Cond := .code yX10_forgetBeans cX10_forgetBeans 1 none :: tb
def wm_L_refresh : List Cond := .codeWith yL_refresh cL_refresh 3 (some .int) [(0, 8, 11, 18), (0, 8, 14, 20)] :: tb
def wm_X12_refresh : List Cond := .code yX12_refresh cX12_refresh 1 (some .int) :: tb
def wm_X5_forgetFailure : List Cond := .code yX5_forgetFailure cX5_forgetFailure 1 none :: tb
def wm_X5_renewsAll : List Cond := .codeWith yX5_renewsAll cX5_renewsAll 3 (some .boolean) [(11, 79, 82, 103)] :: tb
def wm_X5_obtain : List Cond := .code yX5_obtain cX5_obtain 5 (some .int) :: tb
def wm_X10_called : List Cond := .code yX10_called cX10_called 7 (some (.object "WiredBeans$Bean")) :: tb
def wm_X10_nameBehindAlias : List Cond := .code yX10_nameBehindAlias cX10_nameBehindAlias 5 (some .long) :: tb
def wm_X5_failWith : List Cond := .code yX5_failWith cX5_failWith 2 (some .int) :: tb
def wm_X5_make : List Cond := .code yX5_make cX5_make 5 (some .int) :: tb
def wm_X5_workOutArgs : List Cond := .code yX5_workOutArgs cX5_workOutArgs 4 none :: tb
def wm_X5_slot : List Cond := .code yX5_slot cX5_slot 2 (some .int) :: tb
def wm_X5_workOut : List Cond := .code yX5_workOut cX5_workOut 6 none :: tb
def wm_X5_itemValue : List Cond := .code yX5_itemValue cX5_itemValue 3 (some .int) :: tb
def wm_X5_objectOf : List Cond := .code yX5_objectOf cX5_objectOf 3 (some .int) :: tb
def wm_X5_chooseFor : List Cond := .code yX5_chooseFor cX5_chooseFor 13 (some (.object "WiredBeans$Signature")) :: tb
def wm_X2_withFactory : List Cond := .code yX2_withFactory cX2_withFactory 5 (some (.object "WiredBeans$DeclaredClass")) :: tb
def wm_X2_ownsFactory : List Cond := .code yX2_ownsFactory cX2_ownsFactory 4 (some .boolean) :: tb
def wm_X8_isCalled : List Cond := .code yX8_isCalled cX8_isCalled 3 (some .boolean) :: tb
def wm_X5_placesArgs : List Cond := .code yX5_placesArgs cX5_placesArgs 5 (some .boolean) :: tb
def wm_X5_placeOthers : List Cond := .code yX5_placeOthers cX5_placeOthers 5 none :: tb
def wm_X5_sumFor : List Cond := .code yX5_sumFor cX5_sumFor 9 (some .int) :: tb
def wm_X5_weightOf : List Cond := .code yX5_weightOf cX5_weightOf 4 (some .int) :: tb
def wm_X5_textWeight : List Cond := .code yX5_textWeight cX5_textWeight 2 (some .int) :: tb
def wm_X5_objectWeight : List Cond := .code yX5_objectWeight cX5_objectWeight 4 (some .int) :: tb
def wm_X2_stepsTo : List Cond := .code yX2_stepsTo cX2_stepsTo 4 (some .int) :: tb
def wm_X5_bringToBe : List Cond := .code yX5_bringToBe cX5_bringToBe 7 none :: tb
def wm_X5_tellValue : List Cond := .code yX5_tellValue cX5_tellValue 8 none :: tb
def wm_X5_valueOf : List Cond := .code yX5_valueOf cX5_valueOf 4 (some .int) :: tb
def wm_X5_textValue : List Cond := .code yX5_textValue cX5_textValue 2 (some .int) :: tb
def wm_X5_applySets : List Cond := .code yX5_applySets cX5_applySets 8 none :: tb
def wm_X2_setterType : List Cond := .code yX2_setterType cX2_setterType 4 (some .int) :: tb
def wm_X5_finish : List Cond := .code yX5_finish cX5_finish 2 none :: tb
def wm_X5_stopMaking : List Cond := .code yX5_stopMaking cX5_stopMaking 2 none :: tb
def wm_X5_objectCount : List Cond := .code yX5_objectCount cX5_objectCount 1 (some .int) :: tb
def wm_L_get : List Cond := .codeWith yL_get cL_get 5 (some .int) [(0, 9, 12, 18), (0, 9, 16, 20)] :: tb
def wm_X12_get : List Cond := .code yX12_get cX12_get 4 (some .int) :: tb
def wm_X12_withoutZeros : List Cond := .code yX12_withoutZeros cX12_withoutZeros 7 (some .long) :: tb
def wm_X5_objectCalled : List Cond := .codeWith yX5_objectCalled cX5_objectCalled 4 (some .int) [(0, 6, 7, 103)] :: tb
def wm_L_call : List Cond := .codeWith yL_call cL_call 5 (some .int) [(0, 10, 13, 18), (0, 10, 17, 30), (0, 10, 21, 20)] :: tb
def wm_X12_call : List Cond := .code yX12_call cX12_call 5 (some .int) :: tb
def wm_X5_lookupOf : List Cond := .code yX5_lookupOf cX5_lookupOf 3 (some (.object "WiredBeans$Element")) :: tb
def wm_X1_lookupNamed : List Cond := .code yX1_lookupNamed cX1_lookupNamed 3 (some (.object "WiredBeans$Element")) :: tb
def wm_X13_init : List Cond := .code yX13_init cX13_init 2 none :: tb
def wm_X13_declare : List Cond := .code yX13_declare cX13_declare 3 (some .boolean) :: tb
def wm_X13_isClass : List Cond := .code yX13_isClass cX13_isClass 1 (some .boolean) :: tb
def wm_X13_constructor : List Cond := .code yX13_constructor cX13_constructor 7 (some .boolean) :: tb
def wm_X13_areTypes : List Cond := .code yX13_areTypes cX13_areTypes 4 (some .boolean) :: tb
def wm_X13_isType : List Cond := .code yX13_isType cX13_isType 1 (some .boolean) :: tb
def wm_X13_setter : List Cond := .code yX13_setter cX13_setter 5 (some .boolean) :: tb
def wm_X13_isLetter : List Cond := .code yX13_isLetter cX13_isLetter 1 (some .boolean) :: tb
def wm_X13_factory : List Cond := .code yX13_factory cX13_factory 10 (some .boolean) :: tb
def wm_X13_type : List Cond := .code yX13_type cX13_type 10 (some .int) :: tb
def wm_X13_read : List Cond := .code yX13_read cX13_read 4 (some .int) :: tb
def wm_X13_clear : List Cond := .code yX13_clear cX13_clear 2 none :: tb
def wm_X13_readDocument : List Cond := .code yX13_readDocument cX13_readDocument 5 none :: tb
def wm_X13_between : List Cond := .code yX13_between cX13_between 2 none :: tb
def wm_X13_white : List Cond := .code yX13_white cX13_white 2 (some .int) :: tb
def wm_X13_here : List Cond := .code yX13_here cX13_here 2 (some .int) :: tb
def wm_X13_isWhite : List Cond := .code yX13_isWhite cX13_isWhite 2 (some .boolean) :: tb
def wm_X13_comment : List Cond := .code yX13_comment cX13_comment 2 none :: tb
def wm_X13_must : List Cond := .code yX13_must cX13_must 2 none :: tb
def wm_X13_bad : List Cond := .code yX13_bad cX13_bad 2 none :: tb
def wm_X13_isSmall : List Cond := .code yX13_isSmall cX13_isSmall 2 (some .boolean) :: tb
def wm_X13_begin : List Cond := .code yX13_begin cX13_begin 6 (some .int) :: tb
def wm_X13_name : List Cond := .code yX13_name cX13_name 4 (some .long) :: tb
def wm_X13_attribute : List Cond := .code yX13_attribute cX13_attribute 6 none :: tb
def wm_X13_find : List Cond := .code yX13_find cX13_find 5 (some .int) :: tb
def wm_X13_entity : List Cond := .code yX13_entity cX13_entity 5 (some .int) :: tb
def wm_X13_numberedEntity : List Cond := .code yX13_numberedEntity cX13_numberedEntity 3 (some .int) :: tb
def wm_X13_agrees : List Cond := .code yX13_agrees cX13_agrees 4 (some .boolean) :: tb
def wm_X13_add : List Cond := .code yX13_add cX13_add 3 none :: tb
def wm_X13_end : List Cond := .code yX13_end cX13_end 5 none :: tb
def wm_X13_badStructure : List Cond := .code yX13_badStructure cX13_badStructure 3 (some .int) :: tb
def wm_X13_isGood : List Cond := .code yX13_isGood cX13_isGood 3 (some .boolean) :: tb
def wm_X13_isInPlace : List Cond := .code yX13_isInPlace cX13_isInPlace 3 (some .boolean) :: tb
def wm_X13_isAllowed : List Cond := .code yX13_isAllowed cX13_isAllowed 4 (some .boolean) :: tb
def wm_X13_isWord : List Cond := .code yX13_isWord cX13_isWord 6 (some .boolean) :: tb
def wm_X13_isGoodBean : List Cond := .code yX13_isGoodBean cX13_isGoodBean 8 (some .boolean) :: tb
def wm_X13_has : List Cond := .code yX13_has cX13_has 4 (some .boolean) :: tb
def wm_X13_isOneLetter : List Cond := .code yX13_isOneLetter cX13_isOneLetter 4 (some .boolean) :: tb
def wm_X13_word : List Cond := .code yX13_word cX13_word 8 (some .long) :: tb
def wm_X13_classIn : List Cond := .code yX13_classIn cX13_classIn 2 (some .int) :: tb
def wm_X13_isOneOf : List Cond := .code yX13_isOneOf cX13_isOneOf 6 (some .boolean) :: tb
def wm_X13_isGoodHolder : List Cond := .code yX13_isGoodHolder cX13_isGoodHolder 3 (some .boolean) :: tb
def wm_X13_ahead : List Cond := .code yX13_ahead cX13_ahead 5 (some .int) :: tb
def wm_X13_typeIn : List Cond := .code yX13_typeIn cX13_typeIn 5 (some .int) :: tb
def wm_X13_badBeans : List Cond := .code yX13_badBeans cX13_badBeans 4 (some .int) :: tb
def wm_X13_isUsed : List Cond := .code yX13_isUsed cX13_isUsed 5 (some .boolean) :: tb
def wm_X13_parentOf : List Cond := .code yX13_parentOf cX13_parentOf 2 (some .int) :: tb
def wm_X13_withId : List Cond := .code yX13_withId cX13_withId 4 (some .int) :: tb
def wm_X13_comesToItself : List Cond := .code yX13_comesToItself cX13_comesToItself 4 (some .boolean) :: tb
def wm_X13_mergeBean : List Cond := .code yX13_mergeBean cX13_mergeBean 6 none :: tb
def wm_X13_inner : List Cond := .code yX13_inner cX13_inner 5 (some .int) :: tb
def wm_X13_merge : List Cond := .code yX13_merge cX13_merge 6 (some .int) :: tb
def wm_X13_fault : List Cond := .code yX13_fault cX13_fault 2 (some .int) :: tb
def wm_X13_refresh : List Cond := .code yX13_refresh cX13_refresh 4 (some .int) :: tb
def wm_X13_isAbstract : List Cond := .code yX13_isAbstract cX13_isAbstract 2 (some .boolean) :: tb
def wm_X13_isMany : List Cond := .code yX13_isMany cX13_isMany 2 (some .boolean) :: tb
def wm_X13_run : List Cond := .code yX13_run cX13_run 4 (some .boolean) :: tb
def wm_X13_gets : List Cond := .code yX13_gets cX13_gets 2 (some .boolean) :: tb
def wm_X13_fails : List Cond := .code yX13_fails cX13_fails 2 none :: tb
def wm_X13_step : List Cond := .code yX13_step cX13_step 4 none :: tb
def wm_X13_called : List Cond := .code yX13_called cX13_called 10 (some .int) :: tb
def wm_X13_deliver : List Cond := .code yX13_deliver cX13_deliver 5 none :: tb
def wm_X13_arg : List Cond := .code yX13_arg cX13_arg 6 (some .int) :: tb
def wm_X13_argsOf : List Cond := .code yX13_argsOf cX13_argsOf 3 (some .int) :: tb
def wm_X13_keep : List Cond := .code yX13_keep cX13_keep 5 none :: tb
def wm_X13_tells : List Cond := .code yX13_tells cX13_tells 5 (some .int) :: tb
def wm_X13_args : List Cond := .code yX13_args cX13_args 3 (some .int) :: tb
def wm_X13_workedOut : List Cond := .code yX13_workedOut cX13_workedOut 8 (some .boolean) :: tb
def wm_X13_worked : List Cond := .code yX13_worked cX13_worked 6 (some .boolean) :: tb
def wm_X13_next : List Cond := .code yX13_next cX13_next 3 none :: tb
def wm_X13_makeObject : List Cond := .code yX13_makeObject cX13_makeObject 9 none :: tb
def wm_X13_letter : List Cond := .code yX13_letter cX13_letter 5 (some .int) :: tb
def wm_X13_classOf : List Cond := .code yX13_classOf cX13_classOf 3 (some .int) :: tb
def wm_X13_classWithFactory : List Cond := .code yX13_classWithFactory cX13_classWithFactory 6 (some .int) :: tb
def wm_X13_isFactory : List Cond := .code yX13_isFactory cX13_isFactory 4 (some .boolean) :: tb
def wm_X13_chosen : List Cond := .code yX13_chosen cX13_chosen 10 (some .int) :: tb
def wm_X13_sum : List Cond := .code yX13_sum cX13_sum 11 (some .int) :: tb
def wm_X13_placed : List Cond := .code yX13_placed cX13_placed 6 (some .boolean) :: tb
def wm_X13_weight : List Cond := .code yX13_weight cX13_weight 6 (some .int) :: tb
def wm_X13_numberIn : List Cond := .code yX13_numberIn cX13_numberIn 8 (some .long) :: tb
def wm_X13_length : List Cond := .code yX13_length cX13_length 2 (some .int) :: tb
def wm_X13_sign : List Cond := .code yX13_sign cX13_sign 3 (some .int) :: tb
def wm_X13_is : List Cond := .code yX13_is cX13_is 7 (some .boolean) :: tb
def wm_X13_happens : List Cond := .code yX13_happens cX13_happens 5 none :: tb
def wm_X13_tell : List Cond := .code yX13_tell cX13_tell 7 none :: tb
def wm_X13_told : List Cond := .code yX13_told cX13_told 4 (some .int) :: tb
def wm_X13_finish : List Cond := .code yX13_finish cX13_finish 3 none :: tb
def wm_X13_setOne : List Cond := .code yX13_setOne cX13_setOne 6 none :: tb
def wm_X13_typeOfSetter : List Cond := .code yX13_typeOfSetter cX13_typeOfSetter 5 (some .int) :: tb
def wm_X13_shut : List Cond := .code yX13_shut cX13_shut 3 none :: tb
def wm_X13_get : List Cond := .code yX13_get cX13_get 3 (some .int) :: tb
def wm_X13_letters : List Cond := .code yX13_letters cX13_letters 5 (some .long) :: tb
def wm_X13_call : List Cond := .code yX13_call cX13_call 7 (some .int) :: tb
def wm_X13_close : List Cond := .code yX13_close cX13_close 1 (some .int) :: tb
def wm_X13_events : List Cond := .code yX13_events cX13_events 1 (some .int) :: tb
def wm_X13_event : List Cond := .code yX13_event cX13_event 3 (some .int) :: tb
def wm_X13_object : List Cond := .code yX13_object cX13_object 3 (some .int) :: tb
def wm_X13_bean : List Cond := .code yX13_bean cX13_bean 4 (some .int) :: tb
def GE (A : Nat → Prop) (U : State) : Prop := (va_AO "WiredBeans$DeclaredClass" U ∧ va_AO "WiredBeans$Signature" U ∧ va_AO "WiredBeans$Element" U ∧ va_AO "WiredBeans$Bean" U) ∧ (va_Nw (.castable "java/lang/IllegalArgumentException" "java/lang/IllegalArgumentException") U ∧ va_Nw (.castable "java/lang/IllegalStateException" "java/lang/IllegalStateException") U ∧ va_Nw (.declares ⟨"java/lang/RuntimeException", "<init>", "()V"⟩) U ∧ va_Nw (.declares ⟨"java/lang/Exception", "<init>", "()V"⟩) U ∧ va_Nw (.declares ⟨"java/lang/Throwable", "<init>", "()V"⟩) U) ∧ va_Zq "java/util/ArrayList" "DEFAULTCAPACITY_EMPTY_ELEMENTDATA" "[Ljava/lang/Object;" A U U.heap ∧ vx_Zq Bundle.tN "UNASSIGNED_STACK" Bundle.steD A U U.heap ∧ vx_Zq Bundle.tN "SUPPRESSED_SENTINEL" Bundle.listD A U U.heap
theorem GE.go {A B : Nat → Prop} {s U : State} {H : Heap} {locs : List Loc} (h : GE A s) (hS : va_S A s.heap H locs) (hB : ∀ q, B q → A q) (hU : U.heap = H) (hW : s.WarmedH U.vm) : GE B U := by
  obtain ⟨⟨a1, a2, a3, a4⟩, ⟨b1, b2, b3, b4, b5⟩, z1, z2, z3⟩ := h
  refine ⟨⟨va_AO.moved hW.alike a1, va_AO.moved hW.alike a2, va_AO.moved hW.alike a3, va_AO.moved hW.alike a4⟩, ⟨va_Nw.warmC hW b1, va_Nw.warmC hW b2, va_Nw.warmD hW b3, va_Nw.warmD hW b4, va_Nw.warmD hW b5⟩, ?_, ?_, ?_⟩
  · rw [hU]; exact (va_Zq.moved hW.alike (va_Zq.kept z1 hS.2.1)).narrow hB
  · rw [hU]; exact (vx_Zq.moved hW.alike (vx_Zq.kept z2 hS.2.1)).narrow hB
  · rw [hU]; exact (vx_Zq.moved hW.alike (vx_Zq.kept z3 hS.2.1)).narrow hB
theorem GE.call {A : Nat → Prop} {U : State} (g : JFrame) (mk : MethodId) (a : Array Value) (h : GE A U) : GE A (U.calling g mk a) := GE.go (U := U.calling g mk a) h (va_S.rf (H0 := U.heap)) (fun _ h => h) rfl (State.WarmedH.refl U)
