theorem in_r {big ws : List Cond} (ps : List Nat) (hp : ws = ps.filterMap (fun i => big[i]?)) : ∀ w ∈ ws, w ∈ big := by
  intro w hw
  rw [hp] at hw
  obtain ⟨i, -, hi⟩ := List.mem_filterMap.mp hw
  exact List.mem_of_getElem? hi
set_option maxRecDepth 100000 in
theorem inW_0 : ∀ w ∈ (vx_at0 RX12 131 "java/lang/IllegalArgumentException" ["java/lang/RuntimeException", "java/lang/Exception"]).filter goodWord, w ∈ lw_tbl := fun w h => pkl_in [8, 153, 0, 0, 0, 20, 0, 0, 6, 6, 63, 6, 144, 24, 9, 6, 11, 109, 12, 265, 0, 0, 0, 0, 0, 0, 0, 0, 0, 0, 0, 0, 0, 0, 0, 0, 0, 0, 0, 0, 0, 0, 0, 0, 0, 0, 0, 0, 0, 0, 0, 3, 0, 0, 0, 0, 0, 0, 0, 0, 0, 0, 0, 0, 0, 0, 0, 0, 0, 0, 0, 4, 2, 463, 45, 233, 669] lw_tbl w ((by decide +kernel : ∀ w ∈ (vx_at0 RX12 131 "java/lang/IllegalArgumentException" ["java/lang/RuntimeException", "java/lang/Exception"]).filter goodWord, w ∈ pkl_f [8, 153, 0, 0, 0, 20, 0, 0, 6, 6, 63, 6, 144, 24, 9, 6, 11, 109, 12, 265, 0, 0, 0, 0, 0, 0, 0, 0, 0, 0, 0, 0, 0, 0, 0, 0, 0, 0, 0, 0, 0, 0, 0, 0, 0, 0, 0, 0, 0, 0, 0, 3, 0, 0, 0, 0, 0, 0, 0, 0, 0, 0, 0, 0, 0, 0, 0, 0, 0, 0, 0, 4, 2, 463, 45, 233, 669] lw_tbl) w h)
set_option maxRecDepth 100000 in
theorem inW_1 : ∀ w ∈ (vx_at0 RX7 52 "java/lang/IllegalArgumentException" ["java/lang/RuntimeException", "java/lang/Exception"]).filter goodWord, w ∈ lw_tbl := fun w h => pkl_in [8, 153, 0, 0, 0, 20, 0, 0, 6, 6, 63, 6, 144, 24, 9, 6, 11, 109, 12, 265, 0, 0, 0, 0, 0, 0, 0, 0, 0, 0, 0, 0, 0, 0, 0, 0, 0, 0, 0, 0, 0, 0, 0, 0, 0, 0, 0, 0, 0, 0, 0, 3, 0, 0, 0, 0, 0, 0, 0, 0, 0, 0, 0, 0, 0, 0, 0, 0, 0, 0, 0, 4, 2, 463, 45, 233, 669] lw_tbl w ((by decide +kernel : ∀ w ∈ (vx_at0 RX7 52 "java/lang/IllegalArgumentException" ["java/lang/RuntimeException", "java/lang/Exception"]).filter goodWord, w ∈ pkl_f [8, 153, 0, 0, 0, 20, 0, 0, 6, 6, 63, 6, 144, 24, 9, 6, 11, 109, 12, 265, 0, 0, 0, 0, 0, 0, 0, 0, 0, 0, 0, 0, 0, 0, 0, 0, 0, 0, 0, 0, 0, 0, 0, 0, 0, 0, 0, 0, 0, 0, 0, 3, 0, 0, 0, 0, 0, 0, 0, 0, 0, 0, 0, 0, 0, 0, 0, 0, 0, 0, 0, 4, 2, 463, 45, 233, 669] lw_tbl) w h)
set_option maxRecDepth 100000 in
theorem inW_2 : ∀ w ∈ (vx_at0 RX12 146 "java/lang/IllegalStateException" ["java/lang/RuntimeException", "java/lang/Exception"]).filter goodWord, w ∈ lw_tbl := fun w h => pkl_in [8, 153, 0, 0, 13, 7, 0, 0, 6, 6, 63, 6, 144, 24, 9, 6, 11, 109, 12, 267, 0, 0, 0, 0, 0, 3, 1, 1, 1, 1, 0, 0, 0, 0, 0, 0, 0, 0, 0, 0, 0, 0, 0, 2, 0, 0, 0, 0, 0, 4, 0, 0, 0, 0, 0, 0, 0, 0, 0, 472, 60, 0, 0, 0, 0, 0, 0, 0, 0, 0, 0, 0, 0, 0, 204, 669] lw_tbl w ((by decide +kernel : ∀ w ∈ (vx_at0 RX12 146 "java/lang/IllegalStateException" ["java/lang/RuntimeException", "java/lang/Exception"]).filter goodWord, w ∈ pkl_f [8, 153, 0, 0, 13, 7, 0, 0, 6, 6, 63, 6, 144, 24, 9, 6, 11, 109, 12, 267, 0, 0, 0, 0, 0, 3, 1, 1, 1, 1, 0, 0, 0, 0, 0, 0, 0, 0, 0, 0, 0, 0, 0, 2, 0, 0, 0, 0, 0, 4, 0, 0, 0, 0, 0, 0, 0, 0, 0, 472, 60, 0, 0, 0, 0, 0, 0, 0, 0, 0, 0, 0, 0, 0, 204, 669] lw_tbl) w h)
set_option maxRecDepth 100000 in
theorem inW_3 : ∀ w ∈ (vx_at0 RX12 153 "java/lang/UnsupportedOperationException" ["java/lang/RuntimeException", "java/lang/Exception"]).filter goodWord, w ∈ lw_tbl := fun w h => pkl_in [8, 153, 0, 0, 14, 6, 0, 0, 6, 6, 63, 6, 144, 24, 9, 6, 11, 109, 12, 267, 0, 0, 0, 0, 0, 3, 1, 1, 1, 1, 0, 0, 0, 0, 0, 0, 0, 0, 0, 0, 0, 0, 2, 0, 0, 0, 0, 0, 0, 4, 0, 0, 0, 0, 0, 0, 0, 0, 0, 474, 94, 0, 0, 0, 0, 0, 0, 0, 0, 0, 0, 0, 0, 0, 112, 55, 669] lw_tbl w ((by decide +kernel : ∀ w ∈ (vx_at0 RX12 153 "java/lang/UnsupportedOperationException" ["java/lang/RuntimeException", "java/lang/Exception"]).filter goodWord, w ∈ pkl_f [8, 153, 0, 0, 14, 6, 0, 0, 6, 6, 63, 6, 144, 24, 9, 6, 11, 109, 12, 267, 0, 0, 0, 0, 0, 3, 1, 1, 1, 1, 0, 0, 0, 0, 0, 0, 0, 0, 0, 0, 0, 0, 2, 0, 0, 0, 0, 0, 0, 4, 0, 0, 0, 0, 0, 0, 0, 0, 0, 474, 94, 0, 0, 0, 0, 0, 0, 0, 0, 0, 0, 0, 0, 0, 112, 55, 669] lw_tbl) w h)
set_option maxRecDepth 100000 in
theorem inW_4 : ∀ w ∈ (vx_at0 RX5 131 "java/lang/UnsupportedOperationException" ["java/lang/RuntimeException", "java/lang/Exception"]).filter goodWord, w ∈ lw_tbl := fun w h => pkl_in [8, 153, 0, 0, 14, 6, 0, 0, 6, 6, 63, 6, 144, 24, 9, 6, 11, 109, 12, 267, 0, 0, 0, 0, 0, 3, 1, 1, 1, 1, 0, 0, 0, 0, 0, 0, 0, 0, 0, 0, 0, 0, 2, 0, 0, 0, 0, 0, 0, 4, 0, 0, 0, 0, 0, 0, 0, 0, 0, 474, 94, 0, 0, 0, 0, 0, 0, 0, 0, 0, 0, 0, 0, 0, 112, 55, 669] lw_tbl w ((by decide +kernel : ∀ w ∈ (vx_at0 RX5 131 "java/lang/UnsupportedOperationException" ["java/lang/RuntimeException", "java/lang/Exception"]).filter goodWord, w ∈ pkl_f [8, 153, 0, 0, 14, 6, 0, 0, 6, 6, 63, 6, 144, 24, 9, 6, 11, 109, 12, 267, 0, 0, 0, 0, 0, 3, 1, 1, 1, 1, 0, 0, 0, 0, 0, 0, 0, 0, 0, 0, 0, 0, 2, 0, 0, 0, 0, 0, 0, 4, 0, 0, 0, 0, 0, 0, 0, 0, 0, 474, 94, 0, 0, 0, 0, 0, 0, 0, 0, 0, 0, 0, 0, 0, 112, 55, 669] lw_tbl) w h)
set_option maxRecDepth 100000 in
theorem inW_5 : ∀ w ∈ (vx_at0 RX12 171 "java/lang/IndexOutOfBoundsException" ["java/lang/RuntimeException", "java/lang/Exception"]).filter goodWord, w ∈ lw_tbl := fun w h => pkl_in [8, 153, 0, 0, 15, 5, 0, 0, 6, 6, 63, 6, 144, 24, 9, 6, 11, 109, 12, 267, 0, 0, 0, 0, 0, 3, 1, 1, 1, 1, 0, 0, 0, 0, 0, 0, 0, 0, 0, 0, 0, 0, 1, 1, 0, 0, 0, 0, 0, 4, 0, 0, 0, 0, 0, 0, 0, 0, 0, 473, 258, 0, 0, 0, 0, 0, 0, 0, 0, 0, 0, 0, 0, 0, 5, 669] lw_tbl w ((by decide +kernel : ∀ w ∈ (vx_at0 RX12 171 "java/lang/IndexOutOfBoundsException" ["java/lang/RuntimeException", "java/lang/Exception"]).filter goodWord, w ∈ pkl_f [8, 153, 0, 0, 15, 5, 0, 0, 6, 6, 63, 6, 144, 24, 9, 6, 11, 109, 12, 267, 0, 0, 0, 0, 0, 3, 1, 1, 1, 1, 0, 0, 0, 0, 0, 0, 0, 0, 0, 0, 0, 0, 1, 1, 0, 0, 0, 0, 0, 4, 0, 0, 0, 0, 0, 0, 0, 0, 0, 473, 258, 0, 0, 0, 0, 0, 0, 0, 0, 0, 0, 0, 0, 0, 5, 669] lw_tbl) w h)
set_option maxRecDepth 100000 in
theorem inC_0 : ∀ w ∈ tbA_0, w ∈ lw_tbl := pkl_e [0, 0, 0, 0, 0, 0, 0, 0, 1, 0, 0, 0, 0, 0, 0, 0, 0, 0, 0, 0, 0, 0, 0, 0] (by decide +kernel)
set_option maxRecDepth 100000 in
theorem inC_1 : ∀ w ∈ tbA_1, w ∈ lw_tbl := pkl_e [25, 0, 0, 0, 0, 0, 0, 0, 0, 0, 0, 0, 0, 0, 0, 0, 0, 0, 0, 0, 0, 0, 0, 0] (by decide +kernel)
set_option maxRecDepth 100000 in
theorem inC_2 : ∀ w ∈ tbA_2, w ∈ lw_tbl := pkl_e [49, 0, 0, 0, 0, 0, 0, 0, 0, 0, 0, 0, 0, 0, 0, 0, 0, 0, 0, 0, 0, 0, 0, 0] (by decide +kernel)
set_option maxRecDepth 100000 in
theorem inC_3 : ∀ w ∈ tbA_3, w ∈ lw_tbl := pkl_e [73, 0, 0, 0, 0, 0, 0, 0, 0, 0, 0, 0, 0, 0, 0, 0, 0, 0, 0, 0, 0, 0, 0, 0] (by decide +kernel)
set_option maxRecDepth 100000 in
theorem inC_4 : ∀ w ∈ tbA_4, w ∈ lw_tbl := pkl_e [97, 0, 0, 0, 0, 0, 0, 0, 0, 0, 0, 0, 0, 0, 0, 0, 0, 0, 0, 0, 0, 0, 0, 0] (by decide +kernel)
set_option maxRecDepth 100000 in
theorem inC_5 : ∀ w ∈ tbA_5, w ∈ lw_tbl := pkl_e [121, 0, 0, 0, 0, 0, 0, 0, 0, 0, 0, 0, 0, 0, 0, 0, 0, 0, 0, 0, 0, 0, 0, 0] (by decide +kernel)
set_option maxRecDepth 100000 in
theorem inC_6 : ∀ w ∈ tbA_6, w ∈ lw_tbl := pkl_e [145, 0, 0, 0, 0, 0, 0, 0, 0, 0, 0, 0, 0, 0, 0, 0, 0, 3, 0, 0, 0, 0, 0, 0] (by decide +kernel)
set_option maxRecDepth 100000 in
theorem inC_7 : ∀ w ∈ tbA_7, w ∈ lw_tbl := pkl_e [173, 0, 0, 0, 0, 0, 0, 0, 0, 0, 0, 0, 1, 0, 1, 1, 0, 0, 1, 0, 1, 0, 0, 1] (by decide +kernel)
set_option maxRecDepth 100000 in
theorem inC_8 : ∀ w ∈ tbA_8, w ∈ lw_tbl := pkl_e [203, 0, 0, 0, 0, 0, 0, 0, 0, 0, 0, 0, 0, 15, 0, 0, 0, 0, 0, 0, 0, 0, 0, 0] (by decide +kernel)
set_option maxRecDepth 100000 in
theorem inC_9 : ∀ w ∈ tbA_9, w ∈ lw_tbl := pkl_e [242, 0, 17, 0, 0, 0, 1, 0, 1, 0, 0, 1, 0, 0, 0, 0, 0, 0, 0, 0, 0, 0, 0, 0] (by decide +kernel)
set_option maxRecDepth 100000 in
theorem inC_10 : ∀ w ∈ tbA_10, w ∈ lw_tbl := pkl_e [286, 0, 0, 0, 0, 0, 0, 0, 0, 0, 0, 0, 0, 0, 0, 0, 0, 0, 0, 0, 0, 0, 0, 0] (by decide +kernel)
set_option maxRecDepth 100000 in
theorem inC_11 : ∀ w ∈ tbA_11, w ∈ lw_tbl := pkl_e [310, 0, 0, 0, 0, 0, 0, 0, 0, 0, 0, 0, 0, 0, 0, 0, 0, 0, 0, 0, 0, 0, 0, 0] (by decide +kernel)
set_option maxRecDepth 100000 in
theorem inC_12 : ∀ w ∈ tbA_12, w ∈ lw_tbl := pkl_e [334, 0, 0, 0, 0, 0, 0, 0, 0, 43, 0, 0, 0, 0, 0, 0, 0, 0, 17, 0, 0, 0, 0, 1] (by decide +kernel)
set_option maxRecDepth 100000 in
theorem inC_13 : ∀ w ∈ tbA_13, w ∈ lw_tbl := pkl_e [419, 0, 0, 0, 0, 0, 13, 0, 0, 0, 1, 0, 3, 0, 0, 0, 1, 0, 1, 0, 0, 1, 0, 0] (by decide +kernel)
set_option maxRecDepth 100000 in
theorem inC_14 : ∀ w ∈ tbA_14, w ∈ lw_tbl := pkl_e [463, 0, 1, 0, 1, 0, 1, 0, 1, 0, 0, 0, 0, 7, 0, 0, 0, 0, 0, 0, 0, 0, 0, 0] (by decide +kernel)
set_option maxRecDepth 100000 in
theorem inC_15 : ∀ w ∈ tbA_15, w ∈ lw_tbl := pkl_e [498, 0, 0, 0, 0, 0, 0, 0, 0, 0, 0, 0, 0, 0, 0, 0, 0, 0, 0, 0, 0, 0, 0, 0] (by decide +kernel)
set_option maxRecDepth 100000 in
theorem inC_16 : ∀ w ∈ tbA_16, w ∈ lw_tbl := pkl_e [522, 0, 0, 39, 0, 0, 0, 9, 0, 0, 0, 1, 0, 0, 5, 0, 0, 0, 1, 0, 0, 0, 0, 0] (by decide +kernel)
set_option maxRecDepth 100000 in
theorem inC_17 : ∀ w ∈ tbA_17, w ∈ lw_tbl := pkl_e [601, 0, 0, 0, 0, 0, 0, 0, 0, 27, 0, 0, 0, 0, 0, 0, 0, 0, 0, 0, 0, 25, 0, 0] (by decide +kernel)
set_option maxRecDepth 100000 in
theorem inC_18 : ∀ w ∈ tbA_18, w ∈ lw_tbl := pkl_e [678, 0, 1, 0, 0, 1, 0, 0, 1, 0, 1, 0, 1, 0, 0, 1, 0, 0, 1, 0, 0, 1, 0, 0] (by decide +kernel)
set_option maxRecDepth 100000 in
theorem inC_19 : ∀ w ∈ tbA_19, w ∈ lw_tbl := pkl_e [711, 0, 1, 0, 0, 1, 0, 0, 1, 0, 0, 1, 0, 0, 1, 1, 1, 0, 0, 1, 0, 0, 1, 0] (by decide +kernel)
set_option maxRecDepth 100000 in
theorem inC_20 : ∀ w ∈ tbA_20, w ∈ lw_tbl := pkl_e [744, 1, 0, 0, 1, 0, 0, 1, 0, 0, 1, 1, 1, 0, 0, 1, 0, 0, 1, 0, 0, 1, 0, 0] (by decide +kernel)
set_option maxRecDepth 100000 in
theorem inC_21 : ∀ w ∈ tbA_21, w ∈ lw_tbl := pkl_e [778, 0, 0, 1, 0, 0, 1, 0, 0, 1, 0, 0, 1, 1, 1, 0, 0, 1, 0, 0, 1, 0, 0, 0] (by decide +kernel)
set_option maxRecDepth 100000 in
theorem inC_22 : ∀ w ∈ tbA_22, w ∈ lw_tbl := pkl_e [810, 1, 0, 0, 1, 0, 1, 0, 0, 0, 1, 0, 0, 1, 0, 0, 1, 0, 0, 1, 0, 0, 0, 1] (by decide +kernel)
set_option maxRecDepth 100000 in
theorem inC_23 : ∀ w ∈ tbA_23, w ∈ lw_tbl := pkl_e [843, 1, 1, 1, 1, 1, 1, 1, 1, 64, 1, 1, 0, 1, 0, 0, 1, 1, 1, 0, 0, 1, 0, 0] (by decide +kernel)
set_option maxRecDepth 100000 in
theorem inC_24 : ∀ w ∈ tbA_24, w ∈ lw_tbl := pkl_e [947, 1, 1, 0, 0, 0, 1, 0, 1, 1, 1, 1, 0, 0, 1, 0, 0, 1, 1, 2, 1, 1, 0, 0] (by decide +kernel)
set_option maxRecDepth 100000 in
theorem inC_25 : ∀ w ∈ tbA_25, w ∈ lw_tbl := pkl_e [986, 0, 0, 1, 1, 0, 0, 1, 0, 0, 1, 0, 1, 0, 1, 1, 0, 1, 0, 1, 0, 1, 0, 1] (by decide +kernel)
set_option maxRecDepth 100000 in
theorem inC_26 : ∀ w ∈ tbA_26, w ∈ lw_tbl := pkl_e [1021, 0, 1, 1, 1, 5, 1, 1, 0, 0, 1, 1, 1, 1, 1, 0, 0, 1, 1, 1, 1, 1, 1, 1] (by decide +kernel)
set_option maxRecDepth 100000 in
theorem inC_27 : ∀ w ∈ tbA_27, w ∈ lw_tbl := pkl_e [1067, 0, 1, 0, 0, 1, 0, 0, 1, 1, 1, 1, 1, 1, 0, 1, 0, 1, 1, 0, 0, 1, 1, 1] (by decide +kernel)
set_option maxRecDepth 100000 in
theorem inC_28 : ∀ w ∈ tbA_28, w ∈ lw_tbl := pkl_e [1106, 1, 1, 1, 1, 1, 1, 1, 1, 0, 0, 1, 1, 1, 1, 1, 1, 1, 1, 1, 0, 0, 1, 0] (by decide +kernel)
set_option maxRecDepth 100000 in
theorem inC_29 : ∀ w ∈ tbA_29, w ∈ lw_tbl := pkl_e [1149, 1, 1, 1, 1, 1, 1, 1, 1, 1, 1, 1, 0, 0, 1, 0, 0, 1, 1, 0, 0, 1, 0, 1] (by decide +kernel)
set_option maxRecDepth 100000 in
theorem inC_30 : ∀ w ∈ tbA_30, w ∈ lw_tbl := pkl_e [1190, 1, 0, 0, 1, 0, 0, 1, 0, 0, 0, 1, 1, 0, 0, 1, 0, 1, 1, 1, 1, 1, 1, 1] (by decide +kernel)
set_option maxRecDepth 100000 in
theorem inC_31 : ∀ w ∈ tbA_31, w ∈ lw_tbl := pkl_e [1228, 1, 1, 0, 0, 1, 0, 0, 1, 1, 0, 0, 0, 0, 0, 0, 0, 0, 1, 0, 0, 1, 0, 0] (by decide +kernel)
set_option maxRecDepth 100000 in
theorem inC_32 : ∀ w ∈ tbA_32, w ∈ lw_tbl := pkl_e [1259, 1, 0, 0, 0, 1, 0, 1, 0, 0, 0, 0, 1, 1, 0, 0, 0, 0, 1, 0, 0, 1, 1, 1] (by decide +kernel)
set_option maxRecDepth 100000 in
theorem inC_33 : ∀ w ∈ tbA_33, w ∈ lw_tbl := pkl_e [1293, 1, 1, 0, 1, 0, 0, 0, 1, 1, 1, 1, 1, 1, 1, 1, 1, 1, 0, 0, 1, 0, 0, 0] (by decide +kernel)
set_option maxRecDepth 100000 in
theorem inC_34 : ∀ w ∈ tbA_34, w ∈ lw_tbl := pkl_e [1331, 0, 0, 1, 1, 1, 1, 0, 0, 0, 1, 1, 1, 1, 1, 1, 1, 0, 1, 0, 1, 0, 0, 1] (by decide +kernel)
set_option maxRecDepth 100000 in
theorem inC_35 : ∀ w ∈ tbA_35, w ∈ lw_tbl := pkl_e [1369, 1, 0, 19, 0, 0, 1, 1, 0, 0, 1, 0, 0, 0, 0, 0, 0, 0, 1, 0, 0, 1, 0, 1] (by decide +kernel)
set_option maxRecDepth 100000 in
theorem inC_36 : ∀ w ∈ tbA_36, w ∈ lw_tbl := pkl_e [1419, 0, 0, 1, 0, 0, 0, 1, 0, 0, 1, 1, 0, 0, 1, 0, 0, 0, 0, 1, 0, 0, 1, 14] (by decide +kernel)
set_option maxRecDepth 100000 in
theorem inC_37 : ∀ w ∈ tbA_37, w ∈ lw_tbl := pkl_e [1464, 0, 1, 0, 1, 1, 0, 0, 1, 1, 1, 0, 1, 15, 1, 1, 1, 1, 0, 0, 0, 0, 1, 1] (by decide +kernel)
set_option maxRecDepth 100000 in
theorem inC_38 : ∀ w ∈ tbA_38, w ∈ lw_tbl := pkl_e [1517, 0, 1, 1, 0, 1, 1, 1, 0, 0, 1, 1, 0, 0, 1, 1, 1, 0, 0, 1, 1, 1, 1, 1] (by decide +kernel)
set_option maxRecDepth 100000 in
theorem inC_39 : ∀ w ∈ tbA_39, w ∈ lw_tbl := pkl_e [1556, 1, 1, 1, 1, 0, 0, 0, 1, 0, 1, 1, 0, 0, 1, 1, 1, 1, 1, 1, 1, 0, 1, 1] (by decide +kernel)
set_option maxRecDepth 100000 in
theorem inC_40 : ∀ w ∈ tbA_40, w ∈ lw_tbl := pkl_e [1597, 0, 0, 1, 1, 1, 1, 1, 0, 1, 0, 0, 1, 0, 1, 0, 0, 1, 0, 1, 0, 0, 0, 1] (by decide +kernel)
set_option maxRecDepth 100000 in
theorem inC_41 : ∀ w ∈ tbA_41, w ∈ lw_tbl := pkl_e [1632, 1, 0, 0, 0, 1, 0, 0, 1, 0, 0, 1, 14, 0, 0, 0, 1, 0, 0, 0, 0, 0, 0, 0] (by decide +kernel)
set_option maxRecDepth 100000 in
theorem inC_42 : ∀ w ∈ tbA_42, w ∈ lw_tbl := pkl_e [1675, 0, 0, 0, 0, 0, 0, 0, 0, 0, 0, 0, 0, 0, 0, 0, 0, 0, 0, 0, 0, 0, 0, 0] (by decide +kernel)
set_option maxRecDepth 100000 in
theorem inC_43 : ∀ w ∈ tbA_43, w ∈ lw_tbl := pkl_e [1699, 0, 0, 0, 0, 0, 0, 0, 0, 0, 0, 0, 0, 0, 0, 0, 0, 0, 0, 0, 0, 0, 0, 0] (by decide +kernel)
set_option maxRecDepth 100000 in
theorem inC_44 : ∀ w ∈ tbA_44, w ∈ lw_tbl := pkl_e [1723, 0, 0, 0, 0, 0, 0, 0, 0, 0, 0, 0, 0, 0, 0, 0, 0, 0, 0, 0, 0, 0, 0, 0] (by decide +kernel)
set_option maxRecDepth 100000 in
theorem inC_45 : ∀ w ∈ tbA_45, w ∈ lw_tbl := pkl_e [1747, 0, 0, 0, 0, 0, 0, 0, 0, 0, 0, 0, 0, 0, 0, 0, 0, 0, 0, 0, 0, 0, 0, 0] (by decide +kernel)
set_option maxRecDepth 100000 in
theorem inC_46 : ∀ w ∈ tbA_46, w ∈ lw_tbl := pkl_e [1926, 0, 0, 0, 1, 0, 1, 0, 0, 1, 0, 1, 0, 1, 0, 0, 1, 0, 1, 0, 0, 1, 0, 0] (by decide +kernel)
set_option maxRecDepth 100000 in
theorem inC_47 : ∀ w ∈ tbA_47, w ∈ lw_tbl := pkl_e [1959, 0, 0, 1, 1, 1, 1, 1, 1, 1, 1, 1, 1, 1, 1, 1, 1, 1, 1, 1, 1, 1, 1, 1] (by decide +kernel)
set_option maxRecDepth 100000 in
theorem inC_48 : ∀ w ∈ tbA_48, w ∈ lw_tbl := pkl_e [2005, 1, 1, 1, 1, 1, 1, 1, 1, 1, 1, 1, 1, 1, 0, 1, 1, 1, 1, 1, 1, 1, 1, 1] (by decide +kernel)
set_option maxRecDepth 100000 in
theorem inC_49 : ∀ w ∈ tbA_49, w ∈ lw_tbl := pkl_e [2052, 1, 1, 0, 0, 0, 0, 0, 0, 0, 0, 0, 0, 0, 0, 0, 0, 0, 1, 1, 1, 1, 1, 1] (by decide +kernel)
set_option maxRecDepth 100000 in
theorem inC_50 : ∀ w ∈ tbA_50, w ∈ lw_tbl := pkl_e [2085, 1, 1, 1, 0, 0, 0, 1, 0, 0, 0, 1, 1, 1, 1, 1, 1, 0, 1, 1, 1, 1, 1, 1] (by decide +kernel)
set_option maxRecDepth 100000 in
theorem inC_51 : ∀ w ∈ tbA_51, w ∈ lw_tbl := pkl_e [2126, 1, 1, 1, 1, 1, 1, 1, 1, 1, 1, 1, 0, 0, 1, 0, 0, 1, 1, 1, 1, 1, 1, 1] (by decide +kernel)
set_option maxRecDepth 100000 in
theorem inC_52 : ∀ w ∈ tbA_52, w ∈ lw_tbl := pkl_e [2170, 1, 1, 1, 1, 1, 1, 1, 1, 1, 1, 1, 1, 1, 1, 1, 1, 1, 1, 1, 1, 1, 1, 1] (by decide +kernel)
set_option maxRecDepth 100000 in
theorem inC_53 : ∀ w ∈ tbA_53, w ∈ lw_tbl := pkl_e [2218, 1, 1, 1, 1, 1, 1, 1, 1, 1, 1, 1, 1, 1, 0, 1, 1, 1, 1, 1, 1, 1, 1, 1] (by decide +kernel)
set_option maxRecDepth 100000 in
theorem inC_54 : ∀ w ∈ tbA_54, w ∈ lw_tbl := pkl_e [2265, 1, 1, 0, 0, 0, 0, 1, 1, 1, 1, 1, 1, 1, 1, 1, 1, 1, 1, 1, 1, 1, 1, 0] (by decide +kernel)
set_option maxRecDepth 100000 in
theorem inC_55 : ∀ w ∈ tbA_55, w ∈ lw_tbl := pkl_e [2307, 1, 0, 1, 0, 0, 1, 0, 0, 1, 0, 0, 1, 0, 0, 1, 0, 0, 1, 0, 0, 1, 3, 15] (by decide +kernel)
def tbS_56 : List Cond := [.selects RX12 yX12_typedBehind yX12_typedBehind, .fieldLink RJ0 9 "java/lang/String" "value" "[B", .fieldLink RJ0 15 "java/lang/String" "coder" "B", .fieldLink RJx29ce0 7 "java/lang/Enum" "ordinal" "I", .fieldLink RX6 57 "WiredBeans$Word" "key" "J"]
set_option maxRecDepth 100000 in
theorem inS_56 : tbS_56 = pkl_f [0, 2356, 0, 0, 0] lw_tbl := by decide +kernel
set_option maxRecDepth 100000 in
theorem inC_56 : ∀ w ∈ tbA_56, w ∈ lw_tbl := fun w h => pkl_in [0, 2356, 0, 0, 0] lw_tbl w (inS_56 ▸ in_r (big := tbS_56) [1, 2, 3, 4, 0, 0, 0, 0, 0, 0, 0, 0, 0, 0, 0, 0, 0, 0, 0, 0, 0, 0, 0, 0] (by decide +kernel) w h)
set_option maxRecDepth 100000 in
theorem inC_57 : ∀ w ∈ tbA_57, w ∈ lw_tbl := pkl_e [185, 2, 5, 6, 63, 6, 144, 24, 9, 6, 5, 2, 2, 109, 12, 82, 2, 3, 3, 2, 2, 3, 3, 3] (rfl)
set_option maxRecDepth 100000 in
theorem inC_58 : ∀ w ∈ tbA_58, w ∈ lw_tbl := pkl_e [710, 2, 3, 3, 3, 3, 3, 3, 3, 3, 3, 3, 3, 3, 3, 3, 3, 3, 3, 3, 3, 3, 3, 3] (rfl)
set_option maxRecDepth 100000 in
theorem inC_59 : ∀ w ∈ tbA_59, w ∈ lw_tbl := pkl_e [805, 5, 3, 2, 4, 3, 3, 3, 4, 3, 3, 3, 3, 3, 66, 2, 3, 3, 3, 3, 3, 4, 2, 5] (rfl)
set_option maxRecDepth 100000 in
theorem inC_60 : ∀ w ∈ tbA_60, w ∈ lw_tbl := pkl_e [968, 3, 3, 4, 3, 3, 5, 3, 2, 2, 4, 2, 2, 2, 3, 13, 3, 3, 3, 3, 3, 3, 3, 3] (rfl)
set_option maxRecDepth 100000 in
theorem inC_61 : ∀ w ∈ tbA_61, w ∈ lw_tbl := pkl_e [1073, 3, 3, 3, 7, 5, 3, 11, 3, 5, 3, 3, 3, 3, 3, 4, 5, 11, 5, 3, 5, 10, 3, 6] (rfl)
set_option maxRecDepth 100000 in
theorem inC_62 : ∀ w ∈ tbA_62, w ∈ lw_tbl := pkl_e [1210, 4, 15, 3, 5, 9, 3, 20, 5, 3, 3, 5, 9, 3, 3, 3, 3, 3, 13, 4, 3, 3, 3, 2] (rfl)
set_option maxRecDepth 100000 in
theorem inC_63 : ∀ w ∈ tbA_63, w ∈ lw_tbl := pkl_e [1363, 3, 2, 24, 5, 8, 3, 2, 4, 4, 3, 5, 5, 3, 18, 4, 3, 3, 4, 17, 3, 5, 3, 4] (rfl)
set_option maxRecDepth 100000 in
theorem inC_64 : ∀ w ∈ tbA_64, w ∈ lw_tbl := pkl_e [1528, 5, 3, 3, 3, 3, 3, 4, 3, 4, 4, 3, 3, 3, 3, 2, 3, 3, 3, 3, 6, 2, 3, 2] (rfl)
set_option maxRecDepth 100000 in
theorem inC_65 : ∀ w ∈ tbA_65, w ∈ lw_tbl := pkl_e [1630, 2, 4, 3, 3, 19, 263, 2, 3, 2, 2, 3, 2, 3, 3, 3, 3, 3, 3, 3, 3, 3, 3, 3] (rfl)
set_option maxRecDepth 100000 in
theorem inC_66 : ∀ w ∈ tbA_66, w ∈ lw_tbl := pkl_e [1998, 3, 3, 3, 3, 3, 3, 3, 3, 4, 3, 3, 3, 3, 3, 18, 3, 3, 3, 3, 4, 6, 3, 3] (rfl)
set_option maxRecDepth 100000 in
theorem inC_67 : ∀ w ∈ tbA_67, w ∈ lw_tbl := pkl_e [2115, 3, 3, 3, 3, 3, 3, 3, 3, 3, 3, 3, 3, 3, 3, 3, 3, 3, 3, 3, 3, 3, 3, 3] (rfl)
set_option maxRecDepth 100000 in
theorem inC_68 : ∀ w ∈ tbA_68, w ∈ lw_tbl := pkl_e [2211, 3, 3, 3, 3, 3, 3, 3, 3, 4, 3, 3, 3, 3, 3, 7, 3, 3, 3, 3, 3, 3, 3, 3] (rfl)
set_option maxRecDepth 100000 in
theorem inC_69 : ∀ w ∈ tbA_69, w ∈ lw_tbl := pkl_e [2311, 3, 3, 3, 3, 3, 3] (rfl)
theorem inH_0 : ∀ w ∈ tbG_0, w ∈ lw_tbl := fun w h => (List.mem_append.mp h).elim (fun h => inC_0 w h) (fun h => (List.mem_append.mp h).elim (fun h => inC_1 w h) (fun h => (List.mem_append.mp h).elim (fun h => inC_2 w h) (fun h => (List.mem_append.mp h).elim (fun h => inC_3 w h) (fun h => (List.mem_append.mp h).elim (fun h => inC_4 w h) (fun h => (List.mem_append.mp h).elim (fun h => inC_5 w h) (fun h => (List.mem_append.mp h).elim (fun h => inC_6 w h) (fun h => (List.mem_append.mp h).elim (fun h => inC_7 w h) (fun h => (List.mem_append.mp h).elim (fun h => inC_8 w h) (fun h => inC_9 w h)))))))))
theorem inH_1 : ∀ w ∈ tbG_1, w ∈ lw_tbl := fun w h => (List.mem_append.mp h).elim (fun h => inC_10 w h) (fun h => (List.mem_append.mp h).elim (fun h => inC_11 w h) (fun h => (List.mem_append.mp h).elim (fun h => inC_12 w h) (fun h => (List.mem_append.mp h).elim (fun h => inC_13 w h) (fun h => (List.mem_append.mp h).elim (fun h => inC_14 w h) (fun h => (List.mem_append.mp h).elim (fun h => inC_15 w h) (fun h => (List.mem_append.mp h).elim (fun h => inC_16 w h) (fun h => (List.mem_append.mp h).elim (fun h => inC_17 w h) (fun h => (List.mem_append.mp h).elim (fun h => inC_18 w h) (fun h => inC_19 w h)))))))))
theorem inH_2 : ∀ w ∈ tbG_2, w ∈ lw_tbl := fun w h => (List.mem_append.mp h).elim (fun h => inC_20 w h) (fun h => (List.mem_append.mp h).elim (fun h => inC_21 w h) (fun h => (List.mem_append.mp h).elim (fun h => inC_22 w h) (fun h => (List.mem_append.mp h).elim (fun h => inC_23 w h) (fun h => (List.mem_append.mp h).elim (fun h => inC_24 w h) (fun h => (List.mem_append.mp h).elim (fun h => inC_25 w h) (fun h => (List.mem_append.mp h).elim (fun h => inC_26 w h) (fun h => (List.mem_append.mp h).elim (fun h => inC_27 w h) (fun h => (List.mem_append.mp h).elim (fun h => inC_28 w h) (fun h => inC_29 w h)))))))))
theorem inH_3 : ∀ w ∈ tbG_3, w ∈ lw_tbl := fun w h => (List.mem_append.mp h).elim (fun h => inC_30 w h) (fun h => (List.mem_append.mp h).elim (fun h => inC_31 w h) (fun h => (List.mem_append.mp h).elim (fun h => inC_32 w h) (fun h => (List.mem_append.mp h).elim (fun h => inC_33 w h) (fun h => (List.mem_append.mp h).elim (fun h => inC_34 w h) (fun h => (List.mem_append.mp h).elim (fun h => inC_35 w h) (fun h => (List.mem_append.mp h).elim (fun h => inC_36 w h) (fun h => (List.mem_append.mp h).elim (fun h => inC_37 w h) (fun h => (List.mem_append.mp h).elim (fun h => inC_38 w h) (fun h => inC_39 w h)))))))))
theorem inH_4 : ∀ w ∈ tbG_4, w ∈ lw_tbl := fun w h => (List.mem_append.mp h).elim (fun h => inC_40 w h) (fun h => (List.mem_append.mp h).elim (fun h => inC_41 w h) (fun h => (List.mem_append.mp h).elim (fun h => inC_42 w h) (fun h => (List.mem_append.mp h).elim (fun h => inC_43 w h) (fun h => (List.mem_append.mp h).elim (fun h => inC_44 w h) (fun h => (List.mem_append.mp h).elim (fun h => inC_45 w h) (fun h => (List.mem_append.mp h).elim (fun h => inC_46 w h) (fun h => (List.mem_append.mp h).elim (fun h => inC_47 w h) (fun h => (List.mem_append.mp h).elim (fun h => inC_48 w h) (fun h => inC_49 w h)))))))))
theorem inH_5 : ∀ w ∈ tbG_5, w ∈ lw_tbl := fun w h => (List.mem_append.mp h).elim (fun h => inC_50 w h) (fun h => (List.mem_append.mp h).elim (fun h => inC_51 w h) (fun h => (List.mem_append.mp h).elim (fun h => inC_52 w h) (fun h => (List.mem_append.mp h).elim (fun h => inC_53 w h) (fun h => (List.mem_append.mp h).elim (fun h => inC_54 w h) (fun h => (List.mem_append.mp h).elim (fun h => inC_55 w h) (fun h => (List.mem_append.mp h).elim (fun h => inC_56 w h) (fun h => (List.mem_append.mp h).elim (fun h => inC_57 w h) (fun h => (List.mem_append.mp h).elim (fun h => inC_58 w h) (fun h => inC_59 w h)))))))))
theorem inH_6 : ∀ w ∈ tbG_6, w ∈ lw_tbl := fun w h => (List.mem_append.mp h).elim (fun h => inC_60 w h) (fun h => (List.mem_append.mp h).elim (fun h => inC_61 w h) (fun h => (List.mem_append.mp h).elim (fun h => inC_62 w h) (fun h => (List.mem_append.mp h).elim (fun h => inC_63 w h) (fun h => (List.mem_append.mp h).elim (fun h => inC_64 w h) (fun h => (List.mem_append.mp h).elim (fun h => inC_65 w h) (fun h => (List.mem_append.mp h).elim (fun h => inC_66 w h) (fun h => (List.mem_append.mp h).elim (fun h => inC_67 w h) (fun h => (List.mem_append.mp h).elim (fun h => inC_68 w h) (fun h => inC_69 w h)))))))))
theorem tbA_in : ∀ w ∈ tbA, w ∈ lw_tbl := fun w h => (List.mem_append.mp h).elim (fun h => inH_0 w h) (fun h => (List.mem_append.mp h).elim (fun h => inH_1 w h) (fun h => (List.mem_append.mp h).elim (fun h => inH_2 w h) (fun h => (List.mem_append.mp h).elim (fun h => inH_3 w h) (fun h => (List.mem_append.mp h).elim (fun h => inH_4 w h) (fun h => (List.mem_append.mp h).elim (fun h => inH_5 w h) (fun h => inH_6 w h))))))
set_option maxRecDepth 100000 in
theorem inL_Jx4a65c : ∀ w ∈ wsJx4a65c0, w ∈ lw_tbl := in_r [484, 480, 482] (by decide +kernel)
set_option maxRecDepth 100000 in
theorem inL_X1 : ∀ w ∈ wsX10, w ∈ lw_tbl := pkl_e [525, 1, 1, 1, 1, 1, 1, 1, 1, 1, 1, 1, 1, 1, 1, 1, 1, 1, 1] (by decide +kernel)
set_option maxRecDepth 100000 in
theorem inL_X2 : ∀ w ∈ wsX20, w ∈ lw_tbl := pkl_e [244, 1, 1, 1, 1, 1, 1, 1] (by decide +kernel)
set_option maxRecDepth 100000 in
theorem inL_X3 : ∀ w ∈ wsX30, w ∈ lw_tbl := pkl_e [343, 1, 1, 1, 1, 1, 1, 1, 1, 1, 1, 1, 1, 1, 1, 1, 1, 1, 1, 1, 1] (by decide +kernel)
set_option maxRecDepth 100000 in
theorem inL_X4 : ∀ w ∈ wsX40, w ∈ lw_tbl := pkl_e [585, 1] (by decide +kernel)
set_option maxRecDepth 100000 in
theorem inL_X5 : ∀ w ∈ wsX50, w ∈ lw_tbl := pkl_e [610, 1, 1, 1, 1, 1, 1, 1, 1, 1, 1, 1, 1] (by decide +kernel)
set_option maxRecDepth 100000 in
theorem inL_X6 : ∀ w ∈ wsX60, w ∈ lw_tbl := pkl_e [395, 1, 1, 1, 1, 1, 1, 1] (by decide +kernel)
set_option maxRecDepth 100000 in
theorem inL_X7 : ∀ w ∈ wsX70, w ∈ lw_tbl := pkl_e [425, 1, 1, 1, 1, 1] (by decide +kernel)
set_option maxRecDepth 100000 in
theorem inL_X8 : ∀ w ∈ wsX80, w ∈ lw_tbl := pkl_e [216, 1, 1, 1, 1, 1, 1] (by decide +kernel)
set_option maxRecDepth 100000 in
theorem inL_X9 : ∀ w ∈ wsX90, w ∈ lw_tbl := pkl_e [445] (by decide +kernel)
set_option maxRecDepth 100000 in
theorem inL_X10 : ∀ w ∈ wsX100, w ∈ lw_tbl := pkl_e [568, 1, 1, 1] (by decide +kernel)
set_option maxRecDepth 100000 in
theorem inL_X12 : ∀ w ∈ wsX120, w ∈ lw_tbl := pkl_e [649, 1, 1, 1, 1, 1, 1, 1, 1, 1, 1, 1] (by decide +kernel)
set_option maxRecDepth 100000 in
theorem inL_X13 : ∀ w ∈ wsX130, w ∈ lw_tbl := pkl_e [1771, 1, 1, 1, 1, 1, 1, 1, 1, 1, 1, 1, 1, 1, 1, 1, 1, 1, 1, 1, 1, 1, 1, 1, 1, 1, 1, 1, 1, 1, 1, 1, 1, 1, 1, 1, 1, 1, 1, 1, 1, 1, 1, 1, 1, 1, 1, 1, 1, 1, 1, 1, 1, 1, 1, 1, 1, 1, 1, 1, 1, 1, 1, 1, 1, 1, 1, 1, 1, 1, 1, 1, 1, 1, 1, 1, 1] (by decide +kernel)
theorem tbF_in : ∀ w ∈ tbF, w ∈ lw_tbl := fun w h => (List.mem_append.mp h).elim (fun h => inL_Jx4a65c w h) (fun h => (List.mem_append.mp h).elim (fun h => inL_X1 w h) (fun h => (List.mem_append.mp h).elim (fun h => inL_X2 w h) (fun h => (List.mem_append.mp h).elim (fun h => inL_X3 w h) (fun h => (List.mem_append.mp h).elim (fun h => inL_X4 w h) (fun h => (List.mem_append.mp h).elim (fun h => inL_X5 w h) (fun h => (List.mem_append.mp h).elim (fun h => inL_X6 w h) (fun h => (List.mem_append.mp h).elim (fun h => inL_X7 w h) (fun h => (List.mem_append.mp h).elim (fun h => inL_X8 w h) (fun h => (List.mem_append.mp h).elim (fun h => inL_X9 w h) (fun h => (List.mem_append.mp h).elim (fun h => inL_X10 w h) (fun h => (List.mem_append.mp h).elim (fun h => inL_X12 w h) (fun h => inL_X13 w h))))))))))))
theorem tbX_in : ∀ w ∈ tbX, w ∈ lw_tbl := fun w h => (List.mem_append.mp h).elim (fun h => inW_0 w h) (fun h => (List.mem_append.mp h).elim (fun h => inW_1 w h) (fun h => (List.mem_append.mp h).elim (fun h => inW_2 w h) (fun h => (List.mem_append.mp h).elim (fun h => inW_3 w h) (fun h => (List.mem_append.mp h).elim (fun h => inW_4 w h) (fun h => inW_5 w h)))))
theorem tb_in : ∀ w ∈ tb, w ∈ lw_tbl := fun w h => (List.mem_append.mp h).elim (tbA_in w) (fun h => (List.mem_append.mp h).elim (tbF_in w) (tbX_in w))
